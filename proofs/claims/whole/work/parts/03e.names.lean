theorem dX1_join_2 : decode cX1_join 2 = .ok (.putfield 16, 3) := by decide +kernel
theorem dX1_join_5 : decode cX1_join 5 = .ok (.aload_n 0, 1) := by decide +kernel
theorem dX1_join_6 : decode cX1_join 6 = .ok (.getfield 20, 3) := by decide +kernel
theorem dX1_join_9 : decode cX1_join 9 = .ok (.bipush 8, 2) := by decide +kernel
theorem dX1_join_11 : decode cX1_join 11 = .ok (.if_icmp .ne 9, 3) := by decide +kernel
theorem dX1_join_14 : decode cX1_join 14 = .ok (.aload_n 0, 1) := by decide +kernel
theorem dX1_join_15 : decode cX1_join 15 = .ok (.iconst 1, 1) := by decide +kernel
theorem dX1_join_16 : decode cX1_join 16 = .ok (.invokevirtual 70, 3) := by decide +kernel
theorem dX1_join_19 : decode cX1_join 19 = .ok (.ireturn, 1) := by decide +kernel
theorem dX1_join_20 : decode cX1_join 20 = .ok (.aload_n 0, 1) := by decide +kernel
theorem dX1_join_21 : decode cX1_join 21 = .ok (.aload_n 0, 1) := by decide +kernel
theorem dX1_join_22 : decode cX1_join 22 = .ok (.getfield 20, 3) := by decide +kernel
theorem dX1_join_25 : decode cX1_join 25 = .ok (.iconst 0, 1) := by decide +kernel
theorem dX1_join_26 : decode cX1_join 26 = .ok (.bipush 50, 2) := by decide +kernel
theorem dX1_join_28 : decode cX1_join 28 = .ok (.invokevirtual 42, 3) := by decide +kernel
theorem dX1_join_31 : decode cX1_join 31 = .ok (.aload_n 0, 1) := by decide +kernel
theorem dX1_join_32 : decode cX1_join 32 = .ok (.dup, 1) := by decide +kernel
theorem dX1_join_33 : decode cX1_join 33 = .ok (.getfield 20, 3) := by decide +kernel
theorem dX1_join_36 : decode cX1_join 36 = .ok (.iconst 1, 1) := by decide +kernel
theorem dX1_join_37 : decode cX1_join 37 = .ok (.iadd, 1) := by decide +kernel
theorem dX1_join_38 : decode cX1_join 38 = .ok (.putfield 20, 3) := by decide +kernel
theorem dX1_join_41 : decode cX1_join 41 = .ok (.aload_n 0, 1) := by decide +kernel
theorem dX1_join_42 : decode cX1_join 42 = .ok (.getfield 20, 3) := by decide +kernel
theorem dX1_join_45 : decode cX1_join 45 = .ok (.iconst 1, 1) := by decide +kernel
theorem dX1_join_46 : decode cX1_join 46 = .ok (.isub, 1) := by decide +kernel
theorem dX1_join_47 : decode cX1_join 47 = .ok (.ireturn, 1) := by decide +kernel
set_option maxRecDepth 20000 in
theorem ggX1_spill_X1_isMember : GoodIn wsX1_spill wsX1_isMember := goodIn_r _ [11, 12, 13, 14, 10, 15, 28, 29, 30, 31] (by decide +kernel) (by decide +kernel)
set_option maxRecDepth 20000 in
theorem gX1_spill_X1_isMember : GoodIn wsX1_spill (wsV RX1 73 RX1 yX1_isMember wsX1_isMember) := goodIn_app (goodIn_of _ (by decide +kernel)) ggX1_spill_X1_isMember
set_option maxRecDepth 20000 in
theorem ggX1_spill_X1_fail : GoodIn wsX1_spill wsX1_fail := goodIn_r _ [19, 1, 28, 29, 30, 31] (by decide +kernel) (by decide +kernel)
set_option maxRecDepth 20000 in
theorem gX1_spill_X1_fail : GoodIn wsX1_spill (wsV RX1 70 RX1 yX1_fail wsX1_fail) := goodIn_app (goodIn_of _ (by decide +kernel)) ggX1_spill_X1_fail
set_option maxRecDepth 20000 in
theorem ggX1_spill_X1_isIn : GoodIn wsX1_spill wsX1_isIn := goodIn_r _ [15] (by decide +kernel) (by decide +kernel)
set_option maxRecDepth 20000 in
theorem gX1_spill_X1_isIn : GoodIn wsX1_spill (va_wsS RX1 23 yX1_isIn wsX1_isIn) := goodIn_app (goodIn_of _ (by decide +kernel)) ggX1_spill_X1_isIn
set_option maxRecDepth 20000 in
theorem ggX1_spill_X1_me : GoodIn wsX1_spill wsX1_me := goodIn_r _ [23, 2, 28, 29, 30, 31] (by decide +kernel) (by decide +kernel)
set_option maxRecDepth 20000 in
theorem gX1_spill_X1_me : GoodIn wsX1_spill (wsV RX1 33 RX1 yX1_me wsX1_me) := goodIn_app (goodIn_of _ (by decide +kernel)) ggX1_spill_X1_me
set_option maxRecDepth 20000 in
theorem ggX1_spill_X1_let : GoodIn wsX1_spill wsX1_let := goodIn_r _ [27, 2, 28, 29, 30, 31] (by decide +kernel) (by decide +kernel)
set_option maxRecDepth 20000 in
theorem gX1_spill_X1_let : GoodIn wsX1_spill (wsV RX1 42 RX1 yX1_let wsX1_let) := goodIn_app (goodIn_of _ (by decide +kernel)) ggX1_spill_X1_let
theorem dX1_spill_0 : decode cX1_spill 0 = .ok (.aload_n 0, 1) := by decide +kernel
theorem dX1_spill_1 : decode cX1_spill 1 = .ok (.iconst 0, 1) := by decide +kernel
theorem dX1_spill_2 : decode cX1_spill 2 = .ok (.putfield 16, 3) := by decide +kernel
theorem dX1_spill_5 : decode cX1_spill 5 = .ok (.aload_n 0, 1) := by decide +kernel
theorem dX1_spill_6 : decode cX1_spill 6 = .ok (.iload_n 1, 1) := by decide +kernel
theorem dX1_spill_7 : decode cX1_spill 7 = .ok (.invokevirtual 73, 3) := by decide +kernel
theorem dX1_spill_10 : decode cX1_spill 10 = .ok (.ifCond .ne 9, 3) := by decide +kernel
theorem dX1_spill_13 : decode cX1_spill 13 = .ok (.aload_n 0, 1) := by decide +kernel
theorem dX1_spill_14 : decode cX1_spill 14 = .ok (.iconst 1, 1) := by decide +kernel
theorem dX1_spill_15 : decode cX1_spill 15 = .ok (.invokevirtual 70, 3) := by decide +kernel
theorem dX1_spill_18 : decode cX1_spill 18 = .ok (.ireturn, 1) := by decide +kernel
theorem dX1_spill_19 : decode cX1_spill 19 = .ok (.iload_n 2, 1) := by decide +kernel
theorem dX1_spill_20 : decode cX1_spill 20 = .ok (.iconst 1, 1) := by decide +kernel
theorem dX1_spill_21 : decode cX1_spill 21 = .ok (.bipush 30, 2) := by decide +kernel
theorem dX1_spill_23 : decode cX1_spill 23 = .ok (.invokestatic 23, 3) := by decide +kernel
theorem dX1_spill_26 : decode cX1_spill 26 = .ok (.ifCond .ne 9, 3) := by decide +kernel
theorem dX1_spill_29 : decode cX1_spill 29 = .ok (.aload_n 0, 1) := by decide +kernel
theorem dX1_spill_30 : decode cX1_spill 30 = .ok (.iconst 2, 1) := by decide +kernel
theorem dX1_spill_31 : decode cX1_spill 31 = .ok (.invokevirtual 70, 3) := by decide +kernel
theorem dX1_spill_34 : decode cX1_spill 34 = .ok (.ireturn, 1) := by decide +kernel
theorem dX1_spill_35 : decode cX1_spill 35 = .ok (.aload_n 0, 1) := by decide +kernel
theorem dX1_spill_36 : decode cX1_spill 36 = .ok (.getfield 9, 3) := by decide +kernel
theorem dX1_spill_39 : decode cX1_spill 39 = .ok (.iconst 1, 1) := by decide +kernel
theorem dX1_spill_40 : decode cX1_spill 40 = .ok (.iaload, 1) := by decide +kernel
theorem dX1_spill_41 : decode cX1_spill 41 = .ok (.iload_n 2, 1) := by decide +kernel
theorem dX1_spill_42 : decode cX1_spill 42 = .ok (.if_icmp .ge 9, 3) := by decide +kernel
theorem dX1_spill_45 : decode cX1_spill 45 = .ok (.aload_n 0, 1) := by decide +kernel
theorem dX1_spill_46 : decode cX1_spill 46 = .ok (.iconst 3, 1) := by decide +kernel
theorem dX1_spill_47 : decode cX1_spill 47 = .ok (.invokevirtual 70, 3) := by decide +kernel
theorem dX1_spill_50 : decode cX1_spill 50 = .ok (.ireturn, 1) := by decide +kernel
theorem dX1_spill_51 : decode cX1_spill 51 = .ok (.aload_n 0, 1) := by decide +kernel
theorem dX1_spill_52 : decode cX1_spill 52 = .ok (.getfield 9, 3) := by decide +kernel
theorem dX1_spill_55 : decode cX1_spill 55 = .ok (.iconst 1, 1) := by decide +kernel
theorem dX1_spill_56 : decode cX1_spill 56 = .ok (.dup2, 1) := by decide +kernel
theorem dX1_spill_57 : decode cX1_spill 57 = .ok (.iaload, 1) := by decide +kernel
theorem dX1_spill_58 : decode cX1_spill 58 = .ok (.iload_n 2, 1) := by decide +kernel
theorem dX1_spill_59 : decode cX1_spill 59 = .ok (.isub, 1) := by decide +kernel
theorem dX1_spill_60 : decode cX1_spill 60 = .ok (.iastore, 1) := by decide +kernel
theorem dX1_spill_61 : decode cX1_spill 61 = .ok (.aload_n 0, 1) := by decide +kernel
theorem dX1_spill_62 : decode cX1_spill 62 = .ok (.iload_n 1, 1) := by decide +kernel
theorem dX1_spill_63 : decode cX1_spill 63 = .ok (.iconst 1, 1) := by decide +kernel
theorem dX1_spill_64 : decode cX1_spill 64 = .ok (.bipush 99, 2) := by decide +kernel
theorem dX1_spill_66 : decode cX1_spill 66 = .ok (.aload_n 0, 1) := by decide +kernel
theorem dX1_spill_67 : decode cX1_spill 67 = .ok (.iload_n 1, 1) := by decide +kernel
theorem dX1_spill_68 : decode cX1_spill 68 = .ok (.iconst 1, 1) := by decide +kernel
theorem dX1_spill_69 : decode cX1_spill 69 = .ok (.invokevirtual 33, 3) := by decide +kernel
theorem dX1_spill_72 : decode cX1_spill 72 = .ok (.iload_n 2, 1) := by decide +kernel
theorem dX1_spill_73 : decode cX1_spill 73 = .ok (.iadd, 1) := by decide +kernel
theorem dX1_spill_74 : decode cX1_spill 74 = .ok (.invokestatic 57, 3) := by decide +kernel
theorem dX1_spill_77 : decode cX1_spill 77 = .ok (.invokevirtual 42, 3) := by decide +kernel
theorem dX1_spill_80 : decode cX1_spill 80 = .ok (.aload_n 0, 1) := by decide +kernel
theorem dX1_spill_81 : decode cX1_spill 81 = .ok (.iload_n 1, 1) := by decide +kernel
theorem dX1_spill_82 : decode cX1_spill 82 = .ok (.iconst 1, 1) := by decide +kernel
theorem dX1_spill_83 : decode cX1_spill 83 = .ok (.invokevirtual 33, 3) := by decide +kernel
theorem dX1_spill_86 : decode cX1_spill 86 = .ok (.ireturn, 1) := by decide +kernel
set_option maxRecDepth 20000 in
theorem ggX1_throwSalt_X1_isMember : GoodIn wsX1_throwSalt wsX1_isMember := goodIn_r _ [7, 8, 9, 10, 6, 11, 36, 37, 38, 39] (by decide +kernel) (by decide +kernel)
set_option maxRecDepth 20000 in
theorem gX1_throwSalt_X1_isMember : GoodIn wsX1_throwSalt (wsV RX1 73 RX1 yX1_isMember wsX1_isMember) := goodIn_app (goodIn_of _ (by decide +kernel)) ggX1_throwSalt_X1_isMember
set_option maxRecDepth 20000 in
theorem ggX1_throwSalt_X1_isIn : GoodIn wsX1_throwSalt wsX1_isIn := goodIn_r _ [11] (by decide +kernel) (by decide +kernel)
set_option maxRecDepth 20000 in
theorem gX1_throwSalt_X1_isIn : GoodIn wsX1_throwSalt (va_wsS RX1 23 yX1_isIn wsX1_isIn) := goodIn_app (goodIn_of _ (by decide +kernel)) ggX1_throwSalt_X1_isIn
set_option maxRecDepth 20000 in
theorem ggX1_throwSalt_X1_fail : GoodIn wsX1_throwSalt wsX1_fail := goodIn_r _ [15, 1, 36, 37, 38, 39] (by decide +kernel) (by decide +kernel)
set_option maxRecDepth 20000 in
theorem gX1_throwSalt_X1_fail : GoodIn wsX1_throwSalt (wsV RX1 70 RX1 yX1_fail wsX1_fail) := goodIn_app (goodIn_of _ (by decide +kernel)) ggX1_throwSalt_X1_fail
set_option maxRecDepth 20000 in
theorem ggX1_throwSalt_X1_cast : GoodIn wsX1_throwSalt wsX1_cast := goodIn_r _ [19, 20, 21, 22, 23, 2, 24, 25, 26, 6, 27, 28, 29, 30, 31, 32, 33, 34, 35, 36, 37, 38, 39] (by decide +kernel) (by decide +kernel)
set_option maxRecDepth 20000 in
theorem gX1_throwSalt_X1_cast : GoodIn wsX1_throwSalt (wsV RX1 77 RX1 yX1_cast wsX1_cast) := goodIn_app (goodIn_of _ (by decide +kernel)) ggX1_throwSalt_X1_cast
theorem dX1_throwSalt_0 : decode cX1_throwSalt 0 = .ok (.aload_n 0, 1) := by decide +kernel
theorem dX1_throwSalt_1 : decode cX1_throwSalt 1 = .ok (.iconst 0, 1) := by decide +kernel
theorem dX1_throwSalt_2 : decode cX1_throwSalt 2 = .ok (.putfield 16, 3) := by decide +kernel
theorem dX1_throwSalt_5 : decode cX1_throwSalt 5 = .ok (.aload_n 0, 1) := by decide +kernel
theorem dX1_throwSalt_6 : decode cX1_throwSalt 6 = .ok (.iload_n 1, 1) := by decide +kernel
theorem dX1_throwSalt_7 : decode cX1_throwSalt 7 = .ok (.invokevirtual 73, 3) := by decide +kernel
theorem dX1_throwSalt_10 : decode cX1_throwSalt 10 = .ok (.ifCond .eq 12, 3) := by decide +kernel
theorem dX1_throwSalt_13 : decode cX1_throwSalt 13 = .ok (.iload_n 2, 1) := by decide +kernel
theorem dX1_throwSalt_14 : decode cX1_throwSalt 14 = .ok (.iconst 0, 1) := by decide +kernel
theorem dX1_throwSalt_15 : decode cX1_throwSalt 15 = .ok (.iconst 1, 1) := by decide +kernel
theorem dX1_throwSalt_16 : decode cX1_throwSalt 16 = .ok (.invokestatic 23, 3) := by decide +kernel
theorem dX1_throwSalt_19 : decode cX1_throwSalt 19 = .ok (.ifCond .ne 9, 3) := by decide +kernel
theorem dX1_throwSalt_22 : decode cX1_throwSalt 22 = .ok (.aload_n 0, 1) := by decide +kernel
theorem dX1_throwSalt_23 : decode cX1_throwSalt 23 = .ok (.iconst 1, 1) := by decide +kernel
theorem dX1_throwSalt_24 : decode cX1_throwSalt 24 = .ok (.invokevirtual 70, 3) := by decide +kernel
theorem dX1_throwSalt_27 : decode cX1_throwSalt 27 = .ok (.ireturn, 1) := by decide +kernel
theorem dX1_throwSalt_28 : decode cX1_throwSalt 28 = .ok (.iload_n 3, 1) := by decide +kernel
theorem dX1_throwSalt_29 : decode cX1_throwSalt 29 = .ok (.iconst 1, 1) := by decide +kernel
theorem dX1_throwSalt_30 : decode cX1_throwSalt 30 = .ok (.bipush 9, 2) := by decide +kernel
theorem dX1_throwSalt_32 : decode cX1_throwSalt 32 = .ok (.invokestatic 23, 3) := by decide +kernel
theorem dX1_throwSalt_35 : decode cX1_throwSalt 35 = .ok (.ifCond .ne 9, 3) := by decide +kernel
theorem dX1_throwSalt_38 : decode cX1_throwSalt 38 = .ok (.aload_n 0, 1) := by decide +kernel
theorem dX1_throwSalt_39 : decode cX1_throwSalt 39 = .ok (.iconst 2, 1) := by decide +kernel
theorem dX1_throwSalt_40 : decode cX1_throwSalt 40 = .ok (.invokevirtual 70, 3) := by decide +kernel
theorem dX1_throwSalt_43 : decode cX1_throwSalt 43 = .ok (.ireturn, 1) := by decide +kernel
theorem dX1_throwSalt_44 : decode cX1_throwSalt 44 = .ok (.aload_n 0, 1) := by decide +kernel
theorem dX1_throwSalt_45 : decode cX1_throwSalt 45 = .ok (.getfield 9, 3) := by decide +kernel
theorem dX1_throwSalt_48 : decode cX1_throwSalt 48 = .ok (.iconst 1, 1) := by decide +kernel
theorem dX1_throwSalt_49 : decode cX1_throwSalt 49 = .ok (.iaload, 1) := by decide +kernel
theorem dX1_throwSalt_50 : decode cX1_throwSalt 50 = .ok (.iload_n 3, 1) := by decide +kernel
theorem dX1_throwSalt_51 : decode cX1_throwSalt 51 = .ok (.if_icmp .lt 14, 3) := by decide +kernel
theorem dX1_throwSalt_54 : decode cX1_throwSalt 54 = .ok (.aload_n 0, 1) := by decide +kernel
theorem dX1_throwSalt_55 : decode cX1_throwSalt 55 = .ok (.getfield 9, 3) := by decide +kernel
theorem dX1_throwSalt_58 : decode cX1_throwSalt 58 = .ok (.iconst 3, 1) := by decide +kernel
theorem dX1_throwSalt_59 : decode cX1_throwSalt 59 = .ok (.iaload, 1) := by decide +kernel
theorem dX1_throwSalt_60 : decode cX1_throwSalt 60 = .ok (.bipush 30, 2) := by decide +kernel
theorem dX1_throwSalt_62 : decode cX1_throwSalt 62 = .ok (.if_icmp .ne 9, 3) := by decide +kernel
theorem dX1_throwSalt_65 : decode cX1_throwSalt 65 = .ok (.aload_n 0, 1) := by decide +kernel
theorem dX1_throwSalt_66 : decode cX1_throwSalt 66 = .ok (.iconst 3, 1) := by decide +kernel
theorem dX1_throwSalt_67 : decode cX1_throwSalt 67 = .ok (.invokevirtual 70, 3) := by decide +kernel
theorem dX1_throwSalt_70 : decode cX1_throwSalt 70 = .ok (.ireturn, 1) := by decide +kernel
theorem dX1_throwSalt_71 : decode cX1_throwSalt 71 = .ok (.aload_n 0, 1) := by decide +kernel
theorem dX1_throwSalt_72 : decode cX1_throwSalt 72 = .ok (.iload_n 1, 1) := by decide +kernel
theorem dX1_throwSalt_73 : decode cX1_throwSalt 73 = .ok (.iload_n 2, 1) := by decide +kernel
theorem dX1_throwSalt_74 : decode cX1_throwSalt 74 = .ok (.ifCond .ne 7, 3) := by decide +kernel
theorem dX1_throwSalt_77 : decode cX1_throwSalt 77 = .ok (.iconst 1, 1) := by decide +kernel
theorem dX1_throwSalt_78 : decode cX1_throwSalt 78 = .ok (.goto 4, 3) := by decide +kernel
theorem dX1_throwSalt_81 : decode cX1_throwSalt 81 = .ok (.iconst 0, 1) := by decide +kernel
theorem dX1_throwSalt_82 : decode cX1_throwSalt 82 = .ok (.iload_n 3, 1) := by decide +kernel
theorem dX1_throwSalt_83 : decode cX1_throwSalt 83 = .ok (.invokevirtual 77, 3) := by decide +kernel
theorem dX1_throwSalt_86 : decode cX1_throwSalt 86 = .ok (.ireturn, 1) := by decide +kernel
set_option maxRecDepth 20000 in
theorem ggX1_doPenance_X1_isMember : GoodIn wsX1_doPenance wsX1_isMember := goodIn_r _ [10, 11, 12, 13, 9, 14, 28, 29, 30, 31] (by decide +kernel) (by decide +kernel)
set_option maxRecDepth 20000 in
theorem gX1_doPenance_X1_isMember : GoodIn wsX1_doPenance (wsV RX1 73 RX1 yX1_isMember wsX1_isMember) := goodIn_app (goodIn_of _ (by decide +kernel)) ggX1_doPenance_X1_isMember
set_option maxRecDepth 20000 in
theorem ggX1_doPenance_X1_fail : GoodIn wsX1_doPenance wsX1_fail := goodIn_r _ [18, 1, 28, 29, 30, 31] (by decide +kernel) (by decide +kernel)
set_option maxRecDepth 20000 in
theorem gX1_doPenance_X1_fail : GoodIn wsX1_doPenance (wsV RX1 70 RX1 yX1_fail wsX1_fail) := goodIn_app (goodIn_of _ (by decide +kernel)) ggX1_doPenance_X1_fail
set_option maxRecDepth 20000 in
theorem ggX1_doPenance_X1_isIn : GoodIn wsX1_doPenance wsX1_isIn := goodIn_r _ [14] (by decide +kernel) (by decide +kernel)
set_option maxRecDepth 20000 in
theorem gX1_doPenance_X1_isIn : GoodIn wsX1_doPenance (va_wsS RX1 23 yX1_isIn wsX1_isIn) := goodIn_app (goodIn_of _ (by decide +kernel)) ggX1_doPenance_X1_isIn
set_option maxRecDepth 20000 in
theorem ggX1_doPenance_X1_me : GoodIn wsX1_doPenance wsX1_me := goodIn_r _ [22, 23, 28, 29, 30, 31] (by decide +kernel) (by decide +kernel)
set_option maxRecDepth 20000 in
theorem gX1_doPenance_X1_me : GoodIn wsX1_doPenance (wsV RX1 33 RX1 yX1_me wsX1_me) := goodIn_app (goodIn_of _ (by decide +kernel)) ggX1_doPenance_X1_me
set_option maxRecDepth 20000 in
theorem ggX1_doPenance_X1_let : GoodIn wsX1_doPenance wsX1_let := goodIn_r _ [27, 23, 28, 29, 30, 31] (by decide +kernel) (by decide +kernel)
set_option maxRecDepth 20000 in
theorem gX1_doPenance_X1_let : GoodIn wsX1_doPenance (wsV RX1 42 RX1 yX1_let wsX1_let) := goodIn_app (goodIn_of _ (by decide +kernel)) ggX1_doPenance_X1_let
theorem dX1_doPenance_0 : decode cX1_doPenance 0 = .ok (.aload_n 0, 1) := by decide +kernel
theorem dX1_doPenance_1 : decode cX1_doPenance 1 = .ok (.iconst 0, 1) := by decide +kernel
theorem dX1_doPenance_2 : decode cX1_doPenance 2 = .ok (.putfield 16, 3) := by decide +kernel
theorem dX1_doPenance_5 : decode cX1_doPenance 5 = .ok (.aload_n 0, 1) := by decide +kernel
theorem dX1_doPenance_6 : decode cX1_doPenance 6 = .ok (.iload_n 1, 1) := by decide +kernel
theorem dX1_doPenance_7 : decode cX1_doPenance 7 = .ok (.invokevirtual 73, 3) := by decide +kernel
theorem dX1_doPenance_10 : decode cX1_doPenance 10 = .ok (.ifCond .ne 9, 3) := by decide +kernel
theorem dX1_doPenance_13 : decode cX1_doPenance 13 = .ok (.aload_n 0, 1) := by decide +kernel
theorem dX1_doPenance_14 : decode cX1_doPenance 14 = .ok (.iconst 1, 1) := by decide +kernel
theorem dX1_doPenance_15 : decode cX1_doPenance 15 = .ok (.invokevirtual 70, 3) := by decide +kernel
theorem dX1_doPenance_18 : decode cX1_doPenance 18 = .ok (.ireturn, 1) := by decide +kernel
theorem dX1_doPenance_19 : decode cX1_doPenance 19 = .ok (.iload_n 2, 1) := by decide +kernel
theorem dX1_doPenance_20 : decode cX1_doPenance 20 = .ok (.iconst 1, 1) := by decide +kernel
theorem dX1_doPenance_21 : decode cX1_doPenance 21 = .ok (.bipush 9, 2) := by decide +kernel
theorem dX1_doPenance_23 : decode cX1_doPenance 23 = .ok (.invokestatic 23, 3) := by decide +kernel
theorem dX1_doPenance_26 : decode cX1_doPenance 26 = .ok (.ifCond .ne 9, 3) := by decide +kernel
theorem dX1_doPenance_29 : decode cX1_doPenance 29 = .ok (.aload_n 0, 1) := by decide +kernel
theorem dX1_doPenance_30 : decode cX1_doPenance 30 = .ok (.iconst 2, 1) := by decide +kernel
theorem dX1_doPenance_31 : decode cX1_doPenance 31 = .ok (.invokevirtual 70, 3) := by decide +kernel
theorem dX1_doPenance_34 : decode cX1_doPenance 34 = .ok (.ireturn, 1) := by decide +kernel
theorem dX1_doPenance_35 : decode cX1_doPenance 35 = .ok (.aload_n 0, 1) := by decide +kernel
theorem dX1_doPenance_36 : decode cX1_doPenance 36 = .ok (.iload_n 1, 1) := by decide +kernel
theorem dX1_doPenance_37 : decode cX1_doPenance 37 = .ok (.iconst 2, 1) := by decide +kernel
theorem dX1_doPenance_38 : decode cX1_doPenance 38 = .ok (.bipush 9, 2) := by decide +kernel
theorem dX1_doPenance_40 : decode cX1_doPenance 40 = .ok (.aload_n 0, 1) := by decide +kernel
theorem dX1_doPenance_41 : decode cX1_doPenance 41 = .ok (.iload_n 1, 1) := by decide +kernel
theorem dX1_doPenance_42 : decode cX1_doPenance 42 = .ok (.iconst 2, 1) := by decide +kernel
theorem dX1_doPenance_43 : decode cX1_doPenance 43 = .ok (.invokevirtual 33, 3) := by decide +kernel
theorem dX1_doPenance_46 : decode cX1_doPenance 46 = .ok (.iload_n 2, 1) := by decide +kernel
theorem dX1_doPenance_47 : decode cX1_doPenance 47 = .ok (.iadd, 1) := by decide +kernel
theorem dX1_doPenance_48 : decode cX1_doPenance 48 = .ok (.invokestatic 57, 3) := by decide +kernel
theorem dX1_doPenance_51 : decode cX1_doPenance 51 = .ok (.invokevirtual 42, 3) := by decide +kernel
theorem dX1_doPenance_54 : decode cX1_doPenance 54 = .ok (.aload_n 0, 1) := by decide +kernel
theorem dX1_doPenance_55 : decode cX1_doPenance 55 = .ok (.iload_n 1, 1) := by decide +kernel
theorem dX1_doPenance_56 : decode cX1_doPenance 56 = .ok (.iconst 2, 1) := by decide +kernel
theorem dX1_doPenance_57 : decode cX1_doPenance 57 = .ok (.invokevirtual 33, 3) := by decide +kernel
theorem dX1_doPenance_60 : decode cX1_doPenance 60 = .ok (.ireturn, 1) := by decide +kernel
set_option maxRecDepth 20000 in
theorem ggX1_bringSalt_X1_isIn : GoodIn wsX1_bringSalt wsX1_isIn := goodIn_r _ [10] (by decide +kernel) (by decide +kernel)
set_option maxRecDepth 20000 in
theorem gX1_bringSalt_X1_isIn : GoodIn wsX1_bringSalt (va_wsS RX1 23 yX1_isIn wsX1_isIn) := goodIn_app (goodIn_of _ (by decide +kernel)) ggX1_bringSalt_X1_isIn
set_option maxRecDepth 20000 in
theorem ggX1_bringSalt_X1_fail : GoodIn wsX1_bringSalt wsX1_fail := goodIn_r _ [14, 1, 15, 16, 17, 18] (by decide +kernel) (by decide +kernel)
set_option maxRecDepth 20000 in
theorem gX1_bringSalt_X1_fail : GoodIn wsX1_bringSalt (wsV RX1 70 RX1 yX1_fail wsX1_fail) := goodIn_app (goodIn_of _ (by decide +kernel)) ggX1_bringSalt_X1_fail
theorem dX1_bringSalt_0 : decode cX1_bringSalt 0 = .ok (.aload_n 0, 1) := by decide +kernel
theorem dX1_bringSalt_1 : decode cX1_bringSalt 1 = .ok (.iconst 0, 1) := by decide +kernel
theorem dX1_bringSalt_2 : decode cX1_bringSalt 2 = .ok (.putfield 16, 3) := by decide +kernel
theorem dX1_bringSalt_5 : decode cX1_bringSalt 5 = .ok (.iload_n 1, 1) := by decide +kernel
theorem dX1_bringSalt_6 : decode cX1_bringSalt 6 = .ok (.iconst 1, 1) := by decide +kernel
theorem dX1_bringSalt_7 : decode cX1_bringSalt 7 = .ok (.sipush 500, 3) := by decide +kernel
theorem dX1_bringSalt_10 : decode cX1_bringSalt 10 = .ok (.invokestatic 23, 3) := by decide +kernel
theorem dX1_bringSalt_13 : decode cX1_bringSalt 13 = .ok (.ifCond .ne 9, 3) := by decide +kernel
theorem dX1_bringSalt_16 : decode cX1_bringSalt 16 = .ok (.aload_n 0, 1) := by decide +kernel
theorem dX1_bringSalt_17 : decode cX1_bringSalt 17 = .ok (.iconst 1, 1) := by decide +kernel
theorem dX1_bringSalt_18 : decode cX1_bringSalt 18 = .ok (.invokevirtual 70, 3) := by decide +kernel
theorem dX1_bringSalt_21 : decode cX1_bringSalt 21 = .ok (.ireturn, 1) := by decide +kernel
theorem dX1_bringSalt_22 : decode cX1_bringSalt 22 = .ok (.aload_n 0, 1) := by decide +kernel
theorem dX1_bringSalt_23 : decode cX1_bringSalt 23 = .ok (.getfield 9, 3) := by decide +kernel
theorem dX1_bringSalt_26 : decode cX1_bringSalt 26 = .ok (.iconst 1, 1) := by decide +kernel
theorem dX1_bringSalt_27 : decode cX1_bringSalt 27 = .ok (.sipush 500, 3) := by decide +kernel
theorem dX1_bringSalt_30 : decode cX1_bringSalt 30 = .ok (.aload_n 0, 1) := by decide +kernel
theorem dX1_bringSalt_31 : decode cX1_bringSalt 31 = .ok (.getfield 9, 3) := by decide +kernel
theorem dX1_bringSalt_34 : decode cX1_bringSalt 34 = .ok (.iconst 1, 1) := by decide +kernel
theorem dX1_bringSalt_35 : decode cX1_bringSalt 35 = .ok (.iaload, 1) := by decide +kernel
theorem dX1_bringSalt_36 : decode cX1_bringSalt 36 = .ok (.iload_n 1, 1) := by decide +kernel
theorem dX1_bringSalt_37 : decode cX1_bringSalt 37 = .ok (.iadd, 1) := by decide +kernel
theorem dX1_bringSalt_38 : decode cX1_bringSalt 38 = .ok (.invokestatic 57, 3) := by decide +kernel
theorem dX1_bringSalt_41 : decode cX1_bringSalt 41 = .ok (.iastore, 1) := by decide +kernel
theorem dX1_bringSalt_42 : decode cX1_bringSalt 42 = .ok (.aload_n 0, 1) := by decide +kernel
theorem dX1_bringSalt_43 : decode cX1_bringSalt 43 = .ok (.getfield 9, 3) := by decide +kernel
theorem dX1_bringSalt_46 : decode cX1_bringSalt 46 = .ok (.iconst 1, 1) := by decide +kernel
theorem dX1_bringSalt_47 : decode cX1_bringSalt 47 = .ok (.iaload, 1) := by decide +kernel
theorem dX1_bringSalt_48 : decode cX1_bringSalt 48 = .ok (.ireturn, 1) := by decide +kernel
set_option maxRecDepth 20000 in
theorem ggX1_audit_X1_auditNow : GoodIn wsX1_audit wsX1_auditNow := goodIn_r _ [5, 6, 7, 8, 9, 10, 11, 12, 13, 4, 14, 15, 16, 17, 18, 19, 20, 21, 22, 23, 24, 25, 26, 32, 33, 34, 35] (by decide +kernel) (by decide +kernel)
set_option maxRecDepth 20000 in
theorem gX1_audit_X1_auditNow : GoodIn wsX1_audit (wsV RX1 60 RX1 yX1_auditNow wsX1_auditNow) := goodIn_app (goodIn_of _ (by decide +kernel)) ggX1_audit_X1_auditNow
set_option maxRecDepth 20000 in
theorem ggX1_audit_X1_told : GoodIn wsX1_audit wsX1_told := goodIn_r _ [30, 31, 32, 33, 34, 35] (by decide +kernel) (by decide +kernel)
set_option maxRecDepth 20000 in
theorem gX1_audit_X1_told : GoodIn wsX1_audit (wsV RX1 81 RX1 yX1_told wsX1_told) := goodIn_app (goodIn_of _ (by decide +kernel)) ggX1_audit_X1_told
theorem dX1_audit_0 : decode cX1_audit 0 = .ok (.aload_n 0, 1) := by decide +kernel
theorem dX1_audit_1 : decode cX1_audit 1 = .ok (.aload_n 0, 1) := by decide +kernel
theorem dX1_audit_2 : decode cX1_audit 2 = .ok (.invokevirtual 60, 3) := by decide +kernel
theorem dX1_audit_5 : decode cX1_audit 5 = .ok (.invokevirtual 81, 3) := by decide +kernel
theorem dX1_audit_8 : decode cX1_audit 8 = .ok (.ireturn, 1) := by decide +kernel
set_option maxRecDepth 20000 in
theorem ggX1_pass_X1_isIn : GoodIn wsX1_pass wsX1_isIn := goodIn_r _ [5] (by decide +kernel) (by decide +kernel)
set_option maxRecDepth 20000 in
theorem gX1_pass_X1_isIn : GoodIn wsX1_pass (va_wsS RX1 23 yX1_isIn wsX1_isIn) := goodIn_app (goodIn_of _ (by decide +kernel)) ggX1_pass_X1_isIn
set_option maxRecDepth 20000 in
theorem ggX1_pass_X1_daysOn : GoodIn wsX1_pass wsX1_daysOn := goodIn_r _ [9, 10, 11, 12, 4, 13, 14, 15, 16, 17, 18, 19, 20, 21, 22, 23, 24, 25, 26, 27, 28, 29, 30, 31, 32, 33, 34, 35, 36, 37, 38, 39, 40, 41, 42, 43, 44, 45, 46, 51, 52, 53, 54] (by decide +kernel) (by decide +kernel)
set_option maxRecDepth 20000 in
theorem gX1_pass_X1_daysOn : GoodIn wsX1_pass (wsV RX1 84 RX1 yX1_daysOn wsX1_daysOn) := goodIn_app (goodIn_of _ (by decide +kernel)) ggX1_pass_X1_daysOn
set_option maxRecDepth 20000 in
theorem ggX1_pass_X1_fail : GoodIn wsX1_pass wsX1_fail := goodIn_r _ [50, 1, 51, 52, 53, 54] (by decide +kernel) (by decide +kernel)
set_option maxRecDepth 20000 in
theorem gX1_pass_X1_fail : GoodIn wsX1_pass (wsV RX1 70 RX1 yX1_fail wsX1_fail) := goodIn_app (goodIn_of _ (by decide +kernel)) ggX1_pass_X1_fail
theorem dX1_pass_0 : decode cX1_pass 0 = .ok (.aload_n 0, 1) := by decide +kernel
theorem dX1_pass_1 : decode cX1_pass 1 = .ok (.iconst 0, 1) := by decide +kernel
theorem dX1_pass_2 : decode cX1_pass 2 = .ok (.putfield 16, 3) := by decide +kernel
theorem dX1_pass_5 : decode cX1_pass 5 = .ok (.iload_n 1, 1) := by decide +kernel
theorem dX1_pass_6 : decode cX1_pass 6 = .ok (.iconst 1, 1) := by decide +kernel
theorem dX1_pass_7 : decode cX1_pass 7 = .ok (.bipush 60, 2) := by decide +kernel
theorem dX1_pass_9 : decode cX1_pass 9 = .ok (.invokestatic 23, 3) := by decide +kernel
theorem dX1_pass_12 : decode cX1_pass 12 = .ok (.ifCond .eq 11, 3) := by decide +kernel
theorem dX1_pass_15 : decode cX1_pass 15 = .ok (.aload_n 0, 1) := by decide +kernel
theorem dX1_pass_16 : decode cX1_pass 16 = .ok (.iload_n 1, 1) := by decide +kernel
theorem dX1_pass_17 : decode cX1_pass 17 = .ok (.invokevirtual 84, 3) := by decide +kernel
theorem dX1_pass_20 : decode cX1_pass 20 = .ok (.goto 8, 3) := by decide +kernel
theorem dX1_pass_23 : decode cX1_pass 23 = .ok (.aload_n 0, 1) := by decide +kernel
theorem dX1_pass_24 : decode cX1_pass 24 = .ok (.iconst 1, 1) := by decide +kernel
theorem dX1_pass_25 : decode cX1_pass 25 = .ok (.invokevirtual 70, 3) := by decide +kernel
theorem dX1_pass_28 : decode cX1_pass 28 = .ok (.ireturn, 1) := by decide +kernel
set_option maxRecDepth 20000 in
theorem ggX1_day_X1_told : GoodIn wsX1_day wsX1_told := goodIn_r _ [6, 7, 8, 9, 10, 11] (by decide +kernel) (by decide +kernel)
set_option maxRecDepth 20000 in
theorem gX1_day_X1_told : GoodIn wsX1_day (wsV RX1 81 RX1 yX1_told wsX1_told) := goodIn_app (goodIn_of _ (by decide +kernel)) ggX1_day_X1_told
theorem dX1_day_0 : decode cX1_day 0 = .ok (.aload_n 0, 1) := by decide +kernel
theorem dX1_day_1 : decode cX1_day 1 = .ok (.aload_n 0, 1) := by decide +kernel
theorem dX1_day_2 : decode cX1_day 2 = .ok (.getfield 9, 3) := by decide +kernel
theorem dX1_day_5 : decode cX1_day 5 = .ok (.iconst 0, 1) := by decide +kernel
theorem dX1_day_6 : decode cX1_day 6 = .ok (.iaload, 1) := by decide +kernel
theorem dX1_day_7 : decode cX1_day 7 = .ok (.invokevirtual 81, 3) := by decide +kernel
theorem dX1_day_10 : decode cX1_day 10 = .ok (.ireturn, 1) := by decide +kernel
set_option maxRecDepth 20000 in
theorem ggX1_members_X1_told : GoodIn wsX1_members wsX1_told := goodIn_r _ [6, 7, 8, 9, 10, 11] (by decide +kernel) (by decide +kernel)
set_option maxRecDepth 20000 in
theorem gX1_members_X1_told : GoodIn wsX1_members (wsV RX1 81 RX1 yX1_told wsX1_told) := goodIn_app (goodIn_of _ (by decide +kernel)) ggX1_members_X1_told
theorem dX1_members_0 : decode cX1_members 0 = .ok (.aload_n 0, 1) := by decide +kernel
theorem dX1_members_1 : decode cX1_members 1 = .ok (.aload_n 0, 1) := by decide +kernel
theorem dX1_members_2 : decode cX1_members 2 = .ok (.getfield 20, 3) := by decide +kernel
theorem dX1_members_5 : decode cX1_members 5 = .ok (.invokevirtual 81, 3) := by decide +kernel
theorem dX1_members_8 : decode cX1_members 8 = .ok (.ireturn, 1) := by decide +kernel
set_option maxRecDepth 20000 in
theorem ggX1_member_X1_isMember : GoodIn wsX1_member wsX1_isMember := goodIn_r _ [6, 7, 8, 9, 5, 10, 20, 21, 22, 23] (by decide +kernel) (by decide +kernel)
set_option maxRecDepth 20000 in
theorem gX1_member_X1_isMember : GoodIn wsX1_member (wsV RX1 73 RX1 yX1_isMember wsX1_isMember) := goodIn_app (goodIn_of _ (by decide +kernel)) ggX1_member_X1_isMember
set_option maxRecDepth 20000 in
theorem ggX1_member_X1_me : GoodIn wsX1_member wsX1_me := goodIn_r _ [14, 15, 20, 21, 22, 23] (by decide +kernel) (by decide +kernel)
set_option maxRecDepth 20000 in
theorem gX1_member_X1_me : GoodIn wsX1_member (wsV RX1 33 RX1 yX1_me wsX1_me) := goodIn_app (goodIn_of _ (by decide +kernel)) ggX1_member_X1_me
set_option maxRecDepth 20000 in
theorem ggX1_member_X1_fail : GoodIn wsX1_member wsX1_fail := goodIn_r _ [19, 1, 20, 21, 22, 23] (by decide +kernel) (by decide +kernel)
set_option maxRecDepth 20000 in
theorem gX1_member_X1_fail : GoodIn wsX1_member (wsV RX1 70 RX1 yX1_fail wsX1_fail) := goodIn_app (goodIn_of _ (by decide +kernel)) ggX1_member_X1_fail
theorem dX1_member_0 : decode cX1_member 0 = .ok (.aload_n 0, 1) := by decide +kernel
theorem dX1_member_1 : decode cX1_member 1 = .ok (.iconst 0, 1) := by decide +kernel
theorem dX1_member_2 : decode cX1_member 2 = .ok (.putfield 16, 3) := by decide +kernel
theorem dX1_member_5 : decode cX1_member 5 = .ok (.aload_n 0, 1) := by decide +kernel
theorem dX1_member_6 : decode cX1_member 6 = .ok (.iload_n 1, 1) := by decide +kernel
theorem dX1_member_7 : decode cX1_member 7 = .ok (.invokevirtual 73, 3) := by decide +kernel
theorem dX1_member_10 : decode cX1_member 10 = .ok (.ifCond .eq 12, 3) := by decide +kernel
theorem dX1_member_13 : decode cX1_member 13 = .ok (.aload_n 0, 1) := by decide +kernel
theorem dX1_member_14 : decode cX1_member 14 = .ok (.iload_n 1, 1) := by decide +kernel
theorem dX1_member_15 : decode cX1_member 15 = .ok (.iload_n 2, 1) := by decide +kernel
theorem dX1_member_16 : decode cX1_member 16 = .ok (.invokevirtual 33, 3) := by decide +kernel
theorem dX1_member_19 : decode cX1_member 19 = .ok (.goto 8, 3) := by decide +kernel
theorem dX1_member_22 : decode cX1_member 22 = .ok (.aload_n 0, 1) := by decide +kernel
theorem dX1_member_23 : decode cX1_member 23 = .ok (.iconst 1, 1) := by decide +kernel
theorem dX1_member_24 : decode cX1_member 24 = .ok (.invokevirtual 70, 3) := by decide +kernel
theorem dX1_member_27 : decode cX1_member 27 = .ok (.ireturn, 1) := by decide +kernel
set_option maxRecDepth 20000 in
theorem ggX1_luckOf_X1_member : GoodIn wsX1_luckOf wsX1_member := goodIn_r _ [5, 6, 7, 8, 9, 4, 10, 11, 12, 13, 14, 15, 16, 17, 18, 19, 20, 21, 22, 23, 24, 25, 26, 27] (by decide +kernel) (by decide +kernel)
set_option maxRecDepth 20000 in
theorem gX1_luckOf_X1_member : GoodIn wsX1_luckOf (wsV RX1 87 RX1 yX1_member wsX1_member) := goodIn_app (goodIn_of _ (by decide +kernel)) ggX1_luckOf_X1_member
theorem dX1_luckOf_0 : decode cX1_luckOf 0 = .ok (.aload_n 0, 1) := by decide +kernel
theorem dX1_luckOf_1 : decode cX1_luckOf 1 = .ok (.iload_n 1, 1) := by decide +kernel
theorem dX1_luckOf_2 : decode cX1_luckOf 2 = .ok (.iconst 0, 1) := by decide +kernel
theorem dX1_luckOf_3 : decode cX1_luckOf 3 = .ok (.invokevirtual 87, 3) := by decide +kernel
theorem dX1_luckOf_6 : decode cX1_luckOf 6 = .ok (.ireturn, 1) := by decide +kernel
set_option maxRecDepth 20000 in
theorem ggX1_arrearsOf_X1_member : GoodIn wsX1_arrearsOf wsX1_member := goodIn_r _ [5, 6, 7, 8, 9, 4, 10, 11, 12, 13, 14, 15, 16, 17, 18, 19, 20, 21, 22, 23, 24, 25, 26, 27] (by decide +kernel) (by decide +kernel)
set_option maxRecDepth 20000 in
theorem gX1_arrearsOf_X1_member : GoodIn wsX1_arrearsOf (wsV RX1 87 RX1 yX1_member wsX1_member) := goodIn_app (goodIn_of _ (by decide +kernel)) ggX1_arrearsOf_X1_member
theorem dX1_arrearsOf_0 : decode cX1_arrearsOf 0 = .ok (.aload_n 0, 1) := by decide +kernel
theorem dX1_arrearsOf_1 : decode cX1_arrearsOf 1 = .ok (.iload_n 1, 1) := by decide +kernel
theorem dX1_arrearsOf_2 : decode cX1_arrearsOf 2 = .ok (.iconst 1, 1) := by decide +kernel
theorem dX1_arrearsOf_3 : decode cX1_arrearsOf 3 = .ok (.invokevirtual 87, 3) := by decide +kernel
theorem dX1_arrearsOf_6 : decode cX1_arrearsOf 6 = .ok (.ireturn, 1) := by decide +kernel
set_option maxRecDepth 20000 in
theorem ggX1_lumpsOf_X1_member : GoodIn wsX1_lumpsOf wsX1_member := goodIn_r _ [5, 6, 7, 8, 9, 4, 10, 11, 12, 13, 14, 15, 16, 17, 18, 19, 20, 21, 22, 23, 24, 25, 26, 27] (by decide +kernel) (by decide +kernel)
set_option maxRecDepth 20000 in
theorem gX1_lumpsOf_X1_member : GoodIn wsX1_lumpsOf (wsV RX1 87 RX1 yX1_member wsX1_member) := goodIn_app (goodIn_of _ (by decide +kernel)) ggX1_lumpsOf_X1_member
theorem dX1_lumpsOf_0 : decode cX1_lumpsOf 0 = .ok (.aload_n 0, 1) := by decide +kernel
theorem dX1_lumpsOf_1 : decode cX1_lumpsOf 1 = .ok (.iload_n 1, 1) := by decide +kernel
theorem dX1_lumpsOf_2 : decode cX1_lumpsOf 2 = .ok (.iconst 2, 1) := by decide +kernel
theorem dX1_lumpsOf_3 : decode cX1_lumpsOf 3 = .ok (.invokevirtual 87, 3) := by decide +kernel
theorem dX1_lumpsOf_6 : decode cX1_lumpsOf 6 = .ok (.ireturn, 1) := by decide +kernel
set_option maxRecDepth 20000 in
theorem ggX1_dailyLoss_X1_isMember : GoodIn wsX1_dailyLoss wsX1_isMember := goodIn_r _ [6, 7, 8, 9, 5, 10, 24, 25, 26, 27] (by decide +kernel) (by decide +kernel)
set_option maxRecDepth 20000 in
theorem gX1_dailyLoss_X1_isMember : GoodIn wsX1_dailyLoss (wsV RX1 73 RX1 yX1_isMember wsX1_isMember) := goodIn_app (goodIn_of _ (by decide +kernel)) ggX1_dailyLoss_X1_isMember
set_option maxRecDepth 20000 in
theorem ggX1_dailyLoss_X1_loss : GoodIn wsX1_dailyLoss wsX1_loss := goodIn_r _ [14, 15, 16, 17, 5, 18, 19, 24, 25, 26, 27] (by decide +kernel) (by decide +kernel)
set_option maxRecDepth 20000 in
theorem gX1_dailyLoss_X1_loss : GoodIn wsX1_dailyLoss (wsV RX1 63 RX1 yX1_loss wsX1_loss) := goodIn_app (goodIn_of _ (by decide +kernel)) ggX1_dailyLoss_X1_loss
set_option maxRecDepth 20000 in
theorem ggX1_dailyLoss_X1_fail : GoodIn wsX1_dailyLoss wsX1_fail := goodIn_r _ [23, 1, 24, 25, 26, 27] (by decide +kernel) (by decide +kernel)
set_option maxRecDepth 20000 in
theorem gX1_dailyLoss_X1_fail : GoodIn wsX1_dailyLoss (wsV RX1 70 RX1 yX1_fail wsX1_fail) := goodIn_app (goodIn_of _ (by decide +kernel)) ggX1_dailyLoss_X1_fail
theorem dX1_dailyLoss_0 : decode cX1_dailyLoss 0 = .ok (.aload_n 0, 1) := by decide +kernel
theorem dX1_dailyLoss_1 : decode cX1_dailyLoss 1 = .ok (.iconst 0, 1) := by decide +kernel
theorem dX1_dailyLoss_2 : decode cX1_dailyLoss 2 = .ok (.putfield 16, 3) := by decide +kernel
theorem dX1_dailyLoss_5 : decode cX1_dailyLoss 5 = .ok (.aload_n 0, 1) := by decide +kernel
theorem dX1_dailyLoss_6 : decode cX1_dailyLoss 6 = .ok (.iload_n 1, 1) := by decide +kernel
theorem dX1_dailyLoss_7 : decode cX1_dailyLoss 7 = .ok (.invokevirtual 73, 3) := by decide +kernel
theorem dX1_dailyLoss_10 : decode cX1_dailyLoss 10 = .ok (.ifCond .eq 11, 3) := by decide +kernel
theorem dX1_dailyLoss_13 : decode cX1_dailyLoss 13 = .ok (.aload_n 0, 1) := by decide +kernel
theorem dX1_dailyLoss_14 : decode cX1_dailyLoss 14 = .ok (.iload_n 1, 1) := by decide +kernel
theorem dX1_dailyLoss_15 : decode cX1_dailyLoss 15 = .ok (.invokevirtual 63, 3) := by decide +kernel
theorem dX1_dailyLoss_18 : decode cX1_dailyLoss 18 = .ok (.goto 8, 3) := by decide +kernel
theorem dX1_dailyLoss_21 : decode cX1_dailyLoss 21 = .ok (.aload_n 0, 1) := by decide +kernel
theorem dX1_dailyLoss_22 : decode cX1_dailyLoss 22 = .ok (.iconst 1, 1) := by decide +kernel
theorem dX1_dailyLoss_23 : decode cX1_dailyLoss 23 = .ok (.invokevirtual 70, 3) := by decide +kernel
theorem dX1_dailyLoss_26 : decode cX1_dailyLoss 26 = .ok (.ireturn, 1) := by decide +kernel
set_option maxRecDepth 20000 in
theorem ggX1_best_X1_me : GoodIn wsX1_best wsX1_me := goodIn_r _ [6, 7, 8, 9, 10, 11] (by decide +kernel) (by decide +kernel)
set_option maxRecDepth 20000 in
theorem gX1_best_X1_me : GoodIn wsX1_best (wsV RX1 33 RX1 yX1_me wsX1_me) := goodIn_app (goodIn_of _ (by decide +kernel)) ggX1_best_X1_me
theorem dX1_best_0 : decode cX1_best 0 = .ok (.iconst (-1), 1) := by decide +kernel
theorem dX1_best_1 : decode cX1_best 1 = .ok (.istore_n 1, 1) := by decide +kernel
theorem dX1_best_2 : decode cX1_best 2 = .ok (.iconst 0, 1) := by decide +kernel
theorem dX1_best_3 : decode cX1_best 3 = .ok (.istore_n 2, 1) := by decide +kernel
theorem dX1_best_4 : decode cX1_best 4 = .ok (.iload_n 2, 1) := by decide +kernel
theorem dX1_best_5 : decode cX1_best 5 = .ok (.aload_n 0, 1) := by decide +kernel
theorem dX1_best_6 : decode cX1_best 6 = .ok (.getfield 20, 3) := by decide +kernel
theorem dX1_best_9 : decode cX1_best 9 = .ok (.if_icmp .ge 31, 3) := by decide +kernel
theorem dX1_best_12 : decode cX1_best 12 = .ok (.iload_n 1, 1) := by decide +kernel
theorem dX1_best_13 : decode cX1_best 13 = .ok (.iconst (-1), 1) := by decide +kernel
theorem dX1_best_14 : decode cX1_best 14 = .ok (.if_icmp .eq 18, 3) := by decide +kernel
theorem dX1_best_17 : decode cX1_best 17 = .ok (.aload_n 0, 1) := by decide +kernel
theorem dX1_best_18 : decode cX1_best 18 = .ok (.iload_n 2, 1) := by decide +kernel
theorem dX1_best_19 : decode cX1_best 19 = .ok (.iconst 0, 1) := by decide +kernel
theorem dX1_best_20 : decode cX1_best 20 = .ok (.invokevirtual 33, 3) := by decide +kernel
theorem dX1_best_23 : decode cX1_best 23 = .ok (.aload_n 0, 1) := by decide +kernel
theorem dX1_best_24 : decode cX1_best 24 = .ok (.iload_n 1, 1) := by decide +kernel
theorem dX1_best_25 : decode cX1_best 25 = .ok (.iconst 0, 1) := by decide +kernel
theorem dX1_best_26 : decode cX1_best 26 = .ok (.invokevirtual 33, 3) := by decide +kernel
theorem dX1_best_29 : decode cX1_best 29 = .ok (.if_icmp .le 5, 3) := by decide +kernel
theorem dX1_best_32 : decode cX1_best 32 = .ok (.iload_n 2, 1) := by decide +kernel
theorem dX1_best_33 : decode cX1_best 33 = .ok (.istore_n 1, 1) := by decide +kernel
theorem dX1_best_34 : decode cX1_best 34 = .ok (.iinc 2 1, 3) := by decide +kernel
theorem dX1_best_37 : decode cX1_best 37 = .ok (.goto (-33), 3) := by decide +kernel
theorem dX1_best_40 : decode cX1_best 40 = .ok (.iload_n 1, 1) := by decide +kernel
theorem dX1_best_41 : decode cX1_best 41 = .ok (.ireturn, 1) := by decide +kernel
set_option maxRecDepth 20000 in
theorem ggX1_owed_X1_me : GoodIn wsX1_owed wsX1_me := goodIn_r _ [6, 7, 8, 9, 10, 11] (by decide +kernel) (by decide +kernel)
set_option maxRecDepth 20000 in
theorem gX1_owed_X1_me : GoodIn wsX1_owed (wsV RX1 33 RX1 yX1_me wsX1_me) := goodIn_app (goodIn_of _ (by decide +kernel)) ggX1_owed_X1_me
theorem dX1_owed_0 : decode cX1_owed 0 = .ok (.iconst 0, 1) := by decide +kernel
theorem dX1_owed_1 : decode cX1_owed 1 = .ok (.istore_n 1, 1) := by decide +kernel
theorem dX1_owed_2 : decode cX1_owed 2 = .ok (.iconst 0, 1) := by decide +kernel
theorem dX1_owed_3 : decode cX1_owed 3 = .ok (.istore_n 2, 1) := by decide +kernel
theorem dX1_owed_4 : decode cX1_owed 4 = .ok (.iload_n 2, 1) := by decide +kernel
theorem dX1_owed_5 : decode cX1_owed 5 = .ok (.aload_n 0, 1) := by decide +kernel
theorem dX1_owed_6 : decode cX1_owed 6 = .ok (.getfield 20, 3) := by decide +kernel
theorem dX1_owed_9 : decode cX1_owed 9 = .ok (.if_icmp .ge 18, 3) := by decide +kernel
theorem dX1_owed_12 : decode cX1_owed 12 = .ok (.iload_n 1, 1) := by decide +kernel
theorem dX1_owed_13 : decode cX1_owed 13 = .ok (.aload_n 0, 1) := by decide +kernel
theorem dX1_owed_14 : decode cX1_owed 14 = .ok (.iload_n 2, 1) := by decide +kernel
theorem dX1_owed_15 : decode cX1_owed 15 = .ok (.iconst 1, 1) := by decide +kernel
theorem dX1_owed_16 : decode cX1_owed 16 = .ok (.invokevirtual 33, 3) := by decide +kernel
theorem dX1_owed_19 : decode cX1_owed 19 = .ok (.iadd, 1) := by decide +kernel
theorem dX1_owed_20 : decode cX1_owed 20 = .ok (.istore_n 1, 1) := by decide +kernel
theorem dX1_owed_21 : decode cX1_owed 21 = .ok (.iinc 2 1, 3) := by decide +kernel
theorem dX1_owed_24 : decode cX1_owed 24 = .ok (.goto (-20), 3) := by decide +kernel
theorem dX1_owed_27 : decode cX1_owed 27 = .ok (.iload_n 1, 1) := by decide +kernel
theorem dX1_owed_28 : decode cX1_owed 28 = .ok (.ireturn, 1) := by decide +kernel
set_option maxRecDepth 20000 in
theorem ggX1_luckiest_X1_best : GoodIn wsX1_luckiest wsX1_best := goodIn_r _ [5, 6, 7, 8, 9, 4, 10, 11, 17, 18, 19, 20] (by decide +kernel) (by decide +kernel)
set_option maxRecDepth 20000 in
theorem gX1_luckiest_X1_best : GoodIn wsX1_luckiest (wsV RX1 90 RX1 yX1_best wsX1_best) := goodIn_app (goodIn_of _ (by decide +kernel)) ggX1_luckiest_X1_best
set_option maxRecDepth 20000 in
theorem ggX1_luckiest_X1_told : GoodIn wsX1_luckiest wsX1_told := goodIn_r _ [15, 16, 17, 18, 19, 20] (by decide +kernel) (by decide +kernel)
set_option maxRecDepth 20000 in
theorem gX1_luckiest_X1_told : GoodIn wsX1_luckiest (wsV RX1 81 RX1 yX1_told wsX1_told) := goodIn_app (goodIn_of _ (by decide +kernel)) ggX1_luckiest_X1_told
theorem dX1_luckiest_0 : decode cX1_luckiest 0 = .ok (.aload_n 0, 1) := by decide +kernel
theorem dX1_luckiest_1 : decode cX1_luckiest 1 = .ok (.aload_n 0, 1) := by decide +kernel
theorem dX1_luckiest_2 : decode cX1_luckiest 2 = .ok (.invokevirtual 90, 3) := by decide +kernel
theorem dX1_luckiest_5 : decode cX1_luckiest 5 = .ok (.invokevirtual 81, 3) := by decide +kernel
theorem dX1_luckiest_8 : decode cX1_luckiest 8 = .ok (.ireturn, 1) := by decide +kernel
set_option maxRecDepth 20000 in
theorem ggX1_allArrears_X1_owed : GoodIn wsX1_allArrears wsX1_owed := goodIn_r _ [5, 6, 7, 8, 9, 4, 10, 11, 17, 18, 19, 20] (by decide +kernel) (by decide +kernel)
set_option maxRecDepth 20000 in
theorem gX1_allArrears_X1_owed : GoodIn wsX1_allArrears (wsV RX1 93 RX1 yX1_owed wsX1_owed) := goodIn_app (goodIn_of _ (by decide +kernel)) ggX1_allArrears_X1_owed
set_option maxRecDepth 20000 in
theorem ggX1_allArrears_X1_told : GoodIn wsX1_allArrears wsX1_told := goodIn_r _ [15, 16, 17, 18, 19, 20] (by decide +kernel) (by decide +kernel)
set_option maxRecDepth 20000 in
theorem gX1_allArrears_X1_told : GoodIn wsX1_allArrears (wsV RX1 81 RX1 yX1_told wsX1_told) := goodIn_app (goodIn_of _ (by decide +kernel)) ggX1_allArrears_X1_told
theorem dX1_allArrears_0 : decode cX1_allArrears 0 = .ok (.aload_n 0, 1) := by decide +kernel
theorem dX1_allArrears_1 : decode cX1_allArrears 1 = .ok (.aload_n 0, 1) := by decide +kernel
theorem dX1_allArrears_2 : decode cX1_allArrears 2 = .ok (.invokevirtual 93, 3) := by decide +kernel
theorem dX1_allArrears_5 : decode cX1_allArrears 5 = .ok (.invokevirtual 81, 3) := by decide +kernel
theorem dX1_allArrears_8 : decode cX1_allArrears 8 = .ok (.ireturn, 1) := by decide +kernel
set_option maxRecDepth 20000 in
theorem ggX1_clearMembers_X1_me : GoodIn wsX1_clearMembers wsX1_me := goodIn_r _ [7, 8, 9, 10, 11, 12] (by decide +kernel) (by decide +kernel)
set_option maxRecDepth 20000 in
theorem gX1_clearMembers_X1_me : GoodIn wsX1_clearMembers (wsV RX1 33 RX1 yX1_me wsX1_me) := goodIn_app (goodIn_of _ (by decide +kernel)) ggX1_clearMembers_X1_me
theorem dX1_clearMembers_0 : decode cX1_clearMembers 0 = .ok (.aload_n 0, 1) := by decide +kernel
theorem dX1_clearMembers_1 : decode cX1_clearMembers 1 = .ok (.iconst 0, 1) := by decide +kernel
theorem dX1_clearMembers_2 : decode cX1_clearMembers 2 = .ok (.putfield 16, 3) := by decide +kernel
theorem dX1_clearMembers_5 : decode cX1_clearMembers 5 = .ok (.iconst 0, 1) := by decide +kernel
theorem dX1_clearMembers_6 : decode cX1_clearMembers 6 = .ok (.istore_n 1, 1) := by decide +kernel
theorem dX1_clearMembers_7 : decode cX1_clearMembers 7 = .ok (.iconst 0, 1) := by decide +kernel
theorem dX1_clearMembers_8 : decode cX1_clearMembers 8 = .ok (.istore_n 2, 1) := by decide +kernel
theorem dX1_clearMembers_9 : decode cX1_clearMembers 9 = .ok (.iload_n 2, 1) := by decide +kernel
theorem dX1_clearMembers_10 : decode cX1_clearMembers 10 = .ok (.aload_n 0, 1) := by decide +kernel
theorem dX1_clearMembers_11 : decode cX1_clearMembers 11 = .ok (.getfield 20, 3) := by decide +kernel
theorem dX1_clearMembers_14 : decode cX1_clearMembers 14 = .ok (.if_icmp .ge 26, 3) := by decide +kernel
theorem dX1_clearMembers_17 : decode cX1_clearMembers 17 = .ok (.iload_n 1, 1) := by decide +kernel
theorem dX1_clearMembers_18 : decode cX1_clearMembers 18 = .ok (.aload_n 0, 1) := by decide +kernel
theorem dX1_clearMembers_19 : decode cX1_clearMembers 19 = .ok (.iload_n 2, 1) := by decide +kernel
theorem dX1_clearMembers_20 : decode cX1_clearMembers 20 = .ok (.iconst 1, 1) := by decide +kernel
theorem dX1_clearMembers_21 : decode cX1_clearMembers 21 = .ok (.invokevirtual 33, 3) := by decide +kernel
theorem dX1_clearMembers_24 : decode cX1_clearMembers 24 = .ok (.ifCond .ne 7, 3) := by decide +kernel
theorem dX1_clearMembers_27 : decode cX1_clearMembers 27 = .ok (.iconst 1, 1) := by decide +kernel
theorem dX1_clearMembers_28 : decode cX1_clearMembers 28 = .ok (.goto 4, 3) := by decide +kernel
theorem dX1_clearMembers_31 : decode cX1_clearMembers 31 = .ok (.iconst 0, 1) := by decide +kernel
theorem dX1_clearMembers_32 : decode cX1_clearMembers 32 = .ok (.iadd, 1) := by decide +kernel
theorem dX1_clearMembers_33 : decode cX1_clearMembers 33 = .ok (.istore_n 1, 1) := by decide +kernel
theorem dX1_clearMembers_34 : decode cX1_clearMembers 34 = .ok (.iinc 2 1, 3) := by decide +kernel
theorem dX1_clearMembers_37 : decode cX1_clearMembers 37 = .ok (.goto (-28), 3) := by decide +kernel
theorem dX1_clearMembers_40 : decode cX1_clearMembers 40 = .ok (.iload_n 1, 1) := by decide +kernel
theorem dX1_clearMembers_41 : decode cX1_clearMembers 41 = .ok (.ireturn, 1) := by decide +kernel
set_option maxRecDepth 20000 in
theorem ggX1_salt_X1_told : GoodIn wsX1_salt wsX1_told := goodIn_r _ [6, 7, 8, 9, 10, 11] (by decide +kernel) (by decide +kernel)
set_option maxRecDepth 20000 in
theorem gX1_salt_X1_told : GoodIn wsX1_salt (wsV RX1 81 RX1 yX1_told wsX1_told) := goodIn_app (goodIn_of _ (by decide +kernel)) ggX1_salt_X1_told
theorem dX1_salt_0 : decode cX1_salt 0 = .ok (.aload_n 0, 1) := by decide +kernel
theorem dX1_salt_1 : decode cX1_salt 1 = .ok (.aload_n 0, 1) := by decide +kernel
theorem dX1_salt_2 : decode cX1_salt 2 = .ok (.getfield 9, 3) := by decide +kernel
theorem dX1_salt_5 : decode cX1_salt 5 = .ok (.iconst 1, 1) := by decide +kernel
theorem dX1_salt_6 : decode cX1_salt 6 = .ok (.iaload, 1) := by decide +kernel
theorem dX1_salt_7 : decode cX1_salt 7 = .ok (.invokevirtual 81, 3) := by decide +kernel
theorem dX1_salt_10 : decode cX1_salt 10 = .ok (.ireturn, 1) := by decide +kernel
set_option maxRecDepth 20000 in
theorem ggX1_ledger_X1_told : GoodIn wsX1_ledger wsX1_told := goodIn_r _ [6, 7, 8, 9, 10, 11] (by decide +kernel) (by decide +kernel)
set_option maxRecDepth 20000 in
theorem gX1_ledger_X1_told : GoodIn wsX1_ledger (wsV RX1 81 RX1 yX1_told wsX1_told) := goodIn_app (goodIn_of _ (by decide +kernel)) ggX1_ledger_X1_told
theorem dX1_ledger_0 : decode cX1_ledger 0 = .ok (.aload_n 0, 1) := by decide +kernel
theorem dX1_ledger_1 : decode cX1_ledger 1 = .ok (.aload_n 0, 1) := by decide +kernel
theorem dX1_ledger_2 : decode cX1_ledger 2 = .ok (.getfield 9, 3) := by decide +kernel
theorem dX1_ledger_5 : decode cX1_ledger 5 = .ok (.iconst 3, 1) := by decide +kernel
theorem dX1_ledger_6 : decode cX1_ledger 6 = .ok (.iaload, 1) := by decide +kernel
theorem dX1_ledger_7 : decode cX1_ledger 7 = .ok (.invokevirtual 81, 3) := by decide +kernel
theorem dX1_ledger_10 : decode cX1_ledger 10 = .ok (.ireturn, 1) := by decide +kernel
set_option maxRecDepth 20000 in
theorem ggX1_entry_X1_isThrow : GoodIn wsX1_entry wsX1_isThrow := goodIn_r _ [6, 7, 8, 9, 5, 10, 19, 20, 21, 22] (by decide +kernel) (by decide +kernel)
set_option maxRecDepth 20000 in
theorem gX1_entry_X1_isThrow : GoodIn wsX1_entry (wsV RX1 96 RX1 yX1_isThrow wsX1_isThrow) := goodIn_app (goodIn_of _ (by decide +kernel)) ggX1_entry_X1_isThrow
set_option maxRecDepth 20000 in
theorem ggX1_entry_X1_th : GoodIn wsX1_entry wsX1_th := goodIn_r _ [14, 7, 19, 20, 21, 22] (by decide +kernel) (by decide +kernel)
set_option maxRecDepth 20000 in
theorem gX1_entry_X1_th : GoodIn wsX1_entry (wsV RX1 50 RX1 yX1_th wsX1_th) := goodIn_app (goodIn_of _ (by decide +kernel)) ggX1_entry_X1_th
set_option maxRecDepth 20000 in
theorem ggX1_entry_X1_fail : GoodIn wsX1_entry wsX1_fail := goodIn_r _ [18, 1, 19, 20, 21, 22] (by decide +kernel) (by decide +kernel)
set_option maxRecDepth 20000 in
theorem gX1_entry_X1_fail : GoodIn wsX1_entry (wsV RX1 70 RX1 yX1_fail wsX1_fail) := goodIn_app (goodIn_of _ (by decide +kernel)) ggX1_entry_X1_fail
theorem dX1_entry_0 : decode cX1_entry 0 = .ok (.aload_n 0, 1) := by decide +kernel
theorem dX1_entry_1 : decode cX1_entry 1 = .ok (.iconst 0, 1) := by decide +kernel
theorem dX1_entry_2 : decode cX1_entry 2 = .ok (.putfield 16, 3) := by decide +kernel
theorem dX1_entry_5 : decode cX1_entry 5 = .ok (.aload_n 0, 1) := by decide +kernel
theorem dX1_entry_6 : decode cX1_entry 6 = .ok (.iload_n 1, 1) := by decide +kernel
theorem dX1_entry_7 : decode cX1_entry 7 = .ok (.invokevirtual 96, 3) := by decide +kernel
theorem dX1_entry_10 : decode cX1_entry 10 = .ok (.ifCond .eq 12, 3) := by decide +kernel
theorem dX1_entry_13 : decode cX1_entry 13 = .ok (.aload_n 0, 1) := by decide +kernel
theorem dX1_entry_14 : decode cX1_entry 14 = .ok (.iload_n 1, 1) := by decide +kernel
theorem dX1_entry_15 : decode cX1_entry 15 = .ok (.iload_n 2, 1) := by decide +kernel
theorem dX1_entry_16 : decode cX1_entry 16 = .ok (.invokevirtual 50, 3) := by decide +kernel
theorem dX1_entry_19 : decode cX1_entry 19 = .ok (.goto 8, 3) := by decide +kernel
theorem dX1_entry_22 : decode cX1_entry 22 = .ok (.aload_n 0, 1) := by decide +kernel
theorem dX1_entry_23 : decode cX1_entry 23 = .ok (.iconst 1, 1) := by decide +kernel
theorem dX1_entry_24 : decode cX1_entry 24 = .ok (.invokevirtual 70, 3) := by decide +kernel
theorem dX1_entry_27 : decode cX1_entry 27 = .ok (.ireturn, 1) := by decide +kernel
set_option maxRecDepth 20000 in
theorem ggX1_memberOf_X1_entry : GoodIn wsX1_memberOf wsX1_entry := goodIn_r _ [5, 6, 7, 8, 9, 4, 10, 11, 12, 13, 14, 15, 16, 17, 18, 19, 20, 21, 22, 23, 24, 25, 26] (by decide +kernel) (by decide +kernel)
set_option maxRecDepth 20000 in
theorem gX1_memberOf_X1_entry : GoodIn wsX1_memberOf (wsV RX1 99 RX1 yX1_entry wsX1_entry) := goodIn_app (goodIn_of _ (by decide +kernel)) ggX1_memberOf_X1_entry
theorem dX1_memberOf_0 : decode cX1_memberOf 0 = .ok (.aload_n 0, 1) := by decide +kernel
theorem dX1_memberOf_1 : decode cX1_memberOf 1 = .ok (.iload_n 1, 1) := by decide +kernel
theorem dX1_memberOf_2 : decode cX1_memberOf 2 = .ok (.iconst 0, 1) := by decide +kernel
theorem dX1_memberOf_3 : decode cX1_memberOf 3 = .ok (.invokevirtual 99, 3) := by decide +kernel
theorem dX1_memberOf_6 : decode cX1_memberOf 6 = .ok (.ireturn, 1) := by decide +kernel
set_option maxRecDepth 20000 in
theorem ggX1_isLeft_X1_entry : GoodIn wsX1_isLeft wsX1_entry := goodIn_r _ [5, 6, 7, 8, 9, 4, 10, 11, 12, 13, 14, 15, 16, 17, 18, 19, 20, 21, 22, 23, 24, 25, 26] (by decide +kernel) (by decide +kernel)
set_option maxRecDepth 20000 in
theorem gX1_isLeft_X1_entry : GoodIn wsX1_isLeft (wsV RX1 99 RX1 yX1_entry wsX1_entry) := goodIn_app (goodIn_of _ (by decide +kernel)) ggX1_isLeft_X1_entry
theorem dX1_isLeft_0 : decode cX1_isLeft 0 = .ok (.aload_n 0, 1) := by decide +kernel
theorem dX1_isLeft_1 : decode cX1_isLeft 1 = .ok (.iload_n 1, 1) := by decide +kernel
theorem dX1_isLeft_2 : decode cX1_isLeft 2 = .ok (.iconst 1, 1) := by decide +kernel
theorem dX1_isLeft_3 : decode cX1_isLeft 3 = .ok (.invokevirtual 99, 3) := by decide +kernel
theorem dX1_isLeft_6 : decode cX1_isLeft 6 = .ok (.iconst 1, 1) := by decide +kernel
theorem dX1_isLeft_7 : decode cX1_isLeft 7 = .ok (.if_icmp .ne 7, 3) := by decide +kernel
theorem dX1_isLeft_10 : decode cX1_isLeft 10 = .ok (.iconst 1, 1) := by decide +kernel
theorem dX1_isLeft_11 : decode cX1_isLeft 11 = .ok (.goto 4, 3) := by decide +kernel
theorem dX1_isLeft_14 : decode cX1_isLeft 14 = .ok (.iconst 0, 1) := by decide +kernel
theorem dX1_isLeft_15 : decode cX1_isLeft 15 = .ok (.ireturn, 1) := by decide +kernel
set_option maxRecDepth 20000 in
theorem ggX1_grainsOf_X1_entry : GoodIn wsX1_grainsOf wsX1_entry := goodIn_r _ [5, 6, 7, 8, 9, 4, 10, 11, 12, 13, 14, 15, 16, 17, 18, 19, 20, 21, 22, 23, 24, 25, 26] (by decide +kernel) (by decide +kernel)
set_option maxRecDepth 20000 in
theorem gX1_grainsOf_X1_entry : GoodIn wsX1_grainsOf (wsV RX1 99 RX1 yX1_entry wsX1_entry) := goodIn_app (goodIn_of _ (by decide +kernel)) ggX1_grainsOf_X1_entry
theorem dX1_grainsOf_0 : decode cX1_grainsOf 0 = .ok (.aload_n 0, 1) := by decide +kernel
theorem dX1_grainsOf_1 : decode cX1_grainsOf 1 = .ok (.iload_n 1, 1) := by decide +kernel
theorem dX1_grainsOf_2 : decode cX1_grainsOf 2 = .ok (.iconst 2, 1) := by decide +kernel
theorem dX1_grainsOf_3 : decode cX1_grainsOf 3 = .ok (.invokevirtual 99, 3) := by decide +kernel
theorem dX1_grainsOf_6 : decode cX1_grainsOf 6 = .ok (.ireturn, 1) := by decide +kernel
set_option maxRecDepth 20000 in
theorem ggX1_excessOf_X1_entry : GoodIn wsX1_excessOf wsX1_entry := goodIn_r _ [5, 6, 7, 8, 9, 4, 10, 11, 12, 13, 14, 15, 16, 17, 18, 19, 20, 21, 22, 23, 24, 25, 26] (by decide +kernel) (by decide +kernel)
set_option maxRecDepth 20000 in
theorem gX1_excessOf_X1_entry : GoodIn wsX1_excessOf (wsV RX1 99 RX1 yX1_entry wsX1_entry) := goodIn_app (goodIn_of _ (by decide +kernel)) ggX1_excessOf_X1_entry
theorem dX1_excessOf_0 : decode cX1_excessOf 0 = .ok (.aload_n 0, 1) := by decide +kernel
theorem dX1_excessOf_1 : decode cX1_excessOf 1 = .ok (.iload_n 1, 1) := by decide +kernel
theorem dX1_excessOf_2 : decode cX1_excessOf 2 = .ok (.iconst 3, 1) := by decide +kernel
theorem dX1_excessOf_3 : decode cX1_excessOf 3 = .ok (.invokevirtual 99, 3) := by decide +kernel
theorem dX1_excessOf_6 : decode cX1_excessOf 6 = .ok (.ireturn, 1) := by decide +kernel
set_option maxRecDepth 20000 in
theorem ggX1_faults_X1_faultsNow : GoodIn wsX1_faults wsX1_faultsNow := goodIn_r _ [5, 6, 7, 8, 9, 4, 10, 16, 17, 18, 19] (by decide +kernel) (by decide +kernel)
set_option maxRecDepth 20000 in
theorem gX1_faults_X1_faultsNow : GoodIn wsX1_faults (wsV RX1 53 RX1 yX1_faultsNow wsX1_faultsNow) := goodIn_app (goodIn_of _ (by decide +kernel)) ggX1_faults_X1_faultsNow
set_option maxRecDepth 20000 in
theorem ggX1_faults_X1_told : GoodIn wsX1_faults wsX1_told := goodIn_r _ [14, 15, 16, 17, 18, 19] (by decide +kernel) (by decide +kernel)
set_option maxRecDepth 20000 in
theorem gX1_faults_X1_told : GoodIn wsX1_faults (wsV RX1 81 RX1 yX1_told wsX1_told) := goodIn_app (goodIn_of _ (by decide +kernel)) ggX1_faults_X1_told
theorem dX1_faults_0 : decode cX1_faults 0 = .ok (.aload_n 0, 1) := by decide +kernel
theorem dX1_faults_1 : decode cX1_faults 1 = .ok (.aload_n 0, 1) := by decide +kernel
theorem dX1_faults_2 : decode cX1_faults 2 = .ok (.invokevirtual 53, 3) := by decide +kernel
theorem dX1_faults_5 : decode cX1_faults 5 = .ok (.invokevirtual 81, 3) := by decide +kernel
theorem dX1_faults_8 : decode cX1_faults 8 = .ok (.ireturn, 1) := by decide +kernel
set_option maxRecDepth 20000 in
theorem ggX1_adds_X1_th : GoodIn wsX1_adds wsX1_th := goodIn_r _ [6, 1, 7, 8, 9, 10] (by decide +kernel) (by decide +kernel)
set_option maxRecDepth 20000 in
theorem gX1_adds_X1_th : GoodIn wsX1_adds (wsV RX1 50 RX1 yX1_th wsX1_th) := goodIn_app (goodIn_of _ (by decide +kernel)) ggX1_adds_X1_th
theorem dX1_adds_0 : decode cX1_adds 0 = .ok (.iconst 0, 1) := by decide +kernel
theorem dX1_adds_1 : decode cX1_adds 1 = .ok (.istore_n 2, 1) := by decide +kernel
theorem dX1_adds_2 : decode cX1_adds 2 = .ok (.iconst 0, 1) := by decide +kernel
theorem dX1_adds_3 : decode cX1_adds 3 = .ok (.istore_n 3, 1) := by decide +kernel
theorem dX1_adds_4 : decode cX1_adds 4 = .ok (.iload_n 3, 1) := by decide +kernel
theorem dX1_adds_5 : decode cX1_adds 5 = .ok (.aload_n 0, 1) := by decide +kernel
theorem dX1_adds_6 : decode cX1_adds 6 = .ok (.getfield 9, 3) := by decide +kernel
theorem dX1_adds_9 : decode cX1_adds 9 = .ok (.iconst 3, 1) := by decide +kernel
theorem dX1_adds_10 : decode cX1_adds 10 = .ok (.iaload, 1) := by decide +kernel
theorem dX1_adds_11 : decode cX1_adds 11 = .ok (.if_icmp .ge 34, 3) := by decide +kernel
theorem dX1_adds_14 : decode cX1_adds 14 = .ok (.iload_n 2, 1) := by decide +kernel
theorem dX1_adds_15 : decode cX1_adds 15 = .ok (.aload_n 0, 1) := by decide +kernel
theorem dX1_adds_16 : decode cX1_adds 16 = .ok (.iload_n 3, 1) := by decide +kernel
theorem dX1_adds_17 : decode cX1_adds 17 = .ok (.iconst 0, 1) := by decide +kernel
theorem dX1_adds_18 : decode cX1_adds 18 = .ok (.invokevirtual 50, 3) := by decide +kernel
theorem dX1_adds_21 : decode cX1_adds 21 = .ok (.iload_n 1, 1) := by decide +kernel
theorem dX1_adds_22 : decode cX1_adds 22 = .ok (.if_icmp .ne 14, 3) := by decide +kernel
theorem dX1_adds_25 : decode cX1_adds 25 = .ok (.iconst 2, 1) := by decide +kernel
theorem dX1_adds_26 : decode cX1_adds 26 = .ok (.aload_n 0, 1) := by decide +kernel
theorem dX1_adds_27 : decode cX1_adds 27 = .ok (.iload_n 3, 1) := by decide +kernel
theorem dX1_adds_28 : decode cX1_adds 28 = .ok (.iconst 3, 1) := by decide +kernel
theorem dX1_adds_29 : decode cX1_adds 29 = .ok (.invokevirtual 50, 3) := by decide +kernel
theorem dX1_adds_32 : decode cX1_adds 32 = .ok (.imul, 1) := by decide +kernel
theorem dX1_adds_33 : decode cX1_adds 33 = .ok (.goto 4, 3) := by decide +kernel
theorem dX1_adds_36 : decode cX1_adds 36 = .ok (.iconst 0, 1) := by decide +kernel
theorem dX1_adds_37 : decode cX1_adds 37 = .ok (.iadd, 1) := by decide +kernel
theorem dX1_adds_38 : decode cX1_adds 38 = .ok (.istore_n 2, 1) := by decide +kernel
theorem dX1_adds_39 : decode cX1_adds 39 = .ok (.iinc 3 1, 3) := by decide +kernel
theorem dX1_adds_42 : decode cX1_adds 42 = .ok (.goto (-38), 3) := by decide +kernel
theorem dX1_adds_45 : decode cX1_adds 45 = .ok (.iload_n 2, 1) := by decide +kernel
theorem dX1_adds_46 : decode cX1_adds 46 = .ok (.ireturn, 1) := by decide +kernel
set_option maxRecDepth 20000 in
theorem ggX1_arrearsByAudit_X1_isMember : GoodIn wsX1_arrearsByAudit wsX1_isMember := goodIn_r _ [6, 7, 8, 9, 5, 10, 24, 25, 26, 27] (by decide +kernel) (by decide +kernel)
set_option maxRecDepth 20000 in
theorem gX1_arrearsByAudit_X1_isMember : GoodIn wsX1_arrearsByAudit (wsV RX1 73 RX1 yX1_isMember wsX1_isMember) := goodIn_app (goodIn_of _ (by decide +kernel)) ggX1_arrearsByAudit_X1_isMember
set_option maxRecDepth 20000 in
theorem ggX1_arrearsByAudit_X1_adds : GoodIn wsX1_arrearsByAudit wsX1_adds := goodIn_r _ [14, 15, 16, 17, 18, 5, 19, 24, 25, 26, 27] (by decide +kernel) (by decide +kernel)
set_option maxRecDepth 20000 in
theorem gX1_arrearsByAudit_X1_adds : GoodIn wsX1_arrearsByAudit (wsV RX1 102 RX1 yX1_adds wsX1_adds) := goodIn_app (goodIn_of _ (by decide +kernel)) ggX1_arrearsByAudit_X1_adds
set_option maxRecDepth 20000 in
theorem ggX1_arrearsByAudit_X1_fail : GoodIn wsX1_arrearsByAudit wsX1_fail := goodIn_r _ [23, 1, 24, 25, 26, 27] (by decide +kernel) (by decide +kernel)
set_option maxRecDepth 20000 in
theorem gX1_arrearsByAudit_X1_fail : GoodIn wsX1_arrearsByAudit (wsV RX1 70 RX1 yX1_fail wsX1_fail) := goodIn_app (goodIn_of _ (by decide +kernel)) ggX1_arrearsByAudit_X1_fail
theorem dX1_arrearsByAudit_0 : decode cX1_arrearsByAudit 0 = .ok (.aload_n 0, 1) := by decide +kernel
theorem dX1_arrearsByAudit_1 : decode cX1_arrearsByAudit 1 = .ok (.iconst 0, 1) := by decide +kernel
theorem dX1_arrearsByAudit_2 : decode cX1_arrearsByAudit 2 = .ok (.putfield 16, 3) := by decide +kernel
theorem dX1_arrearsByAudit_5 : decode cX1_arrearsByAudit 5 = .ok (.aload_n 0, 1) := by decide +kernel
theorem dX1_arrearsByAudit_6 : decode cX1_arrearsByAudit 6 = .ok (.iload_n 1, 1) := by decide +kernel
theorem dX1_arrearsByAudit_7 : decode cX1_arrearsByAudit 7 = .ok (.invokevirtual 73, 3) := by decide +kernel
theorem dX1_arrearsByAudit_10 : decode cX1_arrearsByAudit 10 = .ok (.ifCond .eq 11, 3) := by decide +kernel
theorem dX1_arrearsByAudit_13 : decode cX1_arrearsByAudit 13 = .ok (.aload_n 0, 1) := by decide +kernel
theorem dX1_arrearsByAudit_14 : decode cX1_arrearsByAudit 14 = .ok (.iload_n 1, 1) := by decide +kernel
theorem dX1_arrearsByAudit_15 : decode cX1_arrearsByAudit 15 = .ok (.invokevirtual 102, 3) := by decide +kernel
theorem dX1_arrearsByAudit_18 : decode cX1_arrearsByAudit 18 = .ok (.goto 8, 3) := by decide +kernel
theorem dX1_arrearsByAudit_21 : decode cX1_arrearsByAudit 21 = .ok (.aload_n 0, 1) := by decide +kernel
theorem dX1_arrearsByAudit_22 : decode cX1_arrearsByAudit 22 = .ok (.iconst 1, 1) := by decide +kernel
theorem dX1_arrearsByAudit_23 : decode cX1_arrearsByAudit 23 = .ok (.invokevirtual 70, 3) := by decide +kernel
theorem dX1_arrearsByAudit_26 : decode cX1_arrearsByAudit 26 = .ok (.ireturn, 1) := by decide +kernel
set_option maxRecDepth 20000 in
theorem ggX1_daysUntilAudit_X1_told : GoodIn wsX1_daysUntilAudit wsX1_told := goodIn_r _ [6, 7, 8, 9, 10, 11] (by decide +kernel) (by decide +kernel)
set_option maxRecDepth 20000 in
theorem gX1_daysUntilAudit_X1_told : GoodIn wsX1_daysUntilAudit (wsV RX1 81 RX1 yX1_told wsX1_told) := goodIn_app (goodIn_of _ (by decide +kernel)) ggX1_daysUntilAudit_X1_told
theorem dX1_daysUntilAudit_0 : decode cX1_daysUntilAudit 0 = .ok (.aload_n 0, 1) := by decide +kernel
theorem dX1_daysUntilAudit_1 : decode cX1_daysUntilAudit 1 = .ok (.bipush 6, 2) := by decide +kernel
theorem dX1_daysUntilAudit_3 : decode cX1_daysUntilAudit 3 = .ok (.aload_n 0, 1) := by decide +kernel
theorem dX1_daysUntilAudit_4 : decode cX1_daysUntilAudit 4 = .ok (.getfield 9, 3) := by decide +kernel
theorem dX1_daysUntilAudit_7 : decode cX1_daysUntilAudit 7 = .ok (.iconst 0, 1) := by decide +kernel
theorem dX1_daysUntilAudit_8 : decode cX1_daysUntilAudit 8 = .ok (.iaload, 1) := by decide +kernel
theorem dX1_daysUntilAudit_9 : decode cX1_daysUntilAudit 9 = .ok (.bipush 7, 2) := by decide +kernel
theorem dX1_daysUntilAudit_11 : decode cX1_daysUntilAudit 11 = .ok (.irem, 1) := by decide +kernel
theorem dX1_daysUntilAudit_12 : decode cX1_daysUntilAudit 12 = .ok (.isub, 1) := by decide +kernel
theorem dX1_daysUntilAudit_13 : decode cX1_daysUntilAudit 13 = .ok (.invokevirtual 81, 3) := by decide +kernel
theorem dX1_daysUntilAudit_16 : decode cX1_daysUntilAudit 16 = .ok (.ireturn, 1) := by decide +kernel
set_option maxRecDepth 20000 in
theorem ggX1_faultsFound_X1_told : GoodIn wsX1_faultsFound wsX1_told := goodIn_r _ [6, 7, 8, 9, 10, 11] (by decide +kernel) (by decide +kernel)
set_option maxRecDepth 20000 in
theorem gX1_faultsFound_X1_told : GoodIn wsX1_faultsFound (wsV RX1 81 RX1 yX1_told wsX1_told) := goodIn_app (goodIn_of _ (by decide +kernel)) ggX1_faultsFound_X1_told
theorem dX1_faultsFound_0 : decode cX1_faultsFound 0 = .ok (.aload_n 0, 1) := by decide +kernel
theorem dX1_faultsFound_1 : decode cX1_faultsFound 1 = .ok (.aload_n 0, 1) := by decide +kernel
theorem dX1_faultsFound_2 : decode cX1_faultsFound 2 = .ok (.getfield 9, 3) := by decide +kernel
theorem dX1_faultsFound_5 : decode cX1_faultsFound 5 = .ok (.iconst 2, 1) := by decide +kernel
theorem dX1_faultsFound_6 : decode cX1_faultsFound 6 = .ok (.iaload, 1) := by decide +kernel
theorem dX1_faultsFound_7 : decode cX1_faultsFound 7 = .ok (.invokevirtual 81, 3) := by decide +kernel
theorem dX1_faultsFound_10 : decode cX1_faultsFound 10 = .ok (.ireturn, 1) := by decide +kernel
set_option maxRecDepth 20000 in
theorem ggX1_luckIn_X1_isMember : GoodIn wsX1_luckIn wsX1_isMember := goodIn_r _ [6, 7, 8, 9, 5, 10, 68, 69, 70, 71] (by decide +kernel) (by decide +kernel)
set_option maxRecDepth 20000 in
theorem gX1_luckIn_X1_isMember : GoodIn wsX1_luckIn (wsV RX1 73 RX1 yX1_isMember wsX1_isMember) := goodIn_app (goodIn_of _ (by decide +kernel)) ggX1_luckIn_X1_isMember
set_option maxRecDepth 20000 in
theorem ggX1_luckIn_X1_fail : GoodIn wsX1_luckIn wsX1_fail := goodIn_r _ [14, 1, 68, 69, 70, 71] (by decide +kernel) (by decide +kernel)
set_option maxRecDepth 20000 in
theorem gX1_luckIn_X1_fail : GoodIn wsX1_luckIn (wsV RX1 70 RX1 yX1_fail wsX1_fail) := goodIn_app (goodIn_of _ (by decide +kernel)) ggX1_luckIn_X1_fail
set_option maxRecDepth 20000 in
theorem ggX1_luckIn_X1_isIn : GoodIn wsX1_luckIn wsX1_isIn := goodIn_r _ [10] (by decide +kernel) (by decide +kernel)
set_option maxRecDepth 20000 in
theorem gX1_luckIn_X1_isIn : GoodIn wsX1_luckIn (va_wsS RX1 23 yX1_isIn wsX1_isIn) := goodIn_app (goodIn_of _ (by decide +kernel)) ggX1_luckIn_X1_isIn
set_option maxRecDepth 20000 in
theorem ggX1_luckIn_X1_keep : GoodIn wsX1_luckIn wsX1_keep := goodIn_r _ [18, 19, 20, 21, 22, 23, 24, 68, 69, 70, 71] (by decide +kernel) (by decide +kernel)
set_option maxRecDepth 20000 in
theorem gX1_luckIn_X1_keep : GoodIn wsX1_luckIn (wsV RX1 105 RX1 yX1_keep wsX1_keep) := goodIn_app (goodIn_of _ (by decide +kernel)) ggX1_luckIn_X1_keep
set_option maxRecDepth 20000 in
theorem ggX1_luckIn_X1_daysOn : GoodIn wsX1_luckIn wsX1_daysOn := goodIn_r _ [28, 29, 30, 31, 5, 32, 19, 7, 33, 34, 35, 36, 37, 38, 39, 40, 41, 42, 43, 44, 45, 46, 47, 48, 49, 50, 51, 52, 53, 54, 55, 56, 57, 58, 59, 60, 61, 62, 63, 68, 69, 70, 71] (by decide +kernel) (by decide +kernel)
set_option maxRecDepth 20000 in
theorem gX1_luckIn_X1_daysOn : GoodIn wsX1_luckIn (wsV RX1 84 RX1 yX1_daysOn wsX1_daysOn) := goodIn_app (goodIn_of _ (by decide +kernel)) ggX1_luckIn_X1_daysOn
set_option maxRecDepth 20000 in
theorem ggX1_luckIn_X1_me : GoodIn wsX1_luckIn wsX1_me := goodIn_r _ [55, 19, 68, 69, 70, 71] (by decide +kernel) (by decide +kernel)
set_option maxRecDepth 20000 in
theorem gX1_luckIn_X1_me : GoodIn wsX1_luckIn (wsV RX1 33 RX1 yX1_me wsX1_me) := goodIn_app (goodIn_of _ (by decide +kernel)) ggX1_luckIn_X1_me
set_option maxRecDepth 20000 in
theorem ggX1_luckIn_X1_bringBack : GoodIn wsX1_luckIn wsX1_bringBack := goodIn_r _ [67, 20, 19, 21, 22, 23, 24, 68, 69, 70, 71] (by decide +kernel) (by decide +kernel)
set_option maxRecDepth 20000 in
theorem gX1_luckIn_X1_bringBack : GoodIn wsX1_luckIn (wsV RX1 108 RX1 yX1_bringBack wsX1_bringBack) := goodIn_app (goodIn_of _ (by decide +kernel)) ggX1_luckIn_X1_bringBack
theorem dX1_luckIn_0 : decode cX1_luckIn 0 = .ok (.aload_n 0, 1) := by decide +kernel
theorem dX1_luckIn_1 : decode cX1_luckIn 1 = .ok (.iconst 0, 1) := by decide +kernel
theorem dX1_luckIn_2 : decode cX1_luckIn 2 = .ok (.putfield 16, 3) := by decide +kernel
theorem dX1_luckIn_5 : decode cX1_luckIn 5 = .ok (.aload_n 0, 1) := by decide +kernel
theorem dX1_luckIn_6 : decode cX1_luckIn 6 = .ok (.iload_n 1, 1) := by decide +kernel
theorem dX1_luckIn_7 : decode cX1_luckIn 7 = .ok (.invokevirtual 73, 3) := by decide +kernel
theorem dX1_luckIn_10 : decode cX1_luckIn 10 = .ok (.ifCond .ne 9, 3) := by decide +kernel
theorem dX1_luckIn_13 : decode cX1_luckIn 13 = .ok (.aload_n 0, 1) := by decide +kernel
theorem dX1_luckIn_14 : decode cX1_luckIn 14 = .ok (.iconst 1, 1) := by decide +kernel
theorem dX1_luckIn_15 : decode cX1_luckIn 15 = .ok (.invokevirtual 70, 3) := by decide +kernel
theorem dX1_luckIn_18 : decode cX1_luckIn 18 = .ok (.ireturn, 1) := by decide +kernel
theorem dX1_luckIn_19 : decode cX1_luckIn 19 = .ok (.iload_n 2, 1) := by decide +kernel
theorem dX1_luckIn_20 : decode cX1_luckIn 20 = .ok (.iconst 1, 1) := by decide +kernel
theorem dX1_luckIn_21 : decode cX1_luckIn 21 = .ok (.bipush 60, 2) := by decide +kernel
theorem dX1_luckIn_23 : decode cX1_luckIn 23 = .ok (.invokestatic 23, 3) := by decide +kernel
theorem dX1_luckIn_26 : decode cX1_luckIn 26 = .ok (.ifCond .ne 9, 3) := by decide +kernel
theorem dX1_luckIn_29 : decode cX1_luckIn 29 = .ok (.aload_n 0, 1) := by decide +kernel
theorem dX1_luckIn_30 : decode cX1_luckIn 30 = .ok (.iconst 2, 1) := by decide +kernel
theorem dX1_luckIn_31 : decode cX1_luckIn 31 = .ok (.invokevirtual 70, 3) := by decide +kernel
theorem dX1_luckIn_34 : decode cX1_luckIn 34 = .ok (.ireturn, 1) := by decide +kernel
theorem dX1_luckIn_35 : decode cX1_luckIn 35 = .ok (.aload_n 0, 1) := by decide +kernel
theorem dX1_luckIn_36 : decode cX1_luckIn 36 = .ok (.invokevirtual 105, 3) := by decide +kernel
theorem dX1_luckIn_39 : decode cX1_luckIn 39 = .ok (.aload_n 0, 1) := by decide +kernel
theorem dX1_luckIn_40 : decode cX1_luckIn 40 = .ok (.iload_n 2, 1) := by decide +kernel
theorem dX1_luckIn_41 : decode cX1_luckIn 41 = .ok (.invokevirtual 84, 3) := by decide +kernel
theorem dX1_luckIn_44 : decode cX1_luckIn 44 = .ok (.pop, 1) := by decide +kernel
theorem dX1_luckIn_45 : decode cX1_luckIn 45 = .ok (.aload_n 0, 1) := by decide +kernel
theorem dX1_luckIn_46 : decode cX1_luckIn 46 = .ok (.iload_n 1, 1) := by decide +kernel
theorem dX1_luckIn_47 : decode cX1_luckIn 47 = .ok (.iconst 0, 1) := by decide +kernel
theorem dX1_luckIn_48 : decode cX1_luckIn 48 = .ok (.invokevirtual 33, 3) := by decide +kernel
theorem dX1_luckIn_51 : decode cX1_luckIn 51 = .ok (.istore_n 3, 1) := by decide +kernel
theorem dX1_luckIn_52 : decode cX1_luckIn 52 = .ok (.aload_n 0, 1) := by decide +kernel
theorem dX1_luckIn_53 : decode cX1_luckIn 53 = .ok (.invokevirtual 108, 3) := by decide +kernel
theorem dX1_luckIn_56 : decode cX1_luckIn 56 = .ok (.iload_n 3, 1) := by decide +kernel
theorem dX1_luckIn_57 : decode cX1_luckIn 57 = .ok (.ireturn, 1) := by decide +kernel
set_option maxRecDepth 20000 in
theorem ggX1_until_X1_keep : GoodIn wsX1_until wsX1_keep := goodIn_r _ [5, 6, 7, 8, 9, 10, 11, 52, 53, 54, 55] (by decide +kernel) (by decide +kernel)
set_option maxRecDepth 20000 in
theorem gX1_until_X1_keep : GoodIn wsX1_until (wsV RX1 105 RX1 yX1_keep wsX1_keep) := goodIn_app (goodIn_of _ (by decide +kernel)) ggX1_until_X1_keep
set_option maxRecDepth 20000 in
theorem ggX1_until_X1_me : GoodIn wsX1_until wsX1_me := goodIn_r _ [15, 6, 52, 53, 54, 55] (by decide +kernel) (by decide +kernel)
set_option maxRecDepth 20000 in
theorem gX1_until_X1_me : GoodIn wsX1_until (wsV RX1 33 RX1 yX1_me wsX1_me) := goodIn_app (goodIn_of _ (by decide +kernel)) ggX1_until_X1_me
set_option maxRecDepth 20000 in
theorem ggX1_until_X1_dayOn : GoodIn wsX1_until wsX1_dayOn := goodIn_r _ [19, 6, 20, 21, 22, 23, 24, 25, 26, 27, 28, 29, 30, 4, 31, 32, 33, 34, 35, 36, 37, 38, 39, 12, 13, 14, 15, 40, 41, 42, 43, 44, 45, 46, 47, 52, 53, 54, 55] (by decide +kernel) (by decide +kernel)
set_option maxRecDepth 20000 in
theorem gX1_until_X1_dayOn : GoodIn wsX1_until (wsV RX1 67 RX1 yX1_dayOn wsX1_dayOn) := goodIn_app (goodIn_of _ (by decide +kernel)) ggX1_until_X1_dayOn
set_option maxRecDepth 20000 in
theorem ggX1_until_X1_bringBack : GoodIn wsX1_until wsX1_bringBack := goodIn_r _ [51, 7, 6, 8, 9, 10, 11, 52, 53, 54, 55] (by decide +kernel) (by decide +kernel)
set_option maxRecDepth 20000 in
theorem gX1_until_X1_bringBack : GoodIn wsX1_until (wsV RX1 108 RX1 yX1_bringBack wsX1_bringBack) := goodIn_app (goodIn_of _ (by decide +kernel)) ggX1_until_X1_bringBack
theorem dX1_until_0 : decode cX1_until 0 = .ok (.aload_n 0, 1) := by decide +kernel
theorem dX1_until_1 : decode cX1_until 1 = .ok (.invokevirtual 105, 3) := by decide +kernel
theorem dX1_until_4 : decode cX1_until 4 = .ok (.iconst 0, 1) := by decide +kernel
theorem dX1_until_5 : decode cX1_until 5 = .ok (.istore_n 3, 1) := by decide +kernel
theorem dX1_until_6 : decode cX1_until 6 = .ok (.iload_n 3, 1) := by decide +kernel
theorem dX1_until_7 : decode cX1_until 7 = .ok (.bipush 60, 2) := by decide +kernel
theorem dX1_until_9 : decode cX1_until 9 = .ok (.if_icmp .gt 23, 3) := by decide +kernel
theorem dX1_until_12 : decode cX1_until 12 = .ok (.aload_n 0, 1) := by decide +kernel
theorem dX1_until_13 : decode cX1_until 13 = .ok (.iload_n 1, 1) := by decide +kernel
theorem dX1_until_14 : decode cX1_until 14 = .ok (.iload_n 2, 1) := by decide +kernel
theorem dX1_until_15 : decode cX1_until 15 = .ok (.invokevirtual 33, 3) := by decide +kernel
theorem dX1_until_18 : decode cX1_until 18 = .ok (.ifCond .le 14, 3) := by decide +kernel
theorem dX1_until_21 : decode cX1_until 21 = .ok (.aload_n 0, 1) := by decide +kernel
theorem dX1_until_22 : decode cX1_until 22 = .ok (.invokevirtual 67, 3) := by decide +kernel
theorem dX1_until_25 : decode cX1_until 25 = .ok (.pop, 1) := by decide +kernel
theorem dX1_until_26 : decode cX1_until 26 = .ok (.iinc 3 1, 3) := by decide +kernel
theorem dX1_until_29 : decode cX1_until 29 = .ok (.goto (-23), 3) := by decide +kernel
theorem dX1_until_32 : decode cX1_until 32 = .ok (.aload_n 0, 1) := by decide +kernel
theorem dX1_until_33 : decode cX1_until 33 = .ok (.invokevirtual 108, 3) := by decide +kernel
theorem dX1_until_36 : decode cX1_until 36 = .ok (.iload_n 3, 1) := by decide +kernel
theorem dX1_until_37 : decode cX1_until 37 = .ok (.bipush 60, 2) := by decide +kernel
theorem dX1_until_39 : decode cX1_until 39 = .ok (.if_icmp .le 7, 3) := by decide +kernel
theorem dX1_until_42 : decode cX1_until 42 = .ok (.iconst (-1), 1) := by decide +kernel
theorem dX1_until_43 : decode cX1_until 43 = .ok (.goto 4, 3) := by decide +kernel
theorem dX1_until_46 : decode cX1_until 46 = .ok (.iload_n 3, 1) := by decide +kernel
theorem dX1_until_47 : decode cX1_until 47 = .ok (.ireturn, 1) := by decide +kernel
set_option maxRecDepth 20000 in
theorem ggX1_daysUntilClear_X1_isMember : GoodIn wsX1_daysUntilClear wsX1_isMember := goodIn_r _ [6, 7, 8, 9, 5, 10, 68, 69, 70, 71] (by decide +kernel) (by decide +kernel)
set_option maxRecDepth 20000 in
theorem gX1_daysUntilClear_X1_isMember : GoodIn wsX1_daysUntilClear (wsV RX1 73 RX1 yX1_isMember wsX1_isMember) := goodIn_app (goodIn_of _ (by decide +kernel)) ggX1_daysUntilClear_X1_isMember
set_option maxRecDepth 20000 in
theorem ggX1_daysUntilClear_X1_until : GoodIn wsX1_daysUntilClear wsX1_until := goodIn_r _ [14, 15, 16, 17, 5, 18, 19, 20, 21, 22, 23, 24, 25, 26, 27, 28, 29, 30, 31, 32, 7, 33, 34, 35, 36, 37, 38, 39, 40, 41, 42, 43, 44, 45, 46, 47, 48, 49, 50, 51, 52, 53, 54, 55, 56, 57, 58, 59, 60, 61, 62, 63, 68, 69, 70, 71] (by decide +kernel) (by decide +kernel)
set_option maxRecDepth 20000 in
theorem gX1_daysUntilClear_X1_until : GoodIn wsX1_daysUntilClear (wsV RX1 111 RX1 yX1_until wsX1_until) := goodIn_app (goodIn_of _ (by decide +kernel)) ggX1_daysUntilClear_X1_until
set_option maxRecDepth 20000 in
theorem ggX1_daysUntilClear_X1_fail : GoodIn wsX1_daysUntilClear wsX1_fail := goodIn_r _ [67, 1, 68, 69, 70, 71] (by decide +kernel) (by decide +kernel)
set_option maxRecDepth 20000 in
theorem gX1_daysUntilClear_X1_fail : GoodIn wsX1_daysUntilClear (wsV RX1 70 RX1 yX1_fail wsX1_fail) := goodIn_app (goodIn_of _ (by decide +kernel)) ggX1_daysUntilClear_X1_fail
theorem dX1_daysUntilClear_0 : decode cX1_daysUntilClear 0 = .ok (.aload_n 0, 1) := by decide +kernel
theorem dX1_daysUntilClear_1 : decode cX1_daysUntilClear 1 = .ok (.iconst 0, 1) := by decide +kernel
theorem dX1_daysUntilClear_2 : decode cX1_daysUntilClear 2 = .ok (.putfield 16, 3) := by decide +kernel
theorem dX1_daysUntilClear_5 : decode cX1_daysUntilClear 5 = .ok (.aload_n 0, 1) := by decide +kernel
theorem dX1_daysUntilClear_6 : decode cX1_daysUntilClear 6 = .ok (.iload_n 1, 1) := by decide +kernel
theorem dX1_daysUntilClear_7 : decode cX1_daysUntilClear 7 = .ok (.invokevirtual 73, 3) := by decide +kernel
theorem dX1_daysUntilClear_10 : decode cX1_daysUntilClear 10 = .ok (.ifCond .eq 12, 3) := by decide +kernel
theorem dX1_daysUntilClear_13 : decode cX1_daysUntilClear 13 = .ok (.aload_n 0, 1) := by decide +kernel
theorem dX1_daysUntilClear_14 : decode cX1_daysUntilClear 14 = .ok (.iload_n 1, 1) := by decide +kernel
theorem dX1_daysUntilClear_15 : decode cX1_daysUntilClear 15 = .ok (.iconst 1, 1) := by decide +kernel
theorem dX1_daysUntilClear_16 : decode cX1_daysUntilClear 16 = .ok (.invokevirtual 111, 3) := by decide +kernel
theorem dX1_daysUntilClear_19 : decode cX1_daysUntilClear 19 = .ok (.goto 8, 3) := by decide +kernel
theorem dX1_daysUntilClear_22 : decode cX1_daysUntilClear 22 = .ok (.aload_n 0, 1) := by decide +kernel
theorem dX1_daysUntilClear_23 : decode cX1_daysUntilClear 23 = .ok (.iconst 1, 1) := by decide +kernel
theorem dX1_daysUntilClear_24 : decode cX1_daysUntilClear 24 = .ok (.invokevirtual 70, 3) := by decide +kernel
theorem dX1_daysUntilClear_27 : decode cX1_daysUntilClear 27 = .ok (.ireturn, 1) := by decide +kernel
set_option maxRecDepth 20000 in
theorem ggX1_daysUntilUnlucky_X1_isMember : GoodIn wsX1_daysUntilUnlucky wsX1_isMember := goodIn_r _ [6, 7, 8, 9, 5, 10, 68, 69, 70, 71] (by decide +kernel) (by decide +kernel)
set_option maxRecDepth 20000 in
theorem gX1_daysUntilUnlucky_X1_isMember : GoodIn wsX1_daysUntilUnlucky (wsV RX1 73 RX1 yX1_isMember wsX1_isMember) := goodIn_app (goodIn_of _ (by decide +kernel)) ggX1_daysUntilUnlucky_X1_isMember
set_option maxRecDepth 20000 in
theorem ggX1_daysUntilUnlucky_X1_until : GoodIn wsX1_daysUntilUnlucky wsX1_until := goodIn_r _ [14, 15, 16, 17, 5, 18, 19, 20, 21, 22, 23, 24, 25, 26, 27, 28, 29, 30, 31, 32, 7, 33, 34, 35, 36, 37, 38, 39, 40, 41, 42, 43, 44, 45, 46, 47, 48, 49, 50, 51, 52, 53, 54, 55, 56, 57, 58, 59, 60, 61, 62, 63, 68, 69, 70, 71] (by decide +kernel) (by decide +kernel)
set_option maxRecDepth 20000 in
theorem gX1_daysUntilUnlucky_X1_until : GoodIn wsX1_daysUntilUnlucky (wsV RX1 111 RX1 yX1_until wsX1_until) := goodIn_app (goodIn_of _ (by decide +kernel)) ggX1_daysUntilUnlucky_X1_until
set_option maxRecDepth 20000 in
theorem ggX1_daysUntilUnlucky_X1_fail : GoodIn wsX1_daysUntilUnlucky wsX1_fail := goodIn_r _ [67, 1, 68, 69, 70, 71] (by decide +kernel) (by decide +kernel)
set_option maxRecDepth 20000 in
theorem gX1_daysUntilUnlucky_X1_fail : GoodIn wsX1_daysUntilUnlucky (wsV RX1 70 RX1 yX1_fail wsX1_fail) := goodIn_app (goodIn_of _ (by decide +kernel)) ggX1_daysUntilUnlucky_X1_fail
theorem dX1_daysUntilUnlucky_0 : decode cX1_daysUntilUnlucky 0 = .ok (.aload_n 0, 1) := by decide +kernel
theorem dX1_daysUntilUnlucky_1 : decode cX1_daysUntilUnlucky 1 = .ok (.iconst 0, 1) := by decide +kernel
theorem dX1_daysUntilUnlucky_2 : decode cX1_daysUntilUnlucky 2 = .ok (.putfield 16, 3) := by decide +kernel
theorem dX1_daysUntilUnlucky_5 : decode cX1_daysUntilUnlucky 5 = .ok (.aload_n 0, 1) := by decide +kernel
theorem dX1_daysUntilUnlucky_6 : decode cX1_daysUntilUnlucky 6 = .ok (.iload_n 1, 1) := by decide +kernel
theorem dX1_daysUntilUnlucky_7 : decode cX1_daysUntilUnlucky 7 = .ok (.invokevirtual 73, 3) := by decide +kernel
theorem dX1_daysUntilUnlucky_10 : decode cX1_daysUntilUnlucky 10 = .ok (.ifCond .eq 12, 3) := by decide +kernel
theorem dX1_daysUntilUnlucky_13 : decode cX1_daysUntilUnlucky 13 = .ok (.aload_n 0, 1) := by decide +kernel
theorem dX1_daysUntilUnlucky_14 : decode cX1_daysUntilUnlucky 14 = .ok (.iload_n 1, 1) := by decide +kernel
theorem dX1_daysUntilUnlucky_15 : decode cX1_daysUntilUnlucky 15 = .ok (.iconst 0, 1) := by decide +kernel
theorem dX1_daysUntilUnlucky_16 : decode cX1_daysUntilUnlucky 16 = .ok (.invokevirtual 111, 3) := by decide +kernel
theorem dX1_daysUntilUnlucky_19 : decode cX1_daysUntilUnlucky 19 = .ok (.goto 8, 3) := by decide +kernel
theorem dX1_daysUntilUnlucky_22 : decode cX1_daysUntilUnlucky 22 = .ok (.aload_n 0, 1) := by decide +kernel
theorem dX1_daysUntilUnlucky_23 : decode cX1_daysUntilUnlucky 23 = .ok (.iconst 1, 1) := by decide +kernel
theorem dX1_daysUntilUnlucky_24 : decode cX1_daysUntilUnlucky 24 = .ok (.invokevirtual 70, 3) := by decide +kernel
theorem dX1_daysUntilUnlucky_27 : decode cX1_daysUntilUnlucky 27 = .ok (.ireturn, 1) := by decide +kernel
set_option maxRecDepth 20000 in
theorem ggX1_pinch_X1_keep : GoodIn wsX1_pinch wsX1_keep := goodIn_r _ [10, 1, 11, 12, 13, 14, 15, 64, 65, 66, 67] (by decide +kernel) (by decide +kernel)
set_option maxRecDepth 20000 in
theorem gX1_pinch_X1_keep : GoodIn wsX1_pinch (wsV RX1 105 RX1 yX1_keep wsX1_keep) := goodIn_app (goodIn_of _ (by decide +kernel)) ggX1_pinch_X1_keep
set_option maxRecDepth 20000 in
theorem ggX1_pinch_X1_cast : GoodIn wsX1_pinch wsX1_cast := goodIn_r _ [19, 20, 21, 4, 22, 1, 23, 24, 25, 9, 26, 27, 28, 29, 30, 31, 32, 33, 34, 64, 65, 66, 67] (by decide +kernel) (by decide +kernel)
set_option maxRecDepth 20000 in
theorem gX1_pinch_X1_cast : GoodIn wsX1_pinch (wsV RX1 77 RX1 yX1_cast wsX1_cast) := goodIn_app (goodIn_of _ (by decide +kernel)) ggX1_pinch_X1_cast
set_option maxRecDepth 20000 in
theorem ggX1_pinch_X1_daysOn : GoodIn wsX1_pinch wsX1_daysOn := goodIn_r _ [38, 39, 40, 41, 9, 42, 1, 43, 20, 21, 4, 22, 2, 3, 5, 44, 45, 46, 47, 48, 49, 50, 51, 52, 53, 54, 55, 23, 24, 25, 26, 27, 28, 29, 30, 56, 57, 58, 59, 64, 65, 66, 67] (by decide +kernel) (by decide +kernel)
set_option maxRecDepth 20000 in
theorem gX1_pinch_X1_daysOn : GoodIn wsX1_pinch (wsV RX1 84 RX1 yX1_daysOn wsX1_daysOn) := goodIn_app (goodIn_of _ (by decide +kernel)) ggX1_pinch_X1_daysOn
set_option maxRecDepth 20000 in
theorem ggX1_pinch_X1_me : GoodIn wsX1_pinch wsX1_me := goodIn_r _ [26, 1, 64, 65, 66, 67] (by decide +kernel) (by decide +kernel)
set_option maxRecDepth 20000 in
theorem gX1_pinch_X1_me : GoodIn wsX1_pinch (wsV RX1 33 RX1 yX1_me wsX1_me) := goodIn_app (goodIn_of _ (by decide +kernel)) ggX1_pinch_X1_me
set_option maxRecDepth 20000 in
theorem ggX1_pinch_X1_bringBack : GoodIn wsX1_pinch wsX1_bringBack := goodIn_r _ [63, 11, 1, 12, 13, 14, 15, 64, 65, 66, 67] (by decide +kernel) (by decide +kernel)
set_option maxRecDepth 20000 in
theorem gX1_pinch_X1_bringBack : GoodIn wsX1_pinch (wsV RX1 108 RX1 yX1_bringBack wsX1_bringBack) := goodIn_app (goodIn_of _ (by decide +kernel)) ggX1_pinch_X1_bringBack
theorem dX1_pinch_0 : decode cX1_pinch 0 = .ok (.aload_n 0, 1) := by decide +kernel
theorem dX1_pinch_1 : decode cX1_pinch 1 = .ok (.getfield 9, 3) := by decide +kernel
theorem dX1_pinch_4 : decode cX1_pinch 4 = .ok (.iconst 3, 1) := by decide +kernel
theorem dX1_pinch_5 : decode cX1_pinch 5 = .ok (.iaload, 1) := by decide +kernel
theorem dX1_pinch_6 : decode cX1_pinch 6 = .ok (.bipush 30, 2) := by decide +kernel
theorem dX1_pinch_8 : decode cX1_pinch 8 = .ok (.if_icmp .ne 5, 3) := by decide +kernel
theorem dX1_pinch_11 : decode cX1_pinch 11 = .ok (.iconst 0, 1) := by decide +kernel
theorem dX1_pinch_12 : decode cX1_pinch 12 = .ok (.ireturn, 1) := by decide +kernel
theorem dX1_pinch_13 : decode cX1_pinch 13 = .ok (.iconst 0, 1) := by decide +kernel
theorem dX1_pinch_14 : decode cX1_pinch 14 = .ok (.istore_n 2, 1) := by decide +kernel
theorem dX1_pinch_15 : decode cX1_pinch 15 = .ok (.iconst (-1), 1) := by decide +kernel
theorem dX1_pinch_16 : decode cX1_pinch 16 = .ok (.istore_n 3, 1) := by decide +kernel
theorem dX1_pinch_17 : decode cX1_pinch 17 = .ok (.bipush 9, 2) := by decide +kernel
theorem dX1_pinch_19 : decode cX1_pinch 19 = .ok (.aload_n 0, 1) := by decide +kernel
theorem dX1_pinch_20 : decode cX1_pinch 20 = .ok (.getfield 9, 3) := by decide +kernel
theorem dX1_pinch_23 : decode cX1_pinch 23 = .ok (.iconst 1, 1) := by decide +kernel
theorem dX1_pinch_24 : decode cX1_pinch 24 = .ok (.iaload, 1) := by decide +kernel
theorem dX1_pinch_25 : decode cX1_pinch 25 = .ok (.invokestatic 57, 3) := by decide +kernel
theorem dX1_pinch_28 : decode cX1_pinch 28 = .ok (.istore 4, 2) := by decide +kernel
theorem dX1_pinch_30 : decode cX1_pinch 30 = .ok (.aload_n 0, 1) := by decide +kernel
theorem dX1_pinch_31 : decode cX1_pinch 31 = .ok (.invokevirtual 105, 3) := by decide +kernel
theorem dX1_pinch_34 : decode cX1_pinch 34 = .ok (.iconst 0, 1) := by decide +kernel
theorem dX1_pinch_35 : decode cX1_pinch 35 = .ok (.istore 5, 2) := by decide +kernel
theorem dX1_pinch_37 : decode cX1_pinch 37 = .ok (.iload 5, 2) := by decide +kernel
theorem dX1_pinch_39 : decode cX1_pinch 39 = .ok (.iload 4, 2) := by decide +kernel
theorem dX1_pinch_41 : decode cX1_pinch 41 = .ok (.if_icmp .gt 57, 3) := by decide +kernel
theorem dX1_pinch_44 : decode cX1_pinch 44 = .ok (.iload 5, 2) := by decide +kernel
theorem dX1_pinch_46 : decode cX1_pinch 46 = .ok (.ifCond .le 12, 3) := by decide +kernel
theorem dX1_pinch_49 : decode cX1_pinch 49 = .ok (.aload_n 0, 1) := by decide +kernel
theorem dX1_pinch_50 : decode cX1_pinch 50 = .ok (.iload_n 1, 1) := by decide +kernel
theorem dX1_pinch_51 : decode cX1_pinch 51 = .ok (.iconst 1, 1) := by decide +kernel
theorem dX1_pinch_52 : decode cX1_pinch 52 = .ok (.iload 5, 2) := by decide +kernel
theorem dX1_pinch_54 : decode cX1_pinch 54 = .ok (.invokevirtual 77, 3) := by decide +kernel
theorem dX1_pinch_57 : decode cX1_pinch 57 = .ok (.pop, 1) := by decide +kernel
theorem dX1_pinch_58 : decode cX1_pinch 58 = .ok (.aload_n 0, 1) := by decide +kernel
theorem dX1_pinch_59 : decode cX1_pinch 59 = .ok (.bipush 14, 2) := by decide +kernel
theorem dX1_pinch_61 : decode cX1_pinch 61 = .ok (.invokevirtual 84, 3) := by decide +kernel
theorem dX1_pinch_64 : decode cX1_pinch 64 = .ok (.pop, 1) := by decide +kernel
theorem dX1_pinch_65 : decode cX1_pinch 65 = .ok (.aload_n 0, 1) := by decide +kernel
theorem dX1_pinch_66 : decode cX1_pinch 66 = .ok (.iload_n 1, 1) := by decide +kernel
theorem dX1_pinch_67 : decode cX1_pinch 67 = .ok (.iconst 0, 1) := by decide +kernel
theorem dX1_pinch_68 : decode cX1_pinch 68 = .ok (.invokevirtual 33, 3) := by decide +kernel
theorem dX1_pinch_71 : decode cX1_pinch 71 = .ok (.istore 6, 2) := by decide +kernel
theorem dX1_pinch_73 : decode cX1_pinch 73 = .ok (.aload_n 0, 1) := by decide +kernel
theorem dX1_pinch_74 : decode cX1_pinch 74 = .ok (.invokevirtual 108, 3) := by decide +kernel
theorem dX1_pinch_77 : decode cX1_pinch 77 = .ok (.iload 6, 2) := by decide +kernel
theorem dX1_pinch_79 : decode cX1_pinch 79 = .ok (.iload_n 3, 1) := by decide +kernel
theorem dX1_pinch_80 : decode cX1_pinch 80 = .ok (.if_icmp .gt 6, 3) := by decide +kernel
theorem dX1_pinch_83 : decode cX1_pinch 83 = .ok (.goto 9, 3) := by decide +kernel
theorem dX1_pinch_86 : decode cX1_pinch 86 = .ok (.iload 5, 2) := by decide +kernel
theorem dX1_pinch_88 : decode cX1_pinch 88 = .ok (.istore_n 2, 1) := by decide +kernel
theorem dX1_pinch_89 : decode cX1_pinch 89 = .ok (.iload 6, 2) := by decide +kernel
theorem dX1_pinch_91 : decode cX1_pinch 91 = .ok (.istore_n 3, 1) := by decide +kernel
theorem dX1_pinch_92 : decode cX1_pinch 92 = .ok (.iinc 5 1, 3) := by decide +kernel
theorem dX1_pinch_95 : decode cX1_pinch 95 = .ok (.goto (-58), 3) := by decide +kernel
theorem dX1_pinch_98 : decode cX1_pinch 98 = .ok (.iload_n 2, 1) := by decide +kernel
theorem dX1_pinch_99 : decode cX1_pinch 99 = .ok (.ireturn, 1) := by decide +kernel
set_option maxRecDepth 20000 in
theorem ggX1_penance_X1_keep : GoodIn wsX1_penance wsX1_keep := goodIn_r _ [9, 10, 11, 12, 13, 14, 15, 56, 57, 58, 59] (by decide +kernel) (by decide +kernel)
set_option maxRecDepth 20000 in
theorem gX1_penance_X1_keep : GoodIn wsX1_penance (wsV RX1 105 RX1 yX1_keep wsX1_keep) := goodIn_app (goodIn_of _ (by decide +kernel)) ggX1_penance_X1_keep
set_option maxRecDepth 20000 in
theorem ggX1_penance_X1_me : GoodIn wsX1_penance wsX1_me := goodIn_r _ [19, 10, 56, 57, 58, 59] (by decide +kernel) (by decide +kernel)
set_option maxRecDepth 20000 in
theorem gX1_penance_X1_me : GoodIn wsX1_penance (wsV RX1 33 RX1 yX1_me wsX1_me) := goodIn_app (goodIn_of _ (by decide +kernel)) ggX1_penance_X1_me
set_option maxRecDepth 20000 in
theorem ggX1_penance_X1_let : GoodIn wsX1_penance wsX1_let := goodIn_r _ [23, 10, 56, 57, 58, 59] (by decide +kernel) (by decide +kernel)
