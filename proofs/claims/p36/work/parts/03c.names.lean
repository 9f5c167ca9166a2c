theorem dX0_init_0 : decode cX0_init 0 = .ok (.aload_n 0, 1) := by decide +kernel
theorem dX0_init_1 : decode cX0_init 1 = .ok (.invokespecial 3, 3) := by decide +kernel
theorem dX0_init_4 : decode cX0_init 4 = .ok (.aload_n 0, 1) := by decide +kernel
theorem dX0_init_5 : decode cX0_init 5 = .ok (.bipush 9, 2) := by decide +kernel
theorem dX0_init_7 : decode cX0_init 7 = .ok (.newarray .int, 2) := by decide +kernel
theorem dX0_init_9 : decode cX0_init 9 = .ok (.putfield 9, 3) := by decide +kernel
theorem dX0_init_12 : decode cX0_init 12 = .ok (.aload_n 0, 1) := by decide +kernel
theorem dX0_init_13 : decode cX0_init 13 = .ok (.bipush 9, 2) := by decide +kernel
theorem dX0_init_15 : decode cX0_init 15 = .ok (.newarray .int, 2) := by decide +kernel
theorem dX0_init_17 : decode cX0_init 17 = .ok (.putfield 13, 3) := by decide +kernel
theorem dX0_init_20 : decode cX0_init 20 = .ok (.aload_n 0, 1) := by decide +kernel
theorem dX0_init_21 : decode cX0_init 21 = .ok (.bipush 9, 2) := by decide +kernel
theorem dX0_init_23 : decode cX0_init 23 = .ok (.newarray .int, 2) := by decide +kernel
theorem dX0_init_25 : decode cX0_init 25 = .ok (.putfield 16, 3) := by decide +kernel
theorem dX0_init_28 : decode cX0_init 28 = .ok (.aload_n 0, 1) := by decide +kernel
theorem dX0_init_29 : decode cX0_init 29 = .ok (.bipush 30, 2) := by decide +kernel
theorem dX0_init_31 : decode cX0_init 31 = .ok (.newarray .int, 2) := by decide +kernel
theorem dX0_init_33 : decode cX0_init 33 = .ok (.putfield 19, 3) := by decide +kernel
theorem dX0_init_36 : decode cX0_init 36 = .ok (.aload_n 0, 1) := by decide +kernel
theorem dX0_init_37 : decode cX0_init 37 = .ok (.bipush 30, 2) := by decide +kernel
theorem dX0_init_39 : decode cX0_init 39 = .ok (.newarray .boolean, 2) := by decide +kernel
theorem dX0_init_41 : decode cX0_init 41 = .ok (.putfield 22, 3) := by decide +kernel
theorem dX0_init_44 : decode cX0_init 44 = .ok (.aload_n 0, 1) := by decide +kernel
theorem dX0_init_45 : decode cX0_init 45 = .ok (.bipush 30, 2) := by decide +kernel
theorem dX0_init_47 : decode cX0_init 47 = .ok (.newarray .int, 2) := by decide +kernel
theorem dX0_init_49 : decode cX0_init 49 = .ok (.putfield 26, 3) := by decide +kernel
theorem dX0_init_52 : decode cX0_init 52 = .ok (.aload_n 0, 1) := by decide +kernel
theorem dX0_init_53 : decode cX0_init 53 = .ok (.bipush 30, 2) := by decide +kernel
theorem dX0_init_55 : decode cX0_init 55 = .ok (.newarray .int, 2) := by decide +kernel
theorem dX0_init_57 : decode cX0_init 57 = .ok (.putfield 29, 3) := by decide +kernel
theorem dX0_init_60 : decode cX0_init 60 = .ok (.aload_n 0, 1) := by decide +kernel
theorem dX0_init_61 : decode cX0_init 61 = .ok (.iconst 0, 1) := by decide +kernel
theorem dX0_init_62 : decode cX0_init 62 = .ok (.putfield 32, 3) := by decide +kernel
theorem dX0_init_65 : decode cX0_init 65 = .ok (.aload_n 0, 1) := by decide +kernel
theorem dX0_init_66 : decode cX0_init 66 = .ok (.iconst 0, 1) := by decide +kernel
theorem dX0_init_67 : decode cX0_init 67 = .ok (.putfield 36, 3) := by decide +kernel
theorem dX0_init_70 : decode cX0_init 70 = .ok (.aload_n 0, 1) := by decide +kernel
theorem dX0_init_71 : decode cX0_init 71 = .ok (.bipush 100, 2) := by decide +kernel
theorem dX0_init_73 : decode cX0_init 73 = .ok (.putfield 39, 3) := by decide +kernel
theorem dX0_init_76 : decode cX0_init 76 = .ok (.aload_n 0, 1) := by decide +kernel
theorem dX0_init_77 : decode cX0_init 77 = .ok (.iconst 0, 1) := by decide +kernel
theorem dX0_init_78 : decode cX0_init 78 = .ok (.putfield 42, 3) := by decide +kernel
theorem dX0_init_81 : decode cX0_init 81 = .ok (.aload_n 0, 1) := by decide +kernel
theorem dX0_init_82 : decode cX0_init 82 = .ok (.iconst 0, 1) := by decide +kernel
theorem dX0_init_83 : decode cX0_init 83 = .ok (.putfield 45, 3) := by decide +kernel
theorem dX0_init_86 : decode cX0_init 86 = .ok (.return_, 1) := by decide +kernel
theorem dX0_join_0 : decode cX0_join 0 = .ok (.aload_n 0, 1) := by decide +kernel
theorem dX0_join_1 : decode cX0_join 1 = .ok (.getfield 32, 3) := by decide +kernel
theorem dX0_join_4 : decode cX0_join 4 = .ok (.bipush 8, 2) := by decide +kernel
theorem dX0_join_6 : decode cX0_join 6 = .ok (.if_icmp .lt 13, 3) := by decide +kernel
theorem dX0_join_9 : decode cX0_join 9 = .ok (.new 48, 3) := by decide +kernel
theorem dX0_join_12 : decode cX0_join 12 = .ok (.dup, 1) := by decide +kernel
theorem dX0_join_13 : decode cX0_join 13 = .ok (.ldc 50, 2) := by decide +kernel
theorem dX0_join_15 : decode cX0_join 15 = .ok (.invokespecial 52, 3) := by decide +kernel
theorem dX0_join_18 : decode cX0_join 18 = .ok (.athrow, 1) := by decide +kernel
theorem dX0_join_19 : decode cX0_join 19 = .ok (.aload_n 0, 1) := by decide +kernel
theorem dX0_join_20 : decode cX0_join 20 = .ok (.getfield 32, 3) := by decide +kernel
theorem dX0_join_23 : decode cX0_join 23 = .ok (.istore_n 1, 1) := by decide +kernel
theorem dX0_join_24 : decode cX0_join 24 = .ok (.aload_n 0, 1) := by decide +kernel
theorem dX0_join_25 : decode cX0_join 25 = .ok (.getfield 9, 3) := by decide +kernel
theorem dX0_join_28 : decode cX0_join 28 = .ok (.iload_n 1, 1) := by decide +kernel
theorem dX0_join_29 : decode cX0_join 29 = .ok (.bipush 50, 2) := by decide +kernel
theorem dX0_join_31 : decode cX0_join 31 = .ok (.iastore, 1) := by decide +kernel
theorem dX0_join_32 : decode cX0_join 32 = .ok (.aload_n 0, 1) := by decide +kernel
theorem dX0_join_33 : decode cX0_join 33 = .ok (.getfield 13, 3) := by decide +kernel
theorem dX0_join_36 : decode cX0_join 36 = .ok (.iload_n 1, 1) := by decide +kernel
theorem dX0_join_37 : decode cX0_join 37 = .ok (.iconst 0, 1) := by decide +kernel
theorem dX0_join_38 : decode cX0_join 38 = .ok (.iastore, 1) := by decide +kernel
theorem dX0_join_39 : decode cX0_join 39 = .ok (.aload_n 0, 1) := by decide +kernel
theorem dX0_join_40 : decode cX0_join 40 = .ok (.getfield 16, 3) := by decide +kernel
theorem dX0_join_43 : decode cX0_join 43 = .ok (.iload_n 1, 1) := by decide +kernel
theorem dX0_join_44 : decode cX0_join 44 = .ok (.iconst 0, 1) := by decide +kernel
theorem dX0_join_45 : decode cX0_join 45 = .ok (.iastore, 1) := by decide +kernel
theorem dX0_join_46 : decode cX0_join 46 = .ok (.aload_n 0, 1) := by decide +kernel
theorem dX0_join_47 : decode cX0_join 47 = .ok (.dup, 1) := by decide +kernel
theorem dX0_join_48 : decode cX0_join 48 = .ok (.getfield 32, 3) := by decide +kernel
theorem dX0_join_51 : decode cX0_join 51 = .ok (.iconst 1, 1) := by decide +kernel
theorem dX0_join_52 : decode cX0_join 52 = .ok (.iadd, 1) := by decide +kernel
theorem dX0_join_53 : decode cX0_join 53 = .ok (.putfield 32, 3) := by decide +kernel
theorem dX0_join_56 : decode cX0_join 56 = .ok (.iload_n 1, 1) := by decide +kernel
theorem dX0_join_57 : decode cX0_join 57 = .ok (.ireturn, 1) := by decide +kernel
set_option maxRecDepth 20000 in
theorem ggX0_spill_X0_checkMember : GoodIn wsX0_spill wsX0_checkMember := goodIn_ca (goodIn_r _ [7, 8, 9, 10, 30, 31, 32, 33, 34, 35, 36, 37, 38, 39, 40, 41, 42, 43] (by decide +kernel) (by decide +kernel)) (goodIn_sub (fun _ h => List.mem_cons_of_mem _ (List.mem_append_left _ (List.mem_append_left _ (List.mem_append_right _ h)))) (by decide +kernel))
set_option maxRecDepth 20000 in
theorem gX0_spill_X0_checkMember : GoodIn wsX0_spill (wsV RX0 55 RX0 yX0_checkMember wsX0_checkMember) := goodIn_app (goodIn_of _ (by decide +kernel)) ggX0_spill_X0_checkMember
set_option maxRecDepth 20000 in
theorem ggX0_spill_X0_checkAmount : GoodIn wsX0_spill wsX0_checkAmount := goodIn_ca (goodIn_r _ [13, 14, 15] (by decide +kernel) (by decide +kernel)) (goodIn_sub (fun _ h => List.mem_cons_of_mem _ (List.mem_append_left _ (List.mem_append_right _ h))) (by decide +kernel))
set_option maxRecDepth 20000 in
theorem gX0_spill_X0_checkAmount : GoodIn wsX0_spill (va_wsS RX0 59 yX0_checkAmount wsX0_checkAmount) := goodIn_app (goodIn_of _ (by decide +kernel)) ggX0_spill_X0_checkAmount
set_option maxRecDepth 20000 in
theorem ggX0_spill_X0_checkCellar : GoodIn wsX0_spill wsX0_checkCellar := goodIn_ca (goodIn_r _ [19, 20, 21, 1, 30, 31, 32, 33, 34, 35, 36, 37, 38, 39, 40, 41, 42, 43] (by decide +kernel) (by decide +kernel)) (goodIn_sub (fun _ h => List.mem_cons_of_mem _ (List.mem_append_right _ h)) (by decide +kernel))
set_option maxRecDepth 20000 in
theorem gX0_spill_X0_checkCellar : GoodIn wsX0_spill (wsV RX0 63 RX0 yX0_checkCellar wsX0_checkCellar) := goodIn_app (goodIn_of _ (by decide +kernel)) ggX0_spill_X0_checkCellar
set_option maxRecDepth 20000 in
theorem ggX0_spill_X0_addArrears : GoodIn wsX0_spill wsX0_addArrears := goodIn_r _ [25, 2, 26, 27, 28, 29, 30, 31, 32, 33, 34, 35, 36, 37, 38, 39, 40, 41, 42, 43] (by decide +kernel) (by decide +kernel)
set_option maxRecDepth 20000 in
theorem gX0_spill_X0_addArrears : GoodIn wsX0_spill (wsV RX0 66 RX0 yX0_addArrears wsX0_addArrears) := goodIn_app (goodIn_of _ (by decide +kernel)) ggX0_spill_X0_addArrears
theorem dX0_spill_0 : decode cX0_spill 0 = .ok (.aload_n 0, 1) := by decide +kernel
theorem dX0_spill_1 : decode cX0_spill 1 = .ok (.iload_n 1, 1) := by decide +kernel
theorem dX0_spill_2 : decode cX0_spill 2 = .ok (.invokevirtual 55, 3) := by decide +kernel
theorem dX0_spill_5 : decode cX0_spill 5 = .ok (.iload_n 2, 1) := by decide +kernel
theorem dX0_spill_6 : decode cX0_spill 6 = .ok (.bipush 30, 2) := by decide +kernel
theorem dX0_spill_8 : decode cX0_spill 8 = .ok (.invokestatic 59, 3) := by decide +kernel
theorem dX0_spill_11 : decode cX0_spill 11 = .ok (.aload_n 0, 1) := by decide +kernel
theorem dX0_spill_12 : decode cX0_spill 12 = .ok (.iload_n 2, 1) := by decide +kernel
theorem dX0_spill_13 : decode cX0_spill 13 = .ok (.invokevirtual 63, 3) := by decide +kernel
theorem dX0_spill_16 : decode cX0_spill 16 = .ok (.aload_n 0, 1) := by decide +kernel
theorem dX0_spill_17 : decode cX0_spill 17 = .ok (.dup, 1) := by decide +kernel
theorem dX0_spill_18 : decode cX0_spill 18 = .ok (.getfield 39, 3) := by decide +kernel
theorem dX0_spill_21 : decode cX0_spill 21 = .ok (.iload_n 2, 1) := by decide +kernel
theorem dX0_spill_22 : decode cX0_spill 22 = .ok (.isub, 1) := by decide +kernel
theorem dX0_spill_23 : decode cX0_spill 23 = .ok (.putfield 39, 3) := by decide +kernel
theorem dX0_spill_26 : decode cX0_spill 26 = .ok (.aload_n 0, 1) := by decide +kernel
theorem dX0_spill_27 : decode cX0_spill 27 = .ok (.iload_n 1, 1) := by decide +kernel
theorem dX0_spill_28 : decode cX0_spill 28 = .ok (.iload_n 2, 1) := by decide +kernel
theorem dX0_spill_29 : decode cX0_spill 29 = .ok (.invokevirtual 66, 3) := by decide +kernel
theorem dX0_spill_32 : decode cX0_spill 32 = .ok (.aload_n 0, 1) := by decide +kernel
theorem dX0_spill_33 : decode cX0_spill 33 = .ok (.getfield 13, 3) := by decide +kernel
theorem dX0_spill_36 : decode cX0_spill 36 = .ok (.iload_n 1, 1) := by decide +kernel
theorem dX0_spill_37 : decode cX0_spill 37 = .ok (.iaload, 1) := by decide +kernel
theorem dX0_spill_38 : decode cX0_spill 38 = .ok (.ireturn, 1) := by decide +kernel
set_option maxRecDepth 20000 in
theorem ggX0_throwSalt_X0_checkMember : GoodIn wsX0_throwSalt wsX0_checkMember := goodIn_ca (goodIn_r _ [6, 7, 8, 9, 50, 51, 52, 53, 54, 55, 56, 57, 58, 59, 60, 61, 62, 63] (by decide +kernel) (by decide +kernel)) (goodIn_sub (fun _ h => List.mem_cons_of_mem _ (List.mem_append_left _ (List.mem_append_left _ (List.mem_append_right _ h)))) (by decide +kernel))
set_option maxRecDepth 20000 in
theorem gX0_throwSalt_X0_checkMember : GoodIn wsX0_throwSalt (wsV RX0 55 RX0 yX0_checkMember wsX0_checkMember) := goodIn_app (goodIn_of _ (by decide +kernel)) ggX0_throwSalt_X0_checkMember
set_option maxRecDepth 20000 in
theorem ggX0_throwSalt_X0_checkShoulder : GoodIn wsX0_throwSalt wsX0_checkShoulder := goodIn_ca (goodIn_r _ [12, 7, 8] (by decide +kernel) (by decide +kernel)) (goodIn_sub (fun _ h => List.mem_cons_of_mem _ (List.mem_append_left _ (List.mem_append_left _ (List.mem_append_right _ h)))) (by decide +kernel))
set_option maxRecDepth 20000 in
theorem gX0_throwSalt_X0_checkShoulder : GoodIn wsX0_throwSalt (va_wsS RX0 69 yX0_checkShoulder wsX0_checkShoulder) := goodIn_app (goodIn_of _ (by decide +kernel)) ggX0_throwSalt_X0_checkShoulder
set_option maxRecDepth 20000 in
theorem ggX0_throwSalt_X0_checkAmount : GoodIn wsX0_throwSalt wsX0_checkAmount := goodIn_ca (goodIn_r _ [15, 16, 17] (by decide +kernel) (by decide +kernel)) (goodIn_sub (fun _ h => List.mem_cons_of_mem _ (List.mem_append_left _ (List.mem_append_right _ h))) (by decide +kernel))
set_option maxRecDepth 20000 in
theorem gX0_throwSalt_X0_checkAmount : GoodIn wsX0_throwSalt (va_wsS RX0 59 yX0_checkAmount wsX0_checkAmount) := goodIn_app (goodIn_of _ (by decide +kernel)) ggX0_throwSalt_X0_checkAmount
set_option maxRecDepth 20000 in
theorem ggX0_throwSalt_X0_checkCellar : GoodIn wsX0_throwSalt wsX0_checkCellar := goodIn_ca (goodIn_r _ [21, 22, 23, 1, 50, 51, 52, 53, 54, 55, 56, 57, 58, 59, 60, 61, 62, 63] (by decide +kernel) (by decide +kernel)) (goodIn_sub (fun _ h => List.mem_cons_of_mem _ (List.mem_append_right _ h)) (by decide +kernel))
set_option maxRecDepth 20000 in
theorem gX0_throwSalt_X0_checkCellar : GoodIn wsX0_throwSalt (wsV RX0 63 RX0 yX0_checkCellar wsX0_checkCellar) := goodIn_app (goodIn_of _ (by decide +kernel)) ggX0_throwSalt_X0_checkCellar
set_option maxRecDepth 20000 in
theorem ggX0_throwSalt_X0_checkLedgerHasRoom : GoodIn wsX0_throwSalt wsX0_checkLedgerHasRoom := goodIn_ca (goodIn_r _ [27, 22, 23, 28, 50, 51, 52, 53, 54, 55, 56, 57, 58, 59, 60, 61, 62, 63] (by decide +kernel) (by decide +kernel)) (goodIn_sub (fun _ h => List.mem_cons_of_mem _ (List.mem_append_right _ h)) (by decide +kernel))
set_option maxRecDepth 20000 in
theorem gX0_throwSalt_X0_checkLedgerHasRoom : GoodIn wsX0_throwSalt (wsV RX0 72 RX0 yX0_checkLedgerHasRoom wsX0_checkLedgerHasRoom) := goodIn_app (goodIn_of _ (by decide +kernel)) ggX0_throwSalt_X0_checkLedgerHasRoom
set_option maxRecDepth 20000 in
theorem ggX0_throwSalt_X0_leftExcess : GoodIn wsX0_throwSalt wsX0_leftExcess := goodIn_r _ [32, 33, 34, 35, 36, 37, 50, 51, 52, 53, 54, 55, 56, 57, 58, 59, 60, 61, 62, 63] (by decide +kernel) (by decide +kernel)
set_option maxRecDepth 20000 in
theorem gX0_throwSalt_X0_leftExcess : GoodIn wsX0_throwSalt (wsV RX0 75 RX0 yX0_leftExcess wsX0_leftExcess) := goodIn_app (goodIn_of _ (by decide +kernel)) ggX0_throwSalt_X0_leftExcess
set_option maxRecDepth 20000 in
theorem ggX0_throwSalt_X0_lessenArrears : GoodIn wsX0_throwSalt wsX0_lessenArrears := goodIn_r _ [41, 33, 34, 35, 36, 37, 50, 51, 52, 53, 54, 55, 56, 57, 58, 59, 60, 61, 62, 63] (by decide +kernel) (by decide +kernel)
set_option maxRecDepth 20000 in
theorem gX0_throwSalt_X0_lessenArrears : GoodIn wsX0_throwSalt (wsV RX0 79 RX0 yX0_lessenArrears wsX0_lessenArrears) := goodIn_app (goodIn_of _ (by decide +kernel)) ggX0_throwSalt_X0_lessenArrears
set_option maxRecDepth 20000 in
theorem ggX0_throwSalt_X0_writeThrow : GoodIn wsX0_throwSalt wsX0_writeThrow := goodIn_r _ [45, 46, 28, 47, 48, 49, 50, 51, 52, 53, 54, 55, 56, 57, 58, 59, 60, 61, 62, 63] (by decide +kernel) (by decide +kernel)
set_option maxRecDepth 20000 in
theorem gX0_throwSalt_X0_writeThrow : GoodIn wsX0_throwSalt (wsV RX0 82 RX0 yX0_writeThrow wsX0_writeThrow) := goodIn_app (goodIn_of _ (by decide +kernel)) ggX0_throwSalt_X0_writeThrow
theorem dX0_throwSalt_0 : decode cX0_throwSalt 0 = .ok (.aload_n 0, 1) := by decide +kernel
theorem dX0_throwSalt_1 : decode cX0_throwSalt 1 = .ok (.iload_n 1, 1) := by decide +kernel
theorem dX0_throwSalt_2 : decode cX0_throwSalt 2 = .ok (.invokevirtual 55, 3) := by decide +kernel
theorem dX0_throwSalt_5 : decode cX0_throwSalt 5 = .ok (.iload_n 2, 1) := by decide +kernel
theorem dX0_throwSalt_6 : decode cX0_throwSalt 6 = .ok (.invokestatic 69, 3) := by decide +kernel
theorem dX0_throwSalt_9 : decode cX0_throwSalt 9 = .ok (.iload_n 3, 1) := by decide +kernel
theorem dX0_throwSalt_10 : decode cX0_throwSalt 10 = .ok (.bipush 9, 2) := by decide +kernel
theorem dX0_throwSalt_12 : decode cX0_throwSalt 12 = .ok (.invokestatic 59, 3) := by decide +kernel
theorem dX0_throwSalt_15 : decode cX0_throwSalt 15 = .ok (.aload_n 0, 1) := by decide +kernel
theorem dX0_throwSalt_16 : decode cX0_throwSalt 16 = .ok (.iload_n 3, 1) := by decide +kernel
theorem dX0_throwSalt_17 : decode cX0_throwSalt 17 = .ok (.invokevirtual 63, 3) := by decide +kernel
theorem dX0_throwSalt_20 : decode cX0_throwSalt 20 = .ok (.aload_n 0, 1) := by decide +kernel
theorem dX0_throwSalt_21 : decode cX0_throwSalt 21 = .ok (.invokevirtual 72, 3) := by decide +kernel
theorem dX0_throwSalt_24 : decode cX0_throwSalt 24 = .ok (.iload_n 2, 1) := by decide +kernel
theorem dX0_throwSalt_25 : decode cX0_throwSalt 25 = .ok (.ifCond .ne 7, 3) := by decide +kernel
theorem dX0_throwSalt_28 : decode cX0_throwSalt 28 = .ok (.iconst 1, 1) := by decide +kernel
theorem dX0_throwSalt_29 : decode cX0_throwSalt 29 = .ok (.goto 4, 3) := by decide +kernel
theorem dX0_throwSalt_32 : decode cX0_throwSalt 32 = .ok (.iconst 0, 1) := by decide +kernel
theorem dX0_throwSalt_33 : decode cX0_throwSalt 33 = .ok (.istore 4, 2) := by decide +kernel
theorem dX0_throwSalt_35 : decode cX0_throwSalt 35 = .ok (.iload 4, 2) := by decide +kernel
theorem dX0_throwSalt_37 : decode cX0_throwSalt 37 = .ok (.ifCond .eq 12, 3) := by decide +kernel
theorem dX0_throwSalt_40 : decode cX0_throwSalt 40 = .ok (.aload_n 0, 1) := by decide +kernel
theorem dX0_throwSalt_41 : decode cX0_throwSalt 41 = .ok (.iload_n 1, 1) := by decide +kernel
theorem dX0_throwSalt_42 : decode cX0_throwSalt 42 = .ok (.iload_n 3, 1) := by decide +kernel
theorem dX0_throwSalt_43 : decode cX0_throwSalt 43 = .ok (.invokevirtual 75, 3) := by decide +kernel
theorem dX0_throwSalt_46 : decode cX0_throwSalt 46 = .ok (.goto 4, 3) := by decide +kernel
theorem dX0_throwSalt_49 : decode cX0_throwSalt 49 = .ok (.iload_n 3, 1) := by decide +kernel
theorem dX0_throwSalt_50 : decode cX0_throwSalt 50 = .ok (.istore 5, 2) := by decide +kernel
theorem dX0_throwSalt_52 : decode cX0_throwSalt 52 = .ok (.iload 4, 2) := by decide +kernel
theorem dX0_throwSalt_54 : decode cX0_throwSalt 54 = .ok (.ifCond .eq 9, 3) := by decide +kernel
theorem dX0_throwSalt_57 : decode cX0_throwSalt 57 = .ok (.aload_n 0, 1) := by decide +kernel
theorem dX0_throwSalt_58 : decode cX0_throwSalt 58 = .ok (.iload_n 1, 1) := by decide +kernel
theorem dX0_throwSalt_59 : decode cX0_throwSalt 59 = .ok (.iload_n 3, 1) := by decide +kernel
theorem dX0_throwSalt_60 : decode cX0_throwSalt 60 = .ok (.invokevirtual 79, 3) := by decide +kernel
theorem dX0_throwSalt_63 : decode cX0_throwSalt 63 = .ok (.aload_n 0, 1) := by decide +kernel
theorem dX0_throwSalt_64 : decode cX0_throwSalt 64 = .ok (.dup, 1) := by decide +kernel
theorem dX0_throwSalt_65 : decode cX0_throwSalt 65 = .ok (.getfield 39, 3) := by decide +kernel
theorem dX0_throwSalt_68 : decode cX0_throwSalt 68 = .ok (.iload_n 3, 1) := by decide +kernel
theorem dX0_throwSalt_69 : decode cX0_throwSalt 69 = .ok (.isub, 1) := by decide +kernel
theorem dX0_throwSalt_70 : decode cX0_throwSalt 70 = .ok (.putfield 39, 3) := by decide +kernel
theorem dX0_throwSalt_73 : decode cX0_throwSalt 73 = .ok (.aload_n 0, 1) := by decide +kernel
theorem dX0_throwSalt_74 : decode cX0_throwSalt 74 = .ok (.iload_n 1, 1) := by decide +kernel
theorem dX0_throwSalt_75 : decode cX0_throwSalt 75 = .ok (.iload 4, 2) := by decide +kernel
theorem dX0_throwSalt_77 : decode cX0_throwSalt 77 = .ok (.iload_n 3, 1) := by decide +kernel
theorem dX0_throwSalt_78 : decode cX0_throwSalt 78 = .ok (.iload 5, 2) := by decide +kernel
theorem dX0_throwSalt_80 : decode cX0_throwSalt 80 = .ok (.invokevirtual 82, 3) := by decide +kernel
theorem dX0_throwSalt_83 : decode cX0_throwSalt 83 = .ok (.iload 5, 2) := by decide +kernel
theorem dX0_throwSalt_85 : decode cX0_throwSalt 85 = .ok (.ireturn, 1) := by decide +kernel
set_option maxRecDepth 20000 in
theorem ggX0_doPenance_X0_checkMember : GoodIn wsX0_doPenance wsX0_checkMember := goodIn_ca (goodIn_r _ [6, 7, 8, 9, 23, 24, 25, 26, 27, 28, 29, 30, 31, 32, 33, 34, 35, 36] (by decide +kernel) (by decide +kernel)) (goodIn_sub (fun _ h => List.mem_cons_of_mem _ (List.mem_append_left _ (List.mem_append_right _ h))) (by decide +kernel))
set_option maxRecDepth 20000 in
theorem gX0_doPenance_X0_checkMember : GoodIn wsX0_doPenance (wsV RX0 55 RX0 yX0_checkMember wsX0_checkMember) := goodIn_app (goodIn_of _ (by decide +kernel)) ggX0_doPenance_X0_checkMember
set_option maxRecDepth 20000 in
theorem ggX0_doPenance_X0_checkAmount : GoodIn wsX0_doPenance wsX0_checkAmount := goodIn_ca (goodIn_r _ [12, 13, 14] (by decide +kernel) (by decide +kernel)) (goodIn_sub (fun _ h => List.mem_cons_of_mem _ (List.mem_append_right _ h)) (by decide +kernel))
set_option maxRecDepth 20000 in
theorem gX0_doPenance_X0_checkAmount : GoodIn wsX0_doPenance (va_wsS RX0 59 yX0_checkAmount wsX0_checkAmount) := goodIn_app (goodIn_of _ (by decide +kernel)) ggX0_doPenance_X0_checkAmount
set_option maxRecDepth 20000 in
theorem ggX0_doPenance_X0_addLumps : GoodIn wsX0_doPenance wsX0_addLumps := goodIn_r _ [18, 1, 19, 20, 21, 22, 23, 24, 25, 26, 27, 28, 29, 30, 31, 32, 33, 34, 35, 36] (by decide +kernel) (by decide +kernel)
set_option maxRecDepth 20000 in
theorem gX0_doPenance_X0_addLumps : GoodIn wsX0_doPenance (wsV RX0 86 RX0 yX0_addLumps wsX0_addLumps) := goodIn_app (goodIn_of _ (by decide +kernel)) ggX0_doPenance_X0_addLumps
theorem dX0_doPenance_0 : decode cX0_doPenance 0 = .ok (.aload_n 0, 1) := by decide +kernel
theorem dX0_doPenance_1 : decode cX0_doPenance 1 = .ok (.iload_n 1, 1) := by decide +kernel
theorem dX0_doPenance_2 : decode cX0_doPenance 2 = .ok (.invokevirtual 55, 3) := by decide +kernel
theorem dX0_doPenance_5 : decode cX0_doPenance 5 = .ok (.iload_n 2, 1) := by decide +kernel
theorem dX0_doPenance_6 : decode cX0_doPenance 6 = .ok (.bipush 9, 2) := by decide +kernel
theorem dX0_doPenance_8 : decode cX0_doPenance 8 = .ok (.invokestatic 59, 3) := by decide +kernel
theorem dX0_doPenance_11 : decode cX0_doPenance 11 = .ok (.aload_n 0, 1) := by decide +kernel
theorem dX0_doPenance_12 : decode cX0_doPenance 12 = .ok (.iload_n 1, 1) := by decide +kernel
theorem dX0_doPenance_13 : decode cX0_doPenance 13 = .ok (.iload_n 2, 1) := by decide +kernel
theorem dX0_doPenance_14 : decode cX0_doPenance 14 = .ok (.invokevirtual 86, 3) := by decide +kernel
theorem dX0_doPenance_17 : decode cX0_doPenance 17 = .ok (.aload_n 0, 1) := by decide +kernel
theorem dX0_doPenance_18 : decode cX0_doPenance 18 = .ok (.getfield 16, 3) := by decide +kernel
theorem dX0_doPenance_21 : decode cX0_doPenance 21 = .ok (.iload_n 1, 1) := by decide +kernel
theorem dX0_doPenance_22 : decode cX0_doPenance 22 = .ok (.iaload, 1) := by decide +kernel
theorem dX0_doPenance_23 : decode cX0_doPenance 23 = .ok (.ireturn, 1) := by decide +kernel
set_option maxRecDepth 20000 in
theorem ggX0_bringSalt_X0_checkAmount : GoodIn wsX0_bringSalt wsX0_checkAmount := goodIn_ca (goodIn_r _ [9, 10, 11] (by decide +kernel) (by decide +kernel)) (goodIn_sub (fun _ h => List.mem_cons_of_mem _ (List.mem_append_right _ h)) (by decide +kernel))
set_option maxRecDepth 20000 in
theorem gX0_bringSalt_X0_checkAmount : GoodIn wsX0_bringSalt (va_wsS RX0 59 yX0_checkAmount wsX0_checkAmount) := goodIn_app (goodIn_of _ (by decide +kernel)) ggX0_bringSalt_X0_checkAmount
theorem dX0_bringSalt_0 : decode cX0_bringSalt 0 = .ok (.iload_n 1, 1) := by decide +kernel
theorem dX0_bringSalt_1 : decode cX0_bringSalt 1 = .ok (.sipush 500, 3) := by decide +kernel
theorem dX0_bringSalt_4 : decode cX0_bringSalt 4 = .ok (.invokestatic 59, 3) := by decide +kernel
theorem dX0_bringSalt_7 : decode cX0_bringSalt 7 = .ok (.aload_n 0, 1) := by decide +kernel
theorem dX0_bringSalt_8 : decode cX0_bringSalt 8 = .ok (.sipush 500, 3) := by decide +kernel
theorem dX0_bringSalt_11 : decode cX0_bringSalt 11 = .ok (.aload_n 0, 1) := by decide +kernel
theorem dX0_bringSalt_12 : decode cX0_bringSalt 12 = .ok (.getfield 39, 3) := by decide +kernel
theorem dX0_bringSalt_15 : decode cX0_bringSalt 15 = .ok (.iload_n 1, 1) := by decide +kernel
theorem dX0_bringSalt_16 : decode cX0_bringSalt 16 = .ok (.iadd, 1) := by decide +kernel
theorem dX0_bringSalt_17 : decode cX0_bringSalt 17 = .ok (.invokestatic 89, 3) := by decide +kernel
theorem dX0_bringSalt_20 : decode cX0_bringSalt 20 = .ok (.putfield 39, 3) := by decide +kernel
theorem dX0_bringSalt_23 : decode cX0_bringSalt 23 = .ok (.aload_n 0, 1) := by decide +kernel
theorem dX0_bringSalt_24 : decode cX0_bringSalt 24 = .ok (.getfield 39, 3) := by decide +kernel
theorem dX0_bringSalt_27 : decode cX0_bringSalt 27 = .ok (.ireturn, 1) := by decide +kernel
set_option maxRecDepth 20000 in
theorem ggX0_audit_X0_faults : GoodIn wsX0_audit wsX0_faults := goodIn_r _ [8, 2, 9, 24, 25, 26, 27, 28, 29, 30, 31, 32, 33, 34, 35, 36, 37] (by decide +kernel) (by decide +kernel)
set_option maxRecDepth 20000 in
theorem gX0_audit_X0_faults : GoodIn wsX0_audit (wsV RX0 94 RX0 yX0_faults wsX0_faults) := goodIn_app (goodIn_of _ (by decide +kernel)) ggX0_audit_X0_faults
set_option maxRecDepth 20000 in
theorem ggX0_audit_X0_debtOf : GoodIn wsX0_audit wsX0_debtOf := goodIn_r _ [13, 2, 14, 9, 24, 25, 26, 27, 28, 29, 30, 31, 32, 33, 34, 35, 36, 37] (by decide +kernel) (by decide +kernel)
set_option maxRecDepth 20000 in
theorem gX0_audit_X0_debtOf : GoodIn wsX0_audit (wsV RX0 98 RX0 yX0_debtOf wsX0_debtOf) := goodIn_app (goodIn_of _ (by decide +kernel)) ggX0_audit_X0_debtOf
set_option maxRecDepth 20000 in
theorem ggX0_audit_X0_addArrears : GoodIn wsX0_audit wsX0_addArrears := goodIn_r _ [18, 19, 20, 21, 22, 23, 24, 25, 26, 27, 28, 29, 30, 31, 32, 33, 34, 35, 36, 37] (by decide +kernel) (by decide +kernel)
set_option maxRecDepth 20000 in
theorem gX0_audit_X0_addArrears : GoodIn wsX0_audit (wsV RX0 66 RX0 yX0_addArrears wsX0_addArrears) := goodIn_app (goodIn_of _ (by decide +kernel)) ggX0_audit_X0_addArrears
theorem dX0_audit_0 : decode cX0_audit 0 = .ok (.aload_n 0, 1) := by decide +kernel
theorem dX0_audit_1 : decode cX0_audit 1 = .ok (.invokevirtual 94, 3) := by decide +kernel
theorem dX0_audit_4 : decode cX0_audit 4 = .ok (.istore_n 1, 1) := by decide +kernel
theorem dX0_audit_5 : decode cX0_audit 5 = .ok (.iconst 0, 1) := by decide +kernel
theorem dX0_audit_6 : decode cX0_audit 6 = .ok (.istore_n 2, 1) := by decide +kernel
theorem dX0_audit_7 : decode cX0_audit 7 = .ok (.iload_n 2, 1) := by decide +kernel
theorem dX0_audit_8 : decode cX0_audit 8 = .ok (.aload_n 0, 1) := by decide +kernel
theorem dX0_audit_9 : decode cX0_audit 9 = .ok (.getfield 32, 3) := by decide +kernel
theorem dX0_audit_12 : decode cX0_audit 12 = .ok (.if_icmp .ge 19, 3) := by decide +kernel
theorem dX0_audit_15 : decode cX0_audit 15 = .ok (.aload_n 0, 1) := by decide +kernel
theorem dX0_audit_16 : decode cX0_audit 16 = .ok (.iload_n 2, 1) := by decide +kernel
theorem dX0_audit_17 : decode cX0_audit 17 = .ok (.aload_n 0, 1) := by decide +kernel
theorem dX0_audit_18 : decode cX0_audit 18 = .ok (.iload_n 2, 1) := by decide +kernel
theorem dX0_audit_19 : decode cX0_audit 19 = .ok (.invokevirtual 98, 3) := by decide +kernel
theorem dX0_audit_22 : decode cX0_audit 22 = .ok (.invokevirtual 66, 3) := by decide +kernel
theorem dX0_audit_25 : decode cX0_audit 25 = .ok (.iinc 2 1, 3) := by decide +kernel
theorem dX0_audit_28 : decode cX0_audit 28 = .ok (.goto (-21), 3) := by decide +kernel
theorem dX0_audit_31 : decode cX0_audit 31 = .ok (.aload_n 0, 1) := by decide +kernel
theorem dX0_audit_32 : decode cX0_audit 32 = .ok (.iconst 0, 1) := by decide +kernel
theorem dX0_audit_33 : decode cX0_audit 33 = .ok (.putfield 36, 3) := by decide +kernel
theorem dX0_audit_36 : decode cX0_audit 36 = .ok (.aload_n 0, 1) := by decide +kernel
theorem dX0_audit_37 : decode cX0_audit 37 = .ok (.dup, 1) := by decide +kernel
theorem dX0_audit_38 : decode cX0_audit 38 = .ok (.getfield 45, 3) := by decide +kernel
theorem dX0_audit_41 : decode cX0_audit 41 = .ok (.iload_n 1, 1) := by decide +kernel
theorem dX0_audit_42 : decode cX0_audit 42 = .ok (.iadd, 1) := by decide +kernel
theorem dX0_audit_43 : decode cX0_audit 43 = .ok (.putfield 45, 3) := by decide +kernel
theorem dX0_audit_46 : decode cX0_audit 46 = .ok (.iload_n 1, 1) := by decide +kernel
theorem dX0_audit_47 : decode cX0_audit 47 = .ok (.ireturn, 1) := by decide +kernel
set_option maxRecDepth 20000 in
theorem ggX0_pass_X0_checkAmount : GoodIn wsX0_pass wsX0_checkAmount := goodIn_ca (goodIn_r _ [4, 5, 6] (by decide +kernel) (by decide +kernel)) (goodIn_sub (fun _ h => List.mem_cons_of_mem _ (List.mem_append_right _ h)) (by decide +kernel))
set_option maxRecDepth 20000 in
theorem gX0_pass_X0_checkAmount : GoodIn wsX0_pass (va_wsS RX0 59 yX0_checkAmount wsX0_checkAmount) := goodIn_app (goodIn_of _ (by decide +kernel)) ggX0_pass_X0_checkAmount
set_option maxRecDepth 20000 in
theorem ggX0_pass_X0_passOneDay : GoodIn wsX0_pass wsX0_passOneDay := goodIn_r _ [10, 11, 12, 13, 14, 3, 15, 16, 17, 18, 19, 20, 21, 22, 23, 24, 25, 26, 27, 28, 29, 30, 31, 32, 33, 34, 35, 36, 37, 38, 39, 40, 41, 42, 43, 44, 45, 46, 47, 48, 49, 50, 51, 52, 53, 54, 55, 56, 57, 58, 59, 60, 61, 62, 63, 64, 65, 66, 67, 68, 69, 70, 71] (by decide +kernel) (by decide +kernel)
set_option maxRecDepth 20000 in
theorem gX0_pass_X0_passOneDay : GoodIn wsX0_pass (wsV RX0 102 RX0 yX0_passOneDay wsX0_passOneDay) := goodIn_app (goodIn_of _ (by decide +kernel)) ggX0_pass_X0_passOneDay
theorem dX0_pass_0 : decode cX0_pass 0 = .ok (.iload_n 1, 1) := by decide +kernel
theorem dX0_pass_1 : decode cX0_pass 1 = .ok (.bipush 60, 2) := by decide +kernel
theorem dX0_pass_3 : decode cX0_pass 3 = .ok (.invokestatic 59, 3) := by decide +kernel
theorem dX0_pass_6 : decode cX0_pass 6 = .ok (.iconst 0, 1) := by decide +kernel
theorem dX0_pass_7 : decode cX0_pass 7 = .ok (.istore_n 2, 1) := by decide +kernel
theorem dX0_pass_8 : decode cX0_pass 8 = .ok (.iconst 0, 1) := by decide +kernel
theorem dX0_pass_9 : decode cX0_pass 9 = .ok (.istore_n 3, 1) := by decide +kernel
theorem dX0_pass_10 : decode cX0_pass 10 = .ok (.iload_n 3, 1) := by decide +kernel
theorem dX0_pass_11 : decode cX0_pass 11 = .ok (.iload_n 1, 1) := by decide +kernel
theorem dX0_pass_12 : decode cX0_pass 12 = .ok (.if_icmp .ge 16, 3) := by decide +kernel
theorem dX0_pass_15 : decode cX0_pass 15 = .ok (.iload_n 2, 1) := by decide +kernel
theorem dX0_pass_16 : decode cX0_pass 16 = .ok (.aload_n 0, 1) := by decide +kernel
theorem dX0_pass_17 : decode cX0_pass 17 = .ok (.invokevirtual 102, 3) := by decide +kernel
theorem dX0_pass_20 : decode cX0_pass 20 = .ok (.iadd, 1) := by decide +kernel
theorem dX0_pass_21 : decode cX0_pass 21 = .ok (.istore_n 2, 1) := by decide +kernel
theorem dX0_pass_22 : decode cX0_pass 22 = .ok (.iinc 3 1, 3) := by decide +kernel
theorem dX0_pass_25 : decode cX0_pass 25 = .ok (.goto (-15), 3) := by decide +kernel
theorem dX0_pass_28 : decode cX0_pass 28 = .ok (.iload_n 2, 1) := by decide +kernel
theorem dX0_pass_29 : decode cX0_pass 29 = .ok (.ireturn, 1) := by decide +kernel
theorem dX0_day_0 : decode cX0_day 0 = .ok (.aload_n 0, 1) := by decide +kernel
theorem dX0_day_1 : decode cX0_day 1 = .ok (.getfield 42, 3) := by decide +kernel
theorem dX0_day_4 : decode cX0_day 4 = .ok (.ireturn, 1) := by decide +kernel
theorem dX0_members_0 : decode cX0_members 0 = .ok (.aload_n 0, 1) := by decide +kernel
theorem dX0_members_1 : decode cX0_members 1 = .ok (.getfield 32, 3) := by decide +kernel
theorem dX0_members_4 : decode cX0_members 4 = .ok (.ireturn, 1) := by decide +kernel
set_option maxRecDepth 20000 in
theorem ggX0_luckOf_X0_checkMember : GoodIn wsX0_luckOf wsX0_checkMember := goodIn_ca (goodIn_r _ [6, 7, 8, 9, 10, 11, 12, 13, 14, 15, 16, 17, 18, 19, 20, 21, 22, 23] (by decide +kernel) (by decide +kernel)) (goodIn_sub (fun _ h => List.mem_cons_of_mem _ (List.mem_append_right _ h)) (by decide +kernel))
set_option maxRecDepth 20000 in
theorem gX0_luckOf_X0_checkMember : GoodIn wsX0_luckOf (wsV RX0 55 RX0 yX0_checkMember wsX0_checkMember) := goodIn_app (goodIn_of _ (by decide +kernel)) ggX0_luckOf_X0_checkMember
theorem dX0_luckOf_0 : decode cX0_luckOf 0 = .ok (.aload_n 0, 1) := by decide +kernel
theorem dX0_luckOf_1 : decode cX0_luckOf 1 = .ok (.iload_n 1, 1) := by decide +kernel
theorem dX0_luckOf_2 : decode cX0_luckOf 2 = .ok (.invokevirtual 55, 3) := by decide +kernel
theorem dX0_luckOf_5 : decode cX0_luckOf 5 = .ok (.aload_n 0, 1) := by decide +kernel
theorem dX0_luckOf_6 : decode cX0_luckOf 6 = .ok (.getfield 9, 3) := by decide +kernel
theorem dX0_luckOf_9 : decode cX0_luckOf 9 = .ok (.iload_n 1, 1) := by decide +kernel
theorem dX0_luckOf_10 : decode cX0_luckOf 10 = .ok (.iaload, 1) := by decide +kernel
theorem dX0_luckOf_11 : decode cX0_luckOf 11 = .ok (.ireturn, 1) := by decide +kernel
set_option maxRecDepth 20000 in
theorem ggX0_arrearsOf_X0_checkMember : GoodIn wsX0_arrearsOf wsX0_checkMember := goodIn_ca (goodIn_r _ [6, 7, 8, 9, 10, 11, 12, 13, 14, 15, 16, 17, 18, 19, 20, 21, 22, 23] (by decide +kernel) (by decide +kernel)) (goodIn_sub (fun _ h => List.mem_cons_of_mem _ (List.mem_append_right _ h)) (by decide +kernel))
set_option maxRecDepth 20000 in
theorem gX0_arrearsOf_X0_checkMember : GoodIn wsX0_arrearsOf (wsV RX0 55 RX0 yX0_checkMember wsX0_checkMember) := goodIn_app (goodIn_of _ (by decide +kernel)) ggX0_arrearsOf_X0_checkMember
theorem dX0_arrearsOf_0 : decode cX0_arrearsOf 0 = .ok (.aload_n 0, 1) := by decide +kernel
theorem dX0_arrearsOf_1 : decode cX0_arrearsOf 1 = .ok (.iload_n 1, 1) := by decide +kernel
theorem dX0_arrearsOf_2 : decode cX0_arrearsOf 2 = .ok (.invokevirtual 55, 3) := by decide +kernel
theorem dX0_arrearsOf_5 : decode cX0_arrearsOf 5 = .ok (.aload_n 0, 1) := by decide +kernel
theorem dX0_arrearsOf_6 : decode cX0_arrearsOf 6 = .ok (.getfield 13, 3) := by decide +kernel
theorem dX0_arrearsOf_9 : decode cX0_arrearsOf 9 = .ok (.iload_n 1, 1) := by decide +kernel
theorem dX0_arrearsOf_10 : decode cX0_arrearsOf 10 = .ok (.iaload, 1) := by decide +kernel
theorem dX0_arrearsOf_11 : decode cX0_arrearsOf 11 = .ok (.ireturn, 1) := by decide +kernel
set_option maxRecDepth 20000 in
theorem ggX0_lumpsOf_X0_checkMember : GoodIn wsX0_lumpsOf wsX0_checkMember := goodIn_ca (goodIn_r _ [6, 7, 8, 9, 10, 11, 12, 13, 14, 15, 16, 17, 18, 19, 20, 21, 22, 23] (by decide +kernel) (by decide +kernel)) (goodIn_sub (fun _ h => List.mem_cons_of_mem _ (List.mem_append_right _ h)) (by decide +kernel))
set_option maxRecDepth 20000 in
theorem gX0_lumpsOf_X0_checkMember : GoodIn wsX0_lumpsOf (wsV RX0 55 RX0 yX0_checkMember wsX0_checkMember) := goodIn_app (goodIn_of _ (by decide +kernel)) ggX0_lumpsOf_X0_checkMember
theorem dX0_lumpsOf_0 : decode cX0_lumpsOf 0 = .ok (.aload_n 0, 1) := by decide +kernel
theorem dX0_lumpsOf_1 : decode cX0_lumpsOf 1 = .ok (.iload_n 1, 1) := by decide +kernel
theorem dX0_lumpsOf_2 : decode cX0_lumpsOf 2 = .ok (.invokevirtual 55, 3) := by decide +kernel
theorem dX0_lumpsOf_5 : decode cX0_lumpsOf 5 = .ok (.aload_n 0, 1) := by decide +kernel
theorem dX0_lumpsOf_6 : decode cX0_lumpsOf 6 = .ok (.getfield 16, 3) := by decide +kernel
theorem dX0_lumpsOf_9 : decode cX0_lumpsOf 9 = .ok (.iload_n 1, 1) := by decide +kernel
theorem dX0_lumpsOf_10 : decode cX0_lumpsOf 10 = .ok (.iaload, 1) := by decide +kernel
theorem dX0_lumpsOf_11 : decode cX0_lumpsOf 11 = .ok (.ireturn, 1) := by decide +kernel
set_option maxRecDepth 20000 in
theorem ggX0_dailyLoss_X0_checkMember : GoodIn wsX0_dailyLoss wsX0_checkMember := goodIn_ca (goodIn_r _ [5, 6, 7, 8, 15, 16, 17, 18, 19, 20, 21, 22, 23, 24, 25, 26, 27, 28] (by decide +kernel) (by decide +kernel)) (goodIn_sub (fun _ h => List.mem_cons_of_mem _ (List.mem_append_right _ h)) (by decide +kernel))
set_option maxRecDepth 20000 in
theorem gX0_dailyLoss_X0_checkMember : GoodIn wsX0_dailyLoss (wsV RX0 55 RX0 yX0_checkMember wsX0_checkMember) := goodIn_app (goodIn_of _ (by decide +kernel)) ggX0_dailyLoss_X0_checkMember
set_option maxRecDepth 20000 in
theorem ggX0_dailyLoss_X0_lossOf : GoodIn wsX0_dailyLoss wsX0_lossOf := goodIn_r _ [12, 13, 14, 15, 16, 17, 18, 19, 20, 21, 22, 23, 24, 25, 26, 27, 28] (by decide +kernel) (by decide +kernel)
set_option maxRecDepth 20000 in
theorem gX0_dailyLoss_X0_lossOf : GoodIn wsX0_dailyLoss (wsV RX0 105 RX0 yX0_lossOf wsX0_lossOf) := goodIn_app (goodIn_of _ (by decide +kernel)) ggX0_dailyLoss_X0_lossOf
theorem dX0_dailyLoss_0 : decode cX0_dailyLoss 0 = .ok (.aload_n 0, 1) := by decide +kernel
theorem dX0_dailyLoss_1 : decode cX0_dailyLoss 1 = .ok (.iload_n 1, 1) := by decide +kernel
theorem dX0_dailyLoss_2 : decode cX0_dailyLoss 2 = .ok (.invokevirtual 55, 3) := by decide +kernel
theorem dX0_dailyLoss_5 : decode cX0_dailyLoss 5 = .ok (.aload_n 0, 1) := by decide +kernel
theorem dX0_dailyLoss_6 : decode cX0_dailyLoss 6 = .ok (.iload_n 1, 1) := by decide +kernel
theorem dX0_dailyLoss_7 : decode cX0_dailyLoss 7 = .ok (.invokevirtual 105, 3) := by decide +kernel
theorem dX0_dailyLoss_10 : decode cX0_dailyLoss 10 = .ok (.ireturn, 1) := by decide +kernel
theorem dX0_luckiest_0 : decode cX0_luckiest 0 = .ok (.iconst (-1), 1) := by decide +kernel
theorem dX0_luckiest_1 : decode cX0_luckiest 1 = .ok (.istore_n 1, 1) := by decide +kernel
theorem dX0_luckiest_2 : decode cX0_luckiest 2 = .ok (.iconst (-1), 1) := by decide +kernel
theorem dX0_luckiest_3 : decode cX0_luckiest 3 = .ok (.istore_n 2, 1) := by decide +kernel
theorem dX0_luckiest_4 : decode cX0_luckiest 4 = .ok (.iconst 0, 1) := by decide +kernel
theorem dX0_luckiest_5 : decode cX0_luckiest 5 = .ok (.istore_n 3, 1) := by decide +kernel
theorem dX0_luckiest_6 : decode cX0_luckiest 6 = .ok (.iload_n 3, 1) := by decide +kernel
theorem dX0_luckiest_7 : decode cX0_luckiest 7 = .ok (.aload_n 0, 1) := by decide +kernel
theorem dX0_luckiest_8 : decode cX0_luckiest 8 = .ok (.getfield 32, 3) := by decide +kernel
theorem dX0_luckiest_11 : decode cX0_luckiest 11 = .ok (.if_icmp .ge 28, 3) := by decide +kernel
theorem dX0_luckiest_14 : decode cX0_luckiest 14 = .ok (.aload_n 0, 1) := by decide +kernel
theorem dX0_luckiest_15 : decode cX0_luckiest 15 = .ok (.getfield 9, 3) := by decide +kernel
theorem dX0_luckiest_18 : decode cX0_luckiest 18 = .ok (.iload_n 3, 1) := by decide +kernel
theorem dX0_luckiest_19 : decode cX0_luckiest 19 = .ok (.iaload, 1) := by decide +kernel
theorem dX0_luckiest_20 : decode cX0_luckiest 20 = .ok (.iload_n 2, 1) := by decide +kernel
theorem dX0_luckiest_21 : decode cX0_luckiest 21 = .ok (.if_icmp .le 12, 3) := by decide +kernel
theorem dX0_luckiest_24 : decode cX0_luckiest 24 = .ok (.iload_n 3, 1) := by decide +kernel
theorem dX0_luckiest_25 : decode cX0_luckiest 25 = .ok (.istore_n 1, 1) := by decide +kernel
theorem dX0_luckiest_26 : decode cX0_luckiest 26 = .ok (.aload_n 0, 1) := by decide +kernel
theorem dX0_luckiest_27 : decode cX0_luckiest 27 = .ok (.getfield 9, 3) := by decide +kernel
theorem dX0_luckiest_30 : decode cX0_luckiest 30 = .ok (.iload_n 3, 1) := by decide +kernel
theorem dX0_luckiest_31 : decode cX0_luckiest 31 = .ok (.iaload, 1) := by decide +kernel
theorem dX0_luckiest_32 : decode cX0_luckiest 32 = .ok (.istore_n 2, 1) := by decide +kernel
theorem dX0_luckiest_33 : decode cX0_luckiest 33 = .ok (.iinc 3 1, 3) := by decide +kernel
theorem dX0_luckiest_36 : decode cX0_luckiest 36 = .ok (.goto (-30), 3) := by decide +kernel
theorem dX0_luckiest_39 : decode cX0_luckiest 39 = .ok (.iload_n 1, 1) := by decide +kernel
theorem dX0_luckiest_40 : decode cX0_luckiest 40 = .ok (.ireturn, 1) := by decide +kernel
theorem dX0_allArrears_0 : decode cX0_allArrears 0 = .ok (.iconst 0, 1) := by decide +kernel
theorem dX0_allArrears_1 : decode cX0_allArrears 1 = .ok (.istore_n 1, 1) := by decide +kernel
theorem dX0_allArrears_2 : decode cX0_allArrears 2 = .ok (.iconst 0, 1) := by decide +kernel
theorem dX0_allArrears_3 : decode cX0_allArrears 3 = .ok (.istore_n 2, 1) := by decide +kernel
theorem dX0_allArrears_4 : decode cX0_allArrears 4 = .ok (.iload_n 2, 1) := by decide +kernel
theorem dX0_allArrears_5 : decode cX0_allArrears 5 = .ok (.aload_n 0, 1) := by decide +kernel
theorem dX0_allArrears_6 : decode cX0_allArrears 6 = .ok (.getfield 32, 3) := by decide +kernel
theorem dX0_allArrears_9 : decode cX0_allArrears 9 = .ok (.if_icmp .ge 18, 3) := by decide +kernel
theorem dX0_allArrears_12 : decode cX0_allArrears 12 = .ok (.iload_n 1, 1) := by decide +kernel
theorem dX0_allArrears_13 : decode cX0_allArrears 13 = .ok (.aload_n 0, 1) := by decide +kernel
theorem dX0_allArrears_14 : decode cX0_allArrears 14 = .ok (.getfield 13, 3) := by decide +kernel
theorem dX0_allArrears_17 : decode cX0_allArrears 17 = .ok (.iload_n 2, 1) := by decide +kernel
theorem dX0_allArrears_18 : decode cX0_allArrears 18 = .ok (.iaload, 1) := by decide +kernel
theorem dX0_allArrears_19 : decode cX0_allArrears 19 = .ok (.iadd, 1) := by decide +kernel
theorem dX0_allArrears_20 : decode cX0_allArrears 20 = .ok (.istore_n 1, 1) := by decide +kernel
theorem dX0_allArrears_21 : decode cX0_allArrears 21 = .ok (.iinc 2 1, 3) := by decide +kernel
theorem dX0_allArrears_24 : decode cX0_allArrears 24 = .ok (.goto (-20), 3) := by decide +kernel
theorem dX0_allArrears_27 : decode cX0_allArrears 27 = .ok (.iload_n 1, 1) := by decide +kernel
theorem dX0_allArrears_28 : decode cX0_allArrears 28 = .ok (.ireturn, 1) := by decide +kernel
theorem dX0_clearMembers_0 : decode cX0_clearMembers 0 = .ok (.iconst 0, 1) := by decide +kernel
theorem dX0_clearMembers_1 : decode cX0_clearMembers 1 = .ok (.istore_n 1, 1) := by decide +kernel
theorem dX0_clearMembers_2 : decode cX0_clearMembers 2 = .ok (.iconst 0, 1) := by decide +kernel
theorem dX0_clearMembers_3 : decode cX0_clearMembers 3 = .ok (.istore_n 2, 1) := by decide +kernel
theorem dX0_clearMembers_4 : decode cX0_clearMembers 4 = .ok (.iload_n 2, 1) := by decide +kernel
theorem dX0_clearMembers_5 : decode cX0_clearMembers 5 = .ok (.aload_n 0, 1) := by decide +kernel
theorem dX0_clearMembers_6 : decode cX0_clearMembers 6 = .ok (.getfield 32, 3) := by decide +kernel
theorem dX0_clearMembers_9 : decode cX0_clearMembers 9 = .ok (.if_icmp .ge 21, 3) := by decide +kernel
theorem dX0_clearMembers_12 : decode cX0_clearMembers 12 = .ok (.aload_n 0, 1) := by decide +kernel
theorem dX0_clearMembers_13 : decode cX0_clearMembers 13 = .ok (.getfield 13, 3) := by decide +kernel
theorem dX0_clearMembers_16 : decode cX0_clearMembers 16 = .ok (.iload_n 2, 1) := by decide +kernel
theorem dX0_clearMembers_17 : decode cX0_clearMembers 17 = .ok (.iaload, 1) := by decide +kernel
theorem dX0_clearMembers_18 : decode cX0_clearMembers 18 = .ok (.ifCond .ne 6, 3) := by decide +kernel
theorem dX0_clearMembers_21 : decode cX0_clearMembers 21 = .ok (.iinc 1 1, 3) := by decide +kernel
theorem dX0_clearMembers_24 : decode cX0_clearMembers 24 = .ok (.iinc 2 1, 3) := by decide +kernel
theorem dX0_clearMembers_27 : decode cX0_clearMembers 27 = .ok (.goto (-23), 3) := by decide +kernel
theorem dX0_clearMembers_30 : decode cX0_clearMembers 30 = .ok (.iload_n 1, 1) := by decide +kernel
theorem dX0_clearMembers_31 : decode cX0_clearMembers 31 = .ok (.ireturn, 1) := by decide +kernel
theorem dX0_salt_0 : decode cX0_salt 0 = .ok (.aload_n 0, 1) := by decide +kernel
theorem dX0_salt_1 : decode cX0_salt 1 = .ok (.getfield 39, 3) := by decide +kernel
theorem dX0_salt_4 : decode cX0_salt 4 = .ok (.ireturn, 1) := by decide +kernel
theorem dX0_ledger_0 : decode cX0_ledger 0 = .ok (.aload_n 0, 1) := by decide +kernel
theorem dX0_ledger_1 : decode cX0_ledger 1 = .ok (.getfield 36, 3) := by decide +kernel
theorem dX0_ledger_4 : decode cX0_ledger 4 = .ok (.ireturn, 1) := by decide +kernel
set_option maxRecDepth 20000 in
theorem ggX0_memberOf_X0_checkEntry : GoodIn wsX0_memberOf wsX0_checkEntry := goodIn_ca (goodIn_r _ [6, 7, 8, 9, 10, 11, 12, 13, 14, 15, 16, 17, 18, 19, 20, 21, 22, 23] (by decide +kernel) (by decide +kernel)) (goodIn_sub (fun _ h => List.mem_cons_of_mem _ (List.mem_append_right _ h)) (by decide +kernel))
set_option maxRecDepth 20000 in
theorem gX0_memberOf_X0_checkEntry : GoodIn wsX0_memberOf (wsV RX0 108 RX0 yX0_checkEntry wsX0_checkEntry) := goodIn_app (goodIn_of _ (by decide +kernel)) ggX0_memberOf_X0_checkEntry
theorem dX0_memberOf_0 : decode cX0_memberOf 0 = .ok (.aload_n 0, 1) := by decide +kernel
theorem dX0_memberOf_1 : decode cX0_memberOf 1 = .ok (.iload_n 1, 1) := by decide +kernel
theorem dX0_memberOf_2 : decode cX0_memberOf 2 = .ok (.invokevirtual 108, 3) := by decide +kernel
theorem dX0_memberOf_5 : decode cX0_memberOf 5 = .ok (.aload_n 0, 1) := by decide +kernel
theorem dX0_memberOf_6 : decode cX0_memberOf 6 = .ok (.getfield 19, 3) := by decide +kernel
theorem dX0_memberOf_9 : decode cX0_memberOf 9 = .ok (.iload_n 1, 1) := by decide +kernel
theorem dX0_memberOf_10 : decode cX0_memberOf 10 = .ok (.iaload, 1) := by decide +kernel
theorem dX0_memberOf_11 : decode cX0_memberOf 11 = .ok (.ireturn, 1) := by decide +kernel
set_option maxRecDepth 20000 in
theorem ggX0_isLeft_X0_checkEntry : GoodIn wsX0_isLeft wsX0_checkEntry := goodIn_ca (goodIn_r _ [6, 7, 8, 9, 10, 11, 12, 13, 14, 15, 16, 17, 18, 19, 20, 21, 22, 23] (by decide +kernel) (by decide +kernel)) (goodIn_sub (fun _ h => List.mem_cons_of_mem _ (List.mem_append_right _ h)) (by decide +kernel))
set_option maxRecDepth 20000 in
theorem gX0_isLeft_X0_checkEntry : GoodIn wsX0_isLeft (wsV RX0 108 RX0 yX0_checkEntry wsX0_checkEntry) := goodIn_app (goodIn_of _ (by decide +kernel)) ggX0_isLeft_X0_checkEntry
theorem dX0_isLeft_0 : decode cX0_isLeft 0 = .ok (.aload_n 0, 1) := by decide +kernel
theorem dX0_isLeft_1 : decode cX0_isLeft 1 = .ok (.iload_n 1, 1) := by decide +kernel
theorem dX0_isLeft_2 : decode cX0_isLeft 2 = .ok (.invokevirtual 108, 3) := by decide +kernel
theorem dX0_isLeft_5 : decode cX0_isLeft 5 = .ok (.aload_n 0, 1) := by decide +kernel
theorem dX0_isLeft_6 : decode cX0_isLeft 6 = .ok (.getfield 22, 3) := by decide +kernel
theorem dX0_isLeft_9 : decode cX0_isLeft 9 = .ok (.iload_n 1, 1) := by decide +kernel
theorem dX0_isLeft_10 : decode cX0_isLeft 10 = .ok (.baload, 1) := by decide +kernel
theorem dX0_isLeft_11 : decode cX0_isLeft 11 = .ok (.ireturn, 1) := by decide +kernel
set_option maxRecDepth 20000 in
theorem ggX0_grainsOf_X0_checkEntry : GoodIn wsX0_grainsOf wsX0_checkEntry := goodIn_ca (goodIn_r _ [6, 7, 8, 9, 10, 11, 12, 13, 14, 15, 16, 17, 18, 19, 20, 21, 22, 23] (by decide +kernel) (by decide +kernel)) (goodIn_sub (fun _ h => List.mem_cons_of_mem _ (List.mem_append_right _ h)) (by decide +kernel))
set_option maxRecDepth 20000 in
theorem gX0_grainsOf_X0_checkEntry : GoodIn wsX0_grainsOf (wsV RX0 108 RX0 yX0_checkEntry wsX0_checkEntry) := goodIn_app (goodIn_of _ (by decide +kernel)) ggX0_grainsOf_X0_checkEntry
theorem dX0_grainsOf_0 : decode cX0_grainsOf 0 = .ok (.aload_n 0, 1) := by decide +kernel
theorem dX0_grainsOf_1 : decode cX0_grainsOf 1 = .ok (.iload_n 1, 1) := by decide +kernel
theorem dX0_grainsOf_2 : decode cX0_grainsOf 2 = .ok (.invokevirtual 108, 3) := by decide +kernel
theorem dX0_grainsOf_5 : decode cX0_grainsOf 5 = .ok (.aload_n 0, 1) := by decide +kernel
theorem dX0_grainsOf_6 : decode cX0_grainsOf 6 = .ok (.getfield 26, 3) := by decide +kernel
theorem dX0_grainsOf_9 : decode cX0_grainsOf 9 = .ok (.iload_n 1, 1) := by decide +kernel
theorem dX0_grainsOf_10 : decode cX0_grainsOf 10 = .ok (.iaload, 1) := by decide +kernel
theorem dX0_grainsOf_11 : decode cX0_grainsOf 11 = .ok (.ireturn, 1) := by decide +kernel
set_option maxRecDepth 20000 in
theorem ggX0_excessOf_X0_checkEntry : GoodIn wsX0_excessOf wsX0_checkEntry := goodIn_ca (goodIn_r _ [6, 7, 8, 9, 10, 11, 12, 13, 14, 15, 16, 17, 18, 19, 20, 21, 22, 23] (by decide +kernel) (by decide +kernel)) (goodIn_sub (fun _ h => List.mem_cons_of_mem _ (List.mem_append_right _ h)) (by decide +kernel))
set_option maxRecDepth 20000 in
theorem gX0_excessOf_X0_checkEntry : GoodIn wsX0_excessOf (wsV RX0 108 RX0 yX0_checkEntry wsX0_checkEntry) := goodIn_app (goodIn_of _ (by decide +kernel)) ggX0_excessOf_X0_checkEntry
theorem dX0_excessOf_0 : decode cX0_excessOf 0 = .ok (.aload_n 0, 1) := by decide +kernel
theorem dX0_excessOf_1 : decode cX0_excessOf 1 = .ok (.iload_n 1, 1) := by decide +kernel
theorem dX0_excessOf_2 : decode cX0_excessOf 2 = .ok (.invokevirtual 108, 3) := by decide +kernel
theorem dX0_excessOf_5 : decode cX0_excessOf 5 = .ok (.aload_n 0, 1) := by decide +kernel
theorem dX0_excessOf_6 : decode cX0_excessOf 6 = .ok (.getfield 29, 3) := by decide +kernel
theorem dX0_excessOf_9 : decode cX0_excessOf 9 = .ok (.iload_n 1, 1) := by decide +kernel
theorem dX0_excessOf_10 : decode cX0_excessOf 10 = .ok (.iaload, 1) := by decide +kernel
theorem dX0_excessOf_11 : decode cX0_excessOf 11 = .ok (.ireturn, 1) := by decide +kernel
theorem dX0_faults_0 : decode cX0_faults 0 = .ok (.iconst 0, 1) := by decide +kernel
theorem dX0_faults_1 : decode cX0_faults 1 = .ok (.istore_n 1, 1) := by decide +kernel
theorem dX0_faults_2 : decode cX0_faults 2 = .ok (.iconst 0, 1) := by decide +kernel
theorem dX0_faults_3 : decode cX0_faults 3 = .ok (.istore_n 2, 1) := by decide +kernel
theorem dX0_faults_4 : decode cX0_faults 4 = .ok (.iload_n 2, 1) := by decide +kernel
theorem dX0_faults_5 : decode cX0_faults 5 = .ok (.aload_n 0, 1) := by decide +kernel
theorem dX0_faults_6 : decode cX0_faults 6 = .ok (.getfield 36, 3) := by decide +kernel
theorem dX0_faults_9 : decode cX0_faults 9 = .ok (.if_icmp .ge 21, 3) := by decide +kernel
theorem dX0_faults_12 : decode cX0_faults 12 = .ok (.aload_n 0, 1) := by decide +kernel
theorem dX0_faults_13 : decode cX0_faults 13 = .ok (.getfield 29, 3) := by decide +kernel
theorem dX0_faults_16 : decode cX0_faults 16 = .ok (.iload_n 2, 1) := by decide +kernel
theorem dX0_faults_17 : decode cX0_faults 17 = .ok (.iaload, 1) := by decide +kernel
theorem dX0_faults_18 : decode cX0_faults 18 = .ok (.ifCond .le 6, 3) := by decide +kernel
theorem dX0_faults_21 : decode cX0_faults 21 = .ok (.iinc 1 1, 3) := by decide +kernel
theorem dX0_faults_24 : decode cX0_faults 24 = .ok (.iinc 2 1, 3) := by decide +kernel
theorem dX0_faults_27 : decode cX0_faults 27 = .ok (.goto (-23), 3) := by decide +kernel
theorem dX0_faults_30 : decode cX0_faults 30 = .ok (.iload_n 1, 1) := by decide +kernel
theorem dX0_faults_31 : decode cX0_faults 31 = .ok (.ireturn, 1) := by decide +kernel
set_option maxRecDepth 20000 in
theorem ggX0_arrearsByAudit_X0_checkMember : GoodIn wsX0_arrearsByAudit wsX0_checkMember := goodIn_ca (goodIn_r _ [5, 6, 7, 8, 16, 17, 18, 19, 20, 21, 22, 23, 24, 25, 26, 27, 28, 29] (by decide +kernel) (by decide +kernel)) (goodIn_sub (fun _ h => List.mem_cons_of_mem _ (List.mem_append_right _ h)) (by decide +kernel))
