set_option maxRecDepth 20000 in
theorem ggX0_withThrow_X0_mixed : GoodIn wsX0_withThrow wsX0_mixed := goodIn_r _ [16, 17] (by decide +kernel) (by decide +kernel)
set_option maxRecDepth 20000 in
theorem gX0_withThrow_X0_mixed : GoodIn wsX0_withThrow (va_wsS RX0 131 yX0_mixed wsX0_mixed) := goodIn_app (goodIn_of _ (by decide +kernel)) ggX0_withThrow_X0_mixed
set_option maxRecDepth 20000 in
theorem ggX0_withThrow_X0_isLeft : GoodIn wsX0_withThrow wsX0_isLeft := goodIn_ca (goodIn_r _ [21, 22, 7, 8, 9, 4, 10, 11, 12, 13, 33, 34, 35, 36, 37, 38, 39, 40, 41, 42, 43, 44, 45, 46] (by decide +kernel) (by decide +kernel)) (goodIn_sub (fun _ h => List.mem_cons_of_mem _ (List.mem_append_right _ h)) (by decide +kernel))
set_option maxRecDepth 20000 in
theorem gX0_withThrow_X0_isLeft : GoodIn wsX0_withThrow (wsV RX0 183 RX0 yX0_isLeft wsX0_isLeft) := goodIn_app (goodIn_of _ (by decide +kernel)) ggX0_withThrow_X0_isLeft
set_option maxRecDepth 20000 in
theorem ggX0_withThrow_X0_grainsOf : GoodIn wsX0_withThrow wsX0_grainsOf := goodIn_ca (goodIn_r _ [26, 27, 7, 8, 9, 4, 10, 11, 12, 13, 33, 34, 35, 36, 37, 38, 39, 40, 41, 42, 43, 44, 45, 46] (by decide +kernel) (by decide +kernel)) (goodIn_sub (fun _ h => List.mem_cons_of_mem _ (List.mem_append_right _ h)) (by decide +kernel))
set_option maxRecDepth 20000 in
theorem gX0_withThrow_X0_grainsOf : GoodIn wsX0_withThrow (wsV RX0 187 RX0 yX0_grainsOf wsX0_grainsOf) := goodIn_app (goodIn_of _ (by decide +kernel)) ggX0_withThrow_X0_grainsOf
set_option maxRecDepth 20000 in
theorem ggX0_withThrow_X0_excessOf : GoodIn wsX0_withThrow wsX0_excessOf := goodIn_ca (goodIn_r _ [31, 32, 7, 8, 9, 4, 10, 11, 12, 13, 33, 34, 35, 36, 37, 38, 39, 40, 41, 42, 43, 44, 45, 46] (by decide +kernel) (by decide +kernel)) (goodIn_sub (fun _ h => List.mem_cons_of_mem _ (List.mem_append_right _ h)) (by decide +kernel))
set_option maxRecDepth 20000 in
theorem gX0_withThrow_X0_excessOf : GoodIn wsX0_withThrow (wsV RX0 190 RX0 yX0_excessOf wsX0_excessOf) := goodIn_app (goodIn_of _ (by decide +kernel)) ggX0_withThrow_X0_excessOf
theorem dX0_withThrow_0 : decode cX0_withThrow 0 = .ok (.lload_n 1, 1) := by decide +kernel
theorem dX0_withThrow_1 : decode cX0_withThrow 1 = .ok (.lstore 4, 2) := by decide +kernel
theorem dX0_withThrow_3 : decode cX0_withThrow 3 = .ok (.lload 4, 2) := by decide +kernel
theorem dX0_withThrow_5 : decode cX0_withThrow 5 = .ok (.aload_n 0, 1) := by decide +kernel
theorem dX0_withThrow_6 : decode cX0_withThrow 6 = .ok (.iload_n 3, 1) := by decide +kernel
theorem dX0_withThrow_7 : decode cX0_withThrow 7 = .ok (.invokevirtual 180, 3) := by decide +kernel
theorem dX0_withThrow_10 : decode cX0_withThrow 10 = .ok (.invokestatic 131, 3) := by decide +kernel
theorem dX0_withThrow_13 : decode cX0_withThrow 13 = .ok (.lstore 4, 2) := by decide +kernel
theorem dX0_withThrow_15 : decode cX0_withThrow 15 = .ok (.lload 4, 2) := by decide +kernel
theorem dX0_withThrow_17 : decode cX0_withThrow 17 = .ok (.aload_n 0, 1) := by decide +kernel
theorem dX0_withThrow_18 : decode cX0_withThrow 18 = .ok (.iload_n 3, 1) := by decide +kernel
theorem dX0_withThrow_19 : decode cX0_withThrow 19 = .ok (.invokevirtual 183, 3) := by decide +kernel
theorem dX0_withThrow_22 : decode cX0_withThrow 22 = .ok (.ifCond .eq 7, 3) := by decide +kernel
theorem dX0_withThrow_25 : decode cX0_withThrow 25 = .ok (.iconst 1, 1) := by decide +kernel
theorem dX0_withThrow_26 : decode cX0_withThrow 26 = .ok (.goto 4, 3) := by decide +kernel
theorem dX0_withThrow_29 : decode cX0_withThrow 29 = .ok (.iconst 0, 1) := by decide +kernel
theorem dX0_withThrow_30 : decode cX0_withThrow 30 = .ok (.invokestatic 131, 3) := by decide +kernel
theorem dX0_withThrow_33 : decode cX0_withThrow 33 = .ok (.lstore 4, 2) := by decide +kernel
theorem dX0_withThrow_35 : decode cX0_withThrow 35 = .ok (.lload 4, 2) := by decide +kernel
theorem dX0_withThrow_37 : decode cX0_withThrow 37 = .ok (.aload_n 0, 1) := by decide +kernel
theorem dX0_withThrow_38 : decode cX0_withThrow 38 = .ok (.iload_n 3, 1) := by decide +kernel
theorem dX0_withThrow_39 : decode cX0_withThrow 39 = .ok (.invokevirtual 187, 3) := by decide +kernel
theorem dX0_withThrow_42 : decode cX0_withThrow 42 = .ok (.invokestatic 131, 3) := by decide +kernel
theorem dX0_withThrow_45 : decode cX0_withThrow 45 = .ok (.lstore 4, 2) := by decide +kernel
theorem dX0_withThrow_47 : decode cX0_withThrow 47 = .ok (.lload 4, 2) := by decide +kernel
theorem dX0_withThrow_49 : decode cX0_withThrow 49 = .ok (.aload_n 0, 1) := by decide +kernel
theorem dX0_withThrow_50 : decode cX0_withThrow 50 = .ok (.iload_n 3, 1) := by decide +kernel
theorem dX0_withThrow_51 : decode cX0_withThrow 51 = .ok (.invokevirtual 190, 3) := by decide +kernel
theorem dX0_withThrow_54 : decode cX0_withThrow 54 = .ok (.invokestatic 131, 3) := by decide +kernel
theorem dX0_withThrow_57 : decode cX0_withThrow 57 = .ok (.lstore 4, 2) := by decide +kernel
theorem dX0_withThrow_59 : decode cX0_withThrow 59 = .ok (.lload 4, 2) := by decide +kernel
theorem dX0_withThrow_61 : decode cX0_withThrow 61 = .ok (.lreturn, 1) := by decide +kernel
theorem dX0_mixed_0 : decode cX0_mixed 0 = .ok (.lload_n 0, 1) := by decide +kernel
theorem dX0_mixed_1 : decode cX0_mixed 1 = .ok (.ldc2_w 193, 3) := by decide +kernel
theorem dX0_mixed_4 : decode cX0_mixed 4 = .ok (.lmul, 1) := by decide +kernel
theorem dX0_mixed_5 : decode cX0_mixed 5 = .ok (.iload_n 2, 1) := by decide +kernel
theorem dX0_mixed_6 : decode cX0_mixed 6 = .ok (.i2l, 1) := by decide +kernel
theorem dX0_mixed_7 : decode cX0_mixed 7 = .ok (.ladd, 1) := by decide +kernel
theorem dX0_mixed_8 : decode cX0_mixed 8 = .ok (.lreturn, 1) := by decide +kernel
theorem dX0_checkMember_0 : decode cX0_checkMember 0 = .ok (.iload_n 1, 1) := by decide +kernel
theorem dX0_checkMember_1 : decode cX0_checkMember 1 = .ok (.ifCond .lt 11, 3) := by decide +kernel
theorem dX0_checkMember_4 : decode cX0_checkMember 4 = .ok (.iload_n 1, 1) := by decide +kernel
theorem dX0_checkMember_5 : decode cX0_checkMember 5 = .ok (.aload_n 0, 1) := by decide +kernel
theorem dX0_checkMember_6 : decode cX0_checkMember 6 = .ok (.getfield 32, 3) := by decide +kernel
theorem dX0_checkMember_9 : decode cX0_checkMember 9 = .ok (.if_icmp .lt 13, 3) := by decide +kernel
theorem dX0_checkMember_12 : decode cX0_checkMember 12 = .ok (.new 195, 3) := by decide +kernel
theorem dX0_checkMember_15 : decode cX0_checkMember 15 = .ok (.dup, 1) := by decide +kernel
theorem dX0_checkMember_16 : decode cX0_checkMember 16 = .ok (.ldc 197, 2) := by decide +kernel
theorem dX0_checkMember_18 : decode cX0_checkMember 18 = .ok (.invokespecial 199, 3) := by decide +kernel
theorem dX0_checkMember_21 : decode cX0_checkMember 21 = .ok (.athrow, 1) := by decide +kernel
theorem dX0_checkMember_22 : decode cX0_checkMember 22 = .ok (.return_, 1) := by decide +kernel
theorem dX0_checkShoulder_0 : decode cX0_checkShoulder 0 = .ok (.iload_n 0, 1) := by decide +kernel
theorem dX0_checkShoulder_1 : decode cX0_checkShoulder 1 = .ok (.ifCond .eq 18, 3) := by decide +kernel
theorem dX0_checkShoulder_4 : decode cX0_checkShoulder 4 = .ok (.iload_n 0, 1) := by decide +kernel
theorem dX0_checkShoulder_5 : decode cX0_checkShoulder 5 = .ok (.iconst 1, 1) := by decide +kernel
theorem dX0_checkShoulder_6 : decode cX0_checkShoulder 6 = .ok (.if_icmp .eq 13, 3) := by decide +kernel
theorem dX0_checkShoulder_9 : decode cX0_checkShoulder 9 = .ok (.new 195, 3) := by decide +kernel
theorem dX0_checkShoulder_12 : decode cX0_checkShoulder 12 = .ok (.dup, 1) := by decide +kernel
theorem dX0_checkShoulder_13 : decode cX0_checkShoulder 13 = .ok (.ldc 200, 2) := by decide +kernel
theorem dX0_checkShoulder_15 : decode cX0_checkShoulder 15 = .ok (.invokespecial 199, 3) := by decide +kernel
theorem dX0_checkShoulder_18 : decode cX0_checkShoulder 18 = .ok (.athrow, 1) := by decide +kernel
theorem dX0_checkShoulder_19 : decode cX0_checkShoulder 19 = .ok (.return_, 1) := by decide +kernel
theorem dX0_checkEntry_0 : decode cX0_checkEntry 0 = .ok (.iload_n 1, 1) := by decide +kernel
theorem dX0_checkEntry_1 : decode cX0_checkEntry 1 = .ok (.ifCond .lt 11, 3) := by decide +kernel
theorem dX0_checkEntry_4 : decode cX0_checkEntry 4 = .ok (.iload_n 1, 1) := by decide +kernel
theorem dX0_checkEntry_5 : decode cX0_checkEntry 5 = .ok (.aload_n 0, 1) := by decide +kernel
theorem dX0_checkEntry_6 : decode cX0_checkEntry 6 = .ok (.getfield 36, 3) := by decide +kernel
theorem dX0_checkEntry_9 : decode cX0_checkEntry 9 = .ok (.if_icmp .lt 13, 3) := by decide +kernel
theorem dX0_checkEntry_12 : decode cX0_checkEntry 12 = .ok (.new 195, 3) := by decide +kernel
theorem dX0_checkEntry_15 : decode cX0_checkEntry 15 = .ok (.dup, 1) := by decide +kernel
theorem dX0_checkEntry_16 : decode cX0_checkEntry 16 = .ok (.ldc 202, 2) := by decide +kernel
theorem dX0_checkEntry_18 : decode cX0_checkEntry 18 = .ok (.invokespecial 199, 3) := by decide +kernel
theorem dX0_checkEntry_21 : decode cX0_checkEntry 21 = .ok (.athrow, 1) := by decide +kernel
theorem dX0_checkEntry_22 : decode cX0_checkEntry 22 = .ok (.return_, 1) := by decide +kernel
theorem dX0_checkAmount_0 : decode cX0_checkAmount 0 = .ok (.iload_n 0, 1) := by decide +kernel
theorem dX0_checkAmount_1 : decode cX0_checkAmount 1 = .ok (.iconst 1, 1) := by decide +kernel
theorem dX0_checkAmount_2 : decode cX0_checkAmount 2 = .ok (.if_icmp .lt 8, 3) := by decide +kernel
theorem dX0_checkAmount_5 : decode cX0_checkAmount 5 = .ok (.iload_n 0, 1) := by decide +kernel
theorem dX0_checkAmount_6 : decode cX0_checkAmount 6 = .ok (.iload_n 1, 1) := by decide +kernel
theorem dX0_checkAmount_7 : decode cX0_checkAmount 7 = .ok (.if_icmp .le 13, 3) := by decide +kernel
theorem dX0_checkAmount_10 : decode cX0_checkAmount 10 = .ok (.new 204, 3) := by decide +kernel
theorem dX0_checkAmount_13 : decode cX0_checkAmount 13 = .ok (.dup, 1) := by decide +kernel
theorem dX0_checkAmount_14 : decode cX0_checkAmount 14 = .ok (.ldc 206, 2) := by decide +kernel
theorem dX0_checkAmount_16 : decode cX0_checkAmount 16 = .ok (.invokespecial 208, 3) := by decide +kernel
theorem dX0_checkAmount_19 : decode cX0_checkAmount 19 = .ok (.athrow, 1) := by decide +kernel
theorem dX0_checkAmount_20 : decode cX0_checkAmount 20 = .ok (.return_, 1) := by decide +kernel
theorem dX0_checkCellar_0 : decode cX0_checkCellar 0 = .ok (.aload_n 0, 1) := by decide +kernel
theorem dX0_checkCellar_1 : decode cX0_checkCellar 1 = .ok (.getfield 39, 3) := by decide +kernel
theorem dX0_checkCellar_4 : decode cX0_checkCellar 4 = .ok (.iload_n 1, 1) := by decide +kernel
theorem dX0_checkCellar_5 : decode cX0_checkCellar 5 = .ok (.if_icmp .ge 13, 3) := by decide +kernel
theorem dX0_checkCellar_8 : decode cX0_checkCellar 8 = .ok (.new 48, 3) := by decide +kernel
theorem dX0_checkCellar_11 : decode cX0_checkCellar 11 = .ok (.dup, 1) := by decide +kernel
theorem dX0_checkCellar_12 : decode cX0_checkCellar 12 = .ok (.ldc 209, 2) := by decide +kernel
theorem dX0_checkCellar_14 : decode cX0_checkCellar 14 = .ok (.invokespecial 52, 3) := by decide +kernel
theorem dX0_checkCellar_17 : decode cX0_checkCellar 17 = .ok (.athrow, 1) := by decide +kernel
theorem dX0_checkCellar_18 : decode cX0_checkCellar 18 = .ok (.return_, 1) := by decide +kernel
theorem dX0_checkLedgerHasRoom_0 : decode cX0_checkLedgerHasRoom 0 = .ok (.aload_n 0, 1) := by decide +kernel
theorem dX0_checkLedgerHasRoom_1 : decode cX0_checkLedgerHasRoom 1 = .ok (.getfield 36, 3) := by decide +kernel
theorem dX0_checkLedgerHasRoom_4 : decode cX0_checkLedgerHasRoom 4 = .ok (.bipush 30, 2) := by decide +kernel
theorem dX0_checkLedgerHasRoom_6 : decode cX0_checkLedgerHasRoom 6 = .ok (.if_icmp .lt 13, 3) := by decide +kernel
theorem dX0_checkLedgerHasRoom_9 : decode cX0_checkLedgerHasRoom 9 = .ok (.new 48, 3) := by decide +kernel
theorem dX0_checkLedgerHasRoom_12 : decode cX0_checkLedgerHasRoom 12 = .ok (.dup, 1) := by decide +kernel
theorem dX0_checkLedgerHasRoom_13 : decode cX0_checkLedgerHasRoom 13 = .ok (.ldc 211, 2) := by decide +kernel
theorem dX0_checkLedgerHasRoom_15 : decode cX0_checkLedgerHasRoom 15 = .ok (.invokespecial 52, 3) := by decide +kernel
theorem dX0_checkLedgerHasRoom_18 : decode cX0_checkLedgerHasRoom 18 = .ok (.athrow, 1) := by decide +kernel
theorem dX0_checkLedgerHasRoom_19 : decode cX0_checkLedgerHasRoom 19 = .ok (.return_, 1) := by decide +kernel
theorem dX0_addArrears_0 : decode cX0_addArrears 0 = .ok (.aload_n 0, 1) := by decide +kernel
theorem dX0_addArrears_1 : decode cX0_addArrears 1 = .ok (.getfield 13, 3) := by decide +kernel
theorem dX0_addArrears_4 : decode cX0_addArrears 4 = .ok (.iload_n 1, 1) := by decide +kernel
theorem dX0_addArrears_5 : decode cX0_addArrears 5 = .ok (.bipush 99, 2) := by decide +kernel
theorem dX0_addArrears_7 : decode cX0_addArrears 7 = .ok (.aload_n 0, 1) := by decide +kernel
theorem dX0_addArrears_8 : decode cX0_addArrears 8 = .ok (.getfield 13, 3) := by decide +kernel
theorem dX0_addArrears_11 : decode cX0_addArrears 11 = .ok (.iload_n 1, 1) := by decide +kernel
theorem dX0_addArrears_12 : decode cX0_addArrears 12 = .ok (.iaload, 1) := by decide +kernel
theorem dX0_addArrears_13 : decode cX0_addArrears 13 = .ok (.iload_n 2, 1) := by decide +kernel
theorem dX0_addArrears_14 : decode cX0_addArrears 14 = .ok (.iadd, 1) := by decide +kernel
theorem dX0_addArrears_15 : decode cX0_addArrears 15 = .ok (.invokestatic 89, 3) := by decide +kernel
theorem dX0_addArrears_18 : decode cX0_addArrears 18 = .ok (.iastore, 1) := by decide +kernel
theorem dX0_addArrears_19 : decode cX0_addArrears 19 = .ok (.return_, 1) := by decide +kernel
theorem dX0_lessenArrears_0 : decode cX0_lessenArrears 0 = .ok (.aload_n 0, 1) := by decide +kernel
theorem dX0_lessenArrears_1 : decode cX0_lessenArrears 1 = .ok (.getfield 13, 3) := by decide +kernel
theorem dX0_lessenArrears_4 : decode cX0_lessenArrears 4 = .ok (.iload_n 1, 1) := by decide +kernel
theorem dX0_lessenArrears_5 : decode cX0_lessenArrears 5 = .ok (.iconst 0, 1) := by decide +kernel
theorem dX0_lessenArrears_6 : decode cX0_lessenArrears 6 = .ok (.aload_n 0, 1) := by decide +kernel
theorem dX0_lessenArrears_7 : decode cX0_lessenArrears 7 = .ok (.getfield 13, 3) := by decide +kernel
theorem dX0_lessenArrears_10 : decode cX0_lessenArrears 10 = .ok (.iload_n 1, 1) := by decide +kernel
theorem dX0_lessenArrears_11 : decode cX0_lessenArrears 11 = .ok (.iaload, 1) := by decide +kernel
theorem dX0_lessenArrears_12 : decode cX0_lessenArrears 12 = .ok (.iload_n 2, 1) := by decide +kernel
theorem dX0_lessenArrears_13 : decode cX0_lessenArrears 13 = .ok (.isub, 1) := by decide +kernel
theorem dX0_lessenArrears_14 : decode cX0_lessenArrears 14 = .ok (.invokestatic 213, 3) := by decide +kernel
theorem dX0_lessenArrears_17 : decode cX0_lessenArrears 17 = .ok (.iastore, 1) := by decide +kernel
theorem dX0_lessenArrears_18 : decode cX0_lessenArrears 18 = .ok (.return_, 1) := by decide +kernel
theorem dX0_addLumps_0 : decode cX0_addLumps 0 = .ok (.aload_n 0, 1) := by decide +kernel
theorem dX0_addLumps_1 : decode cX0_addLumps 1 = .ok (.getfield 16, 3) := by decide +kernel
theorem dX0_addLumps_4 : decode cX0_addLumps 4 = .ok (.iload_n 1, 1) := by decide +kernel
theorem dX0_addLumps_5 : decode cX0_addLumps 5 = .ok (.bipush 9, 2) := by decide +kernel
theorem dX0_addLumps_7 : decode cX0_addLumps 7 = .ok (.aload_n 0, 1) := by decide +kernel
theorem dX0_addLumps_8 : decode cX0_addLumps 8 = .ok (.getfield 16, 3) := by decide +kernel
theorem dX0_addLumps_11 : decode cX0_addLumps 11 = .ok (.iload_n 1, 1) := by decide +kernel
theorem dX0_addLumps_12 : decode cX0_addLumps 12 = .ok (.iaload, 1) := by decide +kernel
theorem dX0_addLumps_13 : decode cX0_addLumps 13 = .ok (.iload_n 2, 1) := by decide +kernel
theorem dX0_addLumps_14 : decode cX0_addLumps 14 = .ok (.iadd, 1) := by decide +kernel
theorem dX0_addLumps_15 : decode cX0_addLumps 15 = .ok (.invokestatic 89, 3) := by decide +kernel
theorem dX0_addLumps_18 : decode cX0_addLumps 18 = .ok (.iastore, 1) := by decide +kernel
theorem dX0_addLumps_19 : decode cX0_addLumps 19 = .ok (.return_, 1) := by decide +kernel
theorem dX0_leftExcess_0 : decode cX0_leftExcess 0 = .ok (.iconst 0, 1) := by decide +kernel
theorem dX0_leftExcess_1 : decode cX0_leftExcess 1 = .ok (.iload_n 2, 1) := by decide +kernel
theorem dX0_leftExcess_2 : decode cX0_leftExcess 2 = .ok (.aload_n 0, 1) := by decide +kernel
theorem dX0_leftExcess_3 : decode cX0_leftExcess 3 = .ok (.getfield 13, 3) := by decide +kernel
theorem dX0_leftExcess_6 : decode cX0_leftExcess 6 = .ok (.iload_n 1, 1) := by decide +kernel
theorem dX0_leftExcess_7 : decode cX0_leftExcess 7 = .ok (.iaload, 1) := by decide +kernel
theorem dX0_leftExcess_8 : decode cX0_leftExcess 8 = .ok (.isub, 1) := by decide +kernel
theorem dX0_leftExcess_9 : decode cX0_leftExcess 9 = .ok (.invokestatic 213, 3) := by decide +kernel
theorem dX0_leftExcess_12 : decode cX0_leftExcess 12 = .ok (.ireturn, 1) := by decide +kernel
theorem dX0_lossOf_0 : decode cX0_lossOf 0 = .ok (.aload_n 0, 1) := by decide +kernel
theorem dX0_lossOf_1 : decode cX0_lossOf 1 = .ok (.getfield 16, 3) := by decide +kernel
theorem dX0_lossOf_4 : decode cX0_lossOf 4 = .ok (.iload_n 1, 1) := by decide +kernel
theorem dX0_lossOf_5 : decode cX0_lossOf 5 = .ok (.iaload, 1) := by decide +kernel
theorem dX0_lossOf_6 : decode cX0_lossOf 6 = .ok (.ifCond .le 5, 3) := by decide +kernel
theorem dX0_lossOf_9 : decode cX0_lossOf 9 = .ok (.iconst 0, 1) := by decide +kernel
theorem dX0_lossOf_10 : decode cX0_lossOf 10 = .ok (.ireturn, 1) := by decide +kernel
theorem dX0_lossOf_11 : decode cX0_lossOf 11 = .ok (.aload_n 0, 1) := by decide +kernel
theorem dX0_lossOf_12 : decode cX0_lossOf 12 = .ok (.getfield 13, 3) := by decide +kernel
theorem dX0_lossOf_15 : decode cX0_lossOf 15 = .ok (.iload_n 1, 1) := by decide +kernel
theorem dX0_lossOf_16 : decode cX0_lossOf 16 = .ok (.iaload, 1) := by decide +kernel
theorem dX0_lossOf_17 : decode cX0_lossOf 17 = .ok (.bipush 10, 2) := by decide +kernel
theorem dX0_lossOf_19 : decode cX0_lossOf 19 = .ok (.iadd, 1) := by decide +kernel
theorem dX0_lossOf_20 : decode cX0_lossOf 20 = .ok (.iconst 1, 1) := by decide +kernel
theorem dX0_lossOf_21 : decode cX0_lossOf 21 = .ok (.isub, 1) := by decide +kernel
theorem dX0_lossOf_22 : decode cX0_lossOf 22 = .ok (.bipush 10, 2) := by decide +kernel
theorem dX0_lossOf_24 : decode cX0_lossOf 24 = .ok (.idiv, 1) := by decide +kernel
theorem dX0_lossOf_25 : decode cX0_lossOf 25 = .ok (.ireturn, 1) := by decide +kernel
set_option maxRecDepth 20000 in
theorem ggX0_eatOrFeelLuck_X0_lessenArrears : GoodIn wsX0_eatOrFeelLuck wsX0_lessenArrears := goodIn_r _ [15, 2, 4, 5, 6, 7, 20, 21, 22, 23, 24, 25, 26, 27, 28, 29, 30, 31, 32, 33] (by decide +kernel) (by decide +kernel)
set_option maxRecDepth 20000 in
theorem gX0_eatOrFeelLuck_X0_lessenArrears : GoodIn wsX0_eatOrFeelLuck (wsV RX0 79 RX0 yX0_lessenArrears wsX0_lessenArrears) := goodIn_app (goodIn_of _ (by decide +kernel)) ggX0_eatOrFeelLuck_X0_lessenArrears
set_option maxRecDepth 20000 in
theorem ggX0_eatOrFeelLuck_X0_lossOf : GoodIn wsX0_eatOrFeelLuck wsX0_lossOf := goodIn_r _ [19, 1, 2, 20, 21, 22, 23, 24, 25, 26, 27, 28, 29, 30, 31, 32, 33] (by decide +kernel) (by decide +kernel)
set_option maxRecDepth 20000 in
theorem gX0_eatOrFeelLuck_X0_lossOf : GoodIn wsX0_eatOrFeelLuck (wsV RX0 105 RX0 yX0_lossOf wsX0_lossOf) := goodIn_app (goodIn_of _ (by decide +kernel)) ggX0_eatOrFeelLuck_X0_lossOf
theorem dX0_eatOrFeelLuck_0 : decode cX0_eatOrFeelLuck 0 = .ok (.aload_n 0, 1) := by decide +kernel
theorem dX0_eatOrFeelLuck_1 : decode cX0_eatOrFeelLuck 1 = .ok (.getfield 16, 3) := by decide +kernel
theorem dX0_eatOrFeelLuck_4 : decode cX0_eatOrFeelLuck 4 = .ok (.iload_n 1, 1) := by decide +kernel
theorem dX0_eatOrFeelLuck_5 : decode cX0_eatOrFeelLuck 5 = .ok (.iaload, 1) := by decide +kernel
theorem dX0_eatOrFeelLuck_6 : decode cX0_eatOrFeelLuck 6 = .ok (.ifCond .le 22, 3) := by decide +kernel
theorem dX0_eatOrFeelLuck_9 : decode cX0_eatOrFeelLuck 9 = .ok (.aload_n 0, 1) := by decide +kernel
theorem dX0_eatOrFeelLuck_10 : decode cX0_eatOrFeelLuck 10 = .ok (.getfield 16, 3) := by decide +kernel
theorem dX0_eatOrFeelLuck_13 : decode cX0_eatOrFeelLuck 13 = .ok (.iload_n 1, 1) := by decide +kernel
theorem dX0_eatOrFeelLuck_14 : decode cX0_eatOrFeelLuck 14 = .ok (.dup2, 1) := by decide +kernel
theorem dX0_eatOrFeelLuck_15 : decode cX0_eatOrFeelLuck 15 = .ok (.iaload, 1) := by decide +kernel
theorem dX0_eatOrFeelLuck_16 : decode cX0_eatOrFeelLuck 16 = .ok (.iconst 1, 1) := by decide +kernel
theorem dX0_eatOrFeelLuck_17 : decode cX0_eatOrFeelLuck 17 = .ok (.isub, 1) := by decide +kernel
theorem dX0_eatOrFeelLuck_18 : decode cX0_eatOrFeelLuck 18 = .ok (.iastore, 1) := by decide +kernel
theorem dX0_eatOrFeelLuck_19 : decode cX0_eatOrFeelLuck 19 = .ok (.aload_n 0, 1) := by decide +kernel
theorem dX0_eatOrFeelLuck_20 : decode cX0_eatOrFeelLuck 20 = .ok (.iload_n 1, 1) := by decide +kernel
theorem dX0_eatOrFeelLuck_21 : decode cX0_eatOrFeelLuck 21 = .ok (.iconst 3, 1) := by decide +kernel
theorem dX0_eatOrFeelLuck_22 : decode cX0_eatOrFeelLuck 22 = .ok (.invokevirtual 79, 3) := by decide +kernel
theorem dX0_eatOrFeelLuck_25 : decode cX0_eatOrFeelLuck 25 = .ok (.goto 56, 3) := by decide +kernel
theorem dX0_eatOrFeelLuck_28 : decode cX0_eatOrFeelLuck 28 = .ok (.aload_n 0, 1) := by decide +kernel
theorem dX0_eatOrFeelLuck_29 : decode cX0_eatOrFeelLuck 29 = .ok (.getfield 13, 3) := by decide +kernel
theorem dX0_eatOrFeelLuck_32 : decode cX0_eatOrFeelLuck 32 = .ok (.iload_n 1, 1) := by decide +kernel
theorem dX0_eatOrFeelLuck_33 : decode cX0_eatOrFeelLuck 33 = .ok (.iaload, 1) := by decide +kernel
theorem dX0_eatOrFeelLuck_34 : decode cX0_eatOrFeelLuck 34 = .ok (.ifCond .le 28, 3) := by decide +kernel
theorem dX0_eatOrFeelLuck_37 : decode cX0_eatOrFeelLuck 37 = .ok (.aload_n 0, 1) := by decide +kernel
theorem dX0_eatOrFeelLuck_38 : decode cX0_eatOrFeelLuck 38 = .ok (.getfield 9, 3) := by decide +kernel
theorem dX0_eatOrFeelLuck_41 : decode cX0_eatOrFeelLuck 41 = .ok (.iload_n 1, 1) := by decide +kernel
theorem dX0_eatOrFeelLuck_42 : decode cX0_eatOrFeelLuck 42 = .ok (.iconst 0, 1) := by decide +kernel
theorem dX0_eatOrFeelLuck_43 : decode cX0_eatOrFeelLuck 43 = .ok (.aload_n 0, 1) := by decide +kernel
theorem dX0_eatOrFeelLuck_44 : decode cX0_eatOrFeelLuck 44 = .ok (.getfield 9, 3) := by decide +kernel
theorem dX0_eatOrFeelLuck_47 : decode cX0_eatOrFeelLuck 47 = .ok (.iload_n 1, 1) := by decide +kernel
theorem dX0_eatOrFeelLuck_48 : decode cX0_eatOrFeelLuck 48 = .ok (.iaload, 1) := by decide +kernel
theorem dX0_eatOrFeelLuck_49 : decode cX0_eatOrFeelLuck 49 = .ok (.aload_n 0, 1) := by decide +kernel
theorem dX0_eatOrFeelLuck_50 : decode cX0_eatOrFeelLuck 50 = .ok (.iload_n 1, 1) := by decide +kernel
theorem dX0_eatOrFeelLuck_51 : decode cX0_eatOrFeelLuck 51 = .ok (.invokevirtual 105, 3) := by decide +kernel
theorem dX0_eatOrFeelLuck_54 : decode cX0_eatOrFeelLuck 54 = .ok (.isub, 1) := by decide +kernel
theorem dX0_eatOrFeelLuck_55 : decode cX0_eatOrFeelLuck 55 = .ok (.invokestatic 213, 3) := by decide +kernel
theorem dX0_eatOrFeelLuck_58 : decode cX0_eatOrFeelLuck 58 = .ok (.iastore, 1) := by decide +kernel
theorem dX0_eatOrFeelLuck_59 : decode cX0_eatOrFeelLuck 59 = .ok (.goto 22, 3) := by decide +kernel
theorem dX0_eatOrFeelLuck_62 : decode cX0_eatOrFeelLuck 62 = .ok (.aload_n 0, 1) := by decide +kernel
theorem dX0_eatOrFeelLuck_63 : decode cX0_eatOrFeelLuck 63 = .ok (.getfield 9, 3) := by decide +kernel
theorem dX0_eatOrFeelLuck_66 : decode cX0_eatOrFeelLuck 66 = .ok (.iload_n 1, 1) := by decide +kernel
theorem dX0_eatOrFeelLuck_67 : decode cX0_eatOrFeelLuck 67 = .ok (.bipush 100, 2) := by decide +kernel
theorem dX0_eatOrFeelLuck_69 : decode cX0_eatOrFeelLuck 69 = .ok (.aload_n 0, 1) := by decide +kernel
theorem dX0_eatOrFeelLuck_70 : decode cX0_eatOrFeelLuck 70 = .ok (.getfield 9, 3) := by decide +kernel
theorem dX0_eatOrFeelLuck_73 : decode cX0_eatOrFeelLuck 73 = .ok (.iload_n 1, 1) := by decide +kernel
theorem dX0_eatOrFeelLuck_74 : decode cX0_eatOrFeelLuck 74 = .ok (.iaload, 1) := by decide +kernel
theorem dX0_eatOrFeelLuck_75 : decode cX0_eatOrFeelLuck 75 = .ok (.iconst 1, 1) := by decide +kernel
theorem dX0_eatOrFeelLuck_76 : decode cX0_eatOrFeelLuck 76 = .ok (.iadd, 1) := by decide +kernel
theorem dX0_eatOrFeelLuck_77 : decode cX0_eatOrFeelLuck 77 = .ok (.invokestatic 89, 3) := by decide +kernel
theorem dX0_eatOrFeelLuck_80 : decode cX0_eatOrFeelLuck 80 = .ok (.iastore, 1) := by decide +kernel
theorem dX0_eatOrFeelLuck_81 : decode cX0_eatOrFeelLuck 81 = .ok (.return_, 1) := by decide +kernel
set_option maxRecDepth 20000 in
theorem ggX0_passOneDay_X0_isAuditDay : GoodIn wsX0_passOneDay wsX0_isAuditDay := goodIn_r _ [6] (by decide +kernel) (by decide +kernel)
set_option maxRecDepth 20000 in
theorem gX0_passOneDay_X0_isAuditDay : GoodIn wsX0_passOneDay (va_wsS RX0 216 yX0_isAuditDay wsX0_isAuditDay) := goodIn_app (goodIn_of _ (by decide +kernel)) ggX0_passOneDay_X0_isAuditDay
set_option maxRecDepth 20000 in
theorem ggX0_passOneDay_X0_audit : GoodIn wsX0_passOneDay wsX0_audit := goodIn_r _ [10, 2, 11, 12, 13, 14, 15, 5, 16, 17, 18, 19, 20, 21, 22, 23, 24, 25, 26, 27, 28, 29, 30, 31, 49, 50, 51, 52, 53, 54, 55, 56, 57, 58, 59, 60, 61, 62] (by decide +kernel) (by decide +kernel)
set_option maxRecDepth 20000 in
theorem gX0_passOneDay_X0_audit : GoodIn wsX0_passOneDay (wsV RX0 219 RX0 yX0_audit wsX0_audit) := goodIn_app (goodIn_of _ (by decide +kernel)) ggX0_passOneDay_X0_audit
set_option maxRecDepth 20000 in
theorem ggX0_passOneDay_X0_eatOrFeelLuck : GoodIn wsX0_passOneDay wsX0_eatOrFeelLuck := goodIn_r _ [35, 36, 27, 37, 38, 39, 30, 40, 28, 29, 31, 41, 42, 43, 5, 44, 45, 46, 47, 48, 49, 50, 51, 52, 53, 54, 55, 56, 57, 58, 59, 60, 61, 62] (by decide +kernel) (by decide +kernel)
set_option maxRecDepth 20000 in
theorem gX0_passOneDay_X0_eatOrFeelLuck : GoodIn wsX0_passOneDay (wsV RX0 222 RX0 yX0_eatOrFeelLuck wsX0_eatOrFeelLuck) := goodIn_app (goodIn_of _ (by decide +kernel)) ggX0_passOneDay_X0_eatOrFeelLuck
theorem dX0_passOneDay_0 : decode cX0_passOneDay 0 = .ok (.aload_n 0, 1) := by decide +kernel
theorem dX0_passOneDay_1 : decode cX0_passOneDay 1 = .ok (.getfield 42, 3) := by decide +kernel
theorem dX0_passOneDay_4 : decode cX0_passOneDay 4 = .ok (.invokestatic 216, 3) := by decide +kernel
theorem dX0_passOneDay_7 : decode cX0_passOneDay 7 = .ok (.ifCond .eq 10, 3) := by decide +kernel
theorem dX0_passOneDay_10 : decode cX0_passOneDay 10 = .ok (.aload_n 0, 1) := by decide +kernel
theorem dX0_passOneDay_11 : decode cX0_passOneDay 11 = .ok (.invokevirtual 219, 3) := by decide +kernel
theorem dX0_passOneDay_14 : decode cX0_passOneDay 14 = .ok (.goto 4, 3) := by decide +kernel
theorem dX0_passOneDay_17 : decode cX0_passOneDay 17 = .ok (.iconst 0, 1) := by decide +kernel
theorem dX0_passOneDay_18 : decode cX0_passOneDay 18 = .ok (.istore_n 1, 1) := by decide +kernel
theorem dX0_passOneDay_19 : decode cX0_passOneDay 19 = .ok (.iconst 0, 1) := by decide +kernel
theorem dX0_passOneDay_20 : decode cX0_passOneDay 20 = .ok (.istore_n 2, 1) := by decide +kernel
theorem dX0_passOneDay_21 : decode cX0_passOneDay 21 = .ok (.iload_n 2, 1) := by decide +kernel
theorem dX0_passOneDay_22 : decode cX0_passOneDay 22 = .ok (.aload_n 0, 1) := by decide +kernel
theorem dX0_passOneDay_23 : decode cX0_passOneDay 23 = .ok (.getfield 32, 3) := by decide +kernel
theorem dX0_passOneDay_26 : decode cX0_passOneDay 26 = .ok (.if_icmp .ge 14, 3) := by decide +kernel
theorem dX0_passOneDay_29 : decode cX0_passOneDay 29 = .ok (.aload_n 0, 1) := by decide +kernel
theorem dX0_passOneDay_30 : decode cX0_passOneDay 30 = .ok (.iload_n 2, 1) := by decide +kernel
theorem dX0_passOneDay_31 : decode cX0_passOneDay 31 = .ok (.invokevirtual 222, 3) := by decide +kernel
theorem dX0_passOneDay_34 : decode cX0_passOneDay 34 = .ok (.iinc 2 1, 3) := by decide +kernel
theorem dX0_passOneDay_37 : decode cX0_passOneDay 37 = .ok (.goto (-16), 3) := by decide +kernel
theorem dX0_passOneDay_40 : decode cX0_passOneDay 40 = .ok (.aload_n 0, 1) := by decide +kernel
theorem dX0_passOneDay_41 : decode cX0_passOneDay 41 = .ok (.dup, 1) := by decide +kernel
theorem dX0_passOneDay_42 : decode cX0_passOneDay 42 = .ok (.getfield 42, 3) := by decide +kernel
theorem dX0_passOneDay_45 : decode cX0_passOneDay 45 = .ok (.iconst 1, 1) := by decide +kernel
theorem dX0_passOneDay_46 : decode cX0_passOneDay 46 = .ok (.iadd, 1) := by decide +kernel
theorem dX0_passOneDay_47 : decode cX0_passOneDay 47 = .ok (.putfield 42, 3) := by decide +kernel
theorem dX0_passOneDay_50 : decode cX0_passOneDay 50 = .ok (.iload_n 1, 1) := by decide +kernel
theorem dX0_passOneDay_51 : decode cX0_passOneDay 51 = .ok (.ireturn, 1) := by decide +kernel
theorem dX0_isAuditDay_0 : decode cX0_isAuditDay 0 = .ok (.iload_n 0, 1) := by decide +kernel
theorem dX0_isAuditDay_1 : decode cX0_isAuditDay 1 = .ok (.bipush 7, 2) := by decide +kernel
theorem dX0_isAuditDay_3 : decode cX0_isAuditDay 3 = .ok (.irem, 1) := by decide +kernel
theorem dX0_isAuditDay_4 : decode cX0_isAuditDay 4 = .ok (.bipush 6, 2) := by decide +kernel
theorem dX0_isAuditDay_6 : decode cX0_isAuditDay 6 = .ok (.if_icmp .ne 7, 3) := by decide +kernel
theorem dX0_isAuditDay_9 : decode cX0_isAuditDay 9 = .ok (.iconst 1, 1) := by decide +kernel
theorem dX0_isAuditDay_10 : decode cX0_isAuditDay 10 = .ok (.goto 4, 3) := by decide +kernel
theorem dX0_isAuditDay_13 : decode cX0_isAuditDay 13 = .ok (.iconst 0, 1) := by decide +kernel
theorem dX0_isAuditDay_14 : decode cX0_isAuditDay 14 = .ok (.ireturn, 1) := by decide +kernel
theorem dX0_writeThrow_0 : decode cX0_writeThrow 0 = .ok (.aload_n 0, 1) := by decide +kernel
theorem dX0_writeThrow_1 : decode cX0_writeThrow 1 = .ok (.getfield 19, 3) := by decide +kernel
theorem dX0_writeThrow_4 : decode cX0_writeThrow 4 = .ok (.aload_n 0, 1) := by decide +kernel
theorem dX0_writeThrow_5 : decode cX0_writeThrow 5 = .ok (.getfield 36, 3) := by decide +kernel
theorem dX0_writeThrow_8 : decode cX0_writeThrow 8 = .ok (.iload_n 1, 1) := by decide +kernel
theorem dX0_writeThrow_9 : decode cX0_writeThrow 9 = .ok (.iastore, 1) := by decide +kernel
theorem dX0_writeThrow_10 : decode cX0_writeThrow 10 = .ok (.aload_n 0, 1) := by decide +kernel
theorem dX0_writeThrow_11 : decode cX0_writeThrow 11 = .ok (.getfield 22, 3) := by decide +kernel
theorem dX0_writeThrow_14 : decode cX0_writeThrow 14 = .ok (.aload_n 0, 1) := by decide +kernel
theorem dX0_writeThrow_15 : decode cX0_writeThrow 15 = .ok (.getfield 36, 3) := by decide +kernel
theorem dX0_writeThrow_18 : decode cX0_writeThrow 18 = .ok (.iload_n 2, 1) := by decide +kernel
theorem dX0_writeThrow_19 : decode cX0_writeThrow 19 = .ok (.bastore, 1) := by decide +kernel
theorem dX0_writeThrow_20 : decode cX0_writeThrow 20 = .ok (.aload_n 0, 1) := by decide +kernel
theorem dX0_writeThrow_21 : decode cX0_writeThrow 21 = .ok (.getfield 26, 3) := by decide +kernel
theorem dX0_writeThrow_24 : decode cX0_writeThrow 24 = .ok (.aload_n 0, 1) := by decide +kernel
theorem dX0_writeThrow_25 : decode cX0_writeThrow 25 = .ok (.getfield 36, 3) := by decide +kernel
theorem dX0_writeThrow_28 : decode cX0_writeThrow 28 = .ok (.iload_n 3, 1) := by decide +kernel
theorem dX0_writeThrow_29 : decode cX0_writeThrow 29 = .ok (.iastore, 1) := by decide +kernel
theorem dX0_writeThrow_30 : decode cX0_writeThrow 30 = .ok (.aload_n 0, 1) := by decide +kernel
theorem dX0_writeThrow_31 : decode cX0_writeThrow 31 = .ok (.getfield 29, 3) := by decide +kernel
theorem dX0_writeThrow_34 : decode cX0_writeThrow 34 = .ok (.aload_n 0, 1) := by decide +kernel
theorem dX0_writeThrow_35 : decode cX0_writeThrow 35 = .ok (.getfield 36, 3) := by decide +kernel
theorem dX0_writeThrow_38 : decode cX0_writeThrow 38 = .ok (.iload 4, 2) := by decide +kernel
theorem dX0_writeThrow_40 : decode cX0_writeThrow 40 = .ok (.iastore, 1) := by decide +kernel
theorem dX0_writeThrow_41 : decode cX0_writeThrow 41 = .ok (.aload_n 0, 1) := by decide +kernel
theorem dX0_writeThrow_42 : decode cX0_writeThrow 42 = .ok (.dup, 1) := by decide +kernel
theorem dX0_writeThrow_43 : decode cX0_writeThrow 43 = .ok (.getfield 36, 3) := by decide +kernel
theorem dX0_writeThrow_46 : decode cX0_writeThrow 46 = .ok (.iconst 1, 1) := by decide +kernel
theorem dX0_writeThrow_47 : decode cX0_writeThrow 47 = .ok (.iadd, 1) := by decide +kernel
theorem dX0_writeThrow_48 : decode cX0_writeThrow 48 = .ok (.putfield 36, 3) := by decide +kernel
theorem dX0_writeThrow_51 : decode cX0_writeThrow 51 = .ok (.return_, 1) := by decide +kernel
theorem dX0_debtOf_0 : decode cX0_debtOf 0 = .ok (.iconst 0, 1) := by decide +kernel
theorem dX0_debtOf_1 : decode cX0_debtOf 1 = .ok (.istore_n 2, 1) := by decide +kernel
theorem dX0_debtOf_2 : decode cX0_debtOf 2 = .ok (.iconst 0, 1) := by decide +kernel
theorem dX0_debtOf_3 : decode cX0_debtOf 3 = .ok (.istore_n 3, 1) := by decide +kernel
theorem dX0_debtOf_4 : decode cX0_debtOf 4 = .ok (.iload_n 3, 1) := by decide +kernel
theorem dX0_debtOf_5 : decode cX0_debtOf 5 = .ok (.aload_n 0, 1) := by decide +kernel
theorem dX0_debtOf_6 : decode cX0_debtOf 6 = .ok (.getfield 36, 3) := by decide +kernel
theorem dX0_debtOf_9 : decode cX0_debtOf 9 = .ok (.if_icmp .ge 30, 3) := by decide +kernel
theorem dX0_debtOf_12 : decode cX0_debtOf 12 = .ok (.aload_n 0, 1) := by decide +kernel
theorem dX0_debtOf_13 : decode cX0_debtOf 13 = .ok (.getfield 19, 3) := by decide +kernel
theorem dX0_debtOf_16 : decode cX0_debtOf 16 = .ok (.iload_n 3, 1) := by decide +kernel
theorem dX0_debtOf_17 : decode cX0_debtOf 17 = .ok (.iaload, 1) := by decide +kernel
theorem dX0_debtOf_18 : decode cX0_debtOf 18 = .ok (.iload_n 1, 1) := by decide +kernel
theorem dX0_debtOf_19 : decode cX0_debtOf 19 = .ok (.if_icmp .ne 14, 3) := by decide +kernel
theorem dX0_debtOf_22 : decode cX0_debtOf 22 = .ok (.iload_n 2, 1) := by decide +kernel
theorem dX0_debtOf_23 : decode cX0_debtOf 23 = .ok (.iconst 2, 1) := by decide +kernel
theorem dX0_debtOf_24 : decode cX0_debtOf 24 = .ok (.aload_n 0, 1) := by decide +kernel
theorem dX0_debtOf_25 : decode cX0_debtOf 25 = .ok (.getfield 29, 3) := by decide +kernel
theorem dX0_debtOf_28 : decode cX0_debtOf 28 = .ok (.iload_n 3, 1) := by decide +kernel
theorem dX0_debtOf_29 : decode cX0_debtOf 29 = .ok (.iaload, 1) := by decide +kernel
theorem dX0_debtOf_30 : decode cX0_debtOf 30 = .ok (.imul, 1) := by decide +kernel
theorem dX0_debtOf_31 : decode cX0_debtOf 31 = .ok (.iadd, 1) := by decide +kernel
theorem dX0_debtOf_32 : decode cX0_debtOf 32 = .ok (.istore_n 2, 1) := by decide +kernel
theorem dX0_debtOf_33 : decode cX0_debtOf 33 = .ok (.iinc 3 1, 3) := by decide +kernel
theorem dX0_debtOf_36 : decode cX0_debtOf 36 = .ok (.goto (-32), 3) := by decide +kernel
theorem dX0_debtOf_39 : decode cX0_debtOf 39 = .ok (.iload_n 2, 1) := by decide +kernel
theorem dX0_debtOf_40 : decode cX0_debtOf 40 = .ok (.ireturn, 1) := by decide +kernel
set_option maxRecDepth 20000 in
theorem ggX0_beginTrial_X0_debtOf : GoodIn wsX0_beginTrial wsX0_debtOf := goodIn_r _ [11, 12, 13, 14, 15, 16, 17, 18, 19, 20, 21, 22, 23, 24, 25, 26, 27, 28] (by decide +kernel) (by decide +kernel)
set_option maxRecDepth 20000 in
theorem gX0_beginTrial_X0_debtOf : GoodIn wsX0_beginTrial (wsV RX0 98 RX0 yX0_debtOf wsX0_debtOf) := goodIn_app (goodIn_of _ (by decide +kernel)) ggX0_beginTrial_X0_debtOf
theorem dX0_beginTrial_0 : decode cX0_beginTrial 0 = .ok (.aload_n 0, 1) := by decide +kernel
theorem dX0_beginTrial_1 : decode cX0_beginTrial 1 = .ok (.getfield 9, 3) := by decide +kernel
theorem dX0_beginTrial_4 : decode cX0_beginTrial 4 = .ok (.bipush 8, 2) := by decide +kernel
theorem dX0_beginTrial_6 : decode cX0_beginTrial 6 = .ok (.aload_n 0, 1) := by decide +kernel
theorem dX0_beginTrial_7 : decode cX0_beginTrial 7 = .ok (.getfield 9, 3) := by decide +kernel
theorem dX0_beginTrial_10 : decode cX0_beginTrial 10 = .ok (.iload_n 1, 1) := by decide +kernel
theorem dX0_beginTrial_11 : decode cX0_beginTrial 11 = .ok (.iaload, 1) := by decide +kernel
theorem dX0_beginTrial_12 : decode cX0_beginTrial 12 = .ok (.iastore, 1) := by decide +kernel
theorem dX0_beginTrial_13 : decode cX0_beginTrial 13 = .ok (.aload_n 0, 1) := by decide +kernel
theorem dX0_beginTrial_14 : decode cX0_beginTrial 14 = .ok (.getfield 13, 3) := by decide +kernel
theorem dX0_beginTrial_17 : decode cX0_beginTrial 17 = .ok (.bipush 8, 2) := by decide +kernel
theorem dX0_beginTrial_19 : decode cX0_beginTrial 19 = .ok (.aload_n 0, 1) := by decide +kernel
theorem dX0_beginTrial_20 : decode cX0_beginTrial 20 = .ok (.getfield 13, 3) := by decide +kernel
theorem dX0_beginTrial_23 : decode cX0_beginTrial 23 = .ok (.iload_n 1, 1) := by decide +kernel
theorem dX0_beginTrial_24 : decode cX0_beginTrial 24 = .ok (.iaload, 1) := by decide +kernel
theorem dX0_beginTrial_25 : decode cX0_beginTrial 25 = .ok (.iastore, 1) := by decide +kernel
theorem dX0_beginTrial_26 : decode cX0_beginTrial 26 = .ok (.aload_n 0, 1) := by decide +kernel
theorem dX0_beginTrial_27 : decode cX0_beginTrial 27 = .ok (.getfield 16, 3) := by decide +kernel
theorem dX0_beginTrial_30 : decode cX0_beginTrial 30 = .ok (.bipush 8, 2) := by decide +kernel
theorem dX0_beginTrial_32 : decode cX0_beginTrial 32 = .ok (.aload_n 0, 1) := by decide +kernel
theorem dX0_beginTrial_33 : decode cX0_beginTrial 33 = .ok (.getfield 16, 3) := by decide +kernel
theorem dX0_beginTrial_36 : decode cX0_beginTrial 36 = .ok (.iload_n 1, 1) := by decide +kernel
theorem dX0_beginTrial_37 : decode cX0_beginTrial 37 = .ok (.iaload, 1) := by decide +kernel
theorem dX0_beginTrial_38 : decode cX0_beginTrial 38 = .ok (.iastore, 1) := by decide +kernel
theorem dX0_beginTrial_39 : decode cX0_beginTrial 39 = .ok (.aload_n 0, 1) := by decide +kernel
theorem dX0_beginTrial_40 : decode cX0_beginTrial 40 = .ok (.aload_n 0, 1) := by decide +kernel
theorem dX0_beginTrial_41 : decode cX0_beginTrial 41 = .ok (.getfield 42, 3) := by decide +kernel
theorem dX0_beginTrial_44 : decode cX0_beginTrial 44 = .ok (.putfield 225, 3) := by decide +kernel
theorem dX0_beginTrial_47 : decode cX0_beginTrial 47 = .ok (.aload_n 0, 1) := by decide +kernel
theorem dX0_beginTrial_48 : decode cX0_beginTrial 48 = .ok (.aload_n 0, 1) := by decide +kernel
theorem dX0_beginTrial_49 : decode cX0_beginTrial 49 = .ok (.iload_n 1, 1) := by decide +kernel
theorem dX0_beginTrial_50 : decode cX0_beginTrial 50 = .ok (.invokevirtual 98, 3) := by decide +kernel
theorem dX0_beginTrial_53 : decode cX0_beginTrial 53 = .ok (.putfield 228, 3) := by decide +kernel
theorem dX0_beginTrial_56 : decode cX0_beginTrial 56 = .ok (.return_, 1) := by decide +kernel
set_option maxRecDepth 20000 in
theorem ggX0_beginTrialWithPinch_X0_beginTrial : GoodIn wsX0_beginTrialWithPinch wsX0_beginTrial := goodIn_r _ [6, 7, 8, 9, 10, 11, 1, 12, 13, 14, 5, 15, 16, 17, 18, 31, 32, 33, 34, 35, 36, 37, 38, 39, 40, 41, 42, 43, 44] (by decide +kernel) (by decide +kernel)
set_option maxRecDepth 20000 in
theorem gX0_beginTrialWithPinch_X0_beginTrial : GoodIn wsX0_beginTrialWithPinch (wsV RX0 111 RX0 yX0_beginTrial wsX0_beginTrial) := goodIn_app (goodIn_of _ (by decide +kernel)) ggX0_beginTrialWithPinch_X0_beginTrial
set_option maxRecDepth 20000 in
theorem ggX0_beginTrialWithPinch_X0_leftExcess : GoodIn wsX0_beginTrialWithPinch wsX0_leftExcess := goodIn_r _ [22, 8, 23, 24, 25, 26, 31, 32, 33, 34, 35, 36, 37, 38, 39, 40, 41, 42, 43, 44] (by decide +kernel) (by decide +kernel)
set_option maxRecDepth 20000 in
theorem gX0_beginTrialWithPinch_X0_leftExcess : GoodIn wsX0_beginTrialWithPinch (wsV RX0 75 RX0 yX0_leftExcess wsX0_leftExcess) := goodIn_app (goodIn_of _ (by decide +kernel)) ggX0_beginTrialWithPinch_X0_leftExcess
set_option maxRecDepth 20000 in
theorem ggX0_beginTrialWithPinch_X0_lessenArrears : GoodIn wsX0_beginTrialWithPinch wsX0_lessenArrears := goodIn_r _ [30, 8, 23, 24, 25, 26, 31, 32, 33, 34, 35, 36, 37, 38, 39, 40, 41, 42, 43, 44] (by decide +kernel) (by decide +kernel)
set_option maxRecDepth 20000 in
theorem gX0_beginTrialWithPinch_X0_lessenArrears : GoodIn wsX0_beginTrialWithPinch (wsV RX0 79 RX0 yX0_lessenArrears wsX0_lessenArrears) := goodIn_app (goodIn_of _ (by decide +kernel)) ggX0_beginTrialWithPinch_X0_lessenArrears
theorem dX0_beginTrialWithPinch_0 : decode cX0_beginTrialWithPinch 0 = .ok (.aload_n 0, 1) := by decide +kernel
theorem dX0_beginTrialWithPinch_1 : decode cX0_beginTrialWithPinch 1 = .ok (.iload_n 1, 1) := by decide +kernel
theorem dX0_beginTrialWithPinch_2 : decode cX0_beginTrialWithPinch 2 = .ok (.invokevirtual 111, 3) := by decide +kernel
theorem dX0_beginTrialWithPinch_5 : decode cX0_beginTrialWithPinch 5 = .ok (.aload_n 0, 1) := by decide +kernel
theorem dX0_beginTrialWithPinch_6 : decode cX0_beginTrialWithPinch 6 = .ok (.dup, 1) := by decide +kernel
theorem dX0_beginTrialWithPinch_7 : decode cX0_beginTrialWithPinch 7 = .ok (.getfield 228, 3) := by decide +kernel
theorem dX0_beginTrialWithPinch_10 : decode cX0_beginTrialWithPinch 10 = .ok (.iconst 2, 1) := by decide +kernel
theorem dX0_beginTrialWithPinch_11 : decode cX0_beginTrialWithPinch 11 = .ok (.aload_n 0, 1) := by decide +kernel
theorem dX0_beginTrialWithPinch_12 : decode cX0_beginTrialWithPinch 12 = .ok (.bipush 8, 2) := by decide +kernel
theorem dX0_beginTrialWithPinch_14 : decode cX0_beginTrialWithPinch 14 = .ok (.iload_n 2, 1) := by decide +kernel
theorem dX0_beginTrialWithPinch_15 : decode cX0_beginTrialWithPinch 15 = .ok (.invokevirtual 75, 3) := by decide +kernel
theorem dX0_beginTrialWithPinch_18 : decode cX0_beginTrialWithPinch 18 = .ok (.imul, 1) := by decide +kernel
theorem dX0_beginTrialWithPinch_19 : decode cX0_beginTrialWithPinch 19 = .ok (.iadd, 1) := by decide +kernel
theorem dX0_beginTrialWithPinch_20 : decode cX0_beginTrialWithPinch 20 = .ok (.putfield 228, 3) := by decide +kernel
theorem dX0_beginTrialWithPinch_23 : decode cX0_beginTrialWithPinch 23 = .ok (.aload_n 0, 1) := by decide +kernel
theorem dX0_beginTrialWithPinch_24 : decode cX0_beginTrialWithPinch 24 = .ok (.bipush 8, 2) := by decide +kernel
theorem dX0_beginTrialWithPinch_26 : decode cX0_beginTrialWithPinch 26 = .ok (.iload_n 2, 1) := by decide +kernel
theorem dX0_beginTrialWithPinch_27 : decode cX0_beginTrialWithPinch 27 = .ok (.invokevirtual 79, 3) := by decide +kernel
theorem dX0_beginTrialWithPinch_30 : decode cX0_beginTrialWithPinch 30 = .ok (.return_, 1) := by decide +kernel
set_option maxRecDepth 20000 in
theorem ggX0_beginTrialWithPenance_X0_beginTrial : GoodIn wsX0_beginTrialWithPenance wsX0_beginTrial := goodIn_r _ [5, 6, 7, 8, 9, 10, 11, 12, 13, 14, 4, 15, 16, 17, 18, 27, 28, 29, 30, 31, 32, 33, 34, 35, 36, 37, 38, 39, 40] (by decide +kernel) (by decide +kernel)
set_option maxRecDepth 20000 in
theorem gX0_beginTrialWithPenance_X0_beginTrial : GoodIn wsX0_beginTrialWithPenance (wsV RX0 111 RX0 yX0_beginTrial wsX0_beginTrial) := goodIn_app (goodIn_of _ (by decide +kernel)) ggX0_beginTrialWithPenance_X0_beginTrial
set_option maxRecDepth 20000 in
theorem ggX0_beginTrialWithPenance_X0_addLumps : GoodIn wsX0_beginTrialWithPenance wsX0_addLumps := goodIn_r _ [22, 8, 23, 24, 25, 26, 27, 28, 29, 30, 31, 32, 33, 34, 35, 36, 37, 38, 39, 40] (by decide +kernel) (by decide +kernel)
set_option maxRecDepth 20000 in
theorem gX0_beginTrialWithPenance_X0_addLumps : GoodIn wsX0_beginTrialWithPenance (wsV RX0 86 RX0 yX0_addLumps wsX0_addLumps) := goodIn_app (goodIn_of _ (by decide +kernel)) ggX0_beginTrialWithPenance_X0_addLumps
theorem dX0_beginTrialWithPenance_0 : decode cX0_beginTrialWithPenance 0 = .ok (.aload_n 0, 1) := by decide +kernel
theorem dX0_beginTrialWithPenance_1 : decode cX0_beginTrialWithPenance 1 = .ok (.iload_n 1, 1) := by decide +kernel
theorem dX0_beginTrialWithPenance_2 : decode cX0_beginTrialWithPenance 2 = .ok (.invokevirtual 111, 3) := by decide +kernel
theorem dX0_beginTrialWithPenance_5 : decode cX0_beginTrialWithPenance 5 = .ok (.aload_n 0, 1) := by decide +kernel
theorem dX0_beginTrialWithPenance_6 : decode cX0_beginTrialWithPenance 6 = .ok (.bipush 8, 2) := by decide +kernel
theorem dX0_beginTrialWithPenance_8 : decode cX0_beginTrialWithPenance 8 = .ok (.iload_n 2, 1) := by decide +kernel
theorem dX0_beginTrialWithPenance_9 : decode cX0_beginTrialWithPenance 9 = .ok (.invokevirtual 86, 3) := by decide +kernel
theorem dX0_beginTrialWithPenance_12 : decode cX0_beginTrialWithPenance 12 = .ok (.return_, 1) := by decide +kernel
set_option maxRecDepth 20000 in
theorem ggX0_passTrialDay_X0_isAuditDay : GoodIn wsX0_passTrialDay wsX0_isAuditDay := goodIn_r _ [6] (by decide +kernel) (by decide +kernel)
set_option maxRecDepth 20000 in
theorem gX0_passTrialDay_X0_isAuditDay : GoodIn wsX0_passTrialDay (va_wsS RX0 216 yX0_isAuditDay wsX0_isAuditDay) := goodIn_app (goodIn_of _ (by decide +kernel)) ggX0_passTrialDay_X0_isAuditDay
set_option maxRecDepth 20000 in
theorem ggX0_passTrialDay_X0_addArrears : GoodIn wsX0_passTrialDay wsX0_addArrears := goodIn_r _ [10, 11, 12, 13, 14, 15, 33, 34, 35, 36, 37, 38, 39, 40, 41, 42, 43, 44, 45, 46] (by decide +kernel) (by decide +kernel)
set_option maxRecDepth 20000 in
theorem gX0_passTrialDay_X0_addArrears : GoodIn wsX0_passTrialDay (wsV RX0 66 RX0 yX0_addArrears wsX0_addArrears) := goodIn_app (goodIn_of _ (by decide +kernel)) ggX0_passTrialDay_X0_addArrears
set_option maxRecDepth 20000 in
theorem ggX0_passTrialDay_X0_eatOrFeelLuck : GoodIn wsX0_passTrialDay wsX0_eatOrFeelLuck := goodIn_r _ [19, 20, 11, 21, 22, 23, 14, 24, 12, 13, 15, 25, 26, 27, 5, 28, 29, 30, 31, 32, 33, 34, 35, 36, 37, 38, 39, 40, 41, 42, 43, 44, 45, 46] (by decide +kernel) (by decide +kernel)
set_option maxRecDepth 20000 in
theorem gX0_passTrialDay_X0_eatOrFeelLuck : GoodIn wsX0_passTrialDay (wsV RX0 222 RX0 yX0_eatOrFeelLuck wsX0_eatOrFeelLuck) := goodIn_app (goodIn_of _ (by decide +kernel)) ggX0_passTrialDay_X0_eatOrFeelLuck
theorem dX0_passTrialDay_0 : decode cX0_passTrialDay 0 = .ok (.aload_n 0, 1) := by decide +kernel
theorem dX0_passTrialDay_1 : decode cX0_passTrialDay 1 = .ok (.getfield 225, 3) := by decide +kernel
theorem dX0_passTrialDay_4 : decode cX0_passTrialDay 4 = .ok (.invokestatic 216, 3) := by decide +kernel
theorem dX0_passTrialDay_7 : decode cX0_passTrialDay 7 = .ok (.ifCond .eq 18, 3) := by decide +kernel
theorem dX0_passTrialDay_10 : decode cX0_passTrialDay 10 = .ok (.aload_n 0, 1) := by decide +kernel
theorem dX0_passTrialDay_11 : decode cX0_passTrialDay 11 = .ok (.bipush 8, 2) := by decide +kernel
theorem dX0_passTrialDay_13 : decode cX0_passTrialDay 13 = .ok (.aload_n 0, 1) := by decide +kernel
theorem dX0_passTrialDay_14 : decode cX0_passTrialDay 14 = .ok (.getfield 228, 3) := by decide +kernel
theorem dX0_passTrialDay_17 : decode cX0_passTrialDay 17 = .ok (.invokevirtual 66, 3) := by decide +kernel
theorem dX0_passTrialDay_20 : decode cX0_passTrialDay 20 = .ok (.aload_n 0, 1) := by decide +kernel
theorem dX0_passTrialDay_21 : decode cX0_passTrialDay 21 = .ok (.iconst 0, 1) := by decide +kernel
theorem dX0_passTrialDay_22 : decode cX0_passTrialDay 22 = .ok (.putfield 228, 3) := by decide +kernel
theorem dX0_passTrialDay_25 : decode cX0_passTrialDay 25 = .ok (.aload_n 0, 1) := by decide +kernel
theorem dX0_passTrialDay_26 : decode cX0_passTrialDay 26 = .ok (.bipush 8, 2) := by decide +kernel
theorem dX0_passTrialDay_28 : decode cX0_passTrialDay 28 = .ok (.invokevirtual 222, 3) := by decide +kernel
theorem dX0_passTrialDay_31 : decode cX0_passTrialDay 31 = .ok (.aload_n 0, 1) := by decide +kernel
theorem dX0_passTrialDay_32 : decode cX0_passTrialDay 32 = .ok (.dup, 1) := by decide +kernel
theorem dX0_passTrialDay_33 : decode cX0_passTrialDay 33 = .ok (.getfield 225, 3) := by decide +kernel
theorem dX0_passTrialDay_36 : decode cX0_passTrialDay 36 = .ok (.iconst 1, 1) := by decide +kernel
theorem dX0_passTrialDay_37 : decode cX0_passTrialDay 37 = .ok (.iadd, 1) := by decide +kernel
theorem dX0_passTrialDay_38 : decode cX0_passTrialDay 38 = .ok (.putfield 225, 3) := by decide +kernel
theorem dX0_passTrialDay_41 : decode cX0_passTrialDay 41 = .ok (.return_, 1) := by decide +kernel
set_option maxRecDepth 20000 in
theorem ggX0_trialLuckBehind_X0_passTrialDay : GoodIn wsX0_trialLuckBehind wsX0_passTrialDay := goodIn_r _ [6, 7, 8, 9, 10, 5, 11, 12, 13, 14, 15, 16, 17, 18, 19, 20, 21, 22, 23, 24, 25, 1, 26, 27, 28, 29, 30, 31, 32, 33, 34, 35, 36, 37, 38, 39, 40, 41, 42, 43, 44, 45, 46, 47, 48, 49, 50] (by decide +kernel) (by decide +kernel)
set_option maxRecDepth 20000 in
theorem gX0_trialLuckBehind_X0_passTrialDay : GoodIn wsX0_trialLuckBehind (wsV RX0 117 RX0 yX0_passTrialDay wsX0_passTrialDay) := goodIn_app (goodIn_of _ (by decide +kernel)) ggX0_trialLuckBehind_X0_passTrialDay
theorem dX0_trialLuckBehind_0 : decode cX0_trialLuckBehind 0 = .ok (.iconst 0, 1) := by decide +kernel
theorem dX0_trialLuckBehind_1 : decode cX0_trialLuckBehind 1 = .ok (.istore_n 2, 1) := by decide +kernel
theorem dX0_trialLuckBehind_2 : decode cX0_trialLuckBehind 2 = .ok (.iload_n 2, 1) := by decide +kernel
theorem dX0_trialLuckBehind_3 : decode cX0_trialLuckBehind 3 = .ok (.iload_n 1, 1) := by decide +kernel
theorem dX0_trialLuckBehind_4 : decode cX0_trialLuckBehind 4 = .ok (.if_icmp .ge 13, 3) := by decide +kernel
theorem dX0_trialLuckBehind_7 : decode cX0_trialLuckBehind 7 = .ok (.aload_n 0, 1) := by decide +kernel
theorem dX0_trialLuckBehind_8 : decode cX0_trialLuckBehind 8 = .ok (.invokevirtual 117, 3) := by decide +kernel
theorem dX0_trialLuckBehind_11 : decode cX0_trialLuckBehind 11 = .ok (.iinc 2 1, 3) := by decide +kernel
theorem dX0_trialLuckBehind_14 : decode cX0_trialLuckBehind 14 = .ok (.goto (-12), 3) := by decide +kernel
theorem dX0_trialLuckBehind_17 : decode cX0_trialLuckBehind 17 = .ok (.aload_n 0, 1) := by decide +kernel
theorem dX0_trialLuckBehind_18 : decode cX0_trialLuckBehind 18 = .ok (.getfield 9, 3) := by decide +kernel
theorem dX0_trialLuckBehind_21 : decode cX0_trialLuckBehind 21 = .ok (.bipush 8, 2) := by decide +kernel
theorem dX0_trialLuckBehind_23 : decode cX0_trialLuckBehind 23 = .ok (.iaload, 1) := by decide +kernel
theorem dX0_trialLuckBehind_24 : decode cX0_trialLuckBehind 24 = .ok (.ireturn, 1) := by decide +kernel
theorem dX1_init_0 : decode cX1_init 0 = .ok (.aload_n 0, 1) := by decide +kernel
theorem dX1_init_1 : decode cX1_init 1 = .ok (.invokespecial 1, 3) := by decide +kernel
theorem dX1_init_4 : decode cX1_init 4 = .ok (.aload_n 0, 1) := by decide +kernel
theorem dX1_init_5 : decode cX1_init 5 = .ok (.sipush 148, 3) := by decide +kernel
theorem dX1_init_8 : decode cX1_init 8 = .ok (.newarray .int, 2) := by decide +kernel
theorem dX1_init_10 : decode cX1_init 10 = .ok (.putfield 9, 3) := by decide +kernel
theorem dX1_init_13 : decode cX1_init 13 = .ok (.aload_n 0, 1) := by decide +kernel
theorem dX1_init_14 : decode cX1_init 14 = .ok (.sipush 148, 3) := by decide +kernel
theorem dX1_init_17 : decode cX1_init 17 = .ok (.newarray .int, 2) := by decide +kernel
theorem dX1_init_19 : decode cX1_init 19 = .ok (.putfield 13, 3) := by decide +kernel
theorem dX1_init_22 : decode cX1_init 22 = .ok (.aload_n 0, 1) := by decide +kernel
theorem dX1_init_23 : decode cX1_init 23 = .ok (.getfield 9, 3) := by decide +kernel
theorem dX1_init_26 : decode cX1_init 26 = .ok (.iconst 1, 1) := by decide +kernel
theorem dX1_init_27 : decode cX1_init 27 = .ok (.bipush 100, 2) := by decide +kernel
theorem dX1_init_29 : decode cX1_init 29 = .ok (.iastore, 1) := by decide +kernel
theorem dX1_init_30 : decode cX1_init 30 = .ok (.return_, 1) := by decide +kernel
theorem dX1_thrown_0 : decode cX1_thrown 0 = .ok (.aload_n 0, 1) := by decide +kernel
theorem dX1_thrown_1 : decode cX1_thrown 1 = .ok (.getfield 16, 3) := by decide +kernel
theorem dX1_thrown_4 : decode cX1_thrown 4 = .ok (.ireturn, 1) := by decide +kernel
theorem dX1_fail_0 : decode cX1_fail 0 = .ok (.aload_n 0, 1) := by decide +kernel
theorem dX1_fail_1 : decode cX1_fail 1 = .ok (.iload_n 1, 1) := by decide +kernel
theorem dX1_fail_2 : decode cX1_fail 2 = .ok (.putfield 16, 3) := by decide +kernel
theorem dX1_fail_5 : decode cX1_fail 5 = .ok (.iconst 0, 1) := by decide +kernel
theorem dX1_fail_6 : decode cX1_fail 6 = .ok (.ireturn, 1) := by decide +kernel
theorem dX1_told_0 : decode cX1_told 0 = .ok (.aload_n 0, 1) := by decide +kernel
theorem dX1_told_1 : decode cX1_told 1 = .ok (.iconst 0, 1) := by decide +kernel
theorem dX1_told_2 : decode cX1_told 2 = .ok (.putfield 16, 3) := by decide +kernel
theorem dX1_told_5 : decode cX1_told 5 = .ok (.iload_n 1, 1) := by decide +kernel
theorem dX1_told_6 : decode cX1_told 6 = .ok (.ireturn, 1) := by decide +kernel
theorem dX1_isIn_0 : decode cX1_isIn 0 = .ok (.iload_n 0, 1) := by decide +kernel
theorem dX1_isIn_1 : decode cX1_isIn 1 = .ok (.iload_n 1, 1) := by decide +kernel
theorem dX1_isIn_2 : decode cX1_isIn 2 = .ok (.if_icmp .lt 12, 3) := by decide +kernel
theorem dX1_isIn_5 : decode cX1_isIn 5 = .ok (.iload_n 0, 1) := by decide +kernel
theorem dX1_isIn_6 : decode cX1_isIn 6 = .ok (.iload_n 2, 1) := by decide +kernel
theorem dX1_isIn_7 : decode cX1_isIn 7 = .ok (.if_icmp .gt 7, 3) := by decide +kernel
theorem dX1_isIn_10 : decode cX1_isIn 10 = .ok (.iconst 1, 1) := by decide +kernel
theorem dX1_isIn_11 : decode cX1_isIn 11 = .ok (.goto 4, 3) := by decide +kernel
theorem dX1_isIn_14 : decode cX1_isIn 14 = .ok (.iconst 0, 1) := by decide +kernel
theorem dX1_isIn_15 : decode cX1_isIn 15 = .ok (.ireturn, 1) := by decide +kernel
set_option maxRecDepth 20000 in
theorem ggX1_isMember_X1_isIn : GoodIn wsX1_isMember wsX1_isIn := goodIn_r _ [5] (by decide +kernel) (by decide +kernel)
set_option maxRecDepth 20000 in
theorem gX1_isMember_X1_isIn : GoodIn wsX1_isMember (va_wsS RX1 23 yX1_isIn wsX1_isIn) := goodIn_app (goodIn_of _ (by decide +kernel)) ggX1_isMember_X1_isIn
theorem dX1_isMember_0 : decode cX1_isMember 0 = .ok (.iload_n 1, 1) := by decide +kernel
theorem dX1_isMember_1 : decode cX1_isMember 1 = .ok (.iconst 0, 1) := by decide +kernel
theorem dX1_isMember_2 : decode cX1_isMember 2 = .ok (.aload_n 0, 1) := by decide +kernel
theorem dX1_isMember_3 : decode cX1_isMember 3 = .ok (.getfield 20, 3) := by decide +kernel
theorem dX1_isMember_6 : decode cX1_isMember 6 = .ok (.iconst 1, 1) := by decide +kernel
theorem dX1_isMember_7 : decode cX1_isMember 7 = .ok (.isub, 1) := by decide +kernel
theorem dX1_isMember_8 : decode cX1_isMember 8 = .ok (.invokestatic 23, 3) := by decide +kernel
theorem dX1_isMember_11 : decode cX1_isMember 11 = .ok (.ireturn, 1) := by decide +kernel
set_option maxRecDepth 20000 in
theorem ggX1_isThrow_X1_isIn : GoodIn wsX1_isThrow wsX1_isIn := goodIn_r _ [5] (by decide +kernel) (by decide +kernel)
set_option maxRecDepth 20000 in
theorem gX1_isThrow_X1_isIn : GoodIn wsX1_isThrow (va_wsS RX1 23 yX1_isIn wsX1_isIn) := goodIn_app (goodIn_of _ (by decide +kernel)) ggX1_isThrow_X1_isIn
theorem dX1_isThrow_0 : decode cX1_isThrow 0 = .ok (.iload_n 1, 1) := by decide +kernel
theorem dX1_isThrow_1 : decode cX1_isThrow 1 = .ok (.iconst 0, 1) := by decide +kernel
theorem dX1_isThrow_2 : decode cX1_isThrow 2 = .ok (.aload_n 0, 1) := by decide +kernel
theorem dX1_isThrow_3 : decode cX1_isThrow 3 = .ok (.getfield 9, 3) := by decide +kernel
theorem dX1_isThrow_6 : decode cX1_isThrow 6 = .ok (.iconst 3, 1) := by decide +kernel
theorem dX1_isThrow_7 : decode cX1_isThrow 7 = .ok (.iaload, 1) := by decide +kernel
theorem dX1_isThrow_8 : decode cX1_isThrow 8 = .ok (.iconst 1, 1) := by decide +kernel
theorem dX1_isThrow_9 : decode cX1_isThrow 9 = .ok (.isub, 1) := by decide +kernel
theorem dX1_isThrow_10 : decode cX1_isThrow 10 = .ok (.invokestatic 23, 3) := by decide +kernel
theorem dX1_isThrow_13 : decode cX1_isThrow 13 = .ok (.ireturn, 1) := by decide +kernel
theorem dX1_me_0 : decode cX1_me 0 = .ok (.aload_n 0, 1) := by decide +kernel
theorem dX1_me_1 : decode cX1_me 1 = .ok (.getfield 9, 3) := by decide +kernel
theorem dX1_me_4 : decode cX1_me 4 = .ok (.iconst 4, 1) := by decide +kernel
theorem dX1_me_5 : decode cX1_me 5 = .ok (.iconst 3, 1) := by decide +kernel
theorem dX1_me_6 : decode cX1_me 6 = .ok (.iload_n 1, 1) := by decide +kernel
theorem dX1_me_7 : decode cX1_me 7 = .ok (.imul, 1) := by decide +kernel
theorem dX1_me_8 : decode cX1_me 8 = .ok (.iadd, 1) := by decide +kernel
theorem dX1_me_9 : decode cX1_me 9 = .ok (.iload_n 2, 1) := by decide +kernel
theorem dX1_me_10 : decode cX1_me 10 = .ok (.iadd, 1) := by decide +kernel
theorem dX1_me_11 : decode cX1_me 11 = .ok (.iaload, 1) := by decide +kernel
theorem dX1_me_12 : decode cX1_me 12 = .ok (.ireturn, 1) := by decide +kernel
theorem dX1_let_0 : decode cX1_let 0 = .ok (.aload_n 0, 1) := by decide +kernel
theorem dX1_let_1 : decode cX1_let 1 = .ok (.getfield 9, 3) := by decide +kernel
theorem dX1_let_4 : decode cX1_let 4 = .ok (.iconst 4, 1) := by decide +kernel
theorem dX1_let_5 : decode cX1_let 5 = .ok (.iconst 3, 1) := by decide +kernel
theorem dX1_let_6 : decode cX1_let 6 = .ok (.iload_n 1, 1) := by decide +kernel
theorem dX1_let_7 : decode cX1_let 7 = .ok (.imul, 1) := by decide +kernel
theorem dX1_let_8 : decode cX1_let 8 = .ok (.iadd, 1) := by decide +kernel
theorem dX1_let_9 : decode cX1_let 9 = .ok (.iload_n 2, 1) := by decide +kernel
theorem dX1_let_10 : decode cX1_let 10 = .ok (.iadd, 1) := by decide +kernel
theorem dX1_let_11 : decode cX1_let 11 = .ok (.iload_n 3, 1) := by decide +kernel
theorem dX1_let_12 : decode cX1_let 12 = .ok (.iastore, 1) := by decide +kernel
theorem dX1_let_13 : decode cX1_let 13 = .ok (.return_, 1) := by decide +kernel
theorem dX1_th_0 : decode cX1_th 0 = .ok (.aload_n 0, 1) := by decide +kernel
theorem dX1_th_1 : decode cX1_th 1 = .ok (.getfield 9, 3) := by decide +kernel
theorem dX1_th_4 : decode cX1_th 4 = .ok (.bipush 28, 2) := by decide +kernel
theorem dX1_th_6 : decode cX1_th 6 = .ok (.iconst 4, 1) := by decide +kernel
theorem dX1_th_7 : decode cX1_th 7 = .ok (.iload_n 1, 1) := by decide +kernel
theorem dX1_th_8 : decode cX1_th 8 = .ok (.imul, 1) := by decide +kernel
theorem dX1_th_9 : decode cX1_th 9 = .ok (.iadd, 1) := by decide +kernel
theorem dX1_th_10 : decode cX1_th 10 = .ok (.iload_n 2, 1) := by decide +kernel
theorem dX1_th_11 : decode cX1_th 11 = .ok (.iadd, 1) := by decide +kernel
theorem dX1_th_12 : decode cX1_th 12 = .ok (.iaload, 1) := by decide +kernel
theorem dX1_th_13 : decode cX1_th 13 = .ok (.ireturn, 1) := by decide +kernel
theorem dX1_write_0 : decode cX1_write 0 = .ok (.aload_n 0, 1) := by decide +kernel
theorem dX1_write_1 : decode cX1_write 1 = .ok (.getfield 9, 3) := by decide +kernel
theorem dX1_write_4 : decode cX1_write 4 = .ok (.bipush 28, 2) := by decide +kernel
theorem dX1_write_6 : decode cX1_write 6 = .ok (.iconst 4, 1) := by decide +kernel
theorem dX1_write_7 : decode cX1_write 7 = .ok (.aload_n 0, 1) := by decide +kernel
theorem dX1_write_8 : decode cX1_write 8 = .ok (.getfield 9, 3) := by decide +kernel
theorem dX1_write_11 : decode cX1_write 11 = .ok (.iconst 3, 1) := by decide +kernel
theorem dX1_write_12 : decode cX1_write 12 = .ok (.iaload, 1) := by decide +kernel
theorem dX1_write_13 : decode cX1_write 13 = .ok (.imul, 1) := by decide +kernel
theorem dX1_write_14 : decode cX1_write 14 = .ok (.iadd, 1) := by decide +kernel
theorem dX1_write_15 : decode cX1_write 15 = .ok (.iload_n 1, 1) := by decide +kernel
theorem dX1_write_16 : decode cX1_write 16 = .ok (.iadd, 1) := by decide +kernel
theorem dX1_write_17 : decode cX1_write 17 = .ok (.iload_n 2, 1) := by decide +kernel
theorem dX1_write_18 : decode cX1_write 18 = .ok (.iastore, 1) := by decide +kernel
theorem dX1_write_19 : decode cX1_write 19 = .ok (.return_, 1) := by decide +kernel
theorem dX1_keep_0 : decode cX1_keep 0 = .ok (.aload_n 0, 1) := by decide +kernel
theorem dX1_keep_1 : decode cX1_keep 1 = .ok (.getfield 9, 3) := by decide +kernel
theorem dX1_keep_4 : decode cX1_keep 4 = .ok (.iconst 0, 1) := by decide +kernel
theorem dX1_keep_5 : decode cX1_keep 5 = .ok (.aload_n 0, 1) := by decide +kernel
theorem dX1_keep_6 : decode cX1_keep 6 = .ok (.getfield 13, 3) := by decide +kernel
theorem dX1_keep_9 : decode cX1_keep 9 = .ok (.iconst 0, 1) := by decide +kernel
theorem dX1_keep_10 : decode cX1_keep 10 = .ok (.sipush 148, 3) := by decide +kernel
theorem dX1_keep_13 : decode cX1_keep 13 = .ok (.invokestatic 27, 3) := by decide +kernel
theorem dX1_keep_16 : decode cX1_keep 16 = .ok (.return_, 1) := by decide +kernel
theorem dX1_bringBack_0 : decode cX1_bringBack 0 = .ok (.aload_n 0, 1) := by decide +kernel
theorem dX1_bringBack_1 : decode cX1_bringBack 1 = .ok (.getfield 13, 3) := by decide +kernel
theorem dX1_bringBack_4 : decode cX1_bringBack 4 = .ok (.iconst 0, 1) := by decide +kernel
theorem dX1_bringBack_5 : decode cX1_bringBack 5 = .ok (.aload_n 0, 1) := by decide +kernel
theorem dX1_bringBack_6 : decode cX1_bringBack 6 = .ok (.getfield 9, 3) := by decide +kernel
theorem dX1_bringBack_9 : decode cX1_bringBack 9 = .ok (.iconst 0, 1) := by decide +kernel
theorem dX1_bringBack_10 : decode cX1_bringBack 10 = .ok (.sipush 148, 3) := by decide +kernel
theorem dX1_bringBack_13 : decode cX1_bringBack 13 = .ok (.invokestatic 27, 3) := by decide +kernel
theorem dX1_bringBack_16 : decode cX1_bringBack 16 = .ok (.return_, 1) := by decide +kernel
set_option maxRecDepth 20000 in
theorem ggX1_cast_X1_me : GoodIn wsX1_cast wsX1_me := goodIn_r _ [10, 5, 19, 20, 21, 22] (by decide +kernel) (by decide +kernel)
set_option maxRecDepth 20000 in
theorem gX1_cast_X1_me : GoodIn wsX1_cast (wsV RX1 33 RX1 yX1_me wsX1_me) := goodIn_app (goodIn_of _ (by decide +kernel)) ggX1_cast_X1_me
set_option maxRecDepth 20000 in
theorem ggX1_cast_X1_let : GoodIn wsX1_cast wsX1_let := goodIn_r _ [14, 5, 19, 20, 21, 22] (by decide +kernel) (by decide +kernel)
set_option maxRecDepth 20000 in
theorem gX1_cast_X1_let : GoodIn wsX1_cast (wsV RX1 42 RX1 yX1_let wsX1_let) := goodIn_app (goodIn_of _ (by decide +kernel)) ggX1_cast_X1_let
set_option maxRecDepth 20000 in
theorem ggX1_cast_X1_write : GoodIn wsX1_cast wsX1_write := goodIn_r _ [18, 5, 19, 20, 21, 22] (by decide +kernel) (by decide +kernel)
set_option maxRecDepth 20000 in
theorem gX1_cast_X1_write : GoodIn wsX1_cast (wsV RX1 46 RX1 yX1_write wsX1_write) := goodIn_app (goodIn_of _ (by decide +kernel)) ggX1_cast_X1_write
theorem dX1_cast_0 : decode cX1_cast 0 = .ok (.iload_n 2, 1) := by decide +kernel
theorem dX1_cast_1 : decode cX1_cast 1 = .ok (.ifCond .eq 18, 3) := by decide +kernel
theorem dX1_cast_4 : decode cX1_cast 4 = .ok (.iconst 0, 1) := by decide +kernel
theorem dX1_cast_5 : decode cX1_cast 5 = .ok (.iload_n 3, 1) := by decide +kernel
theorem dX1_cast_6 : decode cX1_cast 6 = .ok (.aload_n 0, 1) := by decide +kernel
theorem dX1_cast_7 : decode cX1_cast 7 = .ok (.iload_n 1, 1) := by decide +kernel
theorem dX1_cast_8 : decode cX1_cast 8 = .ok (.iconst 1, 1) := by decide +kernel
theorem dX1_cast_9 : decode cX1_cast 9 = .ok (.invokevirtual 33, 3) := by decide +kernel
theorem dX1_cast_12 : decode cX1_cast 12 = .ok (.isub, 1) := by decide +kernel
theorem dX1_cast_13 : decode cX1_cast 13 = .ok (.invokestatic 37, 3) := by decide +kernel
theorem dX1_cast_16 : decode cX1_cast 16 = .ok (.goto 4, 3) := by decide +kernel
theorem dX1_cast_19 : decode cX1_cast 19 = .ok (.iload_n 3, 1) := by decide +kernel
theorem dX1_cast_20 : decode cX1_cast 20 = .ok (.istore 4, 2) := by decide +kernel
theorem dX1_cast_22 : decode cX1_cast 22 = .ok (.iload_n 2, 1) := by decide +kernel
theorem dX1_cast_23 : decode cX1_cast 23 = .ok (.ifCond .eq 21, 3) := by decide +kernel
theorem dX1_cast_26 : decode cX1_cast 26 = .ok (.aload_n 0, 1) := by decide +kernel
theorem dX1_cast_27 : decode cX1_cast 27 = .ok (.iload_n 1, 1) := by decide +kernel
theorem dX1_cast_28 : decode cX1_cast 28 = .ok (.iconst 1, 1) := by decide +kernel
theorem dX1_cast_29 : decode cX1_cast 29 = .ok (.iconst 0, 1) := by decide +kernel
theorem dX1_cast_30 : decode cX1_cast 30 = .ok (.aload_n 0, 1) := by decide +kernel
theorem dX1_cast_31 : decode cX1_cast 31 = .ok (.iload_n 1, 1) := by decide +kernel
theorem dX1_cast_32 : decode cX1_cast 32 = .ok (.iconst 1, 1) := by decide +kernel
theorem dX1_cast_33 : decode cX1_cast 33 = .ok (.invokevirtual 33, 3) := by decide +kernel
theorem dX1_cast_36 : decode cX1_cast 36 = .ok (.iload_n 3, 1) := by decide +kernel
theorem dX1_cast_37 : decode cX1_cast 37 = .ok (.isub, 1) := by decide +kernel
theorem dX1_cast_38 : decode cX1_cast 38 = .ok (.invokestatic 37, 3) := by decide +kernel
theorem dX1_cast_41 : decode cX1_cast 41 = .ok (.invokevirtual 42, 3) := by decide +kernel
theorem dX1_cast_44 : decode cX1_cast 44 = .ok (.aload_n 0, 1) := by decide +kernel
theorem dX1_cast_45 : decode cX1_cast 45 = .ok (.getfield 9, 3) := by decide +kernel
theorem dX1_cast_48 : decode cX1_cast 48 = .ok (.iconst 1, 1) := by decide +kernel
theorem dX1_cast_49 : decode cX1_cast 49 = .ok (.dup2, 1) := by decide +kernel
theorem dX1_cast_50 : decode cX1_cast 50 = .ok (.iaload, 1) := by decide +kernel
theorem dX1_cast_51 : decode cX1_cast 51 = .ok (.iload_n 3, 1) := by decide +kernel
theorem dX1_cast_52 : decode cX1_cast 52 = .ok (.isub, 1) := by decide +kernel
theorem dX1_cast_53 : decode cX1_cast 53 = .ok (.iastore, 1) := by decide +kernel
theorem dX1_cast_54 : decode cX1_cast 54 = .ok (.aload_n 0, 1) := by decide +kernel
theorem dX1_cast_55 : decode cX1_cast 55 = .ok (.iconst 0, 1) := by decide +kernel
theorem dX1_cast_56 : decode cX1_cast 56 = .ok (.iload_n 1, 1) := by decide +kernel
theorem dX1_cast_57 : decode cX1_cast 57 = .ok (.invokevirtual 46, 3) := by decide +kernel
theorem dX1_cast_60 : decode cX1_cast 60 = .ok (.aload_n 0, 1) := by decide +kernel
theorem dX1_cast_61 : decode cX1_cast 61 = .ok (.iconst 1, 1) := by decide +kernel
theorem dX1_cast_62 : decode cX1_cast 62 = .ok (.iload_n 2, 1) := by decide +kernel
theorem dX1_cast_63 : decode cX1_cast 63 = .ok (.ifCond .eq 7, 3) := by decide +kernel
theorem dX1_cast_66 : decode cX1_cast 66 = .ok (.iconst 1, 1) := by decide +kernel
theorem dX1_cast_67 : decode cX1_cast 67 = .ok (.goto 4, 3) := by decide +kernel
theorem dX1_cast_70 : decode cX1_cast 70 = .ok (.iconst 0, 1) := by decide +kernel
theorem dX1_cast_71 : decode cX1_cast 71 = .ok (.invokevirtual 46, 3) := by decide +kernel
theorem dX1_cast_74 : decode cX1_cast 74 = .ok (.aload_n 0, 1) := by decide +kernel
theorem dX1_cast_75 : decode cX1_cast 75 = .ok (.iconst 2, 1) := by decide +kernel
theorem dX1_cast_76 : decode cX1_cast 76 = .ok (.iload_n 3, 1) := by decide +kernel
theorem dX1_cast_77 : decode cX1_cast 77 = .ok (.invokevirtual 46, 3) := by decide +kernel
theorem dX1_cast_80 : decode cX1_cast 80 = .ok (.aload_n 0, 1) := by decide +kernel
theorem dX1_cast_81 : decode cX1_cast 81 = .ok (.iconst 3, 1) := by decide +kernel
theorem dX1_cast_82 : decode cX1_cast 82 = .ok (.iload 4, 2) := by decide +kernel
theorem dX1_cast_84 : decode cX1_cast 84 = .ok (.invokevirtual 46, 3) := by decide +kernel
theorem dX1_cast_87 : decode cX1_cast 87 = .ok (.aload_n 0, 1) := by decide +kernel
theorem dX1_cast_88 : decode cX1_cast 88 = .ok (.getfield 9, 3) := by decide +kernel
theorem dX1_cast_91 : decode cX1_cast 91 = .ok (.iconst 3, 1) := by decide +kernel
theorem dX1_cast_92 : decode cX1_cast 92 = .ok (.dup2, 1) := by decide +kernel
theorem dX1_cast_93 : decode cX1_cast 93 = .ok (.iaload, 1) := by decide +kernel
theorem dX1_cast_94 : decode cX1_cast 94 = .ok (.iconst 1, 1) := by decide +kernel
theorem dX1_cast_95 : decode cX1_cast 95 = .ok (.iadd, 1) := by decide +kernel
theorem dX1_cast_96 : decode cX1_cast 96 = .ok (.iastore, 1) := by decide +kernel
theorem dX1_cast_97 : decode cX1_cast 97 = .ok (.iload 4, 2) := by decide +kernel
theorem dX1_cast_99 : decode cX1_cast 99 = .ok (.ireturn, 1) := by decide +kernel
set_option maxRecDepth 20000 in
theorem ggX1_faultsNow_X1_th : GoodIn wsX1_faultsNow wsX1_th := goodIn_r _ [6, 1, 7, 8, 9, 10] (by decide +kernel) (by decide +kernel)
set_option maxRecDepth 20000 in
theorem gX1_faultsNow_X1_th : GoodIn wsX1_faultsNow (wsV RX1 50 RX1 yX1_th wsX1_th) := goodIn_app (goodIn_of _ (by decide +kernel)) ggX1_faultsNow_X1_th
theorem dX1_faultsNow_0 : decode cX1_faultsNow 0 = .ok (.iconst 0, 1) := by decide +kernel
theorem dX1_faultsNow_1 : decode cX1_faultsNow 1 = .ok (.istore_n 1, 1) := by decide +kernel
theorem dX1_faultsNow_2 : decode cX1_faultsNow 2 = .ok (.iconst 0, 1) := by decide +kernel
theorem dX1_faultsNow_3 : decode cX1_faultsNow 3 = .ok (.istore_n 2, 1) := by decide +kernel
theorem dX1_faultsNow_4 : decode cX1_faultsNow 4 = .ok (.iload_n 2, 1) := by decide +kernel
theorem dX1_faultsNow_5 : decode cX1_faultsNow 5 = .ok (.aload_n 0, 1) := by decide +kernel
theorem dX1_faultsNow_6 : decode cX1_faultsNow 6 = .ok (.getfield 9, 3) := by decide +kernel
theorem dX1_faultsNow_9 : decode cX1_faultsNow 9 = .ok (.iconst 3, 1) := by decide +kernel
theorem dX1_faultsNow_10 : decode cX1_faultsNow 10 = .ok (.iaload, 1) := by decide +kernel
theorem dX1_faultsNow_11 : decode cX1_faultsNow 11 = .ok (.if_icmp .ge 26, 3) := by decide +kernel
theorem dX1_faultsNow_14 : decode cX1_faultsNow 14 = .ok (.iload_n 1, 1) := by decide +kernel
theorem dX1_faultsNow_15 : decode cX1_faultsNow 15 = .ok (.aload_n 0, 1) := by decide +kernel
theorem dX1_faultsNow_16 : decode cX1_faultsNow 16 = .ok (.iload_n 2, 1) := by decide +kernel
theorem dX1_faultsNow_17 : decode cX1_faultsNow 17 = .ok (.iconst 3, 1) := by decide +kernel
theorem dX1_faultsNow_18 : decode cX1_faultsNow 18 = .ok (.invokevirtual 50, 3) := by decide +kernel
theorem dX1_faultsNow_21 : decode cX1_faultsNow 21 = .ok (.ifCond .le 7, 3) := by decide +kernel
theorem dX1_faultsNow_24 : decode cX1_faultsNow 24 = .ok (.iconst 1, 1) := by decide +kernel
theorem dX1_faultsNow_25 : decode cX1_faultsNow 25 = .ok (.goto 4, 3) := by decide +kernel
theorem dX1_faultsNow_28 : decode cX1_faultsNow 28 = .ok (.iconst 0, 1) := by decide +kernel
theorem dX1_faultsNow_29 : decode cX1_faultsNow 29 = .ok (.iadd, 1) := by decide +kernel
theorem dX1_faultsNow_30 : decode cX1_faultsNow 30 = .ok (.istore_n 1, 1) := by decide +kernel
theorem dX1_faultsNow_31 : decode cX1_faultsNow 31 = .ok (.iinc 2 1, 3) := by decide +kernel
theorem dX1_faultsNow_34 : decode cX1_faultsNow 34 = .ok (.goto (-30), 3) := by decide +kernel
theorem dX1_faultsNow_37 : decode cX1_faultsNow 37 = .ok (.iload_n 1, 1) := by decide +kernel
theorem dX1_faultsNow_38 : decode cX1_faultsNow 38 = .ok (.ireturn, 1) := by decide +kernel
set_option maxRecDepth 20000 in
theorem ggX1_auditNow_X1_faultsNow : GoodIn wsX1_auditNow wsX1_faultsNow := goodIn_r _ [10, 1, 11, 12, 13, 9, 14, 23, 24, 25, 26] (by decide +kernel) (by decide +kernel)
set_option maxRecDepth 20000 in
theorem gX1_auditNow_X1_faultsNow : GoodIn wsX1_auditNow (wsV RX1 53 RX1 yX1_faultsNow wsX1_faultsNow) := goodIn_app (goodIn_of _ (by decide +kernel)) ggX1_auditNow_X1_faultsNow
set_option maxRecDepth 20000 in
theorem ggX1_auditNow_X1_th : GoodIn wsX1_auditNow wsX1_th := goodIn_r _ [14, 1, 23, 24, 25, 26] (by decide +kernel) (by decide +kernel)
set_option maxRecDepth 20000 in
theorem gX1_auditNow_X1_th : GoodIn wsX1_auditNow (wsV RX1 50 RX1 yX1_th wsX1_th) := goodIn_app (goodIn_of _ (by decide +kernel)) ggX1_auditNow_X1_th
set_option maxRecDepth 20000 in
theorem ggX1_auditNow_X1_me : GoodIn wsX1_auditNow wsX1_me := goodIn_r _ [18, 1, 23, 24, 25, 26] (by decide +kernel) (by decide +kernel)
set_option maxRecDepth 20000 in
theorem gX1_auditNow_X1_me : GoodIn wsX1_auditNow (wsV RX1 33 RX1 yX1_me wsX1_me) := goodIn_app (goodIn_of _ (by decide +kernel)) ggX1_auditNow_X1_me
set_option maxRecDepth 20000 in
theorem ggX1_auditNow_X1_let : GoodIn wsX1_auditNow wsX1_let := goodIn_r _ [22, 1, 23, 24, 25, 26] (by decide +kernel) (by decide +kernel)
set_option maxRecDepth 20000 in
theorem gX1_auditNow_X1_let : GoodIn wsX1_auditNow (wsV RX1 42 RX1 yX1_let wsX1_let) := goodIn_app (goodIn_of _ (by decide +kernel)) ggX1_auditNow_X1_let
theorem dX1_auditNow_0 : decode cX1_auditNow 0 = .ok (.aload_n 0, 1) := by decide +kernel
theorem dX1_auditNow_1 : decode cX1_auditNow 1 = .ok (.invokevirtual 53, 3) := by decide +kernel
theorem dX1_auditNow_4 : decode cX1_auditNow 4 = .ok (.istore_n 1, 1) := by decide +kernel
theorem dX1_auditNow_5 : decode cX1_auditNow 5 = .ok (.iconst 0, 1) := by decide +kernel
theorem dX1_auditNow_6 : decode cX1_auditNow 6 = .ok (.istore_n 2, 1) := by decide +kernel
theorem dX1_auditNow_7 : decode cX1_auditNow 7 = .ok (.iload_n 2, 1) := by decide +kernel
theorem dX1_auditNow_8 : decode cX1_auditNow 8 = .ok (.aload_n 0, 1) := by decide +kernel
theorem dX1_auditNow_9 : decode cX1_auditNow 9 = .ok (.getfield 9, 3) := by decide +kernel
theorem dX1_auditNow_12 : decode cX1_auditNow 12 = .ok (.iconst 3, 1) := by decide +kernel
theorem dX1_auditNow_13 : decode cX1_auditNow 13 = .ok (.iaload, 1) := by decide +kernel
theorem dX1_auditNow_14 : decode cX1_auditNow 14 = .ok (.if_icmp .ge 45, 3) := by decide +kernel
theorem dX1_auditNow_17 : decode cX1_auditNow 17 = .ok (.aload_n 0, 1) := by decide +kernel
theorem dX1_auditNow_18 : decode cX1_auditNow 18 = .ok (.aload_n 0, 1) := by decide +kernel
theorem dX1_auditNow_19 : decode cX1_auditNow 19 = .ok (.iload_n 2, 1) := by decide +kernel
theorem dX1_auditNow_20 : decode cX1_auditNow 20 = .ok (.iconst 0, 1) := by decide +kernel
theorem dX1_auditNow_21 : decode cX1_auditNow 21 = .ok (.invokevirtual 50, 3) := by decide +kernel
theorem dX1_auditNow_24 : decode cX1_auditNow 24 = .ok (.iconst 1, 1) := by decide +kernel
theorem dX1_auditNow_25 : decode cX1_auditNow 25 = .ok (.bipush 99, 2) := by decide +kernel
theorem dX1_auditNow_27 : decode cX1_auditNow 27 = .ok (.aload_n 0, 1) := by decide +kernel
theorem dX1_auditNow_28 : decode cX1_auditNow 28 = .ok (.aload_n 0, 1) := by decide +kernel
theorem dX1_auditNow_29 : decode cX1_auditNow 29 = .ok (.iload_n 2, 1) := by decide +kernel
theorem dX1_auditNow_30 : decode cX1_auditNow 30 = .ok (.iconst 0, 1) := by decide +kernel
theorem dX1_auditNow_31 : decode cX1_auditNow 31 = .ok (.invokevirtual 50, 3) := by decide +kernel
theorem dX1_auditNow_34 : decode cX1_auditNow 34 = .ok (.iconst 1, 1) := by decide +kernel
theorem dX1_auditNow_35 : decode cX1_auditNow 35 = .ok (.invokevirtual 33, 3) := by decide +kernel
theorem dX1_auditNow_38 : decode cX1_auditNow 38 = .ok (.iconst 2, 1) := by decide +kernel
theorem dX1_auditNow_39 : decode cX1_auditNow 39 = .ok (.aload_n 0, 1) := by decide +kernel
theorem dX1_auditNow_40 : decode cX1_auditNow 40 = .ok (.iload_n 2, 1) := by decide +kernel
theorem dX1_auditNow_41 : decode cX1_auditNow 41 = .ok (.iconst 3, 1) := by decide +kernel
theorem dX1_auditNow_42 : decode cX1_auditNow 42 = .ok (.invokevirtual 50, 3) := by decide +kernel
theorem dX1_auditNow_45 : decode cX1_auditNow 45 = .ok (.imul, 1) := by decide +kernel
theorem dX1_auditNow_46 : decode cX1_auditNow 46 = .ok (.iadd, 1) := by decide +kernel
theorem dX1_auditNow_47 : decode cX1_auditNow 47 = .ok (.invokestatic 57, 3) := by decide +kernel
theorem dX1_auditNow_50 : decode cX1_auditNow 50 = .ok (.invokevirtual 42, 3) := by decide +kernel
theorem dX1_auditNow_53 : decode cX1_auditNow 53 = .ok (.iinc 2 1, 3) := by decide +kernel
theorem dX1_auditNow_56 : decode cX1_auditNow 56 = .ok (.goto (-49), 3) := by decide +kernel
theorem dX1_auditNow_59 : decode cX1_auditNow 59 = .ok (.aload_n 0, 1) := by decide +kernel
theorem dX1_auditNow_60 : decode cX1_auditNow 60 = .ok (.getfield 9, 3) := by decide +kernel
theorem dX1_auditNow_63 : decode cX1_auditNow 63 = .ok (.iconst 3, 1) := by decide +kernel
theorem dX1_auditNow_64 : decode cX1_auditNow 64 = .ok (.iconst 0, 1) := by decide +kernel
theorem dX1_auditNow_65 : decode cX1_auditNow 65 = .ok (.iastore, 1) := by decide +kernel
theorem dX1_auditNow_66 : decode cX1_auditNow 66 = .ok (.aload_n 0, 1) := by decide +kernel
theorem dX1_auditNow_67 : decode cX1_auditNow 67 = .ok (.getfield 9, 3) := by decide +kernel
theorem dX1_auditNow_70 : decode cX1_auditNow 70 = .ok (.iconst 2, 1) := by decide +kernel
theorem dX1_auditNow_71 : decode cX1_auditNow 71 = .ok (.dup2, 1) := by decide +kernel
theorem dX1_auditNow_72 : decode cX1_auditNow 72 = .ok (.iaload, 1) := by decide +kernel
theorem dX1_auditNow_73 : decode cX1_auditNow 73 = .ok (.iload_n 1, 1) := by decide +kernel
theorem dX1_auditNow_74 : decode cX1_auditNow 74 = .ok (.iadd, 1) := by decide +kernel
theorem dX1_auditNow_75 : decode cX1_auditNow 75 = .ok (.iastore, 1) := by decide +kernel
theorem dX1_auditNow_76 : decode cX1_auditNow 76 = .ok (.iload_n 1, 1) := by decide +kernel
theorem dX1_auditNow_77 : decode cX1_auditNow 77 = .ok (.ireturn, 1) := by decide +kernel
set_option maxRecDepth 20000 in
theorem ggX1_loss_X1_me : GoodIn wsX1_loss wsX1_me := goodIn_r _ [5, 6, 7, 8, 9, 10] (by decide +kernel) (by decide +kernel)
set_option maxRecDepth 20000 in
theorem gX1_loss_X1_me : GoodIn wsX1_loss (wsV RX1 33 RX1 yX1_me wsX1_me) := goodIn_app (goodIn_of _ (by decide +kernel)) ggX1_loss_X1_me
theorem dX1_loss_0 : decode cX1_loss 0 = .ok (.aload_n 0, 1) := by decide +kernel
theorem dX1_loss_1 : decode cX1_loss 1 = .ok (.iload_n 1, 1) := by decide +kernel
theorem dX1_loss_2 : decode cX1_loss 2 = .ok (.iconst 2, 1) := by decide +kernel
theorem dX1_loss_3 : decode cX1_loss 3 = .ok (.invokevirtual 33, 3) := by decide +kernel
theorem dX1_loss_6 : decode cX1_loss 6 = .ok (.ifCond .le 7, 3) := by decide +kernel
theorem dX1_loss_9 : decode cX1_loss 9 = .ok (.iconst 0, 1) := by decide +kernel
theorem dX1_loss_10 : decode cX1_loss 10 = .ok (.goto 15, 3) := by decide +kernel
theorem dX1_loss_13 : decode cX1_loss 13 = .ok (.aload_n 0, 1) := by decide +kernel
theorem dX1_loss_14 : decode cX1_loss 14 = .ok (.iload_n 1, 1) := by decide +kernel
theorem dX1_loss_15 : decode cX1_loss 15 = .ok (.iconst 1, 1) := by decide +kernel
theorem dX1_loss_16 : decode cX1_loss 16 = .ok (.invokevirtual 33, 3) := by decide +kernel
theorem dX1_loss_19 : decode cX1_loss 19 = .ok (.bipush 9, 2) := by decide +kernel
theorem dX1_loss_21 : decode cX1_loss 21 = .ok (.iadd, 1) := by decide +kernel
theorem dX1_loss_22 : decode cX1_loss 22 = .ok (.bipush 10, 2) := by decide +kernel
theorem dX1_loss_24 : decode cX1_loss 24 = .ok (.idiv, 1) := by decide +kernel
theorem dX1_loss_25 : decode cX1_loss 25 = .ok (.ireturn, 1) := by decide +kernel
set_option maxRecDepth 20000 in
theorem ggX1_dayOn_X1_auditNow : GoodIn wsX1_dayOn wsX1_auditNow := goodIn_r _ [14, 1, 7, 8, 5, 9, 15, 16, 17, 13, 18, 19, 20, 21, 22, 23, 24, 25, 26, 27, 28, 29, 30, 35, 36, 37, 38] (by decide +kernel) (by decide +kernel)
set_option maxRecDepth 20000 in
theorem gX1_dayOn_X1_auditNow : GoodIn wsX1_dayOn (wsV RX1 60 RX1 yX1_auditNow wsX1_auditNow) := goodIn_app (goodIn_of _ (by decide +kernel)) ggX1_dayOn_X1_auditNow
set_option maxRecDepth 20000 in
theorem ggX1_dayOn_X1_me : GoodIn wsX1_dayOn wsX1_me := goodIn_r _ [26, 1, 35, 36, 37, 38] (by decide +kernel) (by decide +kernel)
set_option maxRecDepth 20000 in
theorem gX1_dayOn_X1_me : GoodIn wsX1_dayOn (wsV RX1 33 RX1 yX1_me wsX1_me) := goodIn_app (goodIn_of _ (by decide +kernel)) ggX1_dayOn_X1_me
set_option maxRecDepth 20000 in
theorem ggX1_dayOn_X1_let : GoodIn wsX1_dayOn wsX1_let := goodIn_r _ [30, 1, 35, 36, 37, 38] (by decide +kernel) (by decide +kernel)
set_option maxRecDepth 20000 in
theorem gX1_dayOn_X1_let : GoodIn wsX1_dayOn (wsV RX1 42 RX1 yX1_let wsX1_let) := goodIn_app (goodIn_of _ (by decide +kernel)) ggX1_dayOn_X1_let
set_option maxRecDepth 20000 in
theorem ggX1_dayOn_X1_loss : GoodIn wsX1_dayOn wsX1_loss := goodIn_r _ [34, 23, 24, 25, 13, 26, 1, 35, 36, 37, 38] (by decide +kernel) (by decide +kernel)
set_option maxRecDepth 20000 in
theorem gX1_dayOn_X1_loss : GoodIn wsX1_dayOn (wsV RX1 63 RX1 yX1_loss wsX1_loss) := goodIn_app (goodIn_of _ (by decide +kernel)) ggX1_dayOn_X1_loss
theorem dX1_dayOn_0 : decode cX1_dayOn 0 = .ok (.aload_n 0, 1) := by decide +kernel
theorem dX1_dayOn_1 : decode cX1_dayOn 1 = .ok (.getfield 9, 3) := by decide +kernel
theorem dX1_dayOn_4 : decode cX1_dayOn 4 = .ok (.iconst 0, 1) := by decide +kernel
theorem dX1_dayOn_5 : decode cX1_dayOn 5 = .ok (.iaload, 1) := by decide +kernel
theorem dX1_dayOn_6 : decode cX1_dayOn 6 = .ok (.bipush 7, 2) := by decide +kernel
theorem dX1_dayOn_8 : decode cX1_dayOn 8 = .ok (.irem, 1) := by decide +kernel
theorem dX1_dayOn_9 : decode cX1_dayOn 9 = .ok (.bipush 6, 2) := by decide +kernel
theorem dX1_dayOn_11 : decode cX1_dayOn 11 = .ok (.if_icmp .ne 10, 3) := by decide +kernel
theorem dX1_dayOn_14 : decode cX1_dayOn 14 = .ok (.aload_n 0, 1) := by decide +kernel
theorem dX1_dayOn_15 : decode cX1_dayOn 15 = .ok (.invokevirtual 60, 3) := by decide +kernel
theorem dX1_dayOn_18 : decode cX1_dayOn 18 = .ok (.goto 4, 3) := by decide +kernel
theorem dX1_dayOn_21 : decode cX1_dayOn 21 = .ok (.iconst 0, 1) := by decide +kernel
theorem dX1_dayOn_22 : decode cX1_dayOn 22 = .ok (.istore_n 1, 1) := by decide +kernel
theorem dX1_dayOn_23 : decode cX1_dayOn 23 = .ok (.iconst 0, 1) := by decide +kernel
theorem dX1_dayOn_24 : decode cX1_dayOn 24 = .ok (.istore_n 2, 1) := by decide +kernel
theorem dX1_dayOn_25 : decode cX1_dayOn 25 = .ok (.iload_n 2, 1) := by decide +kernel
theorem dX1_dayOn_26 : decode cX1_dayOn 26 = .ok (.aload_n 0, 1) := by decide +kernel
theorem dX1_dayOn_27 : decode cX1_dayOn 27 = .ok (.getfield 20, 3) := by decide +kernel
theorem dX1_dayOn_30 : decode cX1_dayOn 30 = .ok (.if_icmp .ge 106, 3) := by decide +kernel
theorem dX1_dayOn_33 : decode cX1_dayOn 33 = .ok (.aload_n 0, 1) := by decide +kernel
theorem dX1_dayOn_34 : decode cX1_dayOn 34 = .ok (.iload_n 2, 1) := by decide +kernel
theorem dX1_dayOn_35 : decode cX1_dayOn 35 = .ok (.iconst 2, 1) := by decide +kernel
theorem dX1_dayOn_36 : decode cX1_dayOn 36 = .ok (.invokevirtual 33, 3) := by decide +kernel
theorem dX1_dayOn_39 : decode cX1_dayOn 39 = .ok (.ifCond .le 38, 3) := by decide +kernel
theorem dX1_dayOn_42 : decode cX1_dayOn 42 = .ok (.aload_n 0, 1) := by decide +kernel
theorem dX1_dayOn_43 : decode cX1_dayOn 43 = .ok (.iload_n 2, 1) := by decide +kernel
theorem dX1_dayOn_44 : decode cX1_dayOn 44 = .ok (.iconst 2, 1) := by decide +kernel
theorem dX1_dayOn_45 : decode cX1_dayOn 45 = .ok (.aload_n 0, 1) := by decide +kernel
theorem dX1_dayOn_46 : decode cX1_dayOn 46 = .ok (.iload_n 2, 1) := by decide +kernel
theorem dX1_dayOn_47 : decode cX1_dayOn 47 = .ok (.iconst 2, 1) := by decide +kernel
theorem dX1_dayOn_48 : decode cX1_dayOn 48 = .ok (.invokevirtual 33, 3) := by decide +kernel
theorem dX1_dayOn_51 : decode cX1_dayOn 51 = .ok (.iconst 1, 1) := by decide +kernel
theorem dX1_dayOn_52 : decode cX1_dayOn 52 = .ok (.isub, 1) := by decide +kernel
theorem dX1_dayOn_53 : decode cX1_dayOn 53 = .ok (.invokevirtual 42, 3) := by decide +kernel
theorem dX1_dayOn_56 : decode cX1_dayOn 56 = .ok (.aload_n 0, 1) := by decide +kernel
theorem dX1_dayOn_57 : decode cX1_dayOn 57 = .ok (.iload_n 2, 1) := by decide +kernel
theorem dX1_dayOn_58 : decode cX1_dayOn 58 = .ok (.iconst 1, 1) := by decide +kernel
theorem dX1_dayOn_59 : decode cX1_dayOn 59 = .ok (.iconst 0, 1) := by decide +kernel
theorem dX1_dayOn_60 : decode cX1_dayOn 60 = .ok (.aload_n 0, 1) := by decide +kernel
theorem dX1_dayOn_61 : decode cX1_dayOn 61 = .ok (.iload_n 2, 1) := by decide +kernel
theorem dX1_dayOn_62 : decode cX1_dayOn 62 = .ok (.iconst 1, 1) := by decide +kernel
theorem dX1_dayOn_63 : decode cX1_dayOn 63 = .ok (.invokevirtual 33, 3) := by decide +kernel
theorem dX1_dayOn_66 : decode cX1_dayOn 66 = .ok (.iconst 3, 1) := by decide +kernel
theorem dX1_dayOn_67 : decode cX1_dayOn 67 = .ok (.isub, 1) := by decide +kernel
theorem dX1_dayOn_68 : decode cX1_dayOn 68 = .ok (.invokestatic 37, 3) := by decide +kernel
theorem dX1_dayOn_71 : decode cX1_dayOn 71 = .ok (.invokevirtual 42, 3) := by decide +kernel
theorem dX1_dayOn_74 : decode cX1_dayOn 74 = .ok (.goto 56, 3) := by decide +kernel
theorem dX1_dayOn_77 : decode cX1_dayOn 77 = .ok (.aload_n 0, 1) := by decide +kernel
theorem dX1_dayOn_78 : decode cX1_dayOn 78 = .ok (.iload_n 2, 1) := by decide +kernel
theorem dX1_dayOn_79 : decode cX1_dayOn 79 = .ok (.iconst 1, 1) := by decide +kernel
theorem dX1_dayOn_80 : decode cX1_dayOn 80 = .ok (.invokevirtual 33, 3) := by decide +kernel
theorem dX1_dayOn_83 : decode cX1_dayOn 83 = .ok (.ifCond .le 28, 3) := by decide +kernel
theorem dX1_dayOn_86 : decode cX1_dayOn 86 = .ok (.aload_n 0, 1) := by decide +kernel
theorem dX1_dayOn_87 : decode cX1_dayOn 87 = .ok (.iload_n 2, 1) := by decide +kernel
theorem dX1_dayOn_88 : decode cX1_dayOn 88 = .ok (.iconst 0, 1) := by decide +kernel
theorem dX1_dayOn_89 : decode cX1_dayOn 89 = .ok (.iconst 0, 1) := by decide +kernel
theorem dX1_dayOn_90 : decode cX1_dayOn 90 = .ok (.aload_n 0, 1) := by decide +kernel
theorem dX1_dayOn_91 : decode cX1_dayOn 91 = .ok (.iload_n 2, 1) := by decide +kernel
theorem dX1_dayOn_92 : decode cX1_dayOn 92 = .ok (.iconst 0, 1) := by decide +kernel
theorem dX1_dayOn_93 : decode cX1_dayOn 93 = .ok (.invokevirtual 33, 3) := by decide +kernel
theorem dX1_dayOn_96 : decode cX1_dayOn 96 = .ok (.aload_n 0, 1) := by decide +kernel
theorem dX1_dayOn_97 : decode cX1_dayOn 97 = .ok (.iload_n 2, 1) := by decide +kernel
theorem dX1_dayOn_98 : decode cX1_dayOn 98 = .ok (.invokevirtual 63, 3) := by decide +kernel
theorem dX1_dayOn_101 : decode cX1_dayOn 101 = .ok (.isub, 1) := by decide +kernel
theorem dX1_dayOn_102 : decode cX1_dayOn 102 = .ok (.invokestatic 37, 3) := by decide +kernel
theorem dX1_dayOn_105 : decode cX1_dayOn 105 = .ok (.invokevirtual 42, 3) := by decide +kernel
theorem dX1_dayOn_108 : decode cX1_dayOn 108 = .ok (.goto 22, 3) := by decide +kernel
theorem dX1_dayOn_111 : decode cX1_dayOn 111 = .ok (.aload_n 0, 1) := by decide +kernel
theorem dX1_dayOn_112 : decode cX1_dayOn 112 = .ok (.iload_n 2, 1) := by decide +kernel
theorem dX1_dayOn_113 : decode cX1_dayOn 113 = .ok (.iconst 0, 1) := by decide +kernel
theorem dX1_dayOn_114 : decode cX1_dayOn 114 = .ok (.bipush 100, 2) := by decide +kernel
theorem dX1_dayOn_116 : decode cX1_dayOn 116 = .ok (.aload_n 0, 1) := by decide +kernel
theorem dX1_dayOn_117 : decode cX1_dayOn 117 = .ok (.iload_n 2, 1) := by decide +kernel
theorem dX1_dayOn_118 : decode cX1_dayOn 118 = .ok (.iconst 0, 1) := by decide +kernel
theorem dX1_dayOn_119 : decode cX1_dayOn 119 = .ok (.invokevirtual 33, 3) := by decide +kernel
theorem dX1_dayOn_122 : decode cX1_dayOn 122 = .ok (.iconst 1, 1) := by decide +kernel
theorem dX1_dayOn_123 : decode cX1_dayOn 123 = .ok (.iadd, 1) := by decide +kernel
theorem dX1_dayOn_124 : decode cX1_dayOn 124 = .ok (.invokestatic 57, 3) := by decide +kernel
theorem dX1_dayOn_127 : decode cX1_dayOn 127 = .ok (.invokevirtual 42, 3) := by decide +kernel
theorem dX1_dayOn_130 : decode cX1_dayOn 130 = .ok (.iinc 2 1, 3) := by decide +kernel
theorem dX1_dayOn_133 : decode cX1_dayOn 133 = .ok (.goto (-108), 3) := by decide +kernel
theorem dX1_dayOn_136 : decode cX1_dayOn 136 = .ok (.aload_n 0, 1) := by decide +kernel
theorem dX1_dayOn_137 : decode cX1_dayOn 137 = .ok (.getfield 9, 3) := by decide +kernel
theorem dX1_dayOn_140 : decode cX1_dayOn 140 = .ok (.iconst 0, 1) := by decide +kernel
theorem dX1_dayOn_141 : decode cX1_dayOn 141 = .ok (.dup2, 1) := by decide +kernel
theorem dX1_dayOn_142 : decode cX1_dayOn 142 = .ok (.iaload, 1) := by decide +kernel
theorem dX1_dayOn_143 : decode cX1_dayOn 143 = .ok (.iconst 1, 1) := by decide +kernel
theorem dX1_dayOn_144 : decode cX1_dayOn 144 = .ok (.iadd, 1) := by decide +kernel
theorem dX1_dayOn_145 : decode cX1_dayOn 145 = .ok (.iastore, 1) := by decide +kernel
theorem dX1_dayOn_146 : decode cX1_dayOn 146 = .ok (.iload_n 1, 1) := by decide +kernel
theorem dX1_dayOn_147 : decode cX1_dayOn 147 = .ok (.ireturn, 1) := by decide +kernel
set_option maxRecDepth 20000 in
theorem ggX1_daysOn_X1_dayOn : GoodIn wsX1_daysOn wsX1_dayOn := goodIn_r _ [5, 6, 7, 8, 9, 10, 11, 12, 13, 14, 15, 16, 17, 4, 18, 19, 20, 21, 22, 23, 24, 25, 26, 27, 28, 29, 30, 31, 32, 33, 34, 35, 36, 37, 38, 39, 40, 41, 42] (by decide +kernel) (by decide +kernel)
set_option maxRecDepth 20000 in
theorem gX1_daysOn_X1_dayOn : GoodIn wsX1_daysOn (wsV RX1 67 RX1 yX1_dayOn wsX1_dayOn) := goodIn_app (goodIn_of _ (by decide +kernel)) ggX1_daysOn_X1_dayOn
theorem dX1_daysOn_0 : decode cX1_daysOn 0 = .ok (.iconst 0, 1) := by decide +kernel
theorem dX1_daysOn_1 : decode cX1_daysOn 1 = .ok (.istore_n 2, 1) := by decide +kernel
theorem dX1_daysOn_2 : decode cX1_daysOn 2 = .ok (.iconst 0, 1) := by decide +kernel
theorem dX1_daysOn_3 : decode cX1_daysOn 3 = .ok (.istore_n 3, 1) := by decide +kernel
theorem dX1_daysOn_4 : decode cX1_daysOn 4 = .ok (.iload_n 3, 1) := by decide +kernel
theorem dX1_daysOn_5 : decode cX1_daysOn 5 = .ok (.iload_n 1, 1) := by decide +kernel
theorem dX1_daysOn_6 : decode cX1_daysOn 6 = .ok (.if_icmp .ge 16, 3) := by decide +kernel
theorem dX1_daysOn_9 : decode cX1_daysOn 9 = .ok (.iload_n 2, 1) := by decide +kernel
theorem dX1_daysOn_10 : decode cX1_daysOn 10 = .ok (.aload_n 0, 1) := by decide +kernel
theorem dX1_daysOn_11 : decode cX1_daysOn 11 = .ok (.invokevirtual 67, 3) := by decide +kernel
theorem dX1_daysOn_14 : decode cX1_daysOn 14 = .ok (.iadd, 1) := by decide +kernel
theorem dX1_daysOn_15 : decode cX1_daysOn 15 = .ok (.istore_n 2, 1) := by decide +kernel
theorem dX1_daysOn_16 : decode cX1_daysOn 16 = .ok (.iinc 3 1, 3) := by decide +kernel
theorem dX1_daysOn_19 : decode cX1_daysOn 19 = .ok (.goto (-15), 3) := by decide +kernel
theorem dX1_daysOn_22 : decode cX1_daysOn 22 = .ok (.iload_n 2, 1) := by decide +kernel
theorem dX1_daysOn_23 : decode cX1_daysOn 23 = .ok (.ireturn, 1) := by decide +kernel
set_option maxRecDepth 20000 in
theorem ggX1_join_X1_fail : GoodIn wsX1_join wsX1_fail := goodIn_r _ [7, 1, 13, 14, 15, 16] (by decide +kernel) (by decide +kernel)
set_option maxRecDepth 20000 in
theorem gX1_join_X1_fail : GoodIn wsX1_join (wsV RX1 70 RX1 yX1_fail wsX1_fail) := goodIn_app (goodIn_of _ (by decide +kernel)) ggX1_join_X1_fail
set_option maxRecDepth 20000 in
theorem ggX1_join_X1_let : GoodIn wsX1_join wsX1_let := goodIn_r _ [11, 12, 13, 14, 15, 16] (by decide +kernel) (by decide +kernel)
set_option maxRecDepth 20000 in
theorem gX1_join_X1_let : GoodIn wsX1_join (wsV RX1 42 RX1 yX1_let wsX1_let) := goodIn_app (goodIn_of _ (by decide +kernel)) ggX1_join_X1_let
theorem dX1_join_0 : decode cX1_join 0 = .ok (.aload_n 0, 1) := by decide +kernel
theorem dX1_join_1 : decode cX1_join 1 = .ok (.iconst 0, 1) := by decide +kernel
