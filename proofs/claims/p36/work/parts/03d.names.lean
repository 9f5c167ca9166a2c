set_option maxRecDepth 20000 in
theorem gX0_arrearsByAudit_X0_checkMember : GoodIn wsX0_arrearsByAudit (wsV RX0 55 RX0 yX0_checkMember wsX0_checkMember) := goodIn_app (goodIn_of _ (by decide +kernel)) ggX0_arrearsByAudit_X0_checkMember
set_option maxRecDepth 20000 in
theorem ggX0_arrearsByAudit_X0_debtOf : GoodIn wsX0_arrearsByAudit wsX0_debtOf := goodIn_r _ [12, 13, 14, 15, 16, 17, 18, 19, 20, 21, 22, 23, 24, 25, 26, 27, 28, 29] (by decide +kernel) (by decide +kernel)
set_option maxRecDepth 20000 in
theorem gX0_arrearsByAudit_X0_debtOf : GoodIn wsX0_arrearsByAudit (wsV RX0 98 RX0 yX0_debtOf wsX0_debtOf) := goodIn_app (goodIn_of _ (by decide +kernel)) ggX0_arrearsByAudit_X0_debtOf
theorem dX0_arrearsByAudit_0 : decode cX0_arrearsByAudit 0 = .ok (.aload_n 0, 1) := by decide +kernel
theorem dX0_arrearsByAudit_1 : decode cX0_arrearsByAudit 1 = .ok (.iload_n 1, 1) := by decide +kernel
theorem dX0_arrearsByAudit_2 : decode cX0_arrearsByAudit 2 = .ok (.invokevirtual 55, 3) := by decide +kernel
theorem dX0_arrearsByAudit_5 : decode cX0_arrearsByAudit 5 = .ok (.aload_n 0, 1) := by decide +kernel
theorem dX0_arrearsByAudit_6 : decode cX0_arrearsByAudit 6 = .ok (.iload_n 1, 1) := by decide +kernel
theorem dX0_arrearsByAudit_7 : decode cX0_arrearsByAudit 7 = .ok (.invokevirtual 98, 3) := by decide +kernel
theorem dX0_arrearsByAudit_10 : decode cX0_arrearsByAudit 10 = .ok (.ireturn, 1) := by decide +kernel
theorem dX0_daysUntilAudit_0 : decode cX0_daysUntilAudit 0 = .ok (.bipush 6, 2) := by decide +kernel
theorem dX0_daysUntilAudit_2 : decode cX0_daysUntilAudit 2 = .ok (.aload_n 0, 1) := by decide +kernel
theorem dX0_daysUntilAudit_3 : decode cX0_daysUntilAudit 3 = .ok (.getfield 42, 3) := by decide +kernel
theorem dX0_daysUntilAudit_6 : decode cX0_daysUntilAudit 6 = .ok (.bipush 7, 2) := by decide +kernel
theorem dX0_daysUntilAudit_8 : decode cX0_daysUntilAudit 8 = .ok (.irem, 1) := by decide +kernel
theorem dX0_daysUntilAudit_9 : decode cX0_daysUntilAudit 9 = .ok (.isub, 1) := by decide +kernel
theorem dX0_daysUntilAudit_10 : decode cX0_daysUntilAudit 10 = .ok (.ireturn, 1) := by decide +kernel
theorem dX0_faultsFound_0 : decode cX0_faultsFound 0 = .ok (.aload_n 0, 1) := by decide +kernel
theorem dX0_faultsFound_1 : decode cX0_faultsFound 1 = .ok (.getfield 45, 3) := by decide +kernel
theorem dX0_faultsFound_4 : decode cX0_faultsFound 4 = .ok (.ireturn, 1) := by decide +kernel
theorem dX0_meanLuck_0 : decode cX0_meanLuck 0 = .ok (.aload_n 0, 1) := by decide +kernel
theorem dX0_meanLuck_1 : decode cX0_meanLuck 1 = .ok (.getfield 32, 3) := by decide +kernel
theorem dX0_meanLuck_4 : decode cX0_meanLuck 4 = .ok (.ifCond .ne 5, 3) := by decide +kernel
theorem dX0_meanLuck_7 : decode cX0_meanLuck 7 = .ok (.dconst 0, 1) := by decide +kernel
theorem dX0_meanLuck_8 : decode cX0_meanLuck 8 = .ok (.dreturn, 1) := by decide +kernel
theorem dX0_meanLuck_9 : decode cX0_meanLuck 9 = .ok (.iconst 0, 1) := by decide +kernel
theorem dX0_meanLuck_10 : decode cX0_meanLuck 10 = .ok (.istore_n 1, 1) := by decide +kernel
theorem dX0_meanLuck_11 : decode cX0_meanLuck 11 = .ok (.iconst 0, 1) := by decide +kernel
theorem dX0_meanLuck_12 : decode cX0_meanLuck 12 = .ok (.istore_n 2, 1) := by decide +kernel
theorem dX0_meanLuck_13 : decode cX0_meanLuck 13 = .ok (.iload_n 2, 1) := by decide +kernel
theorem dX0_meanLuck_14 : decode cX0_meanLuck 14 = .ok (.aload_n 0, 1) := by decide +kernel
theorem dX0_meanLuck_15 : decode cX0_meanLuck 15 = .ok (.getfield 32, 3) := by decide +kernel
theorem dX0_meanLuck_18 : decode cX0_meanLuck 18 = .ok (.if_icmp .ge 18, 3) := by decide +kernel
theorem dX0_meanLuck_21 : decode cX0_meanLuck 21 = .ok (.iload_n 1, 1) := by decide +kernel
theorem dX0_meanLuck_22 : decode cX0_meanLuck 22 = .ok (.aload_n 0, 1) := by decide +kernel
theorem dX0_meanLuck_23 : decode cX0_meanLuck 23 = .ok (.getfield 9, 3) := by decide +kernel
theorem dX0_meanLuck_26 : decode cX0_meanLuck 26 = .ok (.iload_n 2, 1) := by decide +kernel
theorem dX0_meanLuck_27 : decode cX0_meanLuck 27 = .ok (.iaload, 1) := by decide +kernel
theorem dX0_meanLuck_28 : decode cX0_meanLuck 28 = .ok (.iadd, 1) := by decide +kernel
theorem dX0_meanLuck_29 : decode cX0_meanLuck 29 = .ok (.istore_n 1, 1) := by decide +kernel
theorem dX0_meanLuck_30 : decode cX0_meanLuck 30 = .ok (.iinc 2 1, 3) := by decide +kernel
theorem dX0_meanLuck_33 : decode cX0_meanLuck 33 = .ok (.goto (-20), 3) := by decide +kernel
theorem dX0_meanLuck_36 : decode cX0_meanLuck 36 = .ok (.iload_n 1, 1) := by decide +kernel
theorem dX0_meanLuck_37 : decode cX0_meanLuck 37 = .ok (.i2d, 1) := by decide +kernel
theorem dX0_meanLuck_38 : decode cX0_meanLuck 38 = .ok (.aload_n 0, 1) := by decide +kernel
theorem dX0_meanLuck_39 : decode cX0_meanLuck 39 = .ok (.getfield 32, 3) := by decide +kernel
theorem dX0_meanLuck_42 : decode cX0_meanLuck 42 = .ok (.i2d, 1) := by decide +kernel
theorem dX0_meanLuck_43 : decode cX0_meanLuck 43 = .ok (.ddiv, 1) := by decide +kernel
theorem dX0_meanLuck_44 : decode cX0_meanLuck 44 = .ok (.dreturn, 1) := by decide +kernel
theorem dX0_checkMember_0 : decode cX0_checkMember 0 = .ok (.iload_n 1, 1) := by decide +kernel
theorem dX0_checkMember_1 : decode cX0_checkMember 1 = .ok (.ifCond .lt 11, 3) := by decide +kernel
theorem dX0_checkMember_4 : decode cX0_checkMember 4 = .ok (.iload_n 1, 1) := by decide +kernel
theorem dX0_checkMember_5 : decode cX0_checkMember 5 = .ok (.aload_n 0, 1) := by decide +kernel
theorem dX0_checkMember_6 : decode cX0_checkMember 6 = .ok (.getfield 32, 3) := by decide +kernel
theorem dX0_checkMember_9 : decode cX0_checkMember 9 = .ok (.if_icmp .lt 13, 3) := by decide +kernel
theorem dX0_checkMember_12 : decode cX0_checkMember 12 = .ok (.new 195, 3) := by decide +kernel
theorem dX0_checkMember_15 : decode cX0_checkMember 15 = .ok (.dup, 1) := by decide +kernel
theorem dX0_checkMember_16 : decode cX0_checkMember 16 = .ok (.ldc 197, 2) := by decide +kernel
theorem dX0_checkMember_18 : decode cX0_checkMember 18 = .ok (.invokespecial 199, 3) := by decide +kernel
theorem dX0_checkMember_21 : decode cX0_checkMember 21 = .ok (.athrow, 1) := by decide +kernel
theorem dX0_checkMember_22 : decode cX0_checkMember 22 = .ok (.return_, 1) := by decide +kernel
theorem dX0_checkShoulder_0 : decode cX0_checkShoulder 0 = .ok (.iload_n 0, 1) := by decide +kernel
theorem dX0_checkShoulder_1 : decode cX0_checkShoulder 1 = .ok (.ifCond .eq 18, 3) := by decide +kernel
theorem dX0_checkShoulder_4 : decode cX0_checkShoulder 4 = .ok (.iload_n 0, 1) := by decide +kernel
theorem dX0_checkShoulder_5 : decode cX0_checkShoulder 5 = .ok (.iconst 1, 1) := by decide +kernel
theorem dX0_checkShoulder_6 : decode cX0_checkShoulder 6 = .ok (.if_icmp .eq 13, 3) := by decide +kernel
theorem dX0_checkShoulder_9 : decode cX0_checkShoulder 9 = .ok (.new 195, 3) := by decide +kernel
theorem dX0_checkShoulder_12 : decode cX0_checkShoulder 12 = .ok (.dup, 1) := by decide +kernel
theorem dX0_checkShoulder_13 : decode cX0_checkShoulder 13 = .ok (.ldc 200, 2) := by decide +kernel
theorem dX0_checkShoulder_15 : decode cX0_checkShoulder 15 = .ok (.invokespecial 199, 3) := by decide +kernel
theorem dX0_checkShoulder_18 : decode cX0_checkShoulder 18 = .ok (.athrow, 1) := by decide +kernel
theorem dX0_checkShoulder_19 : decode cX0_checkShoulder 19 = .ok (.return_, 1) := by decide +kernel
theorem dX0_checkEntry_0 : decode cX0_checkEntry 0 = .ok (.iload_n 1, 1) := by decide +kernel
theorem dX0_checkEntry_1 : decode cX0_checkEntry 1 = .ok (.ifCond .lt 11, 3) := by decide +kernel
theorem dX0_checkEntry_4 : decode cX0_checkEntry 4 = .ok (.iload_n 1, 1) := by decide +kernel
theorem dX0_checkEntry_5 : decode cX0_checkEntry 5 = .ok (.aload_n 0, 1) := by decide +kernel
theorem dX0_checkEntry_6 : decode cX0_checkEntry 6 = .ok (.getfield 36, 3) := by decide +kernel
theorem dX0_checkEntry_9 : decode cX0_checkEntry 9 = .ok (.if_icmp .lt 13, 3) := by decide +kernel
theorem dX0_checkEntry_12 : decode cX0_checkEntry 12 = .ok (.new 195, 3) := by decide +kernel
theorem dX0_checkEntry_15 : decode cX0_checkEntry 15 = .ok (.dup, 1) := by decide +kernel
theorem dX0_checkEntry_16 : decode cX0_checkEntry 16 = .ok (.ldc 202, 2) := by decide +kernel
theorem dX0_checkEntry_18 : decode cX0_checkEntry 18 = .ok (.invokespecial 199, 3) := by decide +kernel
theorem dX0_checkEntry_21 : decode cX0_checkEntry 21 = .ok (.athrow, 1) := by decide +kernel
theorem dX0_checkEntry_22 : decode cX0_checkEntry 22 = .ok (.return_, 1) := by decide +kernel
theorem dX0_checkAmount_0 : decode cX0_checkAmount 0 = .ok (.iload_n 0, 1) := by decide +kernel
theorem dX0_checkAmount_1 : decode cX0_checkAmount 1 = .ok (.iconst 1, 1) := by decide +kernel
theorem dX0_checkAmount_2 : decode cX0_checkAmount 2 = .ok (.if_icmp .lt 8, 3) := by decide +kernel
theorem dX0_checkAmount_5 : decode cX0_checkAmount 5 = .ok (.iload_n 0, 1) := by decide +kernel
theorem dX0_checkAmount_6 : decode cX0_checkAmount 6 = .ok (.iload_n 1, 1) := by decide +kernel
theorem dX0_checkAmount_7 : decode cX0_checkAmount 7 = .ok (.if_icmp .le 13, 3) := by decide +kernel
theorem dX0_checkAmount_10 : decode cX0_checkAmount 10 = .ok (.new 204, 3) := by decide +kernel
theorem dX0_checkAmount_13 : decode cX0_checkAmount 13 = .ok (.dup, 1) := by decide +kernel
theorem dX0_checkAmount_14 : decode cX0_checkAmount 14 = .ok (.ldc 206, 2) := by decide +kernel
theorem dX0_checkAmount_16 : decode cX0_checkAmount 16 = .ok (.invokespecial 208, 3) := by decide +kernel
theorem dX0_checkAmount_19 : decode cX0_checkAmount 19 = .ok (.athrow, 1) := by decide +kernel
theorem dX0_checkAmount_20 : decode cX0_checkAmount 20 = .ok (.return_, 1) := by decide +kernel
theorem dX0_checkCellar_0 : decode cX0_checkCellar 0 = .ok (.aload_n 0, 1) := by decide +kernel
theorem dX0_checkCellar_1 : decode cX0_checkCellar 1 = .ok (.getfield 39, 3) := by decide +kernel
theorem dX0_checkCellar_4 : decode cX0_checkCellar 4 = .ok (.iload_n 1, 1) := by decide +kernel
theorem dX0_checkCellar_5 : decode cX0_checkCellar 5 = .ok (.if_icmp .ge 13, 3) := by decide +kernel
theorem dX0_checkCellar_8 : decode cX0_checkCellar 8 = .ok (.new 48, 3) := by decide +kernel
theorem dX0_checkCellar_11 : decode cX0_checkCellar 11 = .ok (.dup, 1) := by decide +kernel
theorem dX0_checkCellar_12 : decode cX0_checkCellar 12 = .ok (.ldc 209, 2) := by decide +kernel
theorem dX0_checkCellar_14 : decode cX0_checkCellar 14 = .ok (.invokespecial 52, 3) := by decide +kernel
theorem dX0_checkCellar_17 : decode cX0_checkCellar 17 = .ok (.athrow, 1) := by decide +kernel
theorem dX0_checkCellar_18 : decode cX0_checkCellar 18 = .ok (.return_, 1) := by decide +kernel
theorem dX0_checkLedgerHasRoom_0 : decode cX0_checkLedgerHasRoom 0 = .ok (.aload_n 0, 1) := by decide +kernel
theorem dX0_checkLedgerHasRoom_1 : decode cX0_checkLedgerHasRoom 1 = .ok (.getfield 36, 3) := by decide +kernel
theorem dX0_checkLedgerHasRoom_4 : decode cX0_checkLedgerHasRoom 4 = .ok (.bipush 30, 2) := by decide +kernel
theorem dX0_checkLedgerHasRoom_6 : decode cX0_checkLedgerHasRoom 6 = .ok (.if_icmp .lt 13, 3) := by decide +kernel
theorem dX0_checkLedgerHasRoom_9 : decode cX0_checkLedgerHasRoom 9 = .ok (.new 48, 3) := by decide +kernel
theorem dX0_checkLedgerHasRoom_12 : decode cX0_checkLedgerHasRoom 12 = .ok (.dup, 1) := by decide +kernel
theorem dX0_checkLedgerHasRoom_13 : decode cX0_checkLedgerHasRoom 13 = .ok (.ldc 211, 2) := by decide +kernel
theorem dX0_checkLedgerHasRoom_15 : decode cX0_checkLedgerHasRoom 15 = .ok (.invokespecial 52, 3) := by decide +kernel
theorem dX0_checkLedgerHasRoom_18 : decode cX0_checkLedgerHasRoom 18 = .ok (.athrow, 1) := by decide +kernel
theorem dX0_checkLedgerHasRoom_19 : decode cX0_checkLedgerHasRoom 19 = .ok (.return_, 1) := by decide +kernel
theorem dX0_addArrears_0 : decode cX0_addArrears 0 = .ok (.aload_n 0, 1) := by decide +kernel
theorem dX0_addArrears_1 : decode cX0_addArrears 1 = .ok (.getfield 13, 3) := by decide +kernel
theorem dX0_addArrears_4 : decode cX0_addArrears 4 = .ok (.iload_n 1, 1) := by decide +kernel
theorem dX0_addArrears_5 : decode cX0_addArrears 5 = .ok (.bipush 99, 2) := by decide +kernel
theorem dX0_addArrears_7 : decode cX0_addArrears 7 = .ok (.aload_n 0, 1) := by decide +kernel
theorem dX0_addArrears_8 : decode cX0_addArrears 8 = .ok (.getfield 13, 3) := by decide +kernel
theorem dX0_addArrears_11 : decode cX0_addArrears 11 = .ok (.iload_n 1, 1) := by decide +kernel
theorem dX0_addArrears_12 : decode cX0_addArrears 12 = .ok (.iaload, 1) := by decide +kernel
theorem dX0_addArrears_13 : decode cX0_addArrears 13 = .ok (.iload_n 2, 1) := by decide +kernel
theorem dX0_addArrears_14 : decode cX0_addArrears 14 = .ok (.iadd, 1) := by decide +kernel
theorem dX0_addArrears_15 : decode cX0_addArrears 15 = .ok (.invokestatic 89, 3) := by decide +kernel
theorem dX0_addArrears_18 : decode cX0_addArrears 18 = .ok (.iastore, 1) := by decide +kernel
theorem dX0_addArrears_19 : decode cX0_addArrears 19 = .ok (.return_, 1) := by decide +kernel
theorem dX0_lessenArrears_0 : decode cX0_lessenArrears 0 = .ok (.aload_n 0, 1) := by decide +kernel
theorem dX0_lessenArrears_1 : decode cX0_lessenArrears 1 = .ok (.getfield 13, 3) := by decide +kernel
theorem dX0_lessenArrears_4 : decode cX0_lessenArrears 4 = .ok (.iload_n 1, 1) := by decide +kernel
theorem dX0_lessenArrears_5 : decode cX0_lessenArrears 5 = .ok (.iconst 0, 1) := by decide +kernel
theorem dX0_lessenArrears_6 : decode cX0_lessenArrears 6 = .ok (.aload_n 0, 1) := by decide +kernel
theorem dX0_lessenArrears_7 : decode cX0_lessenArrears 7 = .ok (.getfield 13, 3) := by decide +kernel
theorem dX0_lessenArrears_10 : decode cX0_lessenArrears 10 = .ok (.iload_n 1, 1) := by decide +kernel
theorem dX0_lessenArrears_11 : decode cX0_lessenArrears 11 = .ok (.iaload, 1) := by decide +kernel
theorem dX0_lessenArrears_12 : decode cX0_lessenArrears 12 = .ok (.iload_n 2, 1) := by decide +kernel
theorem dX0_lessenArrears_13 : decode cX0_lessenArrears 13 = .ok (.isub, 1) := by decide +kernel
theorem dX0_lessenArrears_14 : decode cX0_lessenArrears 14 = .ok (.invokestatic 213, 3) := by decide +kernel
theorem dX0_lessenArrears_17 : decode cX0_lessenArrears 17 = .ok (.iastore, 1) := by decide +kernel
theorem dX0_lessenArrears_18 : decode cX0_lessenArrears 18 = .ok (.return_, 1) := by decide +kernel
theorem dX0_addLumps_0 : decode cX0_addLumps 0 = .ok (.aload_n 0, 1) := by decide +kernel
theorem dX0_addLumps_1 : decode cX0_addLumps 1 = .ok (.getfield 16, 3) := by decide +kernel
theorem dX0_addLumps_4 : decode cX0_addLumps 4 = .ok (.iload_n 1, 1) := by decide +kernel
theorem dX0_addLumps_5 : decode cX0_addLumps 5 = .ok (.bipush 9, 2) := by decide +kernel
theorem dX0_addLumps_7 : decode cX0_addLumps 7 = .ok (.aload_n 0, 1) := by decide +kernel
theorem dX0_addLumps_8 : decode cX0_addLumps 8 = .ok (.getfield 16, 3) := by decide +kernel
theorem dX0_addLumps_11 : decode cX0_addLumps 11 = .ok (.iload_n 1, 1) := by decide +kernel
theorem dX0_addLumps_12 : decode cX0_addLumps 12 = .ok (.iaload, 1) := by decide +kernel
theorem dX0_addLumps_13 : decode cX0_addLumps 13 = .ok (.iload_n 2, 1) := by decide +kernel
theorem dX0_addLumps_14 : decode cX0_addLumps 14 = .ok (.iadd, 1) := by decide +kernel
theorem dX0_addLumps_15 : decode cX0_addLumps 15 = .ok (.invokestatic 89, 3) := by decide +kernel
theorem dX0_addLumps_18 : decode cX0_addLumps 18 = .ok (.iastore, 1) := by decide +kernel
theorem dX0_addLumps_19 : decode cX0_addLumps 19 = .ok (.return_, 1) := by decide +kernel
theorem dX0_leftExcess_0 : decode cX0_leftExcess 0 = .ok (.iconst 0, 1) := by decide +kernel
theorem dX0_leftExcess_1 : decode cX0_leftExcess 1 = .ok (.iload_n 2, 1) := by decide +kernel
theorem dX0_leftExcess_2 : decode cX0_leftExcess 2 = .ok (.aload_n 0, 1) := by decide +kernel
theorem dX0_leftExcess_3 : decode cX0_leftExcess 3 = .ok (.getfield 13, 3) := by decide +kernel
theorem dX0_leftExcess_6 : decode cX0_leftExcess 6 = .ok (.iload_n 1, 1) := by decide +kernel
theorem dX0_leftExcess_7 : decode cX0_leftExcess 7 = .ok (.iaload, 1) := by decide +kernel
theorem dX0_leftExcess_8 : decode cX0_leftExcess 8 = .ok (.isub, 1) := by decide +kernel
theorem dX0_leftExcess_9 : decode cX0_leftExcess 9 = .ok (.invokestatic 213, 3) := by decide +kernel
theorem dX0_leftExcess_12 : decode cX0_leftExcess 12 = .ok (.ireturn, 1) := by decide +kernel
theorem dX0_lossOf_0 : decode cX0_lossOf 0 = .ok (.aload_n 0, 1) := by decide +kernel
theorem dX0_lossOf_1 : decode cX0_lossOf 1 = .ok (.getfield 16, 3) := by decide +kernel
theorem dX0_lossOf_4 : decode cX0_lossOf 4 = .ok (.iload_n 1, 1) := by decide +kernel
theorem dX0_lossOf_5 : decode cX0_lossOf 5 = .ok (.iaload, 1) := by decide +kernel
theorem dX0_lossOf_6 : decode cX0_lossOf 6 = .ok (.ifCond .le 5, 3) := by decide +kernel
theorem dX0_lossOf_9 : decode cX0_lossOf 9 = .ok (.iconst 0, 1) := by decide +kernel
theorem dX0_lossOf_10 : decode cX0_lossOf 10 = .ok (.ireturn, 1) := by decide +kernel
theorem dX0_lossOf_11 : decode cX0_lossOf 11 = .ok (.aload_n 0, 1) := by decide +kernel
theorem dX0_lossOf_12 : decode cX0_lossOf 12 = .ok (.getfield 13, 3) := by decide +kernel
theorem dX0_lossOf_15 : decode cX0_lossOf 15 = .ok (.iload_n 1, 1) := by decide +kernel
theorem dX0_lossOf_16 : decode cX0_lossOf 16 = .ok (.iaload, 1) := by decide +kernel
theorem dX0_lossOf_17 : decode cX0_lossOf 17 = .ok (.bipush 10, 2) := by decide +kernel
theorem dX0_lossOf_19 : decode cX0_lossOf 19 = .ok (.iadd, 1) := by decide +kernel
theorem dX0_lossOf_20 : decode cX0_lossOf 20 = .ok (.iconst 1, 1) := by decide +kernel
theorem dX0_lossOf_21 : decode cX0_lossOf 21 = .ok (.isub, 1) := by decide +kernel
theorem dX0_lossOf_22 : decode cX0_lossOf 22 = .ok (.bipush 10, 2) := by decide +kernel
theorem dX0_lossOf_24 : decode cX0_lossOf 24 = .ok (.idiv, 1) := by decide +kernel
theorem dX0_lossOf_25 : decode cX0_lossOf 25 = .ok (.ireturn, 1) := by decide +kernel
set_option maxRecDepth 20000 in
theorem ggX0_eatOrFeelLuck_X0_lessenArrears : GoodIn wsX0_eatOrFeelLuck wsX0_lessenArrears := goodIn_r _ [15, 2, 4, 5, 6, 7, 20, 21, 22, 23, 24, 25, 26, 27, 28, 29, 30, 31, 32, 33] (by decide +kernel) (by decide +kernel)
set_option maxRecDepth 20000 in
theorem gX0_eatOrFeelLuck_X0_lessenArrears : GoodIn wsX0_eatOrFeelLuck (wsV RX0 79 RX0 yX0_lessenArrears wsX0_lessenArrears) := goodIn_app (goodIn_of _ (by decide +kernel)) ggX0_eatOrFeelLuck_X0_lessenArrears
set_option maxRecDepth 20000 in
theorem ggX0_eatOrFeelLuck_X0_lossOf : GoodIn wsX0_eatOrFeelLuck wsX0_lossOf := goodIn_r _ [19, 1, 2, 20, 21, 22, 23, 24, 25, 26, 27, 28, 29, 30, 31, 32, 33] (by decide +kernel) (by decide +kernel)
set_option maxRecDepth 20000 in
theorem gX0_eatOrFeelLuck_X0_lossOf : GoodIn wsX0_eatOrFeelLuck (wsV RX0 105 RX0 yX0_lossOf wsX0_lossOf) := goodIn_app (goodIn_of _ (by decide +kernel)) ggX0_eatOrFeelLuck_X0_lossOf
theorem dX0_eatOrFeelLuck_0 : decode cX0_eatOrFeelLuck 0 = .ok (.aload_n 0, 1) := by decide +kernel
theorem dX0_eatOrFeelLuck_1 : decode cX0_eatOrFeelLuck 1 = .ok (.getfield 16, 3) := by decide +kernel
theorem dX0_eatOrFeelLuck_4 : decode cX0_eatOrFeelLuck 4 = .ok (.iload_n 1, 1) := by decide +kernel
theorem dX0_eatOrFeelLuck_5 : decode cX0_eatOrFeelLuck 5 = .ok (.iaload, 1) := by decide +kernel
theorem dX0_eatOrFeelLuck_6 : decode cX0_eatOrFeelLuck 6 = .ok (.ifCond .le 22, 3) := by decide +kernel
theorem dX0_eatOrFeelLuck_9 : decode cX0_eatOrFeelLuck 9 = .ok (.aload_n 0, 1) := by decide +kernel
theorem dX0_eatOrFeelLuck_10 : decode cX0_eatOrFeelLuck 10 = .ok (.getfield 16, 3) := by decide +kernel
theorem dX0_eatOrFeelLuck_13 : decode cX0_eatOrFeelLuck 13 = .ok (.iload_n 1, 1) := by decide +kernel
theorem dX0_eatOrFeelLuck_14 : decode cX0_eatOrFeelLuck 14 = .ok (.dup2, 1) := by decide +kernel
theorem dX0_eatOrFeelLuck_15 : decode cX0_eatOrFeelLuck 15 = .ok (.iaload, 1) := by decide +kernel
theorem dX0_eatOrFeelLuck_16 : decode cX0_eatOrFeelLuck 16 = .ok (.iconst 1, 1) := by decide +kernel
theorem dX0_eatOrFeelLuck_17 : decode cX0_eatOrFeelLuck 17 = .ok (.isub, 1) := by decide +kernel
theorem dX0_eatOrFeelLuck_18 : decode cX0_eatOrFeelLuck 18 = .ok (.iastore, 1) := by decide +kernel
theorem dX0_eatOrFeelLuck_19 : decode cX0_eatOrFeelLuck 19 = .ok (.aload_n 0, 1) := by decide +kernel
theorem dX0_eatOrFeelLuck_20 : decode cX0_eatOrFeelLuck 20 = .ok (.iload_n 1, 1) := by decide +kernel
theorem dX0_eatOrFeelLuck_21 : decode cX0_eatOrFeelLuck 21 = .ok (.iconst 3, 1) := by decide +kernel
theorem dX0_eatOrFeelLuck_22 : decode cX0_eatOrFeelLuck 22 = .ok (.invokevirtual 79, 3) := by decide +kernel
theorem dX0_eatOrFeelLuck_25 : decode cX0_eatOrFeelLuck 25 = .ok (.goto 56, 3) := by decide +kernel
theorem dX0_eatOrFeelLuck_28 : decode cX0_eatOrFeelLuck 28 = .ok (.aload_n 0, 1) := by decide +kernel
theorem dX0_eatOrFeelLuck_29 : decode cX0_eatOrFeelLuck 29 = .ok (.getfield 13, 3) := by decide +kernel
theorem dX0_eatOrFeelLuck_32 : decode cX0_eatOrFeelLuck 32 = .ok (.iload_n 1, 1) := by decide +kernel
theorem dX0_eatOrFeelLuck_33 : decode cX0_eatOrFeelLuck 33 = .ok (.iaload, 1) := by decide +kernel
theorem dX0_eatOrFeelLuck_34 : decode cX0_eatOrFeelLuck 34 = .ok (.ifCond .le 28, 3) := by decide +kernel
theorem dX0_eatOrFeelLuck_37 : decode cX0_eatOrFeelLuck 37 = .ok (.aload_n 0, 1) := by decide +kernel
theorem dX0_eatOrFeelLuck_38 : decode cX0_eatOrFeelLuck 38 = .ok (.getfield 9, 3) := by decide +kernel
theorem dX0_eatOrFeelLuck_41 : decode cX0_eatOrFeelLuck 41 = .ok (.iload_n 1, 1) := by decide +kernel
theorem dX0_eatOrFeelLuck_42 : decode cX0_eatOrFeelLuck 42 = .ok (.iconst 0, 1) := by decide +kernel
theorem dX0_eatOrFeelLuck_43 : decode cX0_eatOrFeelLuck 43 = .ok (.aload_n 0, 1) := by decide +kernel
theorem dX0_eatOrFeelLuck_44 : decode cX0_eatOrFeelLuck 44 = .ok (.getfield 9, 3) := by decide +kernel
theorem dX0_eatOrFeelLuck_47 : decode cX0_eatOrFeelLuck 47 = .ok (.iload_n 1, 1) := by decide +kernel
theorem dX0_eatOrFeelLuck_48 : decode cX0_eatOrFeelLuck 48 = .ok (.iaload, 1) := by decide +kernel
theorem dX0_eatOrFeelLuck_49 : decode cX0_eatOrFeelLuck 49 = .ok (.aload_n 0, 1) := by decide +kernel
theorem dX0_eatOrFeelLuck_50 : decode cX0_eatOrFeelLuck 50 = .ok (.iload_n 1, 1) := by decide +kernel
theorem dX0_eatOrFeelLuck_51 : decode cX0_eatOrFeelLuck 51 = .ok (.invokevirtual 105, 3) := by decide +kernel
theorem dX0_eatOrFeelLuck_54 : decode cX0_eatOrFeelLuck 54 = .ok (.isub, 1) := by decide +kernel
theorem dX0_eatOrFeelLuck_55 : decode cX0_eatOrFeelLuck 55 = .ok (.invokestatic 213, 3) := by decide +kernel
theorem dX0_eatOrFeelLuck_58 : decode cX0_eatOrFeelLuck 58 = .ok (.iastore, 1) := by decide +kernel
theorem dX0_eatOrFeelLuck_59 : decode cX0_eatOrFeelLuck 59 = .ok (.goto 22, 3) := by decide +kernel
theorem dX0_eatOrFeelLuck_62 : decode cX0_eatOrFeelLuck 62 = .ok (.aload_n 0, 1) := by decide +kernel
theorem dX0_eatOrFeelLuck_63 : decode cX0_eatOrFeelLuck 63 = .ok (.getfield 9, 3) := by decide +kernel
theorem dX0_eatOrFeelLuck_66 : decode cX0_eatOrFeelLuck 66 = .ok (.iload_n 1, 1) := by decide +kernel
theorem dX0_eatOrFeelLuck_67 : decode cX0_eatOrFeelLuck 67 = .ok (.bipush 100, 2) := by decide +kernel
theorem dX0_eatOrFeelLuck_69 : decode cX0_eatOrFeelLuck 69 = .ok (.aload_n 0, 1) := by decide +kernel
theorem dX0_eatOrFeelLuck_70 : decode cX0_eatOrFeelLuck 70 = .ok (.getfield 9, 3) := by decide +kernel
theorem dX0_eatOrFeelLuck_73 : decode cX0_eatOrFeelLuck 73 = .ok (.iload_n 1, 1) := by decide +kernel
theorem dX0_eatOrFeelLuck_74 : decode cX0_eatOrFeelLuck 74 = .ok (.iaload, 1) := by decide +kernel
theorem dX0_eatOrFeelLuck_75 : decode cX0_eatOrFeelLuck 75 = .ok (.iconst 1, 1) := by decide +kernel
theorem dX0_eatOrFeelLuck_76 : decode cX0_eatOrFeelLuck 76 = .ok (.iadd, 1) := by decide +kernel
theorem dX0_eatOrFeelLuck_77 : decode cX0_eatOrFeelLuck 77 = .ok (.invokestatic 89, 3) := by decide +kernel
theorem dX0_eatOrFeelLuck_80 : decode cX0_eatOrFeelLuck 80 = .ok (.iastore, 1) := by decide +kernel
theorem dX0_eatOrFeelLuck_81 : decode cX0_eatOrFeelLuck 81 = .ok (.return_, 1) := by decide +kernel
set_option maxRecDepth 20000 in
theorem ggX0_passOneDay_X0_isAuditDay : GoodIn wsX0_passOneDay wsX0_isAuditDay := goodIn_r _ [6] (by decide +kernel) (by decide +kernel)
set_option maxRecDepth 20000 in
theorem gX0_passOneDay_X0_isAuditDay : GoodIn wsX0_passOneDay (va_wsS RX0 216 yX0_isAuditDay wsX0_isAuditDay) := goodIn_app (goodIn_of _ (by decide +kernel)) ggX0_passOneDay_X0_isAuditDay
set_option maxRecDepth 20000 in
theorem ggX0_passOneDay_X0_audit : GoodIn wsX0_passOneDay wsX0_audit := goodIn_r _ [10, 2, 11, 12, 13, 14, 15, 5, 16, 17, 18, 19, 20, 21, 22, 23, 24, 25, 26, 27, 28, 29, 30, 31, 49, 50, 51, 52, 53, 54, 55, 56, 57, 58, 59, 60, 61, 62] (by decide +kernel) (by decide +kernel)
set_option maxRecDepth 20000 in
theorem gX0_passOneDay_X0_audit : GoodIn wsX0_passOneDay (wsV RX0 219 RX0 yX0_audit wsX0_audit) := goodIn_app (goodIn_of _ (by decide +kernel)) ggX0_passOneDay_X0_audit
set_option maxRecDepth 20000 in
theorem ggX0_passOneDay_X0_eatOrFeelLuck : GoodIn wsX0_passOneDay wsX0_eatOrFeelLuck := goodIn_r _ [35, 36, 27, 37, 38, 39, 30, 40, 28, 29, 31, 41, 42, 43, 5, 44, 45, 46, 47, 48, 49, 50, 51, 52, 53, 54, 55, 56, 57, 58, 59, 60, 61, 62] (by decide +kernel) (by decide +kernel)
set_option maxRecDepth 20000 in
theorem gX0_passOneDay_X0_eatOrFeelLuck : GoodIn wsX0_passOneDay (wsV RX0 222 RX0 yX0_eatOrFeelLuck wsX0_eatOrFeelLuck) := goodIn_app (goodIn_of _ (by decide +kernel)) ggX0_passOneDay_X0_eatOrFeelLuck
theorem dX0_passOneDay_0 : decode cX0_passOneDay 0 = .ok (.aload_n 0, 1) := by decide +kernel
theorem dX0_passOneDay_1 : decode cX0_passOneDay 1 = .ok (.getfield 42, 3) := by decide +kernel
theorem dX0_passOneDay_4 : decode cX0_passOneDay 4 = .ok (.invokestatic 216, 3) := by decide +kernel
theorem dX0_passOneDay_7 : decode cX0_passOneDay 7 = .ok (.ifCond .eq 10, 3) := by decide +kernel
theorem dX0_passOneDay_10 : decode cX0_passOneDay 10 = .ok (.aload_n 0, 1) := by decide +kernel
theorem dX0_passOneDay_11 : decode cX0_passOneDay 11 = .ok (.invokevirtual 219, 3) := by decide +kernel
theorem dX0_passOneDay_14 : decode cX0_passOneDay 14 = .ok (.goto 4, 3) := by decide +kernel
theorem dX0_passOneDay_17 : decode cX0_passOneDay 17 = .ok (.iconst 0, 1) := by decide +kernel
theorem dX0_passOneDay_18 : decode cX0_passOneDay 18 = .ok (.istore_n 1, 1) := by decide +kernel
theorem dX0_passOneDay_19 : decode cX0_passOneDay 19 = .ok (.iconst 0, 1) := by decide +kernel
theorem dX0_passOneDay_20 : decode cX0_passOneDay 20 = .ok (.istore_n 2, 1) := by decide +kernel
theorem dX0_passOneDay_21 : decode cX0_passOneDay 21 = .ok (.iload_n 2, 1) := by decide +kernel
theorem dX0_passOneDay_22 : decode cX0_passOneDay 22 = .ok (.aload_n 0, 1) := by decide +kernel
theorem dX0_passOneDay_23 : decode cX0_passOneDay 23 = .ok (.getfield 32, 3) := by decide +kernel
theorem dX0_passOneDay_26 : decode cX0_passOneDay 26 = .ok (.if_icmp .ge 14, 3) := by decide +kernel
theorem dX0_passOneDay_29 : decode cX0_passOneDay 29 = .ok (.aload_n 0, 1) := by decide +kernel
theorem dX0_passOneDay_30 : decode cX0_passOneDay 30 = .ok (.iload_n 2, 1) := by decide +kernel
theorem dX0_passOneDay_31 : decode cX0_passOneDay 31 = .ok (.invokevirtual 222, 3) := by decide +kernel
theorem dX0_passOneDay_34 : decode cX0_passOneDay 34 = .ok (.iinc 2 1, 3) := by decide +kernel
theorem dX0_passOneDay_37 : decode cX0_passOneDay 37 = .ok (.goto (-16), 3) := by decide +kernel
theorem dX0_passOneDay_40 : decode cX0_passOneDay 40 = .ok (.aload_n 0, 1) := by decide +kernel
theorem dX0_passOneDay_41 : decode cX0_passOneDay 41 = .ok (.dup, 1) := by decide +kernel
theorem dX0_passOneDay_42 : decode cX0_passOneDay 42 = .ok (.getfield 42, 3) := by decide +kernel
theorem dX0_passOneDay_45 : decode cX0_passOneDay 45 = .ok (.iconst 1, 1) := by decide +kernel
theorem dX0_passOneDay_46 : decode cX0_passOneDay 46 = .ok (.iadd, 1) := by decide +kernel
theorem dX0_passOneDay_47 : decode cX0_passOneDay 47 = .ok (.putfield 42, 3) := by decide +kernel
theorem dX0_passOneDay_50 : decode cX0_passOneDay 50 = .ok (.iload_n 1, 1) := by decide +kernel
theorem dX0_passOneDay_51 : decode cX0_passOneDay 51 = .ok (.ireturn, 1) := by decide +kernel
theorem dX0_isAuditDay_0 : decode cX0_isAuditDay 0 = .ok (.iload_n 0, 1) := by decide +kernel
theorem dX0_isAuditDay_1 : decode cX0_isAuditDay 1 = .ok (.bipush 7, 2) := by decide +kernel
theorem dX0_isAuditDay_3 : decode cX0_isAuditDay 3 = .ok (.irem, 1) := by decide +kernel
theorem dX0_isAuditDay_4 : decode cX0_isAuditDay 4 = .ok (.bipush 6, 2) := by decide +kernel
theorem dX0_isAuditDay_6 : decode cX0_isAuditDay 6 = .ok (.if_icmp .ne 7, 3) := by decide +kernel
theorem dX0_isAuditDay_9 : decode cX0_isAuditDay 9 = .ok (.iconst 1, 1) := by decide +kernel
theorem dX0_isAuditDay_10 : decode cX0_isAuditDay 10 = .ok (.goto 4, 3) := by decide +kernel
theorem dX0_isAuditDay_13 : decode cX0_isAuditDay 13 = .ok (.iconst 0, 1) := by decide +kernel
theorem dX0_isAuditDay_14 : decode cX0_isAuditDay 14 = .ok (.ireturn, 1) := by decide +kernel
theorem dX0_writeThrow_0 : decode cX0_writeThrow 0 = .ok (.aload_n 0, 1) := by decide +kernel
theorem dX0_writeThrow_1 : decode cX0_writeThrow 1 = .ok (.getfield 19, 3) := by decide +kernel
theorem dX0_writeThrow_4 : decode cX0_writeThrow 4 = .ok (.aload_n 0, 1) := by decide +kernel
theorem dX0_writeThrow_5 : decode cX0_writeThrow 5 = .ok (.getfield 36, 3) := by decide +kernel
theorem dX0_writeThrow_8 : decode cX0_writeThrow 8 = .ok (.iload_n 1, 1) := by decide +kernel
theorem dX0_writeThrow_9 : decode cX0_writeThrow 9 = .ok (.iastore, 1) := by decide +kernel
theorem dX0_writeThrow_10 : decode cX0_writeThrow 10 = .ok (.aload_n 0, 1) := by decide +kernel
theorem dX0_writeThrow_11 : decode cX0_writeThrow 11 = .ok (.getfield 22, 3) := by decide +kernel
theorem dX0_writeThrow_14 : decode cX0_writeThrow 14 = .ok (.aload_n 0, 1) := by decide +kernel
theorem dX0_writeThrow_15 : decode cX0_writeThrow 15 = .ok (.getfield 36, 3) := by decide +kernel
theorem dX0_writeThrow_18 : decode cX0_writeThrow 18 = .ok (.iload_n 2, 1) := by decide +kernel
theorem dX0_writeThrow_19 : decode cX0_writeThrow 19 = .ok (.bastore, 1) := by decide +kernel
theorem dX0_writeThrow_20 : decode cX0_writeThrow 20 = .ok (.aload_n 0, 1) := by decide +kernel
theorem dX0_writeThrow_21 : decode cX0_writeThrow 21 = .ok (.getfield 26, 3) := by decide +kernel
theorem dX0_writeThrow_24 : decode cX0_writeThrow 24 = .ok (.aload_n 0, 1) := by decide +kernel
theorem dX0_writeThrow_25 : decode cX0_writeThrow 25 = .ok (.getfield 36, 3) := by decide +kernel
theorem dX0_writeThrow_28 : decode cX0_writeThrow 28 = .ok (.iload_n 3, 1) := by decide +kernel
theorem dX0_writeThrow_29 : decode cX0_writeThrow 29 = .ok (.iastore, 1) := by decide +kernel
theorem dX0_writeThrow_30 : decode cX0_writeThrow 30 = .ok (.aload_n 0, 1) := by decide +kernel
theorem dX0_writeThrow_31 : decode cX0_writeThrow 31 = .ok (.getfield 29, 3) := by decide +kernel
theorem dX0_writeThrow_34 : decode cX0_writeThrow 34 = .ok (.aload_n 0, 1) := by decide +kernel
theorem dX0_writeThrow_35 : decode cX0_writeThrow 35 = .ok (.getfield 36, 3) := by decide +kernel
theorem dX0_writeThrow_38 : decode cX0_writeThrow 38 = .ok (.iload 4, 2) := by decide +kernel
theorem dX0_writeThrow_40 : decode cX0_writeThrow 40 = .ok (.iastore, 1) := by decide +kernel
theorem dX0_writeThrow_41 : decode cX0_writeThrow 41 = .ok (.aload_n 0, 1) := by decide +kernel
theorem dX0_writeThrow_42 : decode cX0_writeThrow 42 = .ok (.dup, 1) := by decide +kernel
theorem dX0_writeThrow_43 : decode cX0_writeThrow 43 = .ok (.getfield 36, 3) := by decide +kernel
theorem dX0_writeThrow_46 : decode cX0_writeThrow 46 = .ok (.iconst 1, 1) := by decide +kernel
theorem dX0_writeThrow_47 : decode cX0_writeThrow 47 = .ok (.iadd, 1) := by decide +kernel
theorem dX0_writeThrow_48 : decode cX0_writeThrow 48 = .ok (.putfield 36, 3) := by decide +kernel
theorem dX0_writeThrow_51 : decode cX0_writeThrow 51 = .ok (.return_, 1) := by decide +kernel
theorem dX0_debtOf_0 : decode cX0_debtOf 0 = .ok (.iconst 0, 1) := by decide +kernel
theorem dX0_debtOf_1 : decode cX0_debtOf 1 = .ok (.istore_n 2, 1) := by decide +kernel
theorem dX0_debtOf_2 : decode cX0_debtOf 2 = .ok (.iconst 0, 1) := by decide +kernel
theorem dX0_debtOf_3 : decode cX0_debtOf 3 = .ok (.istore_n 3, 1) := by decide +kernel
theorem dX0_debtOf_4 : decode cX0_debtOf 4 = .ok (.iload_n 3, 1) := by decide +kernel
theorem dX0_debtOf_5 : decode cX0_debtOf 5 = .ok (.aload_n 0, 1) := by decide +kernel
theorem dX0_debtOf_6 : decode cX0_debtOf 6 = .ok (.getfield 36, 3) := by decide +kernel
theorem dX0_debtOf_9 : decode cX0_debtOf 9 = .ok (.if_icmp .ge 30, 3) := by decide +kernel
theorem dX0_debtOf_12 : decode cX0_debtOf 12 = .ok (.aload_n 0, 1) := by decide +kernel
theorem dX0_debtOf_13 : decode cX0_debtOf 13 = .ok (.getfield 19, 3) := by decide +kernel
theorem dX0_debtOf_16 : decode cX0_debtOf 16 = .ok (.iload_n 3, 1) := by decide +kernel
theorem dX0_debtOf_17 : decode cX0_debtOf 17 = .ok (.iaload, 1) := by decide +kernel
theorem dX0_debtOf_18 : decode cX0_debtOf 18 = .ok (.iload_n 1, 1) := by decide +kernel
theorem dX0_debtOf_19 : decode cX0_debtOf 19 = .ok (.if_icmp .ne 14, 3) := by decide +kernel
theorem dX0_debtOf_22 : decode cX0_debtOf 22 = .ok (.iload_n 2, 1) := by decide +kernel
theorem dX0_debtOf_23 : decode cX0_debtOf 23 = .ok (.iconst 2, 1) := by decide +kernel
theorem dX0_debtOf_24 : decode cX0_debtOf 24 = .ok (.aload_n 0, 1) := by decide +kernel
theorem dX0_debtOf_25 : decode cX0_debtOf 25 = .ok (.getfield 29, 3) := by decide +kernel
theorem dX0_debtOf_28 : decode cX0_debtOf 28 = .ok (.iload_n 3, 1) := by decide +kernel
theorem dX0_debtOf_29 : decode cX0_debtOf 29 = .ok (.iaload, 1) := by decide +kernel
theorem dX0_debtOf_30 : decode cX0_debtOf 30 = .ok (.imul, 1) := by decide +kernel
theorem dX0_debtOf_31 : decode cX0_debtOf 31 = .ok (.iadd, 1) := by decide +kernel
theorem dX0_debtOf_32 : decode cX0_debtOf 32 = .ok (.istore_n 2, 1) := by decide +kernel
theorem dX0_debtOf_33 : decode cX0_debtOf 33 = .ok (.iinc 3 1, 3) := by decide +kernel
theorem dX0_debtOf_36 : decode cX0_debtOf 36 = .ok (.goto (-32), 3) := by decide +kernel
theorem dX0_debtOf_39 : decode cX0_debtOf 39 = .ok (.iload_n 2, 1) := by decide +kernel
theorem dX0_debtOf_40 : decode cX0_debtOf 40 = .ok (.ireturn, 1) := by decide +kernel
theorem dX1_init_0 : decode cX1_init 0 = .ok (.aload_n 0, 1) := by decide +kernel
theorem dX1_init_1 : decode cX1_init 1 = .ok (.invokespecial 1, 3) := by decide +kernel
theorem dX1_init_4 : decode cX1_init 4 = .ok (.aload_n 0, 1) := by decide +kernel
theorem dX1_init_5 : decode cX1_init 5 = .ok (.bipush 100, 2) := by decide +kernel
theorem dX1_init_7 : decode cX1_init 7 = .ok (.putfield 7, 3) := by decide +kernel
theorem dX1_init_10 : decode cX1_init 10 = .ok (.aload_n 0, 1) := by decide +kernel
theorem dX1_init_11 : decode cX1_init 11 = .ok (.iconst 0, 1) := by decide +kernel
theorem dX1_init_12 : decode cX1_init 12 = .ok (.anewarray 13, 3) := by decide +kernel
theorem dX1_init_15 : decode cX1_init 15 = .ok (.putfield 15, 3) := by decide +kernel
theorem dX1_init_18 : decode cX1_init 18 = .ok (.aload_n 0, 1) := by decide +kernel
theorem dX1_init_19 : decode cX1_init 19 = .ok (.iconst 0, 1) := by decide +kernel
theorem dX1_init_20 : decode cX1_init 20 = .ok (.anewarray 13, 3) := by decide +kernel
theorem dX1_init_23 : decode cX1_init 23 = .ok (.putfield 19, 3) := by decide +kernel
theorem dX1_init_26 : decode cX1_init 26 = .ok (.return_, 1) := by decide +kernel
theorem dX1_with_0 : decode cX1_with 0 = .ok (.aload_n 0, 1) := by decide +kernel
theorem dX1_with_1 : decode cX1_with 1 = .ok (.arraylength, 1) := by decide +kernel
theorem dX1_with_2 : decode cX1_with 2 = .ok (.iconst 1, 1) := by decide +kernel
theorem dX1_with_3 : decode cX1_with 3 = .ok (.iadd, 1) := by decide +kernel
theorem dX1_with_4 : decode cX1_with 4 = .ok (.anewarray 13, 3) := by decide +kernel
theorem dX1_with_7 : decode cX1_with 7 = .ok (.astore_n 2, 1) := by decide +kernel
theorem dX1_with_8 : decode cX1_with 8 = .ok (.iconst 0, 1) := by decide +kernel
theorem dX1_with_9 : decode cX1_with 9 = .ok (.istore_n 3, 1) := by decide +kernel
theorem dX1_with_10 : decode cX1_with 10 = .ok (.iload_n 3, 1) := by decide +kernel
theorem dX1_with_11 : decode cX1_with 11 = .ok (.aload_n 0, 1) := by decide +kernel
theorem dX1_with_12 : decode cX1_with 12 = .ok (.arraylength, 1) := by decide +kernel
theorem dX1_with_13 : decode cX1_with 13 = .ok (.if_icmp .ge 15, 3) := by decide +kernel
theorem dX1_with_16 : decode cX1_with 16 = .ok (.aload_n 2, 1) := by decide +kernel
theorem dX1_with_17 : decode cX1_with 17 = .ok (.iload_n 3, 1) := by decide +kernel
theorem dX1_with_18 : decode cX1_with 18 = .ok (.aload_n 0, 1) := by decide +kernel
theorem dX1_with_19 : decode cX1_with 19 = .ok (.iload_n 3, 1) := by decide +kernel
theorem dX1_with_20 : decode cX1_with 20 = .ok (.aaload, 1) := by decide +kernel
theorem dX1_with_21 : decode cX1_with 21 = .ok (.aastore, 1) := by decide +kernel
theorem dX1_with_22 : decode cX1_with 22 = .ok (.iinc 3 1, 3) := by decide +kernel
theorem dX1_with_25 : decode cX1_with 25 = .ok (.goto (-15), 3) := by decide +kernel
theorem dX1_with_28 : decode cX1_with 28 = .ok (.aload_n 2, 1) := by decide +kernel
theorem dX1_with_29 : decode cX1_with 29 = .ok (.aload_n 0, 1) := by decide +kernel
theorem dX1_with_30 : decode cX1_with 30 = .ok (.arraylength, 1) := by decide +kernel
theorem dX1_with_31 : decode cX1_with 31 = .ok (.aload_n 1, 1) := by decide +kernel
theorem dX1_with_32 : decode cX1_with 32 = .ok (.aastore, 1) := by decide +kernel
theorem dX1_with_33 : decode cX1_with 33 = .ok (.aload_n 2, 1) := by decide +kernel
theorem dX1_with_34 : decode cX1_with 34 = .ok (.areturn, 1) := by decide +kernel
set_option maxRecDepth 20000 in
theorem ggX1_cast_X1_with : GoodIn wsX1_cast wsX1_with := goodIn_r _ [8, 9] (by decide +kernel) (by decide +kernel)
set_option maxRecDepth 20000 in
theorem gX1_cast_X1_with : GoodIn wsX1_cast (va_wsS RX1 22 yX1_with wsX1_with) := goodIn_app (goodIn_of _ (by decide +kernel)) ggX1_cast_X1_with
theorem dX1_cast_0 : decode cX1_cast 0 = .ok (.aload_n 0, 1) := by decide +kernel
theorem dX1_cast_1 : decode cX1_cast 1 = .ok (.getfield 15, 3) := by decide +kernel
theorem dX1_cast_4 : decode cX1_cast 4 = .ok (.iload_n 1, 1) := by decide +kernel
theorem dX1_cast_5 : decode cX1_cast 5 = .ok (.aaload, 1) := by decide +kernel
theorem dX1_cast_6 : decode cX1_cast 6 = .ok (.astore 4, 2) := by decide +kernel
theorem dX1_cast_8 : decode cX1_cast 8 = .ok (.iload_n 3, 1) := by decide +kernel
theorem dX1_cast_9 : decode cX1_cast 9 = .ok (.istore 5, 2) := by decide +kernel
theorem dX1_cast_11 : decode cX1_cast 11 = .ok (.iload_n 2, 1) := by decide +kernel
theorem dX1_cast_12 : decode cX1_cast 12 = .ok (.ifCond .ne 45, 3) := by decide +kernel
theorem dX1_cast_15 : decode cX1_cast 15 = .ok (.iload_n 3, 1) := by decide +kernel
theorem dX1_cast_16 : decode cX1_cast 16 = .ok (.aload 4, 2) := by decide +kernel
theorem dX1_cast_18 : decode cX1_cast 18 = .ok (.iconst 1, 1) := by decide +kernel
theorem dX1_cast_19 : decode cX1_cast 19 = .ok (.iaload, 1) := by decide +kernel
theorem dX1_cast_20 : decode cX1_cast 20 = .ok (.if_icmp .le 12, 3) := by decide +kernel
theorem dX1_cast_23 : decode cX1_cast 23 = .ok (.iload_n 3, 1) := by decide +kernel
theorem dX1_cast_24 : decode cX1_cast 24 = .ok (.aload 4, 2) := by decide +kernel
theorem dX1_cast_26 : decode cX1_cast 26 = .ok (.iconst 1, 1) := by decide +kernel
theorem dX1_cast_27 : decode cX1_cast 27 = .ok (.iaload, 1) := by decide +kernel
theorem dX1_cast_28 : decode cX1_cast 28 = .ok (.isub, 1) := by decide +kernel
theorem dX1_cast_29 : decode cX1_cast 29 = .ok (.goto 4, 3) := by decide +kernel
theorem dX1_cast_32 : decode cX1_cast 32 = .ok (.iconst 0, 1) := by decide +kernel
theorem dX1_cast_33 : decode cX1_cast 33 = .ok (.istore 5, 2) := by decide +kernel
theorem dX1_cast_35 : decode cX1_cast 35 = .ok (.aload 4, 2) := by decide +kernel
theorem dX1_cast_37 : decode cX1_cast 37 = .ok (.iconst 1, 1) := by decide +kernel
theorem dX1_cast_38 : decode cX1_cast 38 = .ok (.aload 4, 2) := by decide +kernel
theorem dX1_cast_40 : decode cX1_cast 40 = .ok (.iconst 1, 1) := by decide +kernel
theorem dX1_cast_41 : decode cX1_cast 41 = .ok (.iaload, 1) := by decide +kernel
theorem dX1_cast_42 : decode cX1_cast 42 = .ok (.iload_n 3, 1) := by decide +kernel
theorem dX1_cast_43 : decode cX1_cast 43 = .ok (.if_icmp .le 12, 3) := by decide +kernel
theorem dX1_cast_46 : decode cX1_cast 46 = .ok (.aload 4, 2) := by decide +kernel
theorem dX1_cast_48 : decode cX1_cast 48 = .ok (.iconst 1, 1) := by decide +kernel
theorem dX1_cast_49 : decode cX1_cast 49 = .ok (.iaload, 1) := by decide +kernel
theorem dX1_cast_50 : decode cX1_cast 50 = .ok (.iload_n 3, 1) := by decide +kernel
theorem dX1_cast_51 : decode cX1_cast 51 = .ok (.isub, 1) := by decide +kernel
theorem dX1_cast_52 : decode cX1_cast 52 = .ok (.goto 4, 3) := by decide +kernel
theorem dX1_cast_55 : decode cX1_cast 55 = .ok (.iconst 0, 1) := by decide +kernel
theorem dX1_cast_56 : decode cX1_cast 56 = .ok (.iastore, 1) := by decide +kernel
theorem dX1_cast_57 : decode cX1_cast 57 = .ok (.aload_n 0, 1) := by decide +kernel
theorem dX1_cast_58 : decode cX1_cast 58 = .ok (.dup, 1) := by decide +kernel
theorem dX1_cast_59 : decode cX1_cast 59 = .ok (.getfield 7, 3) := by decide +kernel
theorem dX1_cast_62 : decode cX1_cast 62 = .ok (.iload_n 3, 1) := by decide +kernel
theorem dX1_cast_63 : decode cX1_cast 63 = .ok (.isub, 1) := by decide +kernel
theorem dX1_cast_64 : decode cX1_cast 64 = .ok (.putfield 7, 3) := by decide +kernel
theorem dX1_cast_67 : decode cX1_cast 67 = .ok (.aload_n 0, 1) := by decide +kernel
theorem dX1_cast_68 : decode cX1_cast 68 = .ok (.aload_n 0, 1) := by decide +kernel
theorem dX1_cast_69 : decode cX1_cast 69 = .ok (.getfield 19, 3) := by decide +kernel
theorem dX1_cast_72 : decode cX1_cast 72 = .ok (.iconst 4, 1) := by decide +kernel
theorem dX1_cast_73 : decode cX1_cast 73 = .ok (.newarray .int, 2) := by decide +kernel
theorem dX1_cast_75 : decode cX1_cast 75 = .ok (.dup, 1) := by decide +kernel
theorem dX1_cast_76 : decode cX1_cast 76 = .ok (.iconst 0, 1) := by decide +kernel
theorem dX1_cast_77 : decode cX1_cast 77 = .ok (.iload_n 1, 1) := by decide +kernel
theorem dX1_cast_78 : decode cX1_cast 78 = .ok (.iastore, 1) := by decide +kernel
theorem dX1_cast_79 : decode cX1_cast 79 = .ok (.dup, 1) := by decide +kernel
theorem dX1_cast_80 : decode cX1_cast 80 = .ok (.iconst 1, 1) := by decide +kernel
theorem dX1_cast_81 : decode cX1_cast 81 = .ok (.iconst 1, 1) := by decide +kernel
theorem dX1_cast_82 : decode cX1_cast 82 = .ok (.iload_n 2, 1) := by decide +kernel
theorem dX1_cast_83 : decode cX1_cast 83 = .ok (.isub, 1) := by decide +kernel
theorem dX1_cast_84 : decode cX1_cast 84 = .ok (.iastore, 1) := by decide +kernel
theorem dX1_cast_85 : decode cX1_cast 85 = .ok (.dup, 1) := by decide +kernel
theorem dX1_cast_86 : decode cX1_cast 86 = .ok (.iconst 2, 1) := by decide +kernel
theorem dX1_cast_87 : decode cX1_cast 87 = .ok (.iload_n 3, 1) := by decide +kernel
theorem dX1_cast_88 : decode cX1_cast 88 = .ok (.iastore, 1) := by decide +kernel
theorem dX1_cast_89 : decode cX1_cast 89 = .ok (.dup, 1) := by decide +kernel
theorem dX1_cast_90 : decode cX1_cast 90 = .ok (.iconst 3, 1) := by decide +kernel
theorem dX1_cast_91 : decode cX1_cast 91 = .ok (.iload 5, 2) := by decide +kernel
theorem dX1_cast_93 : decode cX1_cast 93 = .ok (.iastore, 1) := by decide +kernel
theorem dX1_cast_94 : decode cX1_cast 94 = .ok (.invokestatic 22, 3) := by decide +kernel
theorem dX1_cast_97 : decode cX1_cast 97 = .ok (.putfield 19, 3) := by decide +kernel
theorem dX1_cast_100 : decode cX1_cast 100 = .ok (.iload 5, 2) := by decide +kernel
theorem dX1_cast_102 : decode cX1_cast 102 = .ok (.ireturn, 1) := by decide +kernel
theorem dX1_audit_0 : decode cX1_audit 0 = .ok (.iconst 0, 1) := by decide +kernel
theorem dX1_audit_1 : decode cX1_audit 1 = .ok (.istore_n 1, 1) := by decide +kernel
theorem dX1_audit_2 : decode cX1_audit 2 = .ok (.aload_n 0, 1) := by decide +kernel
theorem dX1_audit_3 : decode cX1_audit 3 = .ok (.getfield 19, 3) := by decide +kernel
theorem dX1_audit_6 : decode cX1_audit 6 = .ok (.astore_n 2, 1) := by decide +kernel
theorem dX1_audit_7 : decode cX1_audit 7 = .ok (.aload_n 2, 1) := by decide +kernel
theorem dX1_audit_8 : decode cX1_audit 8 = .ok (.arraylength, 1) := by decide +kernel
theorem dX1_audit_9 : decode cX1_audit 9 = .ok (.istore_n 3, 1) := by decide +kernel
theorem dX1_audit_10 : decode cX1_audit 10 = .ok (.iconst 0, 1) := by decide +kernel
theorem dX1_audit_11 : decode cX1_audit 11 = .ok (.istore 4, 2) := by decide +kernel
theorem dX1_audit_13 : decode cX1_audit 13 = .ok (.iload 4, 2) := by decide +kernel
theorem dX1_audit_15 : decode cX1_audit 15 = .ok (.iload_n 3, 1) := by decide +kernel
theorem dX1_audit_16 : decode cX1_audit 16 = .ok (.if_icmp .ge 67, 3) := by decide +kernel
theorem dX1_audit_19 : decode cX1_audit 19 = .ok (.aload_n 2, 1) := by decide +kernel
theorem dX1_audit_20 : decode cX1_audit 20 = .ok (.iload 4, 2) := by decide +kernel
theorem dX1_audit_22 : decode cX1_audit 22 = .ok (.aaload, 1) := by decide +kernel
theorem dX1_audit_23 : decode cX1_audit 23 = .ok (.astore 5, 2) := by decide +kernel
theorem dX1_audit_25 : decode cX1_audit 25 = .ok (.aload 5, 2) := by decide +kernel
theorem dX1_audit_27 : decode cX1_audit 27 = .ok (.iconst 3, 1) := by decide +kernel
theorem dX1_audit_28 : decode cX1_audit 28 = .ok (.iaload, 1) := by decide +kernel
theorem dX1_audit_29 : decode cX1_audit 29 = .ok (.ifCond .ne 6, 3) := by decide +kernel
theorem dX1_audit_32 : decode cX1_audit 32 = .ok (.goto 45, 3) := by decide +kernel
theorem dX1_audit_35 : decode cX1_audit 35 = .ok (.iinc 1 1, 3) := by decide +kernel
theorem dX1_audit_38 : decode cX1_audit 38 = .ok (.aload_n 0, 1) := by decide +kernel
theorem dX1_audit_39 : decode cX1_audit 39 = .ok (.getfield 15, 3) := by decide +kernel
theorem dX1_audit_42 : decode cX1_audit 42 = .ok (.aload 5, 2) := by decide +kernel
theorem dX1_audit_44 : decode cX1_audit 44 = .ok (.iconst 0, 1) := by decide +kernel
theorem dX1_audit_45 : decode cX1_audit 45 = .ok (.iaload, 1) := by decide +kernel
theorem dX1_audit_46 : decode cX1_audit 46 = .ok (.aaload, 1) := by decide +kernel
theorem dX1_audit_47 : decode cX1_audit 47 = .ok (.astore 6, 2) := by decide +kernel
theorem dX1_audit_49 : decode cX1_audit 49 = .ok (.aload 6, 2) := by decide +kernel
theorem dX1_audit_51 : decode cX1_audit 51 = .ok (.iconst 1, 1) := by decide +kernel
theorem dX1_audit_52 : decode cX1_audit 52 = .ok (.dup2, 1) := by decide +kernel
theorem dX1_audit_53 : decode cX1_audit 53 = .ok (.iaload, 1) := by decide +kernel
theorem dX1_audit_54 : decode cX1_audit 54 = .ok (.iconst 2, 1) := by decide +kernel
theorem dX1_audit_55 : decode cX1_audit 55 = .ok (.aload 5, 2) := by decide +kernel
theorem dX1_audit_57 : decode cX1_audit 57 = .ok (.iconst 3, 1) := by decide +kernel
theorem dX1_audit_58 : decode cX1_audit 58 = .ok (.iaload, 1) := by decide +kernel
theorem dX1_audit_59 : decode cX1_audit 59 = .ok (.imul, 1) := by decide +kernel
theorem dX1_audit_60 : decode cX1_audit 60 = .ok (.iadd, 1) := by decide +kernel
theorem dX1_audit_61 : decode cX1_audit 61 = .ok (.iastore, 1) := by decide +kernel
