section
-- ===== PART A: goes FIRST, ahead of the names: the tables' words, and 'selects' of the private methods out of them =====
/-- a private method of a class that the tables say can be made, by its rows of tables_1 -/
def lw_okq (q : MethodName × Nat) : Prop := (q.1.cls ≠ "java/lang/invoke/MethodHandle" ∧ q.1.cls ≠ "java/lang/invoke/VarHandle") ∧ Cond.instantiable q.1.cls q.2 ∈ tables_1 ∧ Cond.privateMethod q.1 ∈ tables_1 ∧ Cond.instanceMethod q.1 ∈ tables_1
theorem lw_p0 : lw_okq (⟨"SaltOrder", "debtOf", "(I)I"⟩, 14) := ⟨⟨by decide +kernel, by decide +kernel⟩, List.mem_of_getElem? (i := 12) (by decide +kernel), List.mem_of_getElem? (i := 73) (by decide +kernel), List.mem_of_getElem? (i := 74) (by decide +kernel)⟩
theorem lw_p1 : lw_okq (⟨"SaltOrder", "addArrears", "(II)V"⟩, 14) := ⟨⟨by decide +kernel, by decide +kernel⟩, List.mem_of_getElem? (i := 12) (by decide +kernel), List.mem_of_getElem? (i := 77) (by decide +kernel), List.mem_of_getElem? (i := 78) (by decide +kernel)⟩
theorem lw_p2 : lw_okq (⟨"SaltOrder", "withMember", "(JI)J"⟩, 14) := ⟨⟨by decide +kernel, by decide +kernel⟩, List.mem_of_getElem? (i := 12) (by decide +kernel), List.mem_of_getElem? (i := 141) (by decide +kernel), List.mem_of_getElem? (i := 142) (by decide +kernel)⟩
theorem lw_p3 : lw_okq (⟨"SaltOrder", "checkMember", "(I)V"⟩, 14) := ⟨⟨by decide +kernel, by decide +kernel⟩, List.mem_of_getElem? (i := 12) (by decide +kernel), List.mem_of_getElem? (i := 149) (by decide +kernel), List.mem_of_getElem? (i := 150) (by decide +kernel)⟩
theorem lw_p4 : lw_okq (⟨"java/lang/Throwable", "fillInStackTrace", "(I)Ljava/lang/Throwable;"⟩, 6) := ⟨⟨by decide +kernel, by decide +kernel⟩, List.mem_of_getElem? (i := 191) (by decide +kernel), List.mem_of_getElem? (i := 189) (by decide +kernel), List.mem_of_getElem? (i := 190) (by decide +kernel)⟩
theorem lw_p5 : lw_okq (⟨"SaltOrder", "lossOf", "(I)I"⟩, 14) := ⟨⟨by decide +kernel, by decide +kernel⟩, List.mem_of_getElem? (i := 12) (by decide +kernel), List.mem_of_getElem? (i := 233) (by decide +kernel), List.mem_of_getElem? (i := 234) (by decide +kernel)⟩
theorem lw_p6 : lw_okq (⟨"SaltOrder", "beginTrialWithPinch", "(II)V"⟩, 14) := ⟨⟨by decide +kernel, by decide +kernel⟩, List.mem_of_getElem? (i := 12) (by decide +kernel), List.mem_of_getElem? (i := 245) (by decide +kernel), List.mem_of_getElem? (i := 246) (by decide +kernel)⟩
theorem lw_p7 : lw_okq (⟨"SaltOrder", "beginTrial", "(I)V"⟩, 14) := ⟨⟨by decide +kernel, by decide +kernel⟩, List.mem_of_getElem? (i := 12) (by decide +kernel), List.mem_of_getElem? (i := 249) (by decide +kernel), List.mem_of_getElem? (i := 250) (by decide +kernel)⟩
theorem lw_p8 : lw_okq (⟨"SaltOrder", "leftExcess", "(II)I"⟩, 14) := ⟨⟨by decide +kernel, by decide +kernel⟩, List.mem_of_getElem? (i := 12) (by decide +kernel), List.mem_of_getElem? (i := 253) (by decide +kernel), List.mem_of_getElem? (i := 254) (by decide +kernel)⟩
theorem lw_p9 : lw_okq (⟨"SaltOrder", "lessenArrears", "(II)V"⟩, 14) := ⟨⟨by decide +kernel, by decide +kernel⟩, List.mem_of_getElem? (i := 12) (by decide +kernel), List.mem_of_getElem? (i := 260) (by decide +kernel), List.mem_of_getElem? (i := 261) (by decide +kernel)⟩
theorem lw_p10 : lw_okq (⟨"SaltOrder", "trialLuckBehind", "(I)I"⟩, 14) := ⟨⟨by decide +kernel, by decide +kernel⟩, List.mem_of_getElem? (i := 12) (by decide +kernel), List.mem_of_getElem? (i := 264) (by decide +kernel), List.mem_of_getElem? (i := 265) (by decide +kernel)⟩
theorem lw_p11 : lw_okq (⟨"SaltOrder", "passTrialDay", "()V"⟩, 14) := ⟨⟨by decide +kernel, by decide +kernel⟩, List.mem_of_getElem? (i := 12) (by decide +kernel), List.mem_of_getElem? (i := 268) (by decide +kernel), List.mem_of_getElem? (i := 269) (by decide +kernel)⟩
theorem lw_p12 : lw_okq (⟨"SaltOrder", "eatOrFeelLuck", "(I)V"⟩, 14) := ⟨⟨by decide +kernel, by decide +kernel⟩, List.mem_of_getElem? (i := 12) (by decide +kernel), List.mem_of_getElem? (i := 275) (by decide +kernel), List.mem_of_getElem? (i := 276) (by decide +kernel)⟩
theorem lw_p13 : lw_okq (⟨"SaltOrder", "beginTrialWithPenance", "(II)V"⟩, 14) := ⟨⟨by decide +kernel, by decide +kernel⟩, List.mem_of_getElem? (i := 12) (by decide +kernel), List.mem_of_getElem? (i := 283) (by decide +kernel), List.mem_of_getElem? (i := 284) (by decide +kernel)⟩
theorem lw_p14 : lw_okq (⟨"SaltOrder", "addLumps", "(II)V"⟩, 14) := ⟨⟨by decide +kernel, by decide +kernel⟩, List.mem_of_getElem? (i := 12) (by decide +kernel), List.mem_of_getElem? (i := 287) (by decide +kernel), List.mem_of_getElem? (i := 288) (by decide +kernel)⟩
theorem lw_p15 : lw_okq (⟨"SaltOrder", "withThrow", "(JI)J"⟩, 14) := ⟨⟨by decide +kernel, by decide +kernel⟩, List.mem_of_getElem? (i := 12) (by decide +kernel), List.mem_of_getElem? (i := 291) (by decide +kernel), List.mem_of_getElem? (i := 292) (by decide +kernel)⟩
def lw_privs_1 : List (MethodName × Nat) := [(⟨"SaltOrder", "debtOf", "(I)I"⟩, 14), (⟨"SaltOrder", "addArrears", "(II)V"⟩, 14), (⟨"SaltOrder", "withMember", "(JI)J"⟩, 14), (⟨"SaltOrder", "checkMember", "(I)V"⟩, 14), (⟨"java/lang/Throwable", "fillInStackTrace", "(I)Ljava/lang/Throwable;"⟩, 6), (⟨"SaltOrder", "lossOf", "(I)I"⟩, 14), (⟨"SaltOrder", "beginTrialWithPinch", "(II)V"⟩, 14), (⟨"SaltOrder", "beginTrial", "(I)V"⟩, 14), (⟨"SaltOrder", "leftExcess", "(II)I"⟩, 14), (⟨"SaltOrder", "lessenArrears", "(II)V"⟩, 14), (⟨"SaltOrder", "trialLuckBehind", "(I)I"⟩, 14), (⟨"SaltOrder", "passTrialDay", "()V"⟩, 14), (⟨"SaltOrder", "eatOrFeelLuck", "(I)V"⟩, 14), (⟨"SaltOrder", "beginTrialWithPenance", "(II)V"⟩, 14), (⟨"SaltOrder", "addLumps", "(II)V"⟩, 14), (⟨"SaltOrder", "withThrow", "(JI)J"⟩, 14)]
theorem lw_r1 : ∀ q ∈ lw_privs_1, lw_okq q := List.forall_mem_cons.mpr ⟨lw_p0, List.forall_mem_cons.mpr ⟨lw_p1, List.forall_mem_cons.mpr ⟨lw_p2, List.forall_mem_cons.mpr ⟨lw_p3, List.forall_mem_cons.mpr ⟨lw_p4, List.forall_mem_cons.mpr ⟨lw_p5, List.forall_mem_cons.mpr ⟨lw_p6, List.forall_mem_cons.mpr ⟨lw_p7, List.forall_mem_cons.mpr ⟨lw_p8, List.forall_mem_cons.mpr ⟨lw_p9, List.forall_mem_cons.mpr ⟨lw_p10, List.forall_mem_cons.mpr ⟨lw_p11, List.forall_mem_cons.mpr ⟨lw_p12, List.forall_mem_cons.mpr ⟨lw_p13, List.forall_mem_cons.mpr ⟨lw_p14, List.forall_mem_cons.mpr ⟨lw_p15, fun _ h => absurd h List.not_mem_nil⟩⟩⟩⟩⟩⟩⟩⟩⟩⟩⟩⟩⟩⟩⟩⟩
theorem lw_p16 : lw_okq (⟨"SaltOrder", "checkEntry", "(I)V"⟩, 14) := ⟨⟨by decide +kernel, by decide +kernel⟩, List.mem_of_getElem? (i := 12) (by decide +kernel), List.mem_of_getElem? (i := 299) (by decide +kernel), List.mem_of_getElem? (i := 300) (by decide +kernel)⟩
theorem lw_p17 : lw_okq (⟨"SaltOrder", "checkCellar", "(I)V"⟩, 14) := ⟨⟨by decide +kernel, by decide +kernel⟩, List.mem_of_getElem? (i := 12) (by decide +kernel), List.mem_of_getElem? (i := 368) (by decide +kernel), List.mem_of_getElem? (i := 369) (by decide +kernel)⟩
theorem lw_p18 : lw_okq (⟨"SaltOrder", "checkLedgerHasRoom", "()V"⟩, 14) := ⟨⟨by decide +kernel, by decide +kernel⟩, List.mem_of_getElem? (i := 12) (by decide +kernel), List.mem_of_getElem? (i := 384) (by decide +kernel), List.mem_of_getElem? (i := 385) (by decide +kernel)⟩
theorem lw_p19 : lw_okq (⟨"SaltOrder", "writeThrow", "(IZII)V"⟩, 14) := ⟨⟨by decide +kernel, by decide +kernel⟩, List.mem_of_getElem? (i := 12) (by decide +kernel), List.mem_of_getElem? (i := 389) (by decide +kernel), List.mem_of_getElem? (i := 390) (by decide +kernel)⟩
theorem lw_p20 : lw_okq (⟨"SaltOrder", "passOneDay", "()I"⟩, 14) := ⟨⟨by decide +kernel, by decide +kernel⟩, List.mem_of_getElem? (i := 12) (by decide +kernel), List.mem_of_getElem? (i := 414) (by decide +kernel), List.mem_of_getElem? (i := 415) (by decide +kernel)⟩
theorem lw_p21 : lw_okq (⟨"SaltOrderModel", "fail", "(I)I"⟩, 4) := ⟨⟨by decide +kernel, by decide +kernel⟩, List.mem_of_getElem? (i := 484) (by decide +kernel), List.mem_of_getElem? (i := 511) (by decide +kernel), List.mem_of_getElem? (i := 512) (by decide +kernel)⟩
theorem lw_p22 : lw_okq (⟨"SaltOrderModel", "let", "(III)V"⟩, 4) := ⟨⟨by decide +kernel, by decide +kernel⟩, List.mem_of_getElem? (i := 484) (by decide +kernel), List.mem_of_getElem? (i := 515) (by decide +kernel), List.mem_of_getElem? (i := 516) (by decide +kernel)⟩
theorem lw_p23 : lw_okq (⟨"SaltOrderModel", "isMember", "(I)Z"⟩, 4) := ⟨⟨by decide +kernel, by decide +kernel⟩, List.mem_of_getElem? (i := 484) (by decide +kernel), List.mem_of_getElem? (i := 523) (by decide +kernel), List.mem_of_getElem? (i := 524) (by decide +kernel)⟩
theorem lw_p24 : lw_okq (⟨"SaltOrderModel", "me", "(II)I"⟩, 4) := ⟨⟨by decide +kernel, by decide +kernel⟩, List.mem_of_getElem? (i := 484) (by decide +kernel), List.mem_of_getElem? (i := 530) (by decide +kernel), List.mem_of_getElem? (i := 531) (by decide +kernel)⟩
theorem lw_p25 : lw_okq (⟨"SaltOrderModel", "cast", "(IZI)I"⟩, 4) := ⟨⟨by decide +kernel, by decide +kernel⟩, List.mem_of_getElem? (i := 484) (by decide +kernel), List.mem_of_getElem? (i := 539) (by decide +kernel), List.mem_of_getElem? (i := 540) (by decide +kernel)⟩
theorem lw_p26 : lw_okq (⟨"SaltOrderModel", "write", "(II)V"⟩, 4) := ⟨⟨by decide +kernel, by decide +kernel⟩, List.mem_of_getElem? (i := 484) (by decide +kernel), List.mem_of_getElem? (i := 544) (by decide +kernel), List.mem_of_getElem? (i := 545) (by decide +kernel)⟩
theorem lw_p27 : lw_okq (⟨"SaltOrderModel", "auditNow", "()I"⟩, 4) := ⟨⟨by decide +kernel, by decide +kernel⟩, List.mem_of_getElem? (i := 484) (by decide +kernel), List.mem_of_getElem? (i := 560) (by decide +kernel), List.mem_of_getElem? (i := 561) (by decide +kernel)⟩
theorem lw_p28 : lw_okq (⟨"SaltOrderModel", "faultsNow", "()I"⟩, 4) := ⟨⟨by decide +kernel, by decide +kernel⟩, List.mem_of_getElem? (i := 484) (by decide +kernel), List.mem_of_getElem? (i := 564) (by decide +kernel), List.mem_of_getElem? (i := 565) (by decide +kernel)⟩
theorem lw_p29 : lw_okq (⟨"SaltOrderModel", "th", "(II)I"⟩, 4) := ⟨⟨by decide +kernel, by decide +kernel⟩, List.mem_of_getElem? (i := 484) (by decide +kernel), List.mem_of_getElem? (i := 568) (by decide +kernel), List.mem_of_getElem? (i := 569) (by decide +kernel)⟩
theorem lw_p30 : lw_okq (⟨"SaltOrderModel", "told", "(I)I"⟩, 4) := ⟨⟨by decide +kernel, by decide +kernel⟩, List.mem_of_getElem? (i := 484) (by decide +kernel), List.mem_of_getElem? (i := 572) (by decide +kernel), List.mem_of_getElem? (i := 573) (by decide +kernel)⟩
theorem lw_p31 : lw_okq (⟨"SaltOrderModel", "daysOn", "(I)I"⟩, 4) := ⟨⟨by decide +kernel, by decide +kernel⟩, List.mem_of_getElem? (i := 484) (by decide +kernel), List.mem_of_getElem? (i := 580) (by decide +kernel), List.mem_of_getElem? (i := 581) (by decide +kernel)⟩
def lw_privs_2 : List (MethodName × Nat) := [(⟨"SaltOrder", "checkEntry", "(I)V"⟩, 14), (⟨"SaltOrder", "checkCellar", "(I)V"⟩, 14), (⟨"SaltOrder", "checkLedgerHasRoom", "()V"⟩, 14), (⟨"SaltOrder", "writeThrow", "(IZII)V"⟩, 14), (⟨"SaltOrder", "passOneDay", "()I"⟩, 14), (⟨"SaltOrderModel", "fail", "(I)I"⟩, 4), (⟨"SaltOrderModel", "let", "(III)V"⟩, 4), (⟨"SaltOrderModel", "isMember", "(I)Z"⟩, 4), (⟨"SaltOrderModel", "me", "(II)I"⟩, 4), (⟨"SaltOrderModel", "cast", "(IZI)I"⟩, 4), (⟨"SaltOrderModel", "write", "(II)V"⟩, 4), (⟨"SaltOrderModel", "auditNow", "()I"⟩, 4), (⟨"SaltOrderModel", "faultsNow", "()I"⟩, 4), (⟨"SaltOrderModel", "th", "(II)I"⟩, 4), (⟨"SaltOrderModel", "told", "(I)I"⟩, 4), (⟨"SaltOrderModel", "daysOn", "(I)I"⟩, 4)]
theorem lw_r2 : ∀ q ∈ lw_privs_2, lw_okq q := List.forall_mem_cons.mpr ⟨lw_p16, List.forall_mem_cons.mpr ⟨lw_p17, List.forall_mem_cons.mpr ⟨lw_p18, List.forall_mem_cons.mpr ⟨lw_p19, List.forall_mem_cons.mpr ⟨lw_p20, List.forall_mem_cons.mpr ⟨lw_p21, List.forall_mem_cons.mpr ⟨lw_p22, List.forall_mem_cons.mpr ⟨lw_p23, List.forall_mem_cons.mpr ⟨lw_p24, List.forall_mem_cons.mpr ⟨lw_p25, List.forall_mem_cons.mpr ⟨lw_p26, List.forall_mem_cons.mpr ⟨lw_p27, List.forall_mem_cons.mpr ⟨lw_p28, List.forall_mem_cons.mpr ⟨lw_p29, List.forall_mem_cons.mpr ⟨lw_p30, List.forall_mem_cons.mpr ⟨lw_p31, fun _ h => absurd h List.not_mem_nil⟩⟩⟩⟩⟩⟩⟩⟩⟩⟩⟩⟩⟩⟩⟩⟩
theorem lw_p32 : lw_okq (⟨"SaltOrderModel", "dayOn", "()I"⟩, 4) := ⟨⟨by decide +kernel, by decide +kernel⟩, List.mem_of_getElem? (i := 484) (by decide +kernel), List.mem_of_getElem? (i := 584) (by decide +kernel), List.mem_of_getElem? (i := 585) (by decide +kernel)⟩
theorem lw_p33 : lw_okq (⟨"SaltOrderModel", "loss", "(I)I"⟩, 4) := ⟨⟨by decide +kernel, by decide +kernel⟩, List.mem_of_getElem? (i := 484) (by decide +kernel), List.mem_of_getElem? (i := 588) (by decide +kernel), List.mem_of_getElem? (i := 589) (by decide +kernel)⟩
theorem lw_p34 : lw_okq (⟨"SaltOrderModel", "member", "(II)I"⟩, 4) := ⟨⟨by decide +kernel, by decide +kernel⟩, List.mem_of_getElem? (i := 484) (by decide +kernel), List.mem_of_getElem? (i := 604) (by decide +kernel), List.mem_of_getElem? (i := 605) (by decide +kernel)⟩
theorem lw_p35 : lw_okq (⟨"SaltOrderModel", "best", "()I"⟩, 4) := ⟨⟨by decide +kernel, by decide +kernel⟩, List.mem_of_getElem? (i := 484) (by decide +kernel), List.mem_of_getElem? (i := 624) (by decide +kernel), List.mem_of_getElem? (i := 625) (by decide +kernel)⟩
theorem lw_p36 : lw_okq (⟨"SaltOrderModel", "owed", "()I"⟩, 4) := ⟨⟨by decide +kernel, by decide +kernel⟩, List.mem_of_getElem? (i := 484) (by decide +kernel), List.mem_of_getElem? (i := 632) (by decide +kernel), List.mem_of_getElem? (i := 633) (by decide +kernel)⟩
theorem lw_p37 : lw_okq (⟨"SaltOrderModel", "entry", "(II)I"⟩, 4) := ⟨⟨by decide +kernel, by decide +kernel⟩, List.mem_of_getElem? (i := 484) (by decide +kernel), List.mem_of_getElem? (i := 652) (by decide +kernel), List.mem_of_getElem? (i := 653) (by decide +kernel)⟩
theorem lw_p38 : lw_okq (⟨"SaltOrderModel", "isThrow", "(I)Z"⟩, 4) := ⟨⟨by decide +kernel, by decide +kernel⟩, List.mem_of_getElem? (i := 484) (by decide +kernel), List.mem_of_getElem? (i := 656) (by decide +kernel), List.mem_of_getElem? (i := 657) (by decide +kernel)⟩
theorem lw_p39 : lw_okq (⟨"SaltOrderModel", "adds", "(I)I"⟩, 4) := ⟨⟨by decide +kernel, by decide +kernel⟩, List.mem_of_getElem? (i := 484) (by decide +kernel), List.mem_of_getElem? (i := 680) (by decide +kernel), List.mem_of_getElem? (i := 681) (by decide +kernel)⟩
theorem lw_p40 : lw_okq (⟨"SaltOrderModel", "keep", "()V"⟩, 4) := ⟨⟨by decide +kernel, by decide +kernel⟩, List.mem_of_getElem? (i := 484) (by decide +kernel), List.mem_of_getElem? (i := 696) (by decide +kernel), List.mem_of_getElem? (i := 697) (by decide +kernel)⟩
theorem lw_p41 : lw_okq (⟨"SaltOrderModel", "bringBack", "()V"⟩, 4) := ⟨⟨by decide +kernel, by decide +kernel⟩, List.mem_of_getElem? (i := 484) (by decide +kernel), List.mem_of_getElem? (i := 703) (by decide +kernel), List.mem_of_getElem? (i := 704) (by decide +kernel)⟩
theorem lw_p42 : lw_okq (⟨"SaltOrderModel", "until", "(II)I"⟩, 4) := ⟨⟨by decide +kernel, by decide +kernel⟩, List.mem_of_getElem? (i := 484) (by decide +kernel), List.mem_of_getElem? (i := 711) (by decide +kernel), List.mem_of_getElem? (i := 712) (by decide +kernel)⟩
theorem lw_p43 : lw_okq (⟨"SaltOrderModel", "pinch", "(I)I"⟩, 4) := ⟨⟨by decide +kernel, by decide +kernel⟩, List.mem_of_getElem? (i := 484) (by decide +kernel), List.mem_of_getElem? (i := 723) (by decide +kernel), List.mem_of_getElem? (i := 724) (by decide +kernel)⟩
theorem lw_p44 : lw_okq (⟨"SaltOrderModel", "penance", "(I)I"⟩, 4) := ⟨⟨by decide +kernel, by decide +kernel⟩, List.mem_of_getElem? (i := 484) (by decide +kernel), List.mem_of_getElem? (i := 731) (by decide +kernel), List.mem_of_getElem? (i := 732) (by decide +kernel)⟩
def lw_privs_3 : List (MethodName × Nat) := [(⟨"SaltOrderModel", "dayOn", "()I"⟩, 4), (⟨"SaltOrderModel", "loss", "(I)I"⟩, 4), (⟨"SaltOrderModel", "member", "(II)I"⟩, 4), (⟨"SaltOrderModel", "best", "()I"⟩, 4), (⟨"SaltOrderModel", "owed", "()I"⟩, 4), (⟨"SaltOrderModel", "entry", "(II)I"⟩, 4), (⟨"SaltOrderModel", "isThrow", "(I)Z"⟩, 4), (⟨"SaltOrderModel", "adds", "(I)I"⟩, 4), (⟨"SaltOrderModel", "keep", "()V"⟩, 4), (⟨"SaltOrderModel", "bringBack", "()V"⟩, 4), (⟨"SaltOrderModel", "until", "(II)I"⟩, 4), (⟨"SaltOrderModel", "pinch", "(I)I"⟩, 4), (⟨"SaltOrderModel", "penance", "(I)I"⟩, 4)]
theorem lw_r3 : ∀ q ∈ lw_privs_3, lw_okq q := List.forall_mem_cons.mpr ⟨lw_p32, List.forall_mem_cons.mpr ⟨lw_p33, List.forall_mem_cons.mpr ⟨lw_p34, List.forall_mem_cons.mpr ⟨lw_p35, List.forall_mem_cons.mpr ⟨lw_p36, List.forall_mem_cons.mpr ⟨lw_p37, List.forall_mem_cons.mpr ⟨lw_p38, List.forall_mem_cons.mpr ⟨lw_p39, List.forall_mem_cons.mpr ⟨lw_p40, List.forall_mem_cons.mpr ⟨lw_p41, List.forall_mem_cons.mpr ⟨lw_p42, List.forall_mem_cons.mpr ⟨lw_p43, List.forall_mem_cons.mpr ⟨lw_p44, fun _ h => absurd h List.not_mem_nil⟩⟩⟩⟩⟩⟩⟩⟩⟩⟩⟩⟩⟩
def lw_privs : List (MethodName × Nat) := lw_privs_1 ++ (lw_privs_2 ++ (lw_privs_3))
def lw_tbl : List Cond := k2_sels lw_privs ++ tables_1
theorem lw_privs_ok : ∀ q ∈ lw_privs, lw_okq q := by
  show ∀ q ∈ lw_privs_1 ++ (lw_privs_2 ++ (lw_privs_3)), lw_okq q
  exact List.forall_mem_append.mpr ⟨lw_r1, List.forall_mem_append.mpr ⟨lw_r2, lw_r3⟩⟩
/-- the streams that the claim lets the run draw from -/
abbrev lw_cs : List Choice := [Jvm.Choice.named "NaN.bits"]
theorem lw_bits : nanBits ∈ lw_cs := by first | decide | exact List.mem_cons_self | simp [lw_cs, nanBits]
end
section
/-! ===== BEGIN words of one list among another's, by their places ===== -/
theorem goodIn_r {big : List Cond} (ws : List Cond) (ps : List Nat) (hp : ws = ps.filterMap (fun i => big[i]?)) (h : ws.all goodWord = true) : GoodIn big ws := by
  intro w hw
  have h1 := List.all_eq_true.mp h w hw
  rw [hp] at hw
  obtain ⟨i, -, hi⟩ := List.mem_filterMap.mp hw
  have hm : w ∈ big := by first | exact List.mem_of_getElem? hi | exact List.getElem?_mem hi
  exact ⟨hm, good_of_word h1⟩
theorem goodIn_app {big a b : List Cond} (ha : GoodIn big a) (hb : GoodIn big b) : GoodIn big (a ++ b) := fun w h => (List.mem_append.mp h).elim (ha w) (hb w)
theorem goodIn_ca {big a b : List Cond} {c : Cond} (ha : GoodIn big (c :: a)) (hb : GoodIn big b) : GoodIn big (c :: (a ++ b)) := fun w h => (List.mem_cons.mp h).elim (fun e => ha w (List.mem_cons.mpr (Or.inl e))) (fun h => (List.mem_append.mp h).elim (fun h => ha w (List.mem_cons.mpr (Or.inr h))) (hb w))
theorem goodIn_sub {big ws : List Cond} (hm : ∀ w ∈ ws, w ∈ big) (h : ws.all goodWord = true) : GoodIn big ws := fun w hw => ⟨hm w hw, good_of_word (List.all_eq_true.mp h w hw)⟩
/-! ===== END ===== -/

/-! ===== BEGIN exceptions that leave a method, and their catching by the caller (launches without stack traces) ===== -/
section VXA
/-! The laws vx_back, vx_callV, vx_callS, vx_callSW, vx_throw0, vx_throwS follow proofs of the library, with one case more: JvmDerived/Free/Laws.lean (Back.of_free), Shelf42/LK1.lean (callV, callS), Shelf/KitTraced.lean (throwNew0V, throwNewS). -/
/-- where a method has thrown q: the class by its name, the cell, what was written, the world -/
def vx_T (XC : String → State → State → Prop) (st : State) (q : Addr) (t : State) (mc ms : Nat) (free : Addr → Prop) : Prop :=
  ∃ (E : String) (ce : Cell) (L : List Loc), XC E st t ∧ t.heap[q]? = some ce ∧ ce.vm = .none ∧ st.vm.findClass E = some ce.cls ∧ st.WarmedH t.vm ∧ st.sameButNew ({ t with vm := st.vm } : State) L mc ms ∧ ∀ z ∈ L, free z.base
def vx_Q (Qc : Array Value → State → Outcome → State → Prop) (XC : String → State → State → Prop) (mc ms : Nat) (free : Addr → Prop) : Array Value → State → Outcome → State → Prop := fun a st o t =>
  (Qc a st o t ∧ ∃ L, FrameEnd st o t L mc ms ∧ ∀ q ∈ L, free q.base) ∨ ∃ q, o = .threw q ∧ vx_T XC st q t mc ms free
/-- a callee that returns or throws -/
def vx_Met (l : Launch) (y : MethodName) (ws : List Cond) (rm : Room) (Pc : Array Value → State → Prop) (Qc : Array Value → State → Outcome → State → Prop) (XC : String → State → State → Prop) (mc ms : Nat) (free : Addr → Prop) : Prop :=
  MetFree l y (headSpec ws rm) Pc (fun _ _ _ _ _ => True) (vx_Q Qc XC mc ms free)
def vx_Post (XC : String → State → State → Prop) (mc ms : Nat) (free : Addr → Prop) : Pt → Array Value → Addr → Pt → Prop := fun A a q B =>
  ∃ (g : JFrame) (mk : MethodId) (t : State) (L : List Loc) (E : String) (ce : Cell), B.U.heap = t.heap ∧ B.U.vm = t.vm ∧ XC E (A.U.calling g mk a) t ∧ t.heap[q]? = some ce ∧ ce.vm = .none ∧ A.U.vm.findClass E = some ce.cls ∧ B.locs = A.locs ++ L ∧ (∀ z ∈ L, free z.base) ∧ B.cells = A.cells + mc ∧ B.slots = A.slots + ms
def vx_Back (l : Launch) (R : Room) (p : Program) (e : Env) (below : List Frame) (s : State) (sargs : Array Value) (y : MethodName) (len W9 : Nat)
    (Pre : Pt → Array Value → Prop) (Post : Pt → Array Value → Option Value → Pt → Prop) (PostX : Pt → Array Value → Addr → Pt → Prop) : Prop :=
  ∀ (m : MethodId) (meth : Method) (c : Code) (A : Pt) (g : JFrame) (ig : Instr) (mk : MethodId) (a : Array Value),
    Stand p l e R s m sargs below meth c A.U A.locs A.cells A.slots → g.method = m → g.locals.size = c.maxLocals → decode c.code g.pc = .ok (ig, len) →
    2 * g.monitorRoom + (g.stack.map fun v => v.category).sum ≤ W9 → A.U.methodNamed? y = some mk → Pre A a →
    (∃ (v : Option Value) (B : Pt), Stand p l e R s m sargs below meth c B.U B.locs B.cells B.slots ∧ Post A a v B ∧
      Steps p.tables e below (doInvoke e (A.U.setTop g) [] mk a).1 (B.U.setTop { g with pc := g.pc + len, stack := v.toList ++ g.stack })) ∨
    (∃ (q : Addr) (B : Pt), Stand p l e R s m sargs below meth c B.U B.locs B.cells B.slots ∧ PostX A a q B ∧
      Steps p.tables e below (doInvoke e (A.U.setTop g) [] mk a).1 ((B.U.setTop g).pushFrame (.throwing q)))
section Payer
variable {l : Launch} {R : Room} {p : Program} {e : Env} {below : List Frame} {s : State} {sargs : Array Value} {y : MethodName} {len W9 : Nat}
theorem vx_back {ws : List Cond} {rm : Room} {Pc : Array Value → State → Prop} {Qc : Array Value → State → Outcome → State → Prop} {XC : String → State → State → Prop} {mc ms : Nat} {free : Addr → Prop} {bytes : ByteArray} {maxL : Nat} {ret : Option FieldType}
    (hM : vx_Met l y ws rm Pc Qc XC mc ms free) (hblind : FrameBlind Pc) (hrc : rm.cells = mc) (hrs : rm.slots = ms)
    (hframes : rm.frames + 1 ≤ R.frames) (hlocals : W9 + (maxL + 11) + rm.locals ≤ R.locals)
    (hws : ∀ w ∈ ws, ∀ a' U, s.WarmedH U.vm → w.before a' U = true) (hcode : Cond.code y bytes maxL ret ∈ ws) (hinit : ∀ a' U, s.WarmedH U.vm → (Cond.initialized y.cls).before a' U = true) :
    vx_Back l R p e below s sargs y len W9 (PreOf R mc ms Pc) (PostOf Qc mc ms free) (vx_Post XC mc ms free) := by
  intro m meth c A g ig mk a X hg hsize hdg hW hn hp
  have h1 : (headSpec ws rm).pre.before a A.U = true := atoms_intro fun w hw => hws w hw _ _ X.warmed
  have h2 : (Cond.code y bytes maxL ret).before a A.U = true := hws _ hcode _ _ X.warmed
  have h3 : (Cond.initialized y.cls).before a A.U = true := hinit _ _ X.warmed
  have h4 : A.cells + (headSpec ws rm).room.cells ≤ R.cells := by rw [show (headSpec ws rm).room.cells = mc from hrc]; exact hp.1
  have h5 : A.slots + (headSpec ws rm).room.slots ≤ R.slots := by rw [show (headSpec ws rm).room.slots = ms from hrs]; exact hp.2.1
  have hPc : Pc a (A.U.calling g mk a) := hblind _ _ _ _ hp.2.2
  obtain ⟨U, Ls, c0, s0⟩ := A
  dsimp only [Pt.U, Pt.locs, Pt.cells, Pt.slots] at h1 h2 h3 h4 h5 X hn hPc ⊢
  obtain ⟨methY, cY, hmY, hcY, -, hlY, -, -, -, -⟩ := Cond.code_spec hn h2
  obtain ⟨kY, hkY, -⟩ := className_of_methodNamed hn
  have hinitY : kY.init = .initialized := Cond.initialized_spec (findClass_of_methodNamed hn) hkY h3
  have h : At U g.method c below := by rw [hg]; exact X.here
  have hlocals9 : W9 + (maxL + 11) + (headSpec ws rm).room.locals ≤ R.locals := hlocals
  have happ : (headSpec ws rm).appliesLoose y e.platform (U.calling g mk a) = true :=
    Spec.appliesLoose_calling (g := g) h hdg hn hkY hinitY
      (X.room_calling (g := g) (R' := (headSpec ws rm).room) hsize hmY hcY hframes (by rw [hlY]; omega) h4 h5) h1
  obtain ⟨mid, hmid⟩ := h.above
  have hfr : (U.setTop g).frames = (.java g :: mid) ++ below := by rw [State.frames_setTop' g h.top, hmid]; rfl
  obtain ⟨o, s₂, hsteps, -, hend, hq⟩ := Steps.callFree hM p X.admits X.cas X.clock (acts := []) hfr happ hPc trivial
  have hq' : vx_Q Qc XC mc ms free a (U.calling g mk a) o s₂ := hq
  rw [State.frames_setTop' g h.top] at hend
  obtain ⟨g₀, hg0⟩ := Option.isSome_iff_exists.mp h.top
  obtain ⟨r, hr⟩ := State.topJava?_eq_some.mp hg0
  have hr' : (({ U with heap := s₂.heap, slotsUsed := s₂.slotsUsed } : State).setVm s₂.vm).frames = .java g₀ :: r := hr
  rcases hq' with ⟨hqc, L, hfe, hL⟩ | ⟨q, rfl, E, ce, L, hx, hce, hcv, hcl, hW₂, hsm, hL⟩
  · obtain ⟨⟨v, rfl⟩, hW₂, e2, q2, q3, q4, q5, q6⟩ := id hfe
    have e3 : s₂ = ({ (U.calling g mk a).setFrames s₂.frames with heap := s₂.heap, slotsUsed := s₂.slotsUsed } : State).setVm s₂.vm := by
      have : s₂ = ({ s₂ with vm := (U.calling g mk a).vm } : State).setVm s₂.vm := rfl
      rw [e2] at this
      exact this
    obtain ⟨c₂, i₂, len₂, hc₂, hd₂, hf₂⟩ := hend
    have hW' : U.WarmedH s₂.vm := hW₂
    have hcc : c₂ = c := by
      have h1 : s₂.code? g.method = U.code? g.method := by
        rw [State.code?_eq, State.code?_eq, hW'.alike.method?]
      exact Option.some.inj (hc₂.symm.trans (h1.trans h.code))
    subst hcc
    have hlen : len₂ = len := by rw [hdg] at hd₂; cases hd₂; rfl
    subst hlen
    have hs₂ : s₂ = (({ U with heap := s₂.heap, slotsUsed := s₂.slotsUsed } : State).setVm s₂.vm).setTop { g with pc := g.pc + len₂, stack := v.toList ++ g.stack } := by
      refine e3.trans ?_
      rw [hf₂, State.calling_eq h.top, State.setFrames_setFrames, State.setTop_of_frames _ hr', hr]
      rfl
    have hsame : U.sameButNew ({ U with heap := s₂.heap, slotsUsed := s₂.slotsUsed } : State) L mc ms := by
      refine ⟨?_, q2, q3, q4, q5, q6⟩
      obtain ⟨t, ht, -⟩ := State.frames_cons hr
      show ({ U with heap := s₂.heap, slotsUsed := s₂.slotsUsed } : State) = { U.setFrames U.frames with heap := s₂.heap, slotsUsed := s₂.slotsUsed }
      rw [State.setFrames_self ht]
    subst hg
    refine Or.inl ⟨v, ⟨(({ U with heap := s₂.heap, slotsUsed := s₂.slotsUsed } : State).setVm s₂.vm), Ls ++ L, c0 + mc, s0 + ms⟩,
      ⟨X.admits, X.cas, X.clock, X.frames, X.room, X.hears, X.method, X.code, (X.here.setHeapUsed s₂.heap s₂.slotsUsed).setVm hW'.alike, X.tail, State.WarmedH.trans X.warmed hW', X.limits, X.bytes, X.same.trans (hsame.setVm s.vm)⟩,
      ⟨g, mk, s₂, L, rfl, rfl, hqc, rfl, hL, rfl, rfl⟩, ?_⟩
    show Steps p.tables e below _ ((({ U with heap := s₂.heap, slotsUsed := s₂.slotsUsed } : State).setVm s₂.vm).setTop { g with pc := g.pc + len₂, stack := v.toList ++ g.stack })
    rw [← hs₂]
    exact hsteps
  · obtain ⟨e2, q2, q3, q4, q5, q6⟩ := id hsm
    have e3 : s₂ = ({ (U.calling g mk a).setFrames s₂.frames with heap := s₂.heap, slotsUsed := s₂.slotsUsed } : State).setVm s₂.vm := by
      have : s₂ = ({ s₂ with vm := (U.calling g mk a).vm } : State).setVm s₂.vm := rfl
      rw [e2] at this
      exact this
    have hf₂ : s₂.frames = .throwing q :: .java g :: U.frames.tail := hend
    have hW' : U.WarmedH s₂.vm := hW₂
    have hs₂ : s₂ = ((({ U with heap := s₂.heap, slotsUsed := s₂.slotsUsed } : State).setVm s₂.vm).setTop g).pushFrame (.throwing q) := by
      refine e3.trans ?_
      rw [hf₂, State.calling_eq h.top, State.setFrames_setFrames, State.pushFrame, State.frames_setTop _ hr', State.setTop_of_frames _ hr', State.setFrames_setFrames, hr]
      rfl
    have hsame : U.sameButNew ({ U with heap := s₂.heap, slotsUsed := s₂.slotsUsed } : State) L mc ms := by
      refine ⟨?_, q2, q3, q4, q5, q6⟩
      obtain ⟨t, ht, -⟩ := State.frames_cons hr
      show ({ U with heap := s₂.heap, slotsUsed := s₂.slotsUsed } : State) = { U.setFrames U.frames with heap := s₂.heap, slotsUsed := s₂.slotsUsed }
      rw [State.setFrames_self ht]
    subst hg
    refine Or.inr ⟨q, ⟨(({ U with heap := s₂.heap, slotsUsed := s₂.slotsUsed } : State).setVm s₂.vm), Ls ++ L, c0 + mc, s0 + ms⟩,
      ⟨X.admits, X.cas, X.clock, X.frames, X.room, X.hears, X.method, X.code, (X.here.setHeapUsed s₂.heap s₂.slotsUsed).setVm hW'.alike, X.tail, State.WarmedH.trans X.warmed hW', X.limits, X.bytes, X.same.trans (hsame.setVm s.vm)⟩,
      ⟨g, mk, s₂, L, E, ce, rfl, rfl, hx, hce, hcv, hcl, rfl, hL, rfl, rfl⟩, ?_⟩
    show Steps p.tables e below _ (((({ U with heap := s₂.heap, slotsUsed := s₂.slotsUsed } : State).setVm s₂.vm).setTop g).pushFrame (.throwing q))
    rw [← hs₂]
    exact hsteps
end Payer
section Calls
variable {p : Program} {l : Launch} {e : Env} {R : Room} {s : State} {m : MethodId} {args : Array Value} {below : List Frame} {meth : Method} {c : Code} {T : State} {locs : List Loc} {cells slots : Nat}
theorem vx_callV (X : Stand p l e R s m args below meth c T locs cells slots) (hexec : p.tables.exec = Jvm.exec) {own C : String} {index : Nat} {y : MethodName} {bytes : ByteArray} {maxL : Nat} {ret : Option FieldType}
    (hown : s.vm.findClass own = some m.cls) (hlink : (Cond.methodLink own index y).before args s = true) (hinst : (Cond.instanceMethod y).before args s = true) (hsel : (Cond.selects C y y).before args s = true)
    (hcode : (Cond.code y bytes maxL ret).before args s = true) (hy : y.cls ≠ "java/lang/invoke/MethodHandle" ∧ y.cls ≠ "java/lang/invoke/VarHandle")
    {W9 : Nat} {Pre : Pt → Array Value → Prop} {Post : Pt → Array Value → Option Value → Pt → Prop} {PostX : Pt → Array Value → Addr → Pt → Prop} (hK : vx_Back l R p e below s args y 3 W9 Pre Post PostX)
    {b : Addr} {cellB : Cell} (hcell : T.heap[b]? = some cellB) (hobj : cellB.vm.isStatics = false) (hcls : s.vm.findClass C = some cellB.cls)
    {g : JFrame} (hg : g.method = m) (hsize : g.locals.size = c.maxLocals) {argsL rest : List Value} (hlen : ∀ sig, parseMethodDescriptor y.desc = some sig → argsL.length = sig.parameters.length)
    (hstack : g.stack = argsL.reverse ++ .ref b :: rest) (hW : 2 * g.monitorRoom + (rest.map fun v => v.category).sum ≤ W9) (hdg : decode c.code g.pc = .ok (.invokevirtual index, 3))
    (hpre : ∀ vm₁, s.WarmedH vm₁ → Pre ⟨T.setVm vm₁, locs, cells, slots⟩ (Value.ref b :: argsL).toArray) :
    (∃ (v : Option Value) (vm₁ : Vm) (B : Pt), s.WarmedH vm₁ ∧ Stand p l e R s m args below meth c B.U B.locs B.cells B.slots ∧ Post ⟨T.setVm vm₁, locs, cells, slots⟩ (Value.ref b :: argsL).toArray v B ∧
      ∀ target, Steps p.tables e below (B.U.setTop { g with pc := g.pc + 3, stack := v.toList ++ rest }) target → Steps p.tables e below (T.setTop g) target) ∨
    (∃ (q : Addr) (vm₁ : Vm) (B : Pt), s.WarmedH vm₁ ∧ Stand p l e R s m args below meth c B.U B.locs B.cells B.slots ∧ PostX ⟨T.setVm vm₁, locs, cells, slots⟩ (Value.ref b :: argsL).toArray q B ∧
      Steps p.tables e below (T.setTop g) ((B.U.setTop { g with stack := rest }).pushFrame (.throwing q))) := by
  obtain ⟨mk, methM, hnamed, hmethM, hstM, habM⟩ := Cond.instanceMethod_spec hinst
  obtain ⟨methM', cM, hmethM', -, -, -, -, -, -, hsigM⟩ := Cond.code_spec hnamed hcode
  cases hmethM.symm.trans hmethM'
  obtain ⟨c2, r2, m2, q1, q2, q3, q4, kP, hkP, hkPi⟩ := Cond.selects_spec hsel
  cases hcls.symm.trans q1
  cases (State.methodFound?_of_named hnamed hy).symm.trans q2
  cases hnamed.symm.trans q3
  have hselP : selectMethod e.platform s.vm cellB.cls mk = .method mk := by rw [Launch.admits_selectMethod X.admits]; exact q4
  obtain ⟨vm₁, X₁, hstep₁⟩ := X.invokevirtual hexec hown hlink hnamed hmethM hstM hkP hkPi hy (a := b) (cell := cellB) hcell
    (fun z h => by rw [h] at hobj; cases hobj) hselP hmethM habM hkP hkPi (g := g) hg (argsL := argsL) (rest := rest) (hlen _ hsigM) hstack hdg
  rcases hK m meth c ⟨T.setVm vm₁, locs, cells, slots⟩ { g with stack := rest } (.invokevirtual index) mk (Value.ref b :: argsL).toArray X₁ hg hsize hdg hW (X₁.named hnamed) (hpre vm₁ X₁.warmed) with ⟨v, B, X', hpost, hsteps⟩ | ⟨q, B, X', hpost, hsteps⟩
  · exact Or.inl ⟨v, vm₁, B, X₁.warmed, X', hpost, fun target h => hstep₁ _ fun acts => by rw [doInvoke_state]; exact hsteps.trans h⟩
  · exact Or.inr ⟨q, vm₁, B, X₁.warmed, X', hpost, hstep₁ _ fun acts => by rw [doInvoke_state]; exact hsteps⟩
theorem vx_callS (X : Stand p l e R s m args below meth c T locs cells slots) (hexec : p.tables.exec = Jvm.exec) {own : String} {index : Nat} {y : MethodName} {bytes : ByteArray} {maxL : Nat} {ret : Option FieldType}
    (hown : s.vm.findClass own = some m.cls) (hlink : (Cond.methodLink own index y).before args s = true) (hstat : (Cond.static y).before args s = true) (hinit : (Cond.initialized y.cls).before args s = true)
    (hcode : (Cond.code y bytes maxL ret).before args s = true) (hy : y.cls ≠ "java/lang/invoke/MethodHandle" ∧ y.cls ≠ "java/lang/invoke/VarHandle")
    {W9 : Nat} {Pre : Pt → Array Value → Prop} {Post : Pt → Array Value → Option Value → Pt → Prop} {PostX : Pt → Array Value → Addr → Pt → Prop} (hK : vx_Back l R p e below s args y 3 W9 Pre Post PostX)
    {g : JFrame} (hg : g.method = m) (hsize : g.locals.size = c.maxLocals) {argsL rest : List Value} (hlen : ∀ sig, parseMethodDescriptor y.desc = some sig → argsL.length = sig.parameters.length)
    (hstack : g.stack = argsL.reverse ++ rest) (hW : 2 * g.monitorRoom + (rest.map fun v => v.category).sum ≤ W9) (hdg : decode c.code g.pc = .ok (.invokestatic index, 3))
    (hpre : ∀ vm₁, s.WarmedH vm₁ → Pre ⟨T.setVm vm₁, locs, cells, slots⟩ argsL.toArray) :
    (∃ (v : Option Value) (vm₁ : Vm) (B : Pt), s.WarmedH vm₁ ∧ Stand p l e R s m args below meth c B.U B.locs B.cells B.slots ∧ Post ⟨T.setVm vm₁, locs, cells, slots⟩ argsL.toArray v B ∧
      ∀ target, Steps p.tables e below (B.U.setTop { g with pc := g.pc + 3, stack := v.toList ++ rest }) target → Steps p.tables e below (T.setTop g) target) ∨
    (∃ (q : Addr) (vm₁ : Vm) (B : Pt), s.WarmedH vm₁ ∧ Stand p l e R s m args below meth c B.U B.locs B.cells B.slots ∧ PostX ⟨T.setVm vm₁, locs, cells, slots⟩ argsL.toArray q B ∧
      Steps p.tables e below (T.setTop g) ((B.U.setTop { g with stack := rest }).pushFrame (.throwing q))) := by
  obtain ⟨mk, hnamed⟩ := Cond.code_named hcode
  obtain ⟨methM, cM, hmethM, -, -, -, -, -, -, hsigM⟩ := Cond.code_spec hnamed hcode
  have hstatic : methM.isStatic = true := Cond.static_spec hnamed hmethM hstat
  obtain ⟨kP, hkP, -⟩ := className_of_methodNamed hnamed
  have hinitP : kP.init = .initialized := Cond.initialized_spec (findClass_of_methodNamed hnamed) hkP hinit
  obtain ⟨vm₁, X₁, hstep₁⟩ := X.invokestatic hexec hown hlink hnamed hmethM hstatic hkP hinitP hy (g := g) hg (argsL := argsL) (rest := rest) (hlen _ hsigM) hstack hdg
  rcases hK m meth c ⟨T.setVm vm₁, locs, cells, slots⟩ { g with stack := rest } (.invokestatic index) mk argsL.toArray X₁ hg hsize hdg hW (X₁.named hnamed) (hpre vm₁ X₁.warmed) with ⟨v, B, X', hpost, hsteps⟩ | ⟨q, B, X', hpost, hsteps⟩
  · exact Or.inl ⟨v, vm₁, B, X₁.warmed, X', hpost, fun target h => hstep₁ _ fun acts => by rw [doInvoke_state]; exact hsteps.trans h⟩
  · exact Or.inr ⟨q, vm₁, B, X₁.warmed, X', hpost, hstep₁ _ fun acts => by rw [doInvoke_state]; exact hsteps⟩
end Calls
theorem vx_cls {s : State} {T : State} {vm₁ : Vm} {E : String} {k : ClassId} (hW : s.WarmedH vm₁) (h : (T.setVm vm₁).vm.findClass E = some k) : s.vm.findClass E = some k := by
  have h1 : vm₁.findClass E = some k := h
  rw [hW.alike.findClass] at h1
  exact h1
/-- the method's frame g, with q thrown over it -/
def vx_W (p : Program) (l : Launch) (e : Env) (R : Room) (s : State) (m : MethodId) (args : Array Value) (below : List Frame) (meth : Method) (c : Code) (H : Heap) (locs : List Loc) (cells slots : Nat) (Q : State → Prop) (g : JFrame) (q : Addr) : Prop :=
  ∀ T : State, T.heap = H → Stand p l e R s m args below meth c T locs cells slots → ∃ t, Steps p.tables e below ((T.setTop g).pushFrame (.throwing q)) t ∧ Q t
def vx_Run (p : Program) (l : Launch) (e : Env) (R : Room) (s : State) (m : MethodId) (args : Array Value) (below : List Frame) (meth : Method) (c : Code) (H : Heap) (locs : List Loc) (cells slots mc ms : Nat) (g : JFrame) (rest : List Value) (Qa : State → Outcome → State → Prop) (XC : String → State → State → Prop) (free : Addr → Prop) : Prop :=
  ∀ T : State, T.heap = H → Stand p l e R s m args below meth c T locs cells slots →
    (∃ (v : Option Value) (st₀ t T' : State) (L : List Loc), st₀.heap = H ∧ Stand p l e R s m args below meth c T' (locs ++ L) (cells + mc) (slots + ms) ∧ (∀ q ∈ L, free q.base) ∧ T'.heap = t.heap ∧ T'.vm = t.vm ∧ Qa st₀ (.returned v) t ∧
      Goes p e below T g T' { g with pc := g.pc + 3, stack := v.toList ++ rest }) ∨
    (∃ (q : Addr) (st₀ t T' : State) (L : List Loc) (E : String) (ce : Cell), st₀.heap = H ∧ Stand p l e R s m args below meth c T' (locs ++ L) (cells + mc) (slots + ms) ∧ (∀ z ∈ L, free z.base) ∧ T'.heap = t.heap ∧ T'.vm = t.vm ∧ XC E st₀ t ∧ t.heap[q]? = some ce ∧ ce.vm = .none ∧ s.vm.findClass E = some ce.cls ∧
      Steps p.tables e below (T.setTop g) ((T'.setTop { g with stack := rest }).pushFrame (.throwing q)))
def vx_X {S : Type} (px : S → Prop) (B : String → S → State → Prop) (A : Nat → Prop) : String → State → State → Prop := fun E st t => ∃ u : S, px u ∧ B E u t ∧ va_F A st t
section Runs
variable {p : Program} {l : Launch} {e : Env} {R : Room} {s : State} {m : MethodId} {args : Array Value} {below : List Frame} {meth : Method} {c : Code} {H : Heap} {locs : List Loc} {cells slots : Nat}
variable {y : MethodName} {bytes cc : ByteArray} {maxL nL mc ms n index : Nat} {ret : Option FieldType} {ws : List Cond} {rm : Room} {Pc : Array Value → State → Prop} {Qc : Array Value → State → Outcome → State → Prop} {XC : String → State → State → Prop} {free : Addr → Prop} {Ts : List Cond} {own C : String} {b : Addr} {As rest : List Value} {g : JFrame}
theorem vx_callBack (cb : CallB R s args own index y bytes maxL ret ws rm mc ms n) (hM : vx_Met l y ws rm Pc Qc XC mc ms free) (hbl : FrameBlind Pc) : vx_Back l R p e below s args y 3 8 (PreOf R mc ms Pc) (PostOf Qc mc ms free) (vx_Post XC mc ms free) := by
  obtain ⟨hrc, hrs, hfr, hlo, hws, hcw, -, hini, -⟩ := cb
  exact vx_back (bytes := bytes) (maxL := maxL) (ret := ret) hM hbl hrc hrs hfr hlo hws hcw (fun a' U hW => word_at hW (Or.inl (by first | rfl | simp [Cond.onTables, Cond.keeps, Cond.steady])) hini)
theorem vx_runV (S : CallFix p m c cc nL s args Ts own) (hM : vx_Met l y ws rm Pc Qc XC mc ms free) (cw : CallW R s args own C index y bytes maxL ret ws rm mc ms n) (hp : PreV s H C b Pc As)
    (hg : g.method = m) (hn : As.length = n) (hsize : g.locals.size = nL) (hstack : g.stack = As.reverse ++ .ref b :: rest) (hW : 2 * g.monitorRoom + (rest.map fun v => v.category).sum ≤ 8) (hdg : decode cc g.pc = .ok (.invokevirtual index, 3)) (hf : cells + mc ≤ R.cells ∧ slots + ms ≤ R.slots) :
    vx_Run p l e R s m args below meth c H locs cells slots mc ms g rest (Qc (Value.ref b :: As).toArray) XC free := by
  have hK : vx_Back l R p e below s args y 3 8 (PreOf R mc ms Pc) (PostOf Qc mc ms free) (vx_Post XC mc ms free) := vx_callBack cw.1 hM hp.1
  obtain ⟨⟨-, -, -, -, -, -, hcode, -, hy, hlen, hl⟩, hin, hse⟩ := cw
  obtain ⟨hx, hb, hml, ho, -⟩ := S
  obtain ⟨-, ⟨cellB, hcB, hoB, hclB⟩, hPc⟩ := hp
  intro T hT X
  rcases vx_callV X hx (C := C) (bytes := bytes) (maxL := maxL) (ret := ret) ho hl hin hse hcode hy hK (by rw [hT]; exact hcB) hoB hclB hg (hsize.trans hml.symm) (argsL := As) (rest := rest) (fun sig h => hn.trans (hlen sig h)) hstack hW (by rw [hb]; exact hdg)
    (fun vm₁ hW₁ => ⟨hf.1, hf.2, hPc (T.setVm vm₁) hT hW₁⟩) with ⟨v, vm₁, ⟨U', l2, c2, s2⟩, hW₁, X', ⟨g', mk, t, L, e1, e2, hq, h1, hL, h2, h3⟩, st⟩ | ⟨q, vm₁, ⟨U', l2, c2, s2⟩, hW₁, X', ⟨g', mk, t, L, E, ce, e1, e2, hq, hce, hcv, hcl, h1, hL, h2, h3⟩, st⟩
  · dsimp only [Pt.U, Pt.locs, Pt.cells, Pt.slots] at X' e1 e2 h1 h2 h3 st
    subst h1; subst h2; subst h3
    exact Or.inl ⟨v, (T.setVm vm₁).calling g' mk (Value.ref b :: As).toArray, t, U', L, hT, X', hL, e1, e2, hq, st⟩
  · dsimp only [Pt.U, Pt.locs, Pt.cells, Pt.slots] at X' e1 e2 h1 h2 h3 st hcl
    subst h1; subst h2; subst h3
    exact Or.inr ⟨q, (T.setVm vm₁).calling g' mk (Value.ref b :: As).toArray, t, U', L, E, ce, hT, X', hL, e1, e2, hq, hce, hcv, vx_cls hW₁ hcl, st⟩
theorem vx_runS (S : CallFix p m c cc nL s args Ts own) (hM : vx_Met l y ws rm Pc Qc XC mc ms free) (cw : CallB R s args own index y bytes maxL ret ws rm mc ms n ∧ (Cond.static y).before args s = true) (hp : PreS s H Pc As)
    (hg : g.method = m) (hn : As.length = n) (hsize : g.locals.size = nL) (hstack : g.stack = As.reverse ++ rest) (hW : 2 * g.monitorRoom + (rest.map fun v => v.category).sum ≤ 8) (hdg : decode cc g.pc = .ok (.invokestatic index, 3)) (hf : cells + mc ≤ R.cells ∧ slots + ms ≤ R.slots) :
    vx_Run p l e R s m args below meth c H locs cells slots mc ms g rest (Qc As.toArray) XC free := by
  have hK : vx_Back l R p e below s args y 3 8 (PreOf R mc ms Pc) (PostOf Qc mc ms free) (vx_Post XC mc ms free) := vx_callBack cw.1 hM hp.1
  obtain ⟨⟨-, -, -, -, -, -, hcode, hini, hy, hlen, hl⟩, hstt⟩ := cw
  obtain ⟨hx, hb, hml, ho, -⟩ := S
  intro T hT X
  rcases vx_callS X hx (bytes := bytes) (maxL := maxL) (ret := ret) ho hl hstt hini hcode hy hK hg (hsize.trans hml.symm) (argsL := As) (rest := rest) (fun sig h => hn.trans (hlen sig h)) hstack hW (by rw [hb]; exact hdg)
    (fun vm₁ hW₁ => ⟨hf.1, hf.2, hp.2 (T.setVm vm₁) hT hW₁⟩) with ⟨v, vm₁, ⟨U', l2, c2, s2⟩, hW₁, X', ⟨g', mk, t, L, e1, e2, hq, h1, hL, h2, h3⟩, st⟩ | ⟨q, vm₁, ⟨U', l2, c2, s2⟩, hW₁, X', ⟨g', mk, t, L, E, ce, e1, e2, hq, hce, hcv, hcl, h1, hL, h2, h3⟩, st⟩
  · dsimp only [Pt.U, Pt.locs, Pt.cells, Pt.slots] at X' e1 e2 h1 h2 h3 st
    subst h1; subst h2; subst h3
    exact Or.inl ⟨v, (T.setVm vm₁).calling g' mk As.toArray, t, U', L, hT, X', hL, e1, e2, hq, st⟩
  · dsimp only [Pt.U, Pt.locs, Pt.cells, Pt.slots] at X' e1 e2 h1 h2 h3 st hcl
    subst h1; subst h2; subst h3
    exact Or.inr ⟨q, (T.setVm vm₁).calling g' mk As.toArray, t, U', L, E, ce, hT, X', hL, e1, e2, hq, hce, hcv, vx_cls hW₁ hcl, st⟩
end Runs
section Rows
variable {p : Program} {l : Launch} {e : Env} {R : Room} {s : State} {m : MethodId} {args : Array Value} {below : List Frame} {meth : Method} {c : Code} {H : Heap} {locs : List Loc} {cells slots : Nat} {Q : State → Prop}
variable {mc ms : Nat} {free : Addr → Prop} {A0 A1 : Nat → Prop} {H0 : Heap} {a : Array Value} {pc : Nat} {ls : Array Slot} {st0 rest : List Value}
theorem vx_keep {st₀ t T' : State} {L : List Loc} (h0 : st₀.heap = H) (e1 : T'.heap = t.heap) (hS : va_S A0 H0 H locs) (hA : ∀ q, q < H.size → A1 q → A0 q) (hf : ∀ q, free q → A0 q) (hL : ∀ q ∈ L, free q.base) (hF : va_F A1 st₀ t) :
    H.size ≤ T'.heap.size ∧ (∀ q : Nat, q < H.size → ¬ A1 q → T'.heap[q]? = H[q]?) ∧ va_S A0 H0 T'.heap (locs ++ L) := by
  obtain ⟨hz, hk⟩ := hF
  rw [h0] at hz hk
  exact ⟨by rw [e1]; exact hz, fun q h1 h2 => by rw [e1]; exact hk q h1 h2,
    ⟨Nat.le_trans hS.1 (by rw [e1]; exact hz), fun q h1 h2 => by rw [e1, hk q (Nat.lt_of_lt_of_le h1 hS.1) (fun z => h2 (hA q (Nat.lt_of_lt_of_le h1 hS.1) z))]; exact hS.2.1 q h1 h2, fun q hq => by
      rcases List.mem_append.mp hq with h | h
      · exact hS.2.2 q h
      · exact hf _ (hL q h)⟩⟩
theorem vx_calli {S SX : Type} {post : Int32 → S → Prop} {px : SX → Prop} {B : S → State → Prop} {BX : String → SX → State → Prop} {AX : Nat → Prop} (hr : vx_Run p l e R s m args below meth c H locs cells slots mc ms (F0 m pc ls st0) rest (va_Qi post B A1 a) (vx_X px BX AX) free) (hS : va_S A0 H0 H locs) (hA : ∀ q, q < H.size → A1 q → A0 q) (hf : ∀ q, free q → A0 q) (hAX : ∀ q, q < H.size → AX q → A0 q)
    (kx : ∀ (E : String) (ce : Cell) (q9 : Addr) (u : SX) (t : State) (H1 : Heap) (locs1 : List Loc), t.heap = H1 → s.vm.Alike t.vm → px u → BX E u t → H.size ≤ H1.size → (∀ q : Nat, q < H.size → ¬ AX q → H1[q]? = H[q]?) → va_S A0 H0 H1 locs1 → H1[q9]? = some ce → ce.vm = .none → s.vm.findClass E = some ce.cls → vx_W p l e R s m args below meth c H1 locs1 (cells + mc) (slots + ms) Q (F0 m pc ls rest) q9)
    (kk : ∀ (r : Int32) (u : S) (t : State) (H1 : Heap) (locs1 : List Loc), t.heap = H1 → s.vm.Alike t.vm → post r u → B u t → H.size ≤ H1.size → (∀ q : Nat, q < H.size → ¬ A1 q → H1[q]? = H[q]?) → va_S A0 H0 H1 locs1 → W p l e R s m args below meth c H1 locs1 (cells + mc) (slots + ms) Q (F0 m (pc + 3) ls (.int r :: rest))) : W p l e R s m args below meth c H locs cells slots Q (F0 m pc ls st0) := by
  intro T hT X
  rcases hr T hT X with ⟨v, st₀, t, T', L, h0, X', hL, e1, e2, ⟨⟨r, u, hv, hp, hb⟩, hF⟩, st⟩ | ⟨q, st₀, t, T', L, E, ce, h0, X', hL, e1, e2, ⟨u, hp, hb, hF⟩, hce, hcv, hcl, st⟩
  · cases hv
    obtain ⟨k1, k2, k3⟩ := vx_keep h0 e1 hS hA hf hL hF
    obtain ⟨t2, a1, b1⟩ := kk r u t T'.heap (locs ++ L) e1.symm (by rw [← e2]; exact X'.warmed.alike) hp hb k1 k2 k3 T' rfl X'
    exact ⟨t2, st t2 a1, b1⟩
  · obtain ⟨k1, k2, k3⟩ := vx_keep h0 e1 hS hAX hf hL hF
    obtain ⟨t2, a1, b1⟩ := kx E ce q u t T'.heap (locs ++ L) e1.symm (by rw [← e2]; exact X'.warmed.alike) hp hb k1 k2 k3 (by rw [e1]; exact hce) hcv hcl T' rfl X'
    exact ⟨t2, st.trans a1, b1⟩
theorem vx_calll {S SX : Type} {post : Int64 → S → Prop} {px : SX → Prop} {B : S → State → Prop} {BX : String → SX → State → Prop} {AX : Nat → Prop} (hr : vx_Run p l e R s m args below meth c H locs cells slots mc ms (F0 m pc ls st0) rest (va_Ql post B A1 a) (vx_X px BX AX) free) (hS : va_S A0 H0 H locs) (hA : ∀ q, q < H.size → A1 q → A0 q) (hf : ∀ q, free q → A0 q) (hAX : ∀ q, q < H.size → AX q → A0 q)
    (kx : ∀ (E : String) (ce : Cell) (q9 : Addr) (u : SX) (t : State) (H1 : Heap) (locs1 : List Loc), t.heap = H1 → s.vm.Alike t.vm → px u → BX E u t → H.size ≤ H1.size → (∀ q : Nat, q < H.size → ¬ AX q → H1[q]? = H[q]?) → va_S A0 H0 H1 locs1 → H1[q9]? = some ce → ce.vm = .none → s.vm.findClass E = some ce.cls → vx_W p l e R s m args below meth c H1 locs1 (cells + mc) (slots + ms) Q (F0 m pc ls rest) q9)
    (kk : ∀ (r : Int64) (u : S) (t : State) (H1 : Heap) (locs1 : List Loc), t.heap = H1 → s.vm.Alike t.vm → post r u → B u t → H.size ≤ H1.size → (∀ q : Nat, q < H.size → ¬ A1 q → H1[q]? = H[q]?) → va_S A0 H0 H1 locs1 → W p l e R s m args below meth c H1 locs1 (cells + mc) (slots + ms) Q (F0 m (pc + 3) ls (.long r :: rest))) : W p l e R s m args below meth c H locs cells slots Q (F0 m pc ls st0) := by
  intro T hT X
  rcases hr T hT X with ⟨v, st₀, t, T', L, h0, X', hL, e1, e2, ⟨⟨r, u, hv, hp, hb⟩, hF⟩, st⟩ | ⟨q, st₀, t, T', L, E, ce, h0, X', hL, e1, e2, ⟨u, hp, hb, hF⟩, hce, hcv, hcl, st⟩
  · cases hv
    obtain ⟨k1, k2, k3⟩ := vx_keep h0 e1 hS hA hf hL hF
    obtain ⟨t2, a1, b1⟩ := kk r u t T'.heap (locs ++ L) e1.symm (by rw [← e2]; exact X'.warmed.alike) hp hb k1 k2 k3 T' rfl X'
    exact ⟨t2, st t2 a1, b1⟩
  · obtain ⟨k1, k2, k3⟩ := vx_keep h0 e1 hS hAX hf hL hF
    obtain ⟨t2, a1, b1⟩ := kx E ce q u t T'.heap (locs ++ L) e1.symm (by rw [← e2]; exact X'.warmed.alike) hp hb k1 k2 k3 (by rw [e1]; exact hce) hcv hcl T' rfl X'
    exact ⟨t2, st.trans a1, b1⟩
theorem vx_callf {S SX : Type} {post : UInt32 → S → Prop} {px : SX → Prop} {B : S → State → Prop} {BX : String → SX → State → Prop} {AX : Nat → Prop} (hr : vx_Run p l e R s m args below meth c H locs cells slots mc ms (F0 m pc ls st0) rest (va_Qf post B A1 a) (vx_X px BX AX) free) (hS : va_S A0 H0 H locs) (hA : ∀ q, q < H.size → A1 q → A0 q) (hf : ∀ q, free q → A0 q) (hAX : ∀ q, q < H.size → AX q → A0 q)
    (kx : ∀ (E : String) (ce : Cell) (q9 : Addr) (u : SX) (t : State) (H1 : Heap) (locs1 : List Loc), t.heap = H1 → s.vm.Alike t.vm → px u → BX E u t → H.size ≤ H1.size → (∀ q : Nat, q < H.size → ¬ AX q → H1[q]? = H[q]?) → va_S A0 H0 H1 locs1 → H1[q9]? = some ce → ce.vm = .none → s.vm.findClass E = some ce.cls → vx_W p l e R s m args below meth c H1 locs1 (cells + mc) (slots + ms) Q (F0 m pc ls rest) q9)
    (kk : ∀ (r : UInt32) (u : S) (t : State) (H1 : Heap) (locs1 : List Loc), t.heap = H1 → s.vm.Alike t.vm → post r u → B u t → H.size ≤ H1.size → (∀ q : Nat, q < H.size → ¬ A1 q → H1[q]? = H[q]?) → va_S A0 H0 H1 locs1 → W p l e R s m args below meth c H1 locs1 (cells + mc) (slots + ms) Q (F0 m (pc + 3) ls (.float r :: rest))) : W p l e R s m args below meth c H locs cells slots Q (F0 m pc ls st0) := by
  intro T hT X
  rcases hr T hT X with ⟨v, st₀, t, T', L, h0, X', hL, e1, e2, ⟨⟨r, u, hv, hp, hb⟩, hF⟩, st⟩ | ⟨q, st₀, t, T', L, E, ce, h0, X', hL, e1, e2, ⟨u, hp, hb, hF⟩, hce, hcv, hcl, st⟩
  · cases hv
    obtain ⟨k1, k2, k3⟩ := vx_keep h0 e1 hS hA hf hL hF
    obtain ⟨t2, a1, b1⟩ := kk r u t T'.heap (locs ++ L) e1.symm (by rw [← e2]; exact X'.warmed.alike) hp hb k1 k2 k3 T' rfl X'
    exact ⟨t2, st t2 a1, b1⟩
  · obtain ⟨k1, k2, k3⟩ := vx_keep h0 e1 hS hAX hf hL hF
    obtain ⟨t2, a1, b1⟩ := kx E ce q u t T'.heap (locs ++ L) e1.symm (by rw [← e2]; exact X'.warmed.alike) hp hb k1 k2 k3 (by rw [e1]; exact hce) hcv hcl T' rfl X'
    exact ⟨t2, st.trans a1, b1⟩
theorem vx_calld {S SX : Type} {post : UInt64 → S → Prop} {px : SX → Prop} {B : S → State → Prop} {BX : String → SX → State → Prop} {AX : Nat → Prop} (hr : vx_Run p l e R s m args below meth c H locs cells slots mc ms (F0 m pc ls st0) rest (va_Qd post B A1 a) (vx_X px BX AX) free) (hS : va_S A0 H0 H locs) (hA : ∀ q, q < H.size → A1 q → A0 q) (hf : ∀ q, free q → A0 q) (hAX : ∀ q, q < H.size → AX q → A0 q)
    (kx : ∀ (E : String) (ce : Cell) (q9 : Addr) (u : SX) (t : State) (H1 : Heap) (locs1 : List Loc), t.heap = H1 → s.vm.Alike t.vm → px u → BX E u t → H.size ≤ H1.size → (∀ q : Nat, q < H.size → ¬ AX q → H1[q]? = H[q]?) → va_S A0 H0 H1 locs1 → H1[q9]? = some ce → ce.vm = .none → s.vm.findClass E = some ce.cls → vx_W p l e R s m args below meth c H1 locs1 (cells + mc) (slots + ms) Q (F0 m pc ls rest) q9)
    (kk : ∀ (r : UInt64) (u : S) (t : State) (H1 : Heap) (locs1 : List Loc), t.heap = H1 → s.vm.Alike t.vm → post r u → B u t → H.size ≤ H1.size → (∀ q : Nat, q < H.size → ¬ A1 q → H1[q]? = H[q]?) → va_S A0 H0 H1 locs1 → W p l e R s m args below meth c H1 locs1 (cells + mc) (slots + ms) Q (F0 m (pc + 3) ls (.double r :: rest))) : W p l e R s m args below meth c H locs cells slots Q (F0 m pc ls st0) := by
  intro T hT X
  rcases hr T hT X with ⟨v, st₀, t, T', L, h0, X', hL, e1, e2, ⟨⟨r, u, hv, hp, hb⟩, hF⟩, st⟩ | ⟨q, st₀, t, T', L, E, ce, h0, X', hL, e1, e2, ⟨u, hp, hb, hF⟩, hce, hcv, hcl, st⟩
  · cases hv
    obtain ⟨k1, k2, k3⟩ := vx_keep h0 e1 hS hA hf hL hF
    obtain ⟨t2, a1, b1⟩ := kk r u t T'.heap (locs ++ L) e1.symm (by rw [← e2]; exact X'.warmed.alike) hp hb k1 k2 k3 T' rfl X'
    exact ⟨t2, st t2 a1, b1⟩
  · obtain ⟨k1, k2, k3⟩ := vx_keep h0 e1 hS hAX hf hL hF
    obtain ⟨t2, a1, b1⟩ := kx E ce q u t T'.heap (locs ++ L) e1.symm (by rw [← e2]; exact X'.warmed.alike) hp hb k1 k2 k3 (by rw [e1]; exact hce) hcv hcl T' rfl X'
    exact ⟨t2, st.trans a1, b1⟩
theorem vx_callv {S SX : Type} {post : S → Prop} {px : SX → Prop} {B : S → State → Prop} {BX : String → SX → State → Prop} {AX : Nat → Prop} (hr : vx_Run p l e R s m args below meth c H locs cells slots mc ms (F0 m pc ls st0) rest (va_Qv post B A1 a) (vx_X px BX AX) free) (hS : va_S A0 H0 H locs) (hA : ∀ q, q < H.size → A1 q → A0 q) (hf : ∀ q, free q → A0 q) (hAX : ∀ q, q < H.size → AX q → A0 q)
    (kx : ∀ (E : String) (ce : Cell) (q9 : Addr) (u : SX) (t : State) (H1 : Heap) (locs1 : List Loc), t.heap = H1 → s.vm.Alike t.vm → px u → BX E u t → H.size ≤ H1.size → (∀ q : Nat, q < H.size → ¬ AX q → H1[q]? = H[q]?) → va_S A0 H0 H1 locs1 → H1[q9]? = some ce → ce.vm = .none → s.vm.findClass E = some ce.cls → vx_W p l e R s m args below meth c H1 locs1 (cells + mc) (slots + ms) Q (F0 m pc ls rest) q9)
    (kk : ∀ (u : S) (t : State) (H1 : Heap) (locs1 : List Loc), t.heap = H1 → s.vm.Alike t.vm → post u → B u t → H.size ≤ H1.size → (∀ q : Nat, q < H.size → ¬ A1 q → H1[q]? = H[q]?) → va_S A0 H0 H1 locs1 → W p l e R s m args below meth c H1 locs1 (cells + mc) (slots + ms) Q (F0 m (pc + 3) ls (rest))) : W p l e R s m args below meth c H locs cells slots Q (F0 m pc ls st0) := by
  intro T hT X
  rcases hr T hT X with ⟨v, st₀, t, T', L, h0, X', hL, e1, e2, ⟨⟨u, hv, hp, hb⟩, hF⟩, st⟩ | ⟨q, st₀, t, T', L, E, ce, h0, X', hL, e1, e2, ⟨u, hp, hb, hF⟩, hce, hcv, hcl, st⟩
  · cases hv
    obtain ⟨k1, k2, k3⟩ := vx_keep h0 e1 hS hA hf hL hF
    obtain ⟨t2, a1, b1⟩ := kk u t T'.heap (locs ++ L) e1.symm (by rw [← e2]; exact X'.warmed.alike) hp hb k1 k2 k3 T' rfl X'
    exact ⟨t2, st t2 a1, b1⟩
  · obtain ⟨k1, k2, k3⟩ := vx_keep h0 e1 hS hAX hf hL hF
    obtain ⟨t2, a1, b1⟩ := kx E ce q u t T'.heap (locs ++ L) e1.symm (by rw [← e2]; exact X'.warmed.alike) hp hb k1 k2 k3 (by rw [e1]; exact hce) hcv hcl T' rfl X'
    exact ⟨t2, st.trans a1, b1⟩
/-- caught by the row x of this method's table; the rows ahead don't take it -/
theorem vx_catch {own name : String} {E : String} {ce : Cell} {q : Addr} (hown : s.vm.findClass own = some m.cls) (pre : List ExceptionTableEntry) (x : ExceptionTableEntry) (suf : List ExceptionTableEntry) (hsplit : c.exceptionTable.toList = pre ++ x :: suf)
    (hpass : ∀ z ∈ pre, covers z pc = false ∨ (z.catchType ≠ 0 ∧ ∃ nm : String, (Cond.classLink own z.catchType nm).before args s = true ∧ va_Nc E nm s)) (hx : covers x pc = true) (h0 : x.catchType ≠ 0)
    (hlink : (Cond.classLink own x.catchType name).before args s = true) (hcast : (Cond.castable E name).before args s = true) (hcell : H[q]? = some ce) (hv : ce.vm = .none) (hcl : s.vm.findClass E = some ce.cls)
    (kk : W p l e R s m args below meth c H locs cells slots Q (F0 m x.handlerPc ls [.ref q])) : vx_W p l e R s m args below meth c H locs cells slots Q (F0 m pc ls rest) q := by
  intro T hT X
  have hpl : e.platform.magicAccessors = ({} : Platform).magicAccessors := by rw [X.admits.platform]
  obtain ⟨c3, c4, hc3, hc4, hasg⟩ := Cond.castable_spec hcast
  cases Option.some.inj (hc3.symm.trans hcl)
  obtain ⟨c5, hc5, hcl5⟩ := Cond.classLink_spec hown hlink e.platform hpl
  cases Option.some.inj (hc4.symm.trans hc5)
  obtain ⟨vm', X', st⟩ := X.thenCaughtThrough q (g := F0 m pc ls rest) rfl (Steps.refl _) (by rw [hT]; exact hcell) (by rw [hv]; rfl) (by obtain ⟨k9, h9, -⟩ := Vm.findClass_spec hcl; exact ⟨k9, h9⟩) pre x suf hsplit
    (fun z hz => by
      rcases hpass z hz with h | ⟨hz0, nm, hl1, hn1⟩
      · exact Or.inl h
      · obtain ⟨c6, hc6, hcl6⟩ := Cond.classLink_spec hown hl1 e.platform hpl
        obtain ⟨a8, b8, h1, h2, h3⟩ := hn1
        cases Option.some.inj (h1.symm.trans hcl)
        cases Option.some.inj (h2.symm.trans hc6)
        exact Or.inr ⟨hz0, _, hcl6, h3⟩) hx (Or.inr ⟨h0, c4, hcl5, hasg⟩)
  obtain ⟨t, a1, b1⟩ := kk (T.setVm vm') hT X'
  exact ⟨t, st.trans a1, b1⟩
end Rows
section Ends
variable {p : Program} {l : Launch} {e : Env} {R : Room} {s : State} {m : MethodId} {args : Array Value} {below : List Frame} {meth : Method} {c : Code} {H : Heap} {locs : List Loc} {cells slots : Nat} {Q : State → Prop}
variable {mc ms : Nat} {free : Addr → Prop} {A0 A1 : Nat → Prop} {H0 : Heap} {a : Array Value} {ls : Array Slot} {st0 rest : List Value}
variable {Qc : Array Value → State → Outcome → State → Prop} {XC : String → State → State → Prop}
/-- what a body that may throw owes at its end -/
def vx_MQ (below : List Frame) (Qc : Array Value → State → Outcome → State → Prop) (XC : String → State → State → Prop) (a : Array Value) (s : State) (mc ms : Nat) (free : Addr → Prop) : State → Prop := fun t =>
  ∃ o, t.status = .running ∧ Ended t below o ∧ vx_Q Qc XC mc ms free a s o t
theorem vx_ret {g : JFrame} {mc ms : Nat} (k : W p l e R s m args below meth c H locs cells slots (MQ below Qc args s mc ms free) g) : W p l e R s m args below meth c H locs cells slots (vx_MQ below Qc XC args s mc ms free) g := by
  intro T hT X
  obtain ⟨t, a1, o, b1, b2, b3, b4⟩ := k T hT X
  exact ⟨t, a1, o, b1, b2, Or.inl ⟨b3, b4⟩⟩
/-- not caught here: it goes on to the caller -/
theorem vx_widen {g : JFrame} {q : Addr} {k n : Nat} (h1 : cells ≤ k) (h2 : slots ≤ n) (kk : vx_W p l e R s m args below meth c H locs k n Q g q) : vx_W p l e R s m args below meth c H locs cells slots Q g q := fun T hT X => kk T hT (stand_widen X h1 h2)
theorem vx_out {pc : Nat} {E : String} {ce : Cell} {q : Addr} {mc ms : Nat} (hout : ∀ x ∈ c.exceptionTable.toList, covers x pc = false) (hlocks : meth.locks = false) (hcell : H[q]? = some ce) (hv : ce.vm = .none) (hcl : s.vm.findClass E = some ce.cls)
    (hx : ∀ t : State, t.heap = H → s.vm.Alike t.vm → XC E s t) (hf : ∀ z ∈ locs, free z.base) (hc : cells ≤ mc) (hs : slots ≤ ms) :
    vx_W p l e R s m args below meth c H locs cells slots (vx_MQ below Qc XC args s mc ms free) (F0 m pc ls rest) q := by
  intro T hT X
  obtain ⟨st1, hrun, hend, hW, hsm⟩ := X.leaveThrown q (g := F0 m pc ls rest) rfl rfl rfl hout hlocks
  have hcell9 : (T.setFrames (.throwing q :: below)).heap[q]? = some ce := by
    show T.heap[q]? = some ce
    rw [hT]; exact hcell
  exact ⟨_, st1, .threw q, hrun, hend, Or.inr ⟨q, rfl, E, ce, locs, hx _ hT hW.alike, hcell9, hv, hcl, hW, hsm.mono hc hs, hf⟩⟩
theorem vx_frame {U : State} {k n : Nat} (h : s.sameButNew ({ U with vm := s.vm } : State) locs k n) : s.heap.size ≤ U.heap.size ∧ ∀ q : Nat, q < s.heap.size → (∀ z ∈ locs, z.base ≠ q) → U.heap[q]? = s.heap[q]? := by
  obtain ⟨-, h2, -, -, -, h6⟩ := h
  refine ⟨h2, fun q hq hz => ?_⟩
  obtain ⟨c9, e1, e2, e3, e4⟩ := h6 q _ (Array.getElem?_eq_getElem hq)
  have hs : c9.slots = (s.heap[q]).slots := Array.ext_getElem? fun i => e4 i fun hm => hz _ hm rfl
  have h9 : c9 = s.heap[q] := by
    rw [hs] at e2
    exact e2
  have e5 : U.heap[q]? = some c9 := e1
  rw [e5, h9, Array.getElem?_eq_getElem hq]
/-- the words of a throw but the four that speak of the heap -/
def vx_no (w : Cond) : Bool := decide (w ≠ .isRef (.static Bundle.tN "UNASSIGNED_STACK" Bundle.steD)) && decide (w ≠ .isRef (.static Bundle.tN "SUPPRESSED_SENTINEL" Bundle.listD)) && decide (w ≠ .laysStatic Bundle.tN "UNASSIGNED_STACK" Bundle.steD) && decide (w ≠ .laysStatic Bundle.tN "SUPPRESSED_SENTINEL" Bundle.listD)
def vx_at0 (own : String) (ic : Nat) (X : String) (names : List String) : List Cond := (Bundle.ownAtoms0 own ic X names).filter vx_no
def vx_atS (own : String) (ic : Nat) (X : String) (names : List String) : List Cond := (Bundle.ownAtoms own ic X names).filter vx_no
/-- a word that the tables alone decide, or a good one -/
def vx_ot (w : Cond) : Bool := w.onTables || goodWord w
theorem vx_ot_at {args a' : Array Value} {s U : State} {w : Cond} (hW : s.WarmedH U.vm) (hvm : s.vm = U.vm) (hg : vx_ot w = true) (h : w.before args s = true) : w.before a' U = true := by
  simp only [vx_ot, Bool.or_eq_true] at hg
  rcases hg with hg | hg
  · exact va_tabs hg hvm h
  · exact word_at hW (good_of_word hg) h
/-- a list's words: the good ones out of the method's own list, the others by premises of their own -/
theorem vx_hat {args : Array Value} {s : State} {L B : List Cond} (h1 : ∀ w ∈ L.filter goodWord, w.before args s = true) (h2 : ∀ w ∈ L.filter (fun w => !goodWord w), w ∈ B) (h3 : ∀ w ∈ B, w.before args s = true) : ∀ w ∈ L, w.before args s = true := by
  intro w hw
  by_cases g : goodWord w = true
  · exact h1 w (List.mem_filter.mpr ⟨hw, g⟩)
  · refine h3 w (h2 w (List.mem_filter.mpr ⟨hw, ?_⟩))
    show (!goodWord w) = true
    cases hgw : goodWord w
    · rfl
    · exact absurd hgw g
theorem vx_c {args : Array Value} {s : State} {w : Cond} {B : List Cond} (h : w.before args s = true) (t : ∀ w ∈ B, w.before args s = true) : ∀ w' ∈ w :: B, w'.before args s = true := fun w' h' => (List.mem_cons.mp h').elim (fun e => by rw [e]; exact h) (t w')
theorem vx_n {args : Array Value} {s : State} : ∀ w ∈ ([] : List Cond), w.before args s = true := fun _ h => nomatch h
theorem vx_own {args : Array Value} {s : State} {L : List Cond} (h1 : ∀ w ∈ L.filter vx_no, w.before args s = true)
    (hU : (Cond.isRef (.static Bundle.tN "UNASSIGNED_STACK" Bundle.steD)).before args s = true) (hN : (Cond.isRef (.static Bundle.tN "SUPPRESSED_SENTINEL" Bundle.listD)).before args s = true)
    (lU : (Cond.laysStatic Bundle.tN "UNASSIGNED_STACK" Bundle.steD).before args s = true) (lN : (Cond.laysStatic Bundle.tN "SUPPRESSED_SENTINEL" Bundle.listD).before args s = true) : ∀ w ∈ L, w.before args s = true := by
  intro w hw
  by_cases e1 : w = .isRef (.static Bundle.tN "UNASSIGNED_STACK" Bundle.steD)
  · rw [e1]; exact hU
  · by_cases e2 : w = .isRef (.static Bundle.tN "SUPPRESSED_SENTINEL" Bundle.listD)
    · rw [e2]; exact hN
    · by_cases e3 : w = .laysStatic Bundle.tN "UNASSIGNED_STACK" Bundle.steD
      · rw [e3]; exact lU
      · by_cases e4 : w = .laysStatic Bundle.tN "SUPPRESSED_SENTINEL" Bundle.listD
        · rw [e4]; exact lN
        · exact h1 w (List.mem_filter.mpr ⟨hw, by unfold vx_no; rw [decide_eq_true e1, decide_eq_true e2, decide_eq_true e3, decide_eq_true e4]; rfl⟩)
/-- where a static field lies, its class's statics cell in H -/
def vx_L (C n d : String) (A : Nat → Prop) (U : State) (H : Heap) : Prop := ∃ (c : ClassId) (k : Class) (i : Nat) (f : Field) (a : Nat) (cell : Cell), U.vm.findClass C = some c ∧ U.fieldFound? C n d = some (c, k, i, f) ∧ f.isStatic = true ∧ k.statics = some a ∧ H[a]? = some cell ∧ cell.vm.isStatics = true ∧ cell.cls = c ∧ f.slot < cell.slots.size ∧ k.staticTypes[f.slot]? = some f.type ∧ ¬ A a
theorem vx_L.moved {C n d : String} {A : Nat → Prop} {u U : State} {H : Heap} (hvm : u.vm.Alike U.vm) (h : vx_L C n d A u H) : vx_L C n d A U H := by
  obtain ⟨c, k, i, f, a, cell, h1, h2, h3, h4, h5, h6, h7, h8, h9, h10⟩ := h
  obtain ⟨k', hi', he⟩ := State.fieldFound?_setVm hvm h2
  exact ⟨c, k', i, f, a, cell, by rw [hvm.findClass]; exact h1, hi', h3, by rw [he]; exact h4, h5, h6, h7, h8, by rw [he]; exact h9, h10⟩
theorem vx_L.kept {C n d : String} {A : Nat → Prop} {U : State} {H H1 : Heap} (h : vx_L C n d A U H) (hq : ∀ a : Nat, a < H.size → ¬ A a → H1[a]? = H[a]?) : vx_L C n d A U H1 := by
  obtain ⟨c, k, i, f, a, cell, h1, h2, h3, h4, h5, h6, h7, h8, h9, h10⟩ := h
  exact ⟨c, k, i, f, a, cell, h1, h2, h3, h4, by rw [hq a (Array.getElem?_eq_some_iff.mp h5).1 h10]; exact h5, h6, h7, h8, h9, h10⟩
theorem vx_L.narrow {C n d : String} {A B : Nat → Prop} {U : State} {H : Heap} (h : vx_L C n d A U H) (hAB : ∀ q, B q → A q) : vx_L C n d B U H := by
  obtain ⟨c, k, i, f, a, cell, h1, h2, h3, h4, h5, h6, h7, h8, h9, h10⟩ := h
  exact ⟨c, k, i, f, a, cell, h1, h2, h3, h4, h5, h6, h7, h8, h9, fun z => h10 (hAB _ z)⟩
theorem vx_L.word {C n d : String} {A : Nat → Prop} {s : State} {args : Array Value} (h : vx_L C n d A s s.heap) : (Cond.laysStatic C n d).before args s = true := by
  obtain ⟨c, k, i, f, a, cell, h1, h2, h3, h4, h5, h6, h7, h8, h9, -⟩ := h
  show (Cond.laysStatic C n d).holds args s none s [] = true
  exact Cond.laysStatic_of h1 h2 h3 h4 h5 h6 h7 h8 h9
/-- .. and what it holds: null or some reference -/
def vx_Zq (C n d : String) (A : Nat → Prop) (U : State) (H : Heap) : Prop := va_Zq C n d A U H ∧ vx_L C n d A U H
theorem vx_Zq.moved {C n d : String} {A : Nat → Prop} {u U : State} {H : Heap} (hvm : u.vm.Alike U.vm) (h : vx_Zq C n d A u H) : vx_Zq C n d A U H := ⟨va_Zq.moved hvm h.1, vx_L.moved hvm h.2⟩
theorem vx_Zq.kept {C n d : String} {A : Nat → Prop} {U : State} {H H1 : Heap} (h : vx_Zq C n d A U H) (hq : ∀ a : Nat, a < H.size → ¬ A a → H1[a]? = H[a]?) : vx_Zq C n d A U H1 := ⟨va_Zq.kept h.1 hq, vx_L.kept h.2 hq⟩
theorem vx_Zq.narrow {C n d : String} {A B : Nat → Prop} {U : State} {H : Heap} (h : vx_Zq C n d A U H) (hAB : ∀ q, B q → A q) : vx_Zq C n d B U H := ⟨va_Zq.narrow h.1 hAB, vx_L.narrow h.2 hAB⟩
theorem vx_Zqof {args : Array Value} {s : State} {C n d : String} {A : Nat → Prop} (hl : (Cond.laysStatic C n d).before args s = true) (hini : (Cond.initialized C).before args s = true) (h : (Cond.isRef (.static C n d)).before args s = true) (hA : ∀ a : Nat, a < s.heap.size → ¬ A a) : vx_Zq C n d A s s.heap := by
  refine ⟨va_Zqof hl hini h hA, ?_⟩
  obtain ⟨c, k, i, f, a, cell, h1, h2, h3, h4, h5, h6, h7, h8, h9⟩ := Cond.laysStatic_spec hl
  exact ⟨c, k, i, f, a, cell, h1, h2, h3, h4, h5, h6, h7, h8, h9, hA a (Array.getElem?_eq_some_iff.mp h5).1⟩
theorem vx_isRef {C n d : String} {v : Value} {A : Nat → Prop} {s : State} {args : Array Value} (h : va_Z C n d v A s s.heap) (hv : v.isRef = true) : (Cond.isRef (.static C n d)).before args s = true := by
  obtain ⟨cf, kf, fi, f, a, cell, h1, h2, h3, h4, h5, h6, h7, -⟩ := h
  have he : (Term.static C n d).eval args s none [] s = some v := by
    simp [Term.eval, State.fieldNamed?, h1, h2, h4, h5, h6, h7]
  simp only [Cond.before, Cond.holds, Cond.value, he]
  cases v <;> simp_all [Value.isRef]
theorem vx_isRefq {C n d : String} {A : Nat → Prop} {s : State} {args : Array Value} (h : va_Zq C n d A s s.heap) : (Cond.isRef (.static C n d)).before args s = true := by
  rcases h with h | ⟨t, h⟩
  · exact vx_isRef h rfl
  · exact vx_isRef h rfl
/-- the same frame, seen from here: as if the method were called anew in this heap -/
theorem vx_rebase {T : State} (X : Stand p l e R s m args below meth c T locs cells slots) {R' : Room} (hf : R'.frames ≤ R.frames) (hl : R'.locals ≤ R.locals) (hc : cells + R'.cells ≤ R.cells) (hs : slots + R'.slots ≤ R.slots) :
    Stand p l e R' ((T.setVm s.vm).setFrames (.invoking m args :: below)) m args below meth c T [] 0 0 := by
  have htop : (T.setVm s.vm).topJava?.isSome := X.here.top
  have hF : ((T.setVm s.vm).setFrames (.invoking m args :: below)).frames = .invoking m args :: below := State.frames_setFrames _ (State.cur_lt_of_top htop)
  obtain ⟨g₀, hg0⟩ := Option.isSome_iff_exists.mp htop
  obtain ⟨r, hr⟩ := State.topJava?_eq_some.mp hg0
  have hl9 : e.platform.stackLimits (T.setVm s.vm).me = e.platform.stackLimits s.me := X.limits
  have hb9 : (T.setVm s.vm).me.stackBytes = s.me.stackBytes := X.bytes
  refine ⟨X.admits, X.cas, X.clock, hF, ?_, X.hears, X.method, X.code, X.here, X.tail, X.warmed, ?_, ?_, ?_⟩
  · have h := X.room
    have hU : ((T.setVm s.vm).setFrames (.invoking m args :: below)).localsInUse = s.localsInUse := by
      rw [State.localsInUse_invoking hF (meth := meth) (c := c) X.method X.code, State.localsInUse_invoking X.frames X.method X.code]
    simp only [State.hasRoom, Bool.and_eq_true, decide_eq_true_eq] at h ⊢
    obtain ⟨⟨⟨⟨h1, h2, h3, h4, h5, h6⟩, h7⟩, h8⟩, h9⟩ := h
    rw [X.frames, List.length_cons] at h2 h3
    have q1 := X.heapSize
    have q2 := X.used
    simp only [hF, hU, List.length_cons, State.stackLimits_setFrames, State.stackBytes_setFrames, hl9, hb9]
    refine ⟨⟨⟨⟨by omega, by omega, by omega, by omega, by omega, h6⟩, ?_⟩, ?_⟩, X.book⟩
    · show T.heap.size + R'.cells ≤ e.platform.maxCells
      omega
    · show T.slotsUsed + R'.slots ≤ e.platform.maxSlots
      omega
  · rw [State.stackLimits_setFrames]; rfl
  · rw [State.stackBytes_setFrames]; rfl
  · refine ⟨?_, Nat.le_refl _, Nat.le_refl _, ?_, ?_, fun a c9 h9 => ⟨c9, h9, rfl, rfl, fun _ _ => rfl⟩⟩
    · obtain ⟨t, ht, -⟩ := State.frames_cons hr
      show T.setVm s.vm = { ((T.setVm s.vm).setFrames (.invoking m args :: below)).setFrames (T.setVm s.vm).frames with heap := T.heap, slotsUsed := T.slotsUsed }
      rw [State.setFrames_setFrames, State.setFrames_self ht]
      rfl
    · show T.slotsUsed = T.slotsUsed + ((T.heap.toList.drop T.heap.size).map (·.slots.size)).sum
      rw [List.drop_eq_nil_of_le (Nat.le_of_eq Array.length_toList)]
      rfl
    · show ((T.heap.toList.drop T.heap.size).map (·.slots.size)).sum ≤ 0
      rw [List.drop_eq_nil_of_le (Nat.le_of_eq Array.length_toList)]
      exact Nat.le_refl _
/-- 'throw new E()': new; dup; invokespecial; athrow -/
theorem vx_throw0 {cc : ByteArray} {pc : Nat} (hexec : p.tables.exec = Jvm.exec) (hb : c.code = cc) (hl : l.stackTraces = false) {own cls : String} {names : List String} {ik ic mc ms : Nat} {A : Nat → Prop}
    (hown : s.vm.findClass own = some m.cls) (hcls : Bundle.fit cls = true) (hnames : ∀ n ∈ names, Bundle.fit n = true)
    (hk : (Cond.classLink own ik cls).before args s = true) (hini : (Cond.initialized cls).before args s = true) (hat : ∀ w ∈ vx_at0 own ic cls names, w.before args s = true)
    (hgood : ∀ w ∈ Cond.classLink own ik cls :: Cond.initialized cls :: vx_at0 own ic cls names, vx_ot w = true)
    (hU : vx_Zq Bundle.tN "UNASSIGNED_STACK" Bundle.steD A s s.heap) (hN : vx_Zq Bundle.tN "SUPPRESSED_SENTINEL" Bundle.listD A s s.heap) (hS : va_S A s.heap H locs) (hsize : ls.size = c.maxLocals)
    (d0 : decode cc pc = .ok (.new ik, 3)) (d3 : decode cc (pc + 3) = .ok (.dup, 1)) (d4 : decode cc (pc + 4) = .ok (.invokespecial ic, 3)) (d7 : decode cc (pc + 7) = .ok (.athrow, 1))
    (hout : ∀ x ∈ c.exceptionTable.toList, covers x (pc + 7) = false)
    (hRframes : names.length + 3 < R.frames) (hRlocals : (rest.map fun v => v.category).sum + (13 * (names.length + 1) + 42) ≤ R.locals) (hRcells : cells + 1 ≤ R.cells) (hRslots : slots + 6 ≤ R.slots) (hlocks : meth.locks = false)
    (hx : ∀ t : State, s.vm.Alike t.vm → H.size ≤ t.heap.size → (∀ q : Nat, q < H.size → t.heap[q]? = H[q]?) → XC cls s t)
    (hf : ∀ z ∈ locs, free z.base) (hc : cells + 1 ≤ mc) (hs : slots + 6 ≤ ms) :
    W p l e R s m args below meth c H locs cells slots (vx_MQ below Qc XC args s mc ms free) (F0 m pc ls rest) := by
  intro T hT X
  have htr : e.platform.stackTraces = false := (show e.platform.stackTraces = l.stackTraces by rw [X.admits.platform]).trans hl
  have Y := vx_rebase X (R' := { frames := R.frames, locals := R.locals, cells := 1, slots := 6 }) (Nat.le_refl _) (Nat.le_refl _) hRcells hRslots
  obtain ⟨s', hA⟩ : ∃ z, z = (T.setVm s.vm).setFrames (.invoking m args :: below) := ⟨_, rfl⟩
  rw [← hA] at Y
  have hvm : s'.vm = s.vm := by rw [hA]; rfl
  have hhp : s'.heap = H := by rw [hA]; exact hT
  have hW0 : s.WarmedH s'.vm := by rw [hvm]; exact State.WarmedH.refl s
  have hat' : ∀ w ∈ vx_at0 own ic cls names, w.before args s' = true := fun w hw => vx_ot_at hW0 hvm.symm (hgood w (List.mem_cons_of_mem _ (List.mem_cons_of_mem _ hw))) (hat w hw)
  have hk' : (Cond.classLink own ik cls).before args s' = true := vx_ot_at hW0 hvm.symm (hgood _ List.mem_cons_self) hk
  have hini' : (Cond.initialized cls).before args s' = true := vx_ot_at hW0 hvm.symm (hgood _ (List.mem_cons_of_mem _ List.mem_cons_self)) hini
  have hU' : vx_Zq Bundle.tN "UNASSIGNED_STACK" Bundle.steD A s' s'.heap := by rw [hhp]; exact vx_Zq.moved hW0.alike (hU.kept hS.2.1)
  have hN' : vx_Zq Bundle.tN "SUPPRESSED_SENTINEL" Bundle.listD A s' s'.heap := by rw [hhp]; exact vx_Zq.moved hW0.alike (hN.kept hS.2.1)
  have h : ∀ w ∈ Bundle.ownAtoms0 own ic cls names, w.before args s' = true := vx_own hat' (vx_isRefq hU'.1) (vx_isRefq hN'.1) hU'.2.word hN'.2.word
  have hown' : s'.vm.findClass own = some m.cls := by rw [hvm]; exact hown
  have hins : (Cond.instantiable cls 6).before args s' = true := h _ (by simp [Bundle.ownAtoms0])
  obtain ⟨vm₁, cX, kX, hfX, hkX, -, -, X₁, st1⟩ := Y.newCold hexec (own := own) (C := cls) (index := ik) (n := 6) hown' hk' hins hini'
    (g := F0 m pc ls rest) rfl (by rw [hb]; exact d0) (Nat.le_refl _) (Nat.le_refl _)
  generalize hT1 : (T.setVm vm₁).pushCell { cls := cX, slots := kX.instanceTypes.map defaultValue, vm := .none } = T1 at X₁ st1
  have hcat : (Value.ref T.heap.size).category = 1 := rfl
  have hcellA : T1.heap[T.heap.size]? = some (freshCell cX kX) := by rw [← hT1]; exact State.heap_pushCell_size _ _
  have d3' : decode c.code (pc + 3) = .ok (.dup, 1) := by rw [hb]; exact d3
  obtain ⟨U, hsteps, hrun, hend, hW, hsame, ce, hce, hO⟩ := X₁.ctorThrow0 hexec htr (own := own) (cls := cls) (names := names) (ic := ic) hown' hcls hnames h (fun x hx => nomatch hx) hfX hkX hcellA (by rw [hhp, hT]; exact Nat.le_refl _)
    (g := { method := m, pc := pc + 4, locals := ls, stack := .ref T.heap.size :: .ref T.heap.size :: rest, locked := none }) rfl hsize rfl rfl (rest := rest) rfl
    (by rw [hb]; exact d4) (by rw [hb]; exact d7) hout hRframes (by simp only [List.map_cons, List.sum_cons, hcat]; omega) hlocks
  obtain ⟨f1, f2⟩ := vx_frame hsame
  rw [hhp] at f1 f2
  have hWs : s.WarmedH U.vm := State.WarmedH.trans hW0 hW
  have hcl : s.vm.findClass cls = some ce.cls := by
    have h9 := hO.cls
    rw [hvm] at h9
    exact h9
  have hall : s.sameButNew ({ U with vm := s.vm } : State) locs mc ms := by
    subst hA
    obtain ⟨e1, e2⟩ := hsame
    rw [State.setFrames_setFrames] at e1
    have h2 : (T.setVm s.vm).sameButNew ({ U with vm := s.vm } : State) [] (0 + 1) (0 + 6) := ⟨e1, e2⟩
    have h3 := X.same.trans h2
    rw [List.append_nil] at h3
    exact h3.mono hc hs
  refine ⟨U, ?_, .threw T.heap.size, hrun, hend, Or.inr ⟨T.heap.size, rfl, cls, ce, locs, hx U hWs.alike f1 (fun q hq => f2 q hq (fun z hz => nomatch hz)), hce, hO.vm, hcl, hWs, hall, hf⟩⟩
  refine st1 _ ?_
  show Steps p.tables e below (T1.setTop { method := m, pc := pc + 3, locals := ls, stack := .ref T.heap.size :: rest, locked := none }) _
  jvm_step X₁.here [X₁.here.top, hexec, d3', Value.category]
  exact hsteps
/-- 'throw new E("text")': new; dup; ldc; invokespecial; athrow -/
theorem vx_throwS {cc : ByteArray} {pc : Nat} (hexec : p.tables.exec = Jvm.exec) (hb : c.code = cc) (hl : l.stackTraces = false) {own cls text : String} {names : List String} {ik is ic mc ms sa : Nat} {A : Nat → Prop}
    (hown : s.vm.findClass own = some m.cls) (hcls : Bundle.fit cls = true) (hnames : ∀ n ∈ names, Bundle.fit n = true)
    (hk : (Cond.classLink own ik cls).before args s = true) (hini : (Cond.initialized cls).before args s = true) (hstr : vk_R own is text sa s) (hat : ∀ w ∈ vx_atS own ic cls names, w.before args s = true)
    (hgood : ∀ w ∈ Cond.classLink own ik cls :: Cond.initialized cls :: vx_atS own ic cls names, vx_ot w = true)
    (hU : vx_Zq Bundle.tN "UNASSIGNED_STACK" Bundle.steD A s s.heap) (hN : vx_Zq Bundle.tN "SUPPRESSED_SENTINEL" Bundle.listD A s s.heap) (hS : va_S A s.heap H locs) (hsize : ls.size = c.maxLocals)
    (d0 : decode cc pc = .ok (.new ik, 3)) (d3 : decode cc (pc + 3) = .ok (.dup, 1)) (d4 : decode cc (pc + 4) = .ok (.ldc is, 2)) (d6 : decode cc (pc + 6) = .ok (.invokespecial ic, 3)) (d9 : decode cc (pc + 9) = .ok (.athrow, 1))
    (hout : ∀ x ∈ c.exceptionTable.toList, covers x (pc + 9) = false)
    (hRframes : names.length + 3 < R.frames) (hRlocals : (rest.map fun v => v.category).sum + (13 * (names.length + 1) + 43) ≤ R.locals) (hRcells : cells + 1 ≤ R.cells) (hRslots : slots + 6 ≤ R.slots) (hlocks : meth.locks = false)
    (hx : ∀ t : State, s.vm.Alike t.vm → H.size ≤ t.heap.size → (∀ q : Nat, q < H.size → t.heap[q]? = H[q]?) → XC cls s t)
    (hf : ∀ z ∈ locs, free z.base) (hc : cells + 1 ≤ mc) (hs : slots + 6 ≤ ms) :
    W p l e R s m args below meth c H locs cells slots (vx_MQ below Qc XC args s mc ms free) (F0 m pc ls rest) := by
  intro T hT X
  have htr : e.platform.stackTraces = false := (show e.platform.stackTraces = l.stackTraces by rw [X.admits.platform]).trans hl
  have Y := vx_rebase X (R' := { frames := R.frames, locals := R.locals, cells := 1, slots := 6 }) (Nat.le_refl _) (Nat.le_refl _) hRcells hRslots
  obtain ⟨s', hA⟩ : ∃ z, z = (T.setVm s.vm).setFrames (.invoking m args :: below) := ⟨_, rfl⟩
  rw [← hA] at Y
  have hvm : s'.vm = s.vm := by rw [hA]; rfl
  have hhp : s'.heap = H := by rw [hA]; exact hT
  have hW0 : s.WarmedH s'.vm := by rw [hvm]; exact State.WarmedH.refl s
  have hat' : ∀ w ∈ vx_atS own ic cls names, w.before args s' = true := fun w hw => vx_ot_at hW0 hvm.symm (hgood w (List.mem_cons_of_mem _ (List.mem_cons_of_mem _ hw))) (hat w hw)
  have hk' : (Cond.classLink own ik cls).before args s' = true := vx_ot_at hW0 hvm.symm (hgood _ List.mem_cons_self) hk
  have hini' : (Cond.initialized cls).before args s' = true := vx_ot_at hW0 hvm.symm (hgood _ (List.mem_cons_of_mem _ List.mem_cons_self)) hini
  have hU' : vx_Zq Bundle.tN "UNASSIGNED_STACK" Bundle.steD A s' s'.heap := by rw [hhp]; exact vx_Zq.moved hW0.alike (hU.kept hS.2.1)
  have hN' : vx_Zq Bundle.tN "SUPPRESSED_SENTINEL" Bundle.listD A s' s'.heap := by rw [hhp]; exact vx_Zq.moved hW0.alike (hN.kept hS.2.1)
  have h : ∀ w ∈ Bundle.ownAtoms own ic cls names, w.before args s' = true := vx_own hat' (vx_isRefq hU'.1) (vx_isRefq hN'.1) hU'.2.word hN'.2.word
  have hown' : s'.vm.findClass own = some m.cls := by rw [hvm]; exact hown
  have hins : (Cond.instantiable cls 6).before args s' = true := h _ (by simp [Bundle.ownAtoms])
  obtain ⟨vm₁, cX, kX, hfX, hkX, -, -, X₁, st1⟩ := Y.newCold hexec (own := own) (C := cls) (index := ik) (n := 6) hown' hk' hins hini'
    (g := F0 m pc ls rest) rfl (by rw [hb]; exact d0) (Nat.le_refl _) (Nat.le_refl _)
  generalize hT1 : (T.setVm vm₁).pushCell { cls := cX, slots := kX.instanceTypes.map defaultValue, vm := .none } = T1 at X₁ st1
  have hcat : (Value.ref T.heap.size).category = 1 := rfl
  have hcellA : T1.heap[T.heap.size]? = some (freshCell cX kX) := by rw [← hT1]; exact State.heap_pushCell_size _ _
  have d3' : decode c.code (pc + 3) = .ok (.dup, 1) := by rw [hb]; exact d3
  have d4' : decode c.code (pc + 4) = .ok (.ldc is, 2) := by rw [hb]; exact d4
  have hstr' : vk_R own is text sa s' := vk_R.warm hW0 hstr
  obtain ⟨U, hsteps, hrun, hend, hW, hsame, ce, hce, hO⟩ := X₁.ctorThrowS hexec htr (own := own) (cls := cls) (names := names) (ic := ic) hown' hcls hnames h (fun x hx => nomatch hx) hfX hkX hcellA (by rw [hhp, hT]; exact Nat.le_refl _) (msg := .ref sa) rfl
    (g := { method := m, pc := pc + 6, locals := ls, stack := .ref sa :: .ref T.heap.size :: .ref T.heap.size :: rest, locked := none }) rfl hsize rfl rfl (rest := rest) rfl
    (by rw [hb]; exact d6) (by rw [hb]; exact d9) hout hRframes (by simp only [List.map_cons, List.sum_cons, hcat]; omega) hlocks
  obtain ⟨f1, f2⟩ := vx_frame hsame
  rw [hhp] at f1 f2
  have hWs : s.WarmedH U.vm := State.WarmedH.trans hW0 hW
  have hcl : s.vm.findClass cls = some ce.cls := by
    have h9 := hO.cls
    rw [hvm] at h9
    exact h9
  have hall : s.sameButNew ({ U with vm := s.vm } : State) locs mc ms := by
    subst hA
    obtain ⟨e1, e2⟩ := hsame
    rw [State.setFrames_setFrames] at e1
    have h2 : (T.setVm s.vm).sameButNew ({ U with vm := s.vm } : State) [] (0 + 1) (0 + 6) := ⟨e1, e2⟩
    have h3 := X.same.trans h2
    rw [List.append_nil] at h3
    exact h3.mono hc hs
  refine ⟨U, ?_, .threw T.heap.size, hrun, hend, Or.inr ⟨T.heap.size, rfl, cls, ce, locs, hx U hWs.alike f1 (fun q hq => f2 q hq (fun z hz => nomatch hz)), hce, hO.vm, hcl, hWs, hall, hf⟩⟩
  refine st1 _ ?_
  show Steps p.tables e below (T1.setTop { method := m, pc := pc + 3, locals := ls, stack := .ref T.heap.size :: rest, locked := none }) _
  jvm_step X₁.here [X₁.here.top, hexec, d3', Value.category]
  exact X₁.ldcString hexec (own := own) (text := text) (index := is) (a := sa) hown' hstr'.1 hstr'.2
    (g := { method := m, pc := pc + 4, locals := ls, stack := .ref T.heap.size :: .ref T.heap.size :: rest, locked := none }) rfl d4' _ hsteps
/-- 'throw new E("text")', the text by a wide index -/
theorem vx_throwSW {cc : ByteArray} {pc : Nat} (hexec : p.tables.exec = Jvm.exec) (hb : c.code = cc) (hl : l.stackTraces = false) {own cls text : String} {names : List String} {ik is ic mc ms sa : Nat} {A : Nat → Prop}
    (hown : s.vm.findClass own = some m.cls) (hcls : Bundle.fit cls = true) (hnames : ∀ n ∈ names, Bundle.fit n = true)
    (hk : (Cond.classLink own ik cls).before args s = true) (hini : (Cond.initialized cls).before args s = true) (hstr : vk_R own is text sa s) (hat : ∀ w ∈ vx_atS own ic cls names, w.before args s = true)
    (hgood : ∀ w ∈ Cond.classLink own ik cls :: Cond.initialized cls :: vx_atS own ic cls names, vx_ot w = true)
    (hU : vx_Zq Bundle.tN "UNASSIGNED_STACK" Bundle.steD A s s.heap) (hN : vx_Zq Bundle.tN "SUPPRESSED_SENTINEL" Bundle.listD A s s.heap) (hS : va_S A s.heap H locs) (hsize : ls.size = c.maxLocals)
    (d0 : decode cc pc = .ok (.new ik, 3)) (d3 : decode cc (pc + 3) = .ok (.dup, 1)) (d4 : decode cc (pc + 4) = .ok (.ldc_w is, 3)) (d7 : decode cc (pc + 7) = .ok (.invokespecial ic, 3)) (d10 : decode cc (pc + 10) = .ok (.athrow, 1))
    (hout : ∀ x ∈ c.exceptionTable.toList, covers x (pc + 10) = false)
    (hRframes : names.length + 3 < R.frames) (hRlocals : (rest.map fun v => v.category).sum + (13 * (names.length + 1) + 43) ≤ R.locals) (hRcells : cells + 1 ≤ R.cells) (hRslots : slots + 6 ≤ R.slots) (hlocks : meth.locks = false)
    (hx : ∀ t : State, s.vm.Alike t.vm → H.size ≤ t.heap.size → (∀ q : Nat, q < H.size → t.heap[q]? = H[q]?) → XC cls s t)
    (hf : ∀ z ∈ locs, free z.base) (hc : cells + 1 ≤ mc) (hs : slots + 6 ≤ ms) :
    W p l e R s m args below meth c H locs cells slots (vx_MQ below Qc XC args s mc ms free) (F0 m pc ls rest) := by
  intro T hT X
  have htr : e.platform.stackTraces = false := (show e.platform.stackTraces = l.stackTraces by rw [X.admits.platform]).trans hl
  have Y := vx_rebase X (R' := { frames := R.frames, locals := R.locals, cells := 1, slots := 6 }) (Nat.le_refl _) (Nat.le_refl _) hRcells hRslots
  obtain ⟨s', hA⟩ : ∃ z, z = (T.setVm s.vm).setFrames (.invoking m args :: below) := ⟨_, rfl⟩
  rw [← hA] at Y
  have hvm : s'.vm = s.vm := by rw [hA]; rfl
  have hhp : s'.heap = H := by rw [hA]; exact hT
  have hW0 : s.WarmedH s'.vm := by rw [hvm]; exact State.WarmedH.refl s
  have hat' : ∀ w ∈ vx_atS own ic cls names, w.before args s' = true := fun w hw => vx_ot_at hW0 hvm.symm (hgood w (List.mem_cons_of_mem _ (List.mem_cons_of_mem _ hw))) (hat w hw)
  have hk' : (Cond.classLink own ik cls).before args s' = true := vx_ot_at hW0 hvm.symm (hgood _ List.mem_cons_self) hk
  have hini' : (Cond.initialized cls).before args s' = true := vx_ot_at hW0 hvm.symm (hgood _ (List.mem_cons_of_mem _ List.mem_cons_self)) hini
  have hU' : vx_Zq Bundle.tN "UNASSIGNED_STACK" Bundle.steD A s' s'.heap := by rw [hhp]; exact vx_Zq.moved hW0.alike (hU.kept hS.2.1)
  have hN' : vx_Zq Bundle.tN "SUPPRESSED_SENTINEL" Bundle.listD A s' s'.heap := by rw [hhp]; exact vx_Zq.moved hW0.alike (hN.kept hS.2.1)
  have h : ∀ w ∈ Bundle.ownAtoms own ic cls names, w.before args s' = true := vx_own hat' (vx_isRefq hU'.1) (vx_isRefq hN'.1) hU'.2.word hN'.2.word
  have hown' : s'.vm.findClass own = some m.cls := by rw [hvm]; exact hown
  have hins : (Cond.instantiable cls 6).before args s' = true := h _ (by simp [Bundle.ownAtoms])
  obtain ⟨vm₁, cX, kX, hfX, hkX, -, -, X₁, st1⟩ := Y.newCold hexec (own := own) (C := cls) (index := ik) (n := 6) hown' hk' hins hini'
    (g := F0 m pc ls rest) rfl (by rw [hb]; exact d0) (Nat.le_refl _) (Nat.le_refl _)
  generalize hT1 : (T.setVm vm₁).pushCell { cls := cX, slots := kX.instanceTypes.map defaultValue, vm := .none } = T1 at X₁ st1
  have hcat : (Value.ref T.heap.size).category = 1 := rfl
  have hcellA : T1.heap[T.heap.size]? = some (freshCell cX kX) := by rw [← hT1]; exact State.heap_pushCell_size _ _
  have d3' : decode c.code (pc + 3) = .ok (.dup, 1) := by rw [hb]; exact d3
  have d4' : decode c.code (pc + 4) = .ok (.ldc_w is, 3) := by rw [hb]; exact d4
  have hstr' : vk_R own is text sa s' := vk_R.warm hW0 hstr
  obtain ⟨U, hsteps, hrun, hend, hW, hsame, ce, hce, hO⟩ := X₁.ctorThrowS hexec htr (own := own) (cls := cls) (names := names) (ic := ic) hown' hcls hnames h (fun x hx => nomatch hx) hfX hkX hcellA (by rw [hhp, hT]; exact Nat.le_refl _) (msg := .ref sa) rfl
    (g := { method := m, pc := pc + 7, locals := ls, stack := .ref sa :: .ref T.heap.size :: .ref T.heap.size :: rest, locked := none }) rfl hsize rfl rfl (rest := rest) rfl
    (by rw [hb]; exact d7) (by rw [hb]; exact d10) hout hRframes (by simp only [List.map_cons, List.sum_cons, hcat]; omega) hlocks
  obtain ⟨f1, f2⟩ := vx_frame hsame
  rw [hhp] at f1 f2
  have hWs : s.WarmedH U.vm := State.WarmedH.trans hW0 hW
  have hcl : s.vm.findClass cls = some ce.cls := by
    have h9 := hO.cls
    rw [hvm] at h9
    exact h9
  have hall : s.sameButNew ({ U with vm := s.vm } : State) locs mc ms := by
    subst hA
    obtain ⟨e1, e2⟩ := hsame
    rw [State.setFrames_setFrames] at e1
    have h2 : (T.setVm s.vm).sameButNew ({ U with vm := s.vm } : State) [] (0 + 1) (0 + 6) := ⟨e1, e2⟩
    have h3 := X.same.trans h2
    rw [List.append_nil] at h3
    exact h3.mono hc hs
  refine ⟨U, ?_, .threw T.heap.size, hrun, hend, Or.inr ⟨T.heap.size, rfl, cls, ce, locs, hx U hWs.alike f1 (fun q hq => f2 q hq (fun z hz => nomatch hz)), hce, hO.vm, hcl, hWs, hall, hf⟩⟩
  refine st1 _ ?_
  show Steps p.tables e below (T1.setTop { method := m, pc := pc + 3, locals := ls, stack := .ref T.heap.size :: rest, locked := none }) _
  jvm_step X₁.here [X₁.here.top, hexec, d3', Value.category]
  exact X₁.ldcStringW hexec (own := own) (text := text) (index := is) (a := sa) hown' hstr'.1 hstr'.2
    (g := { method := m, pc := pc + 4, locals := ls, stack := .ref T.heap.size :: .ref T.heap.size :: rest, locked := none }) rfl d4' _ hsteps
end Ends
section Bodies
variable {l : Launch}
theorem vx_ofW {y : MethodName} {ws ws' : List Cond} {rm : Room} {Pc : Array Value → State → Prop} {Qc : Array Value → State → Outcome → State → Prop} {XC : String → State → State → Prop} {mc ms : Nat} {free : Addr → Prop} {cc : ByteArray} {maxL : Nat} {ret : Option FieldType}
    (hy : plainName y.cls = true) (hw : ws = Cond.code y cc maxL ret :: ws')
    (body : ∀ p e s m args below meth c s₁, BodyLoose p l y (headSpec ws rm) cc maxL ret e s m args below meth c s₁ → c.maxLocals = maxL → (∀ x ∈ c.exceptionTable.toList, False) → Pc args s →
      W p l e (headSpec ws rm).room s m args below meth c s.heap [] 0 0 (vx_MQ below Qc XC args s mc ms free) (entryFrame m args maxL)) : vx_Met l y ws rm Pc Qc XC mc ms free := by
  refine MetFree.of_bodyS (code := cc) (maxLocals := maxL) (ret := ret) hy ?_ ?_
  · intro args s m h hn
    obtain ⟨meth, c, h1, h2, h3, h4, h5, h6, -, -⟩ := Cond.code_spec hn (atoms_spec (ws := ws) h _ (by rw [hw]; exact List.mem_cons_self))
    exact ⟨meth, c, h1, h2, h3, h4, h5, h6⟩
  · intro p e s m args below meth c s₁ B hml hP _
    have hh0 : s₁.heap = s.heap := by rw [B.state]; rfl
    have ht : ∀ x ∈ c.exceptionTable.toList, False := by
      obtain ⟨meth9, c9, h1, h2, -, -, -, -, h7, -⟩ := Cond.code_spec B.named (atoms_spec (ws := ws) B.pre _ (by rw [hw]; exact List.mem_cons_self))
      cases Option.some.inj (h1.symm.trans B.method)
      cases Option.some.inj (h2.symm.trans (Stand.of_body B).code)
      intro x hx
      rw [Array.isEmpty_iff.mp h7] at hx
      cases hx
    obtain ⟨t, a1, o, b1, b2, b3⟩ := body p e s m args below meth c s₁ B hml ht hP s₁ hh0 (Stand.of_body B)
    exact ⟨t, o, a1, b1, b2, b3⟩
/-- the table of a body with handlers -/
theorem vx_table {p : Program} {x y : MethodName} {S : Spec} {cc bytes : ByteArray} {maxL maxL' : Nat} {ret ret' : Option FieldType} {e : Env} {s s₁ : State} {m : MethodId} {args : Array Value} {below : List Frame} {meth : Method} {c : Code} {hh : List (Nat × Nat × Nat × Nat)}
    (B : BodyLoose p l y S cc maxL ret e s m args below meth c s₁) (h : (Cond.codeWith y bytes maxL' ret' hh).before args s = true) : c.exceptionTable.toList = tableOf hh := by
  obtain ⟨m9, meth9, c9, hn9, h1, h2, -, -, h6, -⟩ := Cond.codeWith_spec h
  cases Option.some.inj (hn9.symm.trans B.named)
  cases Option.some.inj (h1.symm.trans B.method)
  cases Option.some.inj (h2.symm.trans (Stand.of_body B).code)
  rw [← h6, table_eq]
end Bodies
end VXA
/-! ===== END ===== -/
/-! ===== BEGIN a static call of a method with an exception table ===== -/
section VXS
variable {p : Program} {l : Launch} {e : Env} {R : Room} {s : State} {m : MethodId} {args : Array Value} {below : List Frame} {meth : Method} {c : Code} {T : State} {H : Heap} {locs : List Loc} {cells slots : Nat}
abbrev vx_CSW (R : Room) (s : State) (args : Array Value) (own : String) (index : Nat) (y : MethodName) (bytes : ByteArray) (maxL : Nat) (ret : Option FieldType) (hh : List (Nat × Nat × Nat × Nat)) (ws : List Cond) (rm : Room) (mc ms n : Nat) : Prop :=
  (rm.cells = mc ∧ rm.slots = ms ∧ rm.frames + 1 ≤ R.frames ∧ 8 + (maxL + 11) + rm.locals ≤ R.locals ∧ (∀ w ∈ ws, ∀ (a' : Array Value) (U : State), s.WarmedH U.vm → w.before a' U = true) ∧ Cond.codeWith y bytes maxL ret hh ∈ ws) ∧
  (Cond.codeWith y bytes maxL ret hh).before args s = true ∧ (Cond.initialized y.cls).before args s = true ∧ (y.cls ≠ "java/lang/invoke/MethodHandle" ∧ y.cls ≠ "java/lang/invoke/VarHandle") ∧
  (∀ sig, parseMethodDescriptor y.desc = some sig → n = sig.parameters.length) ∧ (Cond.methodLink own index y).before args s = true ∧ (Cond.static y).before args s = true
theorem vx_cwSW {own : String} {index maxL mc ms : Nat} {y : MethodName} {bytes : ByteArray} {ret : Option FieldType} {hh : List (Nat × Nat × Nat × Nat)} {Ts ws ws' : List Cond} {rm : Room} (n : Nat) (ht : ∀ w ∈ Ts, w.before args s = true) (hT : GoodIn Ts (va_wsS own index y ws)) (hw : ws = Cond.codeWith y bytes maxL ret hh :: ws') (hrc : rm.cells = mc) (hrs : rm.slots = ms)
    (hd : y.cls ≠ "java/lang/invoke/MethodHandle" ∧ y.cls ≠ "java/lang/invoke/VarHandle" ∧ (parseMethodDescriptor y.desc).map (fun d => d.parameters.length) = some n) (hR : rm.frames + 1 ≤ R.frames ∧ 8 + (maxL + 11) + rm.locals ≤ R.locals) :
    vx_CSW R s args own index y bytes maxL ret hh ws rm mc ms n := by
  have ok : ∀ w ∈ va_wsS own index y ws, w.before args s = true := fun w h => ht w (hT w h).1
  have hG : GoodIn Ts ws := fun w h => hT w (by unfold va_wsS; exact List.mem_append_right _ h)
  have hc : Cond.codeWith y bytes maxL ret hh ∈ ws := by rw [hw]; exact List.mem_cons_self
  refine ⟨⟨hrc, hrs, hR.1, hR.2, pay_in ht hG, hc⟩, ht _ (hG _ hc).1, ok _ (by simp [va_wsS]), ⟨hd.1, hd.2.1⟩, fun sig h => ?_, ok _ (by simp [va_wsS]), ok _ (by simp [va_wsS])⟩
  have h2 := hd.2.2
  rw [h] at h2
  exact (Option.some.inj h2).symm
theorem vx_callSW (X : Stand p l e R s m args below meth c T locs cells slots) (hexec : p.tables.exec = Jvm.exec) {own : String} {index : Nat} {y : MethodName} {bytes : ByteArray} {maxL : Nat} {ret : Option FieldType} {hh : List (Nat × Nat × Nat × Nat)}
    (hown : s.vm.findClass own = some m.cls) (hlink : (Cond.methodLink own index y).before args s = true) (hstat : (Cond.static y).before args s = true) (hinit : (Cond.initialized y.cls).before args s = true)
    (hcode : (Cond.codeWith y bytes maxL ret hh).before args s = true) (hy : y.cls ≠ "java/lang/invoke/MethodHandle" ∧ y.cls ≠ "java/lang/invoke/VarHandle")
    {W9 : Nat} {Pre : Pt → Array Value → Prop} {Post : Pt → Array Value → Option Value → Pt → Prop} (hK : Back l R p e below s args y 3 W9 Pre Post)
    {g : JFrame} (hg : g.method = m) (hsize : g.locals.size = c.maxLocals) {argsL rest : List Value} (hlen : ∀ sig, parseMethodDescriptor y.desc = some sig → argsL.length = sig.parameters.length)
    (hstack : g.stack = argsL.reverse ++ rest) (hW : 2 * g.monitorRoom + (rest.map fun v => v.category).sum ≤ W9) (hdg : decode c.code g.pc = .ok (.invokestatic index, 3))
    (hpre : ∀ vm₁, s.WarmedH vm₁ → Pre ⟨T.setVm vm₁, locs, cells, slots⟩ argsL.toArray) :
    ∃ (v : Option Value) (vm₁ : Vm) (B : Pt), s.WarmedH vm₁ ∧ Stand p l e R s m args below meth c B.U B.locs B.cells B.slots ∧ Post ⟨T.setVm vm₁, locs, cells, slots⟩ argsL.toArray v B ∧
      ∀ target, Steps p.tables e below (B.U.setTop { g with pc := g.pc + 3, stack := v.toList ++ rest }) target → Steps p.tables e below (T.setTop g) target := by
  obtain ⟨mk, methM, cM, hnamed, hmethM, -, -, -, -, -, -, hsigM⟩ := Cond.codeWith_spec hcode
  have hstatic : methM.isStatic = true := Cond.static_spec hnamed hmethM hstat
  obtain ⟨kP, hkP, -⟩ := className_of_methodNamed hnamed
  have hinitP : kP.init = .initialized := Cond.initialized_spec (findClass_of_methodNamed hnamed) hkP hinit
  obtain ⟨vm₁, X₁, hstep₁⟩ := X.invokestatic hexec hown hlink hnamed hmethM hstatic hkP hinitP hy (g := g) hg (argsL := argsL) (rest := rest) (hlen _ hsigM) hstack hdg
  obtain ⟨v, B, X', hpost, hsteps⟩ := hK m meth c ⟨T.setVm vm₁, locs, cells, slots⟩ { g with stack := rest } (.invokestatic index) mk argsL.toArray X₁ hg hsize hdg hW (X₁.named hnamed) (hpre vm₁ X₁.warmed)
  exact ⟨v, vm₁, B, X₁.warmed, X', hpost, fun target h => hstep₁ _ fun acts => by rw [doInvoke_state]; exact hsteps.trans h⟩
theorem vx_runSW {y : MethodName} {bytes cc : ByteArray} {maxL nL mc ms n index : Nat} {ret : Option FieldType} {hh : List (Nat × Nat × Nat × Nat)} {ws : List Cond} {rm : Room} {Pc : Array Value → State → Prop} {Qc : Array Value → State → Outcome → State → Prop} {free : Addr → Prop} {Ts : List Cond} {own : String} {As rest : List Value} {g : JFrame}
    (S : CallFix p m c cc nL s args Ts own) (hM : Met l y ws rm Pc Qc mc ms free) (cw : vx_CSW R s args own index y bytes maxL ret hh ws rm mc ms n) (hp : PreS s H Pc As)
    (hg : g.method = m) (hn : As.length = n) (hsize : g.locals.size = nL) (hstack : g.stack = As.reverse ++ rest) (hW : 2 * g.monitorRoom + (rest.map fun v => v.category).sum ≤ 8) (hdg : decode cc g.pc = .ok (.invokestatic index, 3)) (hf : cells + mc ≤ R.cells ∧ slots + ms ≤ R.slots) :
    va_Run p l e R s m args below meth c H locs cells slots mc ms g rest (Qc As.toArray) (free) := by
  obtain ⟨⟨hrc, hrs, hfr, hlo, hws, hcw⟩, hcode, hini, hy, hlen, hl, hstt⟩ := cw
  have hK : Back l R p e below s args y 3 8 (PreOf R mc ms Pc) (PostOf Qc mc ms free) := va_backW (hh := hh) (bytes := bytes) (maxL := maxL) (ret := ret) hM hp.1 hrc hrs hfr hlo hws hcw (fun a' U hW => word_at hW (Or.inl (by first | rfl | simp [Cond.onTables, Cond.keeps, Cond.steady])) hini)
  obtain ⟨hx, hb, hml, ho, -⟩ := S
  intro T hT X
  obtain ⟨v, vm₁, ⟨U', l2, c2, s2⟩, hW₁, X', ⟨g', mk, t, L, e1, e2, hq, h1, hL, h2, h3⟩, st⟩ := vx_callSW X hx (hh := hh) (bytes := bytes) (maxL := maxL) (ret := ret) ho hl hstt hini hcode hy hK hg (hsize.trans hml.symm) (argsL := As) (rest := rest) (fun sig h => hn.trans (hlen sig h)) hstack hW (by rw [hb]; exact hdg)
    (fun vm₁ hW₁ => ⟨hf.1, hf.2, hp.2 (T.setVm vm₁) hT hW₁⟩)
  dsimp only [Pt.U, Pt.locs, Pt.cells, Pt.slots] at X' e1 e2 h1 h2 h3 st
  subst h1; subst h2; subst h3
  exact ⟨v, (T.setVm vm₁).calling g' mk As.toArray, t, U', L, hT, X', hL, e1, e2, hq, st⟩
/-- not caught here, past rows that name other classes: it goes on to the caller -/
theorem vx_outP {p : Program} {l : Launch} {e : Env} {R : Room} {s : State} {m : MethodId} {args : Array Value} {below : List Frame} {meth : Method} {c : Code} {H : Heap} {locs : List Loc} {cells slots : Nat} {free : Addr → Prop} {ls : Array Slot} {rest : List Value} {Qc : Array Value → State → Outcome → State → Prop} {XC : String → State → State → Prop}
    {pc : Nat} {own E : String} {ce : Cell} {q : Addr} {mc ms : Nat} (hown : s.vm.findClass own = some m.cls) (hlocks : meth.locks = false)
    (hpass : ∀ z ∈ c.exceptionTable.toList, covers z pc = false ∨ (z.catchType ≠ 0 ∧ ∃ nm : String, (Cond.classLink own z.catchType nm).before args s = true ∧ va_Nc E nm s)) (hcell : H[q]? = some ce) (hv : ce.vm = .none) (hcl : s.vm.findClass E = some ce.cls)
    (hx : ∀ t : State, t.heap = H → s.vm.Alike t.vm → XC E s t) (hf : ∀ z ∈ locs, free z.base) (hc : cells ≤ mc) (hs : slots ≤ ms) :
    vx_W p l e R s m args below meth c H locs cells slots (vx_MQ below Qc XC args s mc ms free) (F0 m pc ls rest) q := by
  intro T hT X
  have hpl : e.platform.magicAccessors = ({} : Platform).magicAccessors := by rw [X.admits.platform]
  obtain ⟨vm', hW', X', st⟩ := X.outThrough hlocks q (g := F0 m pc ls rest) rfl rfl rfl (cell := ce) (by rw [hT]; exact hcell) (by rw [hv]; rfl)
    (by obtain ⟨k9, h9, -⟩ := Vm.findClass_spec hcl; exact ⟨k9, h9⟩) (fun z hz => by
      rcases hpass z hz with h | ⟨hz0, nm, hl1, hn1⟩
      · exact Or.inl h
      · obtain ⟨c6, hc6, hcl6⟩ := Cond.classLink_spec hown hl1 e.platform hpl
        obtain ⟨a8, b8, h1, h2, h3⟩ := hn1
        cases Option.some.inj (h1.symm.trans hcl)
        cases Option.some.inj (h2.symm.trans hc6)
        exact Or.inr ⟨hz0, _, hcl6, h3⟩)
  obtain ⟨g₀, hfr⟩ := X'.frames_eq
  have hcell9 : ((T.setVm vm').setFrames (.throwing q :: below)).heap[q]? = some ce := by
    show T.heap[q]? = some ce
    rw [hT]; exact hcell
  have hend : Ended ((T.setVm vm').setFrames (.throwing q :: below)) below (.threw q) := State.frames_setFrames _ (State.cur_lt_of_frames hfr)
  refine ⟨(T.setVm vm').setFrames (.throwing q :: below), ?_, .threw q, X'.here.running, hend, Or.inr ⟨q, rfl, E, ce, locs, hx _ hT (X'.ends _).1.alike, hcell9, hv, hcl, (X'.ends _).1, (X'.ends _).2.mono hc hs, hf⟩⟩
  rw [X.pushThrowing_eq]
  exact st
/-- a thing of a world lies in the heap -/
theorem vx_lt {D : va_G} {cl : List vw_C} {ws : va_W} {H1 : Heap} (h : va_P D cl ws H1) {k : Nat} {q : Nat × va_E} (hk : ws[k]? = some q) : q.1 < H1.size := (h k q hk).lt
end VXS
/-! ===== END ===== -/
/-! ===== BEGIN methods with a table of their own: called by a name, returning or throwing ===== -/
section VXH
/-! vx_backW, vx_callVX, vx_callSX, vx_callVW, vx_runVW, vx_runVX, vx_runSX, vx_ofWH follow the same proofs as their sisters above (Free/Laws.lean, Shelf42/LK1.lean); vx_outP calls Shelf42/NT130.lean (outThrough). -/
section
variable {l : Launch} {R : Room} {p : Program} {e : Env} {below : List Frame} {s : State} {sargs : Array Value} {y : MethodName} {len W9 : Nat}
theorem vx_backW {ws : List Cond} {rm : Room} {Pc : Array Value → State → Prop} {Qc : Array Value → State → Outcome → State → Prop} {XC : String → State → State → Prop} {mc ms : Nat} {free : Addr → Prop} {bytes : ByteArray} {maxL : Nat} {ret : Option FieldType} {hh : List (Nat × Nat × Nat × Nat)}
    (hM : vx_Met l y ws rm Pc Qc XC mc ms free) (hblind : FrameBlind Pc) (hrc : rm.cells = mc) (hrs : rm.slots = ms)
    (hframes : rm.frames + 1 ≤ R.frames) (hlocals : W9 + (maxL + 11) + rm.locals ≤ R.locals)
    (hws : ∀ w ∈ ws, ∀ a' U, s.WarmedH U.vm → w.before a' U = true) (hcode : Cond.codeWith y bytes maxL ret hh ∈ ws) (hinit : ∀ a' U, s.WarmedH U.vm → (Cond.initialized y.cls).before a' U = true) :
    vx_Back l R p e below s sargs y len W9 (PreOf R mc ms Pc) (PostOf Qc mc ms free) (vx_Post XC mc ms free) := by
  intro m meth c A g ig mk a X hg hsize hdg hW hn hp
  have h1 : (headSpec ws rm).pre.before a A.U = true := atoms_intro fun w hw => hws w hw _ _ X.warmed
  have h2 : (Cond.codeWith y bytes maxL ret hh).before a A.U = true := hws _ hcode _ _ X.warmed
  have h3 : (Cond.initialized y.cls).before a A.U = true := hinit _ _ X.warmed
  have h4 : A.cells + (headSpec ws rm).room.cells ≤ R.cells := by rw [show (headSpec ws rm).room.cells = mc from hrc]; exact hp.1
  have h5 : A.slots + (headSpec ws rm).room.slots ≤ R.slots := by rw [show (headSpec ws rm).room.slots = ms from hrs]; exact hp.2.1
  have hPc : Pc a (A.U.calling g mk a) := hblind _ _ _ _ hp.2.2
  obtain ⟨U, Ls, c0, s0⟩ := A
  dsimp only [Pt.U, Pt.locs, Pt.cells, Pt.slots] at h1 h2 h3 h4 h5 X hn hPc ⊢
  obtain ⟨m9, methY, cY, hn9, hmY, hcY, -, hlY, -⟩ := Cond.codeWith_spec h2
  cases Option.some.inj (hn9.symm.trans hn)
  obtain ⟨kY, hkY, -⟩ := className_of_methodNamed hn
  have hinitY : kY.init = .initialized := Cond.initialized_spec (findClass_of_methodNamed hn) hkY h3
  have h : At U g.method c below := by rw [hg]; exact X.here
  have hlocals9 : W9 + (maxL + 11) + (headSpec ws rm).room.locals ≤ R.locals := hlocals
  have happ : (headSpec ws rm).appliesLoose y e.platform (U.calling g mk a) = true :=
    Spec.appliesLoose_calling (g := g) h hdg hn hkY hinitY
      (X.room_calling (g := g) (R' := (headSpec ws rm).room) hsize hmY hcY hframes (by rw [hlY]; omega) h4 h5) h1
  obtain ⟨mid, hmid⟩ := h.above
  have hfr : (U.setTop g).frames = (.java g :: mid) ++ below := by rw [State.frames_setTop' g h.top, hmid]; rfl
  obtain ⟨o, s₂, hsteps, -, hend, hq⟩ := Steps.callFree hM p X.admits X.cas X.clock (acts := []) hfr happ hPc trivial
  have hq' : vx_Q Qc XC mc ms free a (U.calling g mk a) o s₂ := hq
  rw [State.frames_setTop' g h.top] at hend
  obtain ⟨g₀, hg0⟩ := Option.isSome_iff_exists.mp h.top
  obtain ⟨r, hr⟩ := State.topJava?_eq_some.mp hg0
  have hr' : (({ U with heap := s₂.heap, slotsUsed := s₂.slotsUsed } : State).setVm s₂.vm).frames = .java g₀ :: r := hr
  rcases hq' with ⟨hqc, L, hfe, hL⟩ | ⟨q, rfl, E, ce, L, hx, hce, hcv, hcl, hW₂, hsm, hL⟩
  · obtain ⟨⟨v, rfl⟩, hW₂, e2, q2, q3, q4, q5, q6⟩ := id hfe
    have e3 : s₂ = ({ (U.calling g mk a).setFrames s₂.frames with heap := s₂.heap, slotsUsed := s₂.slotsUsed } : State).setVm s₂.vm := by
      have : s₂ = ({ s₂ with vm := (U.calling g mk a).vm } : State).setVm s₂.vm := rfl
      rw [e2] at this
      exact this
    obtain ⟨c₂, i₂, len₂, hc₂, hd₂, hf₂⟩ := hend
    have hW' : U.WarmedH s₂.vm := hW₂
    have hcc : c₂ = c := by
      have h1 : s₂.code? g.method = U.code? g.method := by
        rw [State.code?_eq, State.code?_eq, hW'.alike.method?]
      exact Option.some.inj (hc₂.symm.trans (h1.trans h.code))
    subst hcc
    have hlen : len₂ = len := by rw [hdg] at hd₂; cases hd₂; rfl
    subst hlen
    have hs₂ : s₂ = (({ U with heap := s₂.heap, slotsUsed := s₂.slotsUsed } : State).setVm s₂.vm).setTop { g with pc := g.pc + len₂, stack := v.toList ++ g.stack } := by
      refine e3.trans ?_
      rw [hf₂, State.calling_eq h.top, State.setFrames_setFrames, State.setTop_of_frames _ hr', hr]
      rfl
    have hsame : U.sameButNew ({ U with heap := s₂.heap, slotsUsed := s₂.slotsUsed } : State) L mc ms := by
      refine ⟨?_, q2, q3, q4, q5, q6⟩
      obtain ⟨t, ht, -⟩ := State.frames_cons hr
      show ({ U with heap := s₂.heap, slotsUsed := s₂.slotsUsed } : State) = { U.setFrames U.frames with heap := s₂.heap, slotsUsed := s₂.slotsUsed }
      rw [State.setFrames_self ht]
    subst hg
    refine Or.inl ⟨v, ⟨(({ U with heap := s₂.heap, slotsUsed := s₂.slotsUsed } : State).setVm s₂.vm), Ls ++ L, c0 + mc, s0 + ms⟩,
      ⟨X.admits, X.cas, X.clock, X.frames, X.room, X.hears, X.method, X.code, (X.here.setHeapUsed s₂.heap s₂.slotsUsed).setVm hW'.alike, X.tail, State.WarmedH.trans X.warmed hW', X.limits, X.bytes, X.same.trans (hsame.setVm s.vm)⟩,
      ⟨g, mk, s₂, L, rfl, rfl, hqc, rfl, hL, rfl, rfl⟩, ?_⟩
    show Steps p.tables e below _ ((({ U with heap := s₂.heap, slotsUsed := s₂.slotsUsed } : State).setVm s₂.vm).setTop { g with pc := g.pc + len₂, stack := v.toList ++ g.stack })
    rw [← hs₂]
    exact hsteps
  · obtain ⟨e2, q2, q3, q4, q5, q6⟩ := id hsm
    have e3 : s₂ = ({ (U.calling g mk a).setFrames s₂.frames with heap := s₂.heap, slotsUsed := s₂.slotsUsed } : State).setVm s₂.vm := by
      have : s₂ = ({ s₂ with vm := (U.calling g mk a).vm } : State).setVm s₂.vm := rfl
      rw [e2] at this
      exact this
    have hf₂ : s₂.frames = .throwing q :: .java g :: U.frames.tail := hend
    have hW' : U.WarmedH s₂.vm := hW₂
    have hs₂ : s₂ = ((({ U with heap := s₂.heap, slotsUsed := s₂.slotsUsed } : State).setVm s₂.vm).setTop g).pushFrame (.throwing q) := by
      refine e3.trans ?_
      rw [hf₂, State.calling_eq h.top, State.setFrames_setFrames, State.pushFrame, State.frames_setTop _ hr', State.setTop_of_frames _ hr', State.setFrames_setFrames, hr]
      rfl
    have hsame : U.sameButNew ({ U with heap := s₂.heap, slotsUsed := s₂.slotsUsed } : State) L mc ms := by
      refine ⟨?_, q2, q3, q4, q5, q6⟩
      obtain ⟨t, ht, -⟩ := State.frames_cons hr
      show ({ U with heap := s₂.heap, slotsUsed := s₂.slotsUsed } : State) = { U.setFrames U.frames with heap := s₂.heap, slotsUsed := s₂.slotsUsed }
      rw [State.setFrames_self ht]
    subst hg
    refine Or.inr ⟨q, ⟨(({ U with heap := s₂.heap, slotsUsed := s₂.slotsUsed } : State).setVm s₂.vm), Ls ++ L, c0 + mc, s0 + ms⟩,
      ⟨X.admits, X.cas, X.clock, X.frames, X.room, X.hears, X.method, X.code, (X.here.setHeapUsed s₂.heap s₂.slotsUsed).setVm hW'.alike, X.tail, State.WarmedH.trans X.warmed hW', X.limits, X.bytes, X.same.trans (hsame.setVm s.vm)⟩,
      ⟨g, mk, s₂, L, E, ce, rfl, rfl, hx, hce, hcv, hcl, rfl, hL, rfl, rfl⟩, ?_⟩
    show Steps p.tables e below _ (((({ U with heap := s₂.heap, slotsUsed := s₂.slotsUsed } : State).setVm s₂.vm).setTop g).pushFrame (.throwing q))
    rw [← hs₂]
    exact hsteps
end
variable {p : Program} {l : Launch} {e : Env} {R : Room} {s : State} {m : MethodId} {args : Array Value} {below : List Frame} {meth : Method} {c : Code} {T : State} {H : Heap} {locs : List Loc} {cells slots : Nat}
theorem vx_callVX (X : Stand p l e R s m args below meth c T locs cells slots) (hexec : p.tables.exec = Jvm.exec) {own C : String} {index : Nat} {y : MethodName} {bytes : ByteArray} {maxL : Nat} {ret : Option FieldType} {hh : List (Nat × Nat × Nat × Nat)}
    (hown : s.vm.findClass own = some m.cls) (hlink : (Cond.methodLink own index y).before args s = true) (hinst : (Cond.instanceMethod y).before args s = true) (hsel : (Cond.selects C y y).before args s = true)
    (hcode : (Cond.codeWith y bytes maxL ret hh).before args s = true) (hy : y.cls ≠ "java/lang/invoke/MethodHandle" ∧ y.cls ≠ "java/lang/invoke/VarHandle")
    {W9 : Nat} {Pre : Pt → Array Value → Prop} {Post : Pt → Array Value → Option Value → Pt → Prop} {PostX : Pt → Array Value → Addr → Pt → Prop} (hK : vx_Back l R p e below s args y 3 W9 Pre Post PostX)
    {b : Addr} {cellB : Cell} (hcell : T.heap[b]? = some cellB) (hobj : cellB.vm.isStatics = false) (hcls : s.vm.findClass C = some cellB.cls)
    {g : JFrame} (hg : g.method = m) (hsize : g.locals.size = c.maxLocals) {argsL rest : List Value} (hlen : ∀ sig, parseMethodDescriptor y.desc = some sig → argsL.length = sig.parameters.length)
    (hstack : g.stack = argsL.reverse ++ .ref b :: rest) (hW : 2 * g.monitorRoom + (rest.map fun v => v.category).sum ≤ W9) (hdg : decode c.code g.pc = .ok (.invokevirtual index, 3))
    (hpre : ∀ vm₁, s.WarmedH vm₁ → Pre ⟨T.setVm vm₁, locs, cells, slots⟩ (Value.ref b :: argsL).toArray) :
    (∃ (v : Option Value) (vm₁ : Vm) (B : Pt), s.WarmedH vm₁ ∧ Stand p l e R s m args below meth c B.U B.locs B.cells B.slots ∧ Post ⟨T.setVm vm₁, locs, cells, slots⟩ (Value.ref b :: argsL).toArray v B ∧
      ∀ target, Steps p.tables e below (B.U.setTop { g with pc := g.pc + 3, stack := v.toList ++ rest }) target → Steps p.tables e below (T.setTop g) target) ∨
    (∃ (q : Addr) (vm₁ : Vm) (B : Pt), s.WarmedH vm₁ ∧ Stand p l e R s m args below meth c B.U B.locs B.cells B.slots ∧ PostX ⟨T.setVm vm₁, locs, cells, slots⟩ (Value.ref b :: argsL).toArray q B ∧
      Steps p.tables e below (T.setTop g) ((B.U.setTop { g with stack := rest }).pushFrame (.throwing q))) := by
  obtain ⟨mk, methM, hnamed, hmethM, hstM, habM⟩ := Cond.instanceMethod_spec hinst
  obtain ⟨m8, methM', cM, hn8, hmethM', -, -, -, -, -, -, hsigM⟩ := Cond.codeWith_spec hcode
  cases Option.some.inj (hn8.symm.trans hnamed)
  cases hmethM.symm.trans hmethM'
  obtain ⟨c2, r2, m2, q1, q2, q3, q4, kP, hkP, hkPi⟩ := Cond.selects_spec hsel
  cases hcls.symm.trans q1
  cases (State.methodFound?_of_named hnamed hy).symm.trans q2
  cases hnamed.symm.trans q3
  have hselP : selectMethod e.platform s.vm cellB.cls mk = .method mk := by rw [Launch.admits_selectMethod X.admits]; exact q4
  obtain ⟨vm₁, X₁, hstep₁⟩ := X.invokevirtual hexec hown hlink hnamed hmethM hstM hkP hkPi hy (a := b) (cell := cellB) hcell
    (fun z h => by rw [h] at hobj; cases hobj) hselP hmethM habM hkP hkPi (g := g) hg (argsL := argsL) (rest := rest) (hlen _ hsigM) hstack hdg
  rcases hK m meth c ⟨T.setVm vm₁, locs, cells, slots⟩ { g with stack := rest } (.invokevirtual index) mk (Value.ref b :: argsL).toArray X₁ hg hsize hdg hW (X₁.named hnamed) (hpre vm₁ X₁.warmed) with ⟨v, B, X', hpost, hsteps⟩ | ⟨q, B, X', hpost, hsteps⟩
  · exact Or.inl ⟨v, vm₁, B, X₁.warmed, X', hpost, fun target h => hstep₁ _ fun acts => by rw [doInvoke_state]; exact hsteps.trans h⟩
  · exact Or.inr ⟨q, vm₁, B, X₁.warmed, X', hpost, hstep₁ _ fun acts => by rw [doInvoke_state]; exact hsteps⟩
theorem vx_callSX (X : Stand p l e R s m args below meth c T locs cells slots) (hexec : p.tables.exec = Jvm.exec) {own : String} {index : Nat} {y : MethodName} {bytes : ByteArray} {maxL : Nat} {ret : Option FieldType} {hh : List (Nat × Nat × Nat × Nat)}
    (hown : s.vm.findClass own = some m.cls) (hlink : (Cond.methodLink own index y).before args s = true) (hstat : (Cond.static y).before args s = true) (hinit : (Cond.initialized y.cls).before args s = true)
    (hcode : (Cond.codeWith y bytes maxL ret hh).before args s = true) (hy : y.cls ≠ "java/lang/invoke/MethodHandle" ∧ y.cls ≠ "java/lang/invoke/VarHandle")
    {W9 : Nat} {Pre : Pt → Array Value → Prop} {Post : Pt → Array Value → Option Value → Pt → Prop} {PostX : Pt → Array Value → Addr → Pt → Prop} (hK : vx_Back l R p e below s args y 3 W9 Pre Post PostX)
    {g : JFrame} (hg : g.method = m) (hsize : g.locals.size = c.maxLocals) {argsL rest : List Value} (hlen : ∀ sig, parseMethodDescriptor y.desc = some sig → argsL.length = sig.parameters.length)
    (hstack : g.stack = argsL.reverse ++ rest) (hW : 2 * g.monitorRoom + (rest.map fun v => v.category).sum ≤ W9) (hdg : decode c.code g.pc = .ok (.invokestatic index, 3))
    (hpre : ∀ vm₁, s.WarmedH vm₁ → Pre ⟨T.setVm vm₁, locs, cells, slots⟩ argsL.toArray) :
    (∃ (v : Option Value) (vm₁ : Vm) (B : Pt), s.WarmedH vm₁ ∧ Stand p l e R s m args below meth c B.U B.locs B.cells B.slots ∧ Post ⟨T.setVm vm₁, locs, cells, slots⟩ argsL.toArray v B ∧
      ∀ target, Steps p.tables e below (B.U.setTop { g with pc := g.pc + 3, stack := v.toList ++ rest }) target → Steps p.tables e below (T.setTop g) target) ∨
    (∃ (q : Addr) (vm₁ : Vm) (B : Pt), s.WarmedH vm₁ ∧ Stand p l e R s m args below meth c B.U B.locs B.cells B.slots ∧ PostX ⟨T.setVm vm₁, locs, cells, slots⟩ argsL.toArray q B ∧
      Steps p.tables e below (T.setTop g) ((B.U.setTop { g with stack := rest }).pushFrame (.throwing q))) := by
  obtain ⟨mk, methM, cM, hnamed, hmethM, -, -, -, -, -, -, hsigM⟩ := Cond.codeWith_spec hcode
  have hstatic : methM.isStatic = true := Cond.static_spec hnamed hmethM hstat
  obtain ⟨kP, hkP, -⟩ := className_of_methodNamed hnamed
  have hinitP : kP.init = .initialized := Cond.initialized_spec (findClass_of_methodNamed hnamed) hkP hinit
  obtain ⟨vm₁, X₁, hstep₁⟩ := X.invokestatic hexec hown hlink hnamed hmethM hstatic hkP hinitP hy (g := g) hg (argsL := argsL) (rest := rest) (hlen _ hsigM) hstack hdg
  rcases hK m meth c ⟨T.setVm vm₁, locs, cells, slots⟩ { g with stack := rest } (.invokestatic index) mk argsL.toArray X₁ hg hsize hdg hW (X₁.named hnamed) (hpre vm₁ X₁.warmed) with ⟨v, B, X', hpost, hsteps⟩ | ⟨q, B, X', hpost, hsteps⟩
  · exact Or.inl ⟨v, vm₁, B, X₁.warmed, X', hpost, fun target h => hstep₁ _ fun acts => by rw [doInvoke_state]; exact hsteps.trans h⟩
  · exact Or.inr ⟨q, vm₁, B, X₁.warmed, X', hpost, hstep₁ _ fun acts => by rw [doInvoke_state]; exact hsteps⟩
theorem vx_callVW (X : Stand p l e R s m args below meth c T locs cells slots) (hexec : p.tables.exec = Jvm.exec) {own C : String} {index : Nat} {y : MethodName} {bytes : ByteArray} {maxL : Nat} {ret : Option FieldType} {hh : List (Nat × Nat × Nat × Nat)}
    (hown : s.vm.findClass own = some m.cls) (hlink : (Cond.methodLink own index y).before args s = true) (hinst : (Cond.instanceMethod y).before args s = true) (hsel : (Cond.selects C y y).before args s = true)
    (hcode : (Cond.codeWith y bytes maxL ret hh).before args s = true) (hy : y.cls ≠ "java/lang/invoke/MethodHandle" ∧ y.cls ≠ "java/lang/invoke/VarHandle")
    {W9 : Nat} {Pre : Pt → Array Value → Prop} {Post : Pt → Array Value → Option Value → Pt → Prop} (hK : Back l R p e below s args y 3 W9 Pre Post)
    {b : Addr} {cellB : Cell} (hcell : T.heap[b]? = some cellB) (hobj : cellB.vm.isStatics = false) (hcls : s.vm.findClass C = some cellB.cls)
    {g : JFrame} (hg : g.method = m) (hsize : g.locals.size = c.maxLocals) {argsL rest : List Value} (hlen : ∀ sig, parseMethodDescriptor y.desc = some sig → argsL.length = sig.parameters.length)
    (hstack : g.stack = argsL.reverse ++ .ref b :: rest) (hW : 2 * g.monitorRoom + (rest.map fun v => v.category).sum ≤ W9) (hdg : decode c.code g.pc = .ok (.invokevirtual index, 3))
    (hpre : ∀ vm₁, s.WarmedH vm₁ → Pre ⟨T.setVm vm₁, locs, cells, slots⟩ (Value.ref b :: argsL).toArray) :
    ∃ (v : Option Value) (vm₁ : Vm) (B : Pt), s.WarmedH vm₁ ∧ Stand p l e R s m args below meth c B.U B.locs B.cells B.slots ∧ Post ⟨T.setVm vm₁, locs, cells, slots⟩ (Value.ref b :: argsL).toArray v B ∧
      ∀ target, Steps p.tables e below (B.U.setTop { g with pc := g.pc + 3, stack := v.toList ++ rest }) target → Steps p.tables e below (T.setTop g) target := by
  obtain ⟨mk, methM, hnamed, hmethM, hstM, habM⟩ := Cond.instanceMethod_spec hinst
  obtain ⟨m8, methM', cM, hn8, hmethM', -, -, -, -, -, -, hsigM⟩ := Cond.codeWith_spec hcode
  cases Option.some.inj (hn8.symm.trans hnamed)
  cases hmethM.symm.trans hmethM'
  obtain ⟨c2, r2, m2, q1, q2, q3, q4, kP, hkP, hkPi⟩ := Cond.selects_spec hsel
  cases hcls.symm.trans q1
  cases (State.methodFound?_of_named hnamed hy).symm.trans q2
  cases hnamed.symm.trans q3
  have hselP : selectMethod e.platform s.vm cellB.cls mk = .method mk := by rw [Launch.admits_selectMethod X.admits]; exact q4
  obtain ⟨vm₁, X₁, hstep₁⟩ := X.invokevirtual hexec hown hlink hnamed hmethM hstM hkP hkPi hy (a := b) (cell := cellB) hcell
    (fun z h => by rw [h] at hobj; cases hobj) hselP hmethM habM hkP hkPi (g := g) hg (argsL := argsL) (rest := rest) (hlen _ hsigM) hstack hdg
  obtain ⟨v, B, X', hpost, hsteps⟩ := hK m meth c ⟨T.setVm vm₁, locs, cells, slots⟩ { g with stack := rest } (.invokevirtual index) mk (Value.ref b :: argsL).toArray X₁ hg hsize hdg hW (X₁.named hnamed) (hpre vm₁ X₁.warmed)
  exact ⟨v, vm₁, B, X₁.warmed, X', hpost, fun target h => hstep₁ _ fun acts => by rw [doInvoke_state]; exact hsteps.trans h⟩
abbrev vx_CVW (R : Room) (s : State) (args : Array Value) (own C : String) (index : Nat) (y : MethodName) (bytes : ByteArray) (maxL : Nat) (ret : Option FieldType) (hh : List (Nat × Nat × Nat × Nat)) (ws : List Cond) (rm : Room) (mc ms n : Nat) : Prop :=
  (rm.cells = mc ∧ rm.slots = ms ∧ rm.frames + 1 ≤ R.frames ∧ 8 + (maxL + 11) + rm.locals ≤ R.locals ∧ (∀ w ∈ ws, ∀ (a' : Array Value) (U : State), s.WarmedH U.vm → w.before a' U = true) ∧ Cond.codeWith y bytes maxL ret hh ∈ ws) ∧
  (Cond.codeWith y bytes maxL ret hh).before args s = true ∧ (Cond.initialized y.cls).before args s = true ∧ (y.cls ≠ "java/lang/invoke/MethodHandle" ∧ y.cls ≠ "java/lang/invoke/VarHandle") ∧
  (∀ sig, parseMethodDescriptor y.desc = some sig → n = sig.parameters.length) ∧ (Cond.methodLink own index y).before args s = true ∧ (Cond.instanceMethod y).before args s = true ∧ (Cond.selects C y y).before args s = true
theorem vx_cwVW {own C : String} {index maxL mc ms : Nat} {y : MethodName} {bytes : ByteArray} {ret : Option FieldType} {hh : List (Nat × Nat × Nat × Nat)} {Ts ws ws' : List Cond} {rm : Room} (n : Nat) (ht : ∀ w ∈ Ts, w.before args s = true) (hT : GoodIn Ts (wsV own index C y ws)) (hw : ws = Cond.codeWith y bytes maxL ret hh :: ws') (hrc : rm.cells = mc) (hrs : rm.slots = ms)
    (hd : y.cls = C ∧ y.cls ≠ "java/lang/invoke/MethodHandle" ∧ y.cls ≠ "java/lang/invoke/VarHandle" ∧ (parseMethodDescriptor y.desc).map (fun d => d.parameters.length) = some n) (hR : rm.frames + 1 ≤ R.frames ∧ 8 + (maxL + 11) + rm.locals ≤ R.locals) :
    vx_CVW R s args own C index y bytes maxL ret hh ws rm mc ms n := by
  obtain ⟨hC, hd⟩ := hd
  subst hC
  have ok : ∀ w ∈ wsV own index y.cls y ws, w.before args s = true := fun w h => ht w (hT w h).1
  have hG : GoodIn Ts ws := fun w h => hT w (by unfold wsV; exact List.mem_append_right _ h)
  have hc : Cond.codeWith y bytes maxL ret hh ∈ ws := by rw [hw]; exact List.mem_cons_self
  refine ⟨⟨hrc, hrs, hR.1, hR.2, pay_in ht hG, hc⟩, ht _ (hG _ hc).1, ok _ (by simp [wsV]), ⟨hd.1, hd.2.1⟩, fun sig h => ?_, ok _ (by simp [wsV]), ok _ (by simp [wsV]), ok _ (by simp [wsV])⟩
  have h2 := hd.2.2
  rw [h] at h2
  exact (Option.some.inj h2).symm
theorem vx_runVW {y : MethodName} {bytes cc : ByteArray} {maxL nL mc ms n index : Nat} {ret : Option FieldType} {hh : List (Nat × Nat × Nat × Nat)} {ws : List Cond} {rm : Room} {Pc : Array Value → State → Prop} {Qc : Array Value → State → Outcome → State → Prop} {free : Addr → Prop} {Ts : List Cond} {own C : String} {b : Addr} {As rest : List Value} {g : JFrame}
    (S : CallFix p m c cc nL s args Ts own) (hM : Met l y ws rm Pc Qc mc ms free) (cw : vx_CVW R s args own C index y bytes maxL ret hh ws rm mc ms n) (hp : PreV s H C b Pc As)
    (hg : g.method = m) (hn : As.length = n) (hsize : g.locals.size = nL) (hstack : g.stack = As.reverse ++ .ref b :: rest) (hW : 2 * g.monitorRoom + (rest.map fun v => v.category).sum ≤ 8) (hdg : decode cc g.pc = .ok (.invokevirtual index, 3)) (hf : cells + mc ≤ R.cells ∧ slots + ms ≤ R.slots) :
    va_Run p l e R s m args below meth c H locs cells slots mc ms g rest (Qc (Value.ref b :: As).toArray) free := by
  obtain ⟨⟨hrc, hrs, hfr, hlo, hws, hcw⟩, hcode, hini, hy, hlen, hl, hin, hse⟩ := cw
  have hK : Back l R p e below s args y 3 8 (PreOf R mc ms Pc) (PostOf Qc mc ms free) := va_backW (hh := hh) (bytes := bytes) (maxL := maxL) (ret := ret) hM hp.1 hrc hrs hfr hlo hws hcw (fun a' U hW => word_at hW (Or.inl (by first | rfl | simp [Cond.onTables, Cond.keeps, Cond.steady])) hini)
  obtain ⟨hx, hb, hml, ho, -⟩ := S
  obtain ⟨-, ⟨cellB, hcB, hoB, hclB⟩, hPc⟩ := hp
  intro T hT X
  obtain ⟨v, vm₁, ⟨U', l2, c2, s2⟩, hW₁, X', ⟨g', mk, t, L, e1, e2, hq, h1, hL, h2, h3⟩, st⟩ := vx_callVW X hx (C := C) (hh := hh) (bytes := bytes) (maxL := maxL) (ret := ret) ho hl hin hse hcode hy hK (by rw [hT]; exact hcB) hoB hclB hg (hsize.trans hml.symm) (argsL := As) (rest := rest) (fun sig h => hn.trans (hlen sig h)) hstack hW (by rw [hb]; exact hdg)
    (fun vm₁ hW₁ => ⟨hf.1, hf.2, hPc (T.setVm vm₁) hT hW₁⟩)
  dsimp only [Pt.U, Pt.locs, Pt.cells, Pt.slots] at X' e1 e2 h1 h2 h3 st
  subst h1; subst h2; subst h3
  exact ⟨v, (T.setVm vm₁).calling g' mk (Value.ref b :: As).toArray, t, U', L, hT, X', hL, e1, e2, hq, st⟩
section
variable {y : MethodName} {bytes cc : ByteArray} {maxL nL mc ms n index : Nat} {ret : Option FieldType} {ws : List Cond} {rm : Room} {Pc : Array Value → State → Prop} {Qc : Array Value → State → Outcome → State → Prop} {XC : String → State → State → Prop} {free : Addr → Prop} {Ts : List Cond} {own C : String} {b : Addr} {As rest : List Value} {g : JFrame}
theorem vx_runVX {hh : List (Nat × Nat × Nat × Nat)} (S : CallFix p m c cc nL s args Ts own) (hM : vx_Met l y ws rm Pc Qc XC mc ms free) (cw : vx_CVW R s args own C index y bytes maxL ret hh ws rm mc ms n) (hp : PreV s H C b Pc As)
    (hg : g.method = m) (hn : As.length = n) (hsize : g.locals.size = nL) (hstack : g.stack = As.reverse ++ .ref b :: rest) (hW : 2 * g.monitorRoom + (rest.map fun v => v.category).sum ≤ 8) (hdg : decode cc g.pc = .ok (.invokevirtual index, 3)) (hf : cells + mc ≤ R.cells ∧ slots + ms ≤ R.slots) :
    vx_Run p l e R s m args below meth c H locs cells slots mc ms g rest (Qc (Value.ref b :: As).toArray) XC free := by
  obtain ⟨⟨hrc, hrs, hfr, hlo, hws, hcw⟩, hcode, hini, hy, hlen, hl, hin, hse⟩ := cw
  have hK : vx_Back l R p e below s args y 3 8 (PreOf R mc ms Pc) (PostOf Qc mc ms free) (vx_Post XC mc ms free) := vx_backW (hh := hh) (bytes := bytes) (maxL := maxL) (ret := ret) hM hp.1 hrc hrs hfr hlo hws hcw (fun a' U hW => word_at hW (Or.inl (by first | rfl | simp [Cond.onTables, Cond.keeps, Cond.steady])) hini)
  obtain ⟨hx, hb, hml, ho, -⟩ := S
  obtain ⟨-, ⟨cellB, hcB, hoB, hclB⟩, hPc⟩ := hp
  intro T hT X
  rcases vx_callVX X hx (C := C) (hh := hh) (bytes := bytes) (maxL := maxL) (ret := ret) ho hl hin hse hcode hy hK (by rw [hT]; exact hcB) hoB hclB hg (hsize.trans hml.symm) (argsL := As) (rest := rest) (fun sig h => hn.trans (hlen sig h)) hstack hW (by rw [hb]; exact hdg)
    (fun vm₁ hW₁ => ⟨hf.1, hf.2, hPc (T.setVm vm₁) hT hW₁⟩) with ⟨v, vm₁, ⟨U', l2, c2, s2⟩, hW₁, X', ⟨g', mk, t, L, e1, e2, hq, h1, hL, h2, h3⟩, st⟩ | ⟨q, vm₁, ⟨U', l2, c2, s2⟩, hW₁, X', ⟨g', mk, t, L, E, ce, e1, e2, hq, hce, hcv, hcl, h1, hL, h2, h3⟩, st⟩
  · dsimp only [Pt.U, Pt.locs, Pt.cells, Pt.slots] at X' e1 e2 h1 h2 h3 st
    subst h1; subst h2; subst h3
    exact Or.inl ⟨v, (T.setVm vm₁).calling g' mk (Value.ref b :: As).toArray, t, U', L, hT, X', hL, e1, e2, hq, st⟩
  · dsimp only [Pt.U, Pt.locs, Pt.cells, Pt.slots] at X' e1 e2 h1 h2 h3 st hcl
    subst h1; subst h2; subst h3
    exact Or.inr ⟨q, (T.setVm vm₁).calling g' mk (Value.ref b :: As).toArray, t, U', L, E, ce, hT, X', hL, e1, e2, hq, hce, hcv, vx_cls hW₁ hcl, st⟩
theorem vx_runSX {hh : List (Nat × Nat × Nat × Nat)} (S : CallFix p m c cc nL s args Ts own) (hM : vx_Met l y ws rm Pc Qc XC mc ms free) (cw : vx_CSW R s args own index y bytes maxL ret hh ws rm mc ms n) (hp : PreS s H Pc As)
    (hg : g.method = m) (hn : As.length = n) (hsize : g.locals.size = nL) (hstack : g.stack = As.reverse ++ rest) (hW : 2 * g.monitorRoom + (rest.map fun v => v.category).sum ≤ 8) (hdg : decode cc g.pc = .ok (.invokestatic index, 3)) (hf : cells + mc ≤ R.cells ∧ slots + ms ≤ R.slots) :
    vx_Run p l e R s m args below meth c H locs cells slots mc ms g rest (Qc As.toArray) XC free := by
  obtain ⟨⟨hrc, hrs, hfr, hlo, hws, hcw⟩, hcode, hini, hy, hlen, hl, hstt⟩ := cw
  have hK : vx_Back l R p e below s args y 3 8 (PreOf R mc ms Pc) (PostOf Qc mc ms free) (vx_Post XC mc ms free) := vx_backW (hh := hh) (bytes := bytes) (maxL := maxL) (ret := ret) hM hp.1 hrc hrs hfr hlo hws hcw (fun a' U hW => word_at hW (Or.inl (by first | rfl | simp [Cond.onTables, Cond.keeps, Cond.steady])) hini)
  obtain ⟨hx, hb, hml, ho, -⟩ := S
  intro T hT X
  rcases vx_callSX X hx (hh := hh) (bytes := bytes) (maxL := maxL) (ret := ret) ho hl hstt hini hcode hy hK hg (hsize.trans hml.symm) (argsL := As) (rest := rest) (fun sig h => hn.trans (hlen sig h)) hstack hW (by rw [hb]; exact hdg)
    (fun vm₁ hW₁ => ⟨hf.1, hf.2, hp.2 (T.setVm vm₁) hT hW₁⟩) with ⟨v, vm₁, ⟨U', l2, c2, s2⟩, hW₁, X', ⟨g', mk, t, L, e1, e2, hq, h1, hL, h2, h3⟩, st⟩ | ⟨q, vm₁, ⟨U', l2, c2, s2⟩, hW₁, X', ⟨g', mk, t, L, E, ce, e1, e2, hq, hce, hcv, hcl, h1, hL, h2, h3⟩, st⟩
  · dsimp only [Pt.U, Pt.locs, Pt.cells, Pt.slots] at X' e1 e2 h1 h2 h3 st
    subst h1; subst h2; subst h3
    exact Or.inl ⟨v, (T.setVm vm₁).calling g' mk As.toArray, t, U', L, hT, X', hL, e1, e2, hq, st⟩
  · dsimp only [Pt.U, Pt.locs, Pt.cells, Pt.slots] at X' e1 e2 h1 h2 h3 st hcl
    subst h1; subst h2; subst h3
    exact Or.inr ⟨q, (T.setVm vm₁).calling g' mk As.toArray, t, U', L, E, ce, hT, X', hL, e1, e2, hq, hce, hcv, vx_cls hW₁ hcl, st⟩
end
end VXH
theorem vx_ofWH {l : Launch} {y : MethodName} {ws ws' : List Cond} {rm : Room} {Pc : Array Value → State → Prop} {Qc : Array Value → State → Outcome → State → Prop} {XC : String → State → State → Prop} {mc ms : Nat} {free : Addr → Prop} {cc : ByteArray} {maxL : Nat} {ret : Option FieldType} {hh : List (Nat × Nat × Nat × Nat)}
    (hy : plainName y.cls = true) (hw : ws = Cond.codeWith y cc maxL ret hh :: ws')
    (body : ∀ p e s m args below meth c s₁, BodyLoose p l y (headSpec ws rm) cc maxL ret e s m args below meth c s₁ → c.maxLocals = maxL → Pc args s →
      W p l e (headSpec ws rm).room s m args below meth c s.heap [] 0 0 (vx_MQ below Qc XC args s mc ms free) (entryFrame m args maxL)) : vx_Met l y ws rm Pc Qc XC mc ms free := by
  refine MetFree.of_bodyS (code := cc) (maxLocals := maxL) (ret := ret) hy ?_ ?_
  · intro args s m h hn
    obtain ⟨m9, meth, c, hn9, h1, h2, h3, h4, -, h5, h6, -⟩ := Cond.codeWith_spec (atoms_spec (ws := ws) h _ (by rw [hw]; exact List.mem_cons_self))
    cases hn.symm.trans hn9
    exact ⟨meth, c, h1, h2, h3, h4, h5, h6⟩
  · intro p e s m args below meth c s₁ B hml hP _
    have hh0 : s₁.heap = s.heap := by rw [B.state]; rfl
    obtain ⟨t, a1, o, b1, b2, b3⟩ := body p e s m args below meth c s₁ B hml hP s₁ hh0 (Stand.of_body B)
    exact ⟨t, o, a1, b1, b2, b3⟩
/-! ===== END ===== -/
end
section
/-! ===== BEGIN printed: names, fields, word lists, decode rows ===== -/
def RX0 : String := "SaltOrder"
def TX0 : u_T := fun k => match k with
  | 0 => ("SaltOrder", "luck", "[I", true)
  | 1 => ("SaltOrder", "arrears", "[I", true)
  | 2 => ("SaltOrder", "toEat", "[I", true)
  | 3 => ("SaltOrder", "memberCount", "I", false)
  | 4 => ("SaltOrder", "throwers", "[I", true)
  | 5 => ("SaltOrder", "lefts", "[Z", true)
  | 6 => ("SaltOrder", "thrown", "[I", true)
  | 7 => ("SaltOrder", "excesses", "[I", true)
  | 8 => ("SaltOrder", "throwCount", "I", false)
  | 9 => ("SaltOrder", "cellar", "I", false)
  | 10 => ("SaltOrder", "today", "I", false)
  | 11 => ("SaltOrder", "found", "I", false)
  | 12 => ("SaltOrder", "trialDay", "I", false)
  | _ => ("SaltOrder", "trialDebt", "I", false)
def tyX0 : Nat → FieldType := fun k => match k with
  | 0 => .array .int
  | 1 => .array .int
  | 2 => .array .int
  | 3 => .int
  | 4 => .array .int
  | 5 => .array .boolean
  | 6 => .array .int
  | 7 => .array .int
  | 8 => .int
  | 9 => .int
  | 10 => .int
  | 11 => .int
  | 12 => .int
  | _ => .int
abbrev wsX00 : List Cond := u_ws RX0 TX0 14
theorem nmX0 : ∀ a, a < 14 → ∀ b, b < 14 → a ≠ b → (TX0 a).2.1 ≠ (TX0 b).2.1 := by decide +kernel
theorem tyX0_ok : ∀ k, k < 14 → parseFieldDescriptor (TX0 k).2.2.1 = some (tyX0 k) := by decide +kernel
abbrev cX0_init : ByteArray := prog_1_method_1_code
def yX0_init : MethodName := ⟨RX0, "<init>", "()V"⟩
abbrev cX0_join : ByteArray := prog_1_method_2_code
def yX0_join : MethodName := ⟨RX0, "join", "()I"⟩
abbrev cX0_spill : ByteArray := prog_1_method_3_code
def yX0_spill : MethodName := ⟨RX0, "spill", "(II)I"⟩
abbrev cX0_throwSalt : ByteArray := prog_1_method_4_code
def yX0_throwSalt : MethodName := ⟨RX0, "throwSalt", "(III)I"⟩
abbrev cX0_doPenance : ByteArray := prog_1_method_5_code
def yX0_doPenance : MethodName := ⟨RX0, "doPenance", "(II)I"⟩
abbrev cX0_bringSalt : ByteArray := prog_1_method_6_code
def yX0_bringSalt : MethodName := ⟨RX0, "bringSalt", "(I)I"⟩
abbrev cX0_audit : ByteArray := prog_1_method_7_code
def yX0_audit : MethodName := ⟨RX0, "audit", "()I"⟩
abbrev cX0_pass : ByteArray := prog_1_method_8_code
def yX0_pass : MethodName := ⟨RX0, "pass", "(I)I"⟩
abbrev cX0_day : ByteArray := prog_1_method_9_code
def yX0_day : MethodName := ⟨RX0, "day", "()I"⟩
abbrev cX0_members : ByteArray := prog_1_method_10_code
def yX0_members : MethodName := ⟨RX0, "members", "()I"⟩
abbrev cX0_luckOf : ByteArray := prog_1_method_11_code
def yX0_luckOf : MethodName := ⟨RX0, "luckOf", "(I)I"⟩
abbrev cX0_arrearsOf : ByteArray := prog_1_method_12_code
def yX0_arrearsOf : MethodName := ⟨RX0, "arrearsOf", "(I)I"⟩
abbrev cX0_lumpsOf : ByteArray := prog_1_method_13_code
def yX0_lumpsOf : MethodName := ⟨RX0, "lumpsOf", "(I)I"⟩
abbrev cX0_dailyLoss : ByteArray := prog_1_method_14_code
def yX0_dailyLoss : MethodName := ⟨RX0, "dailyLoss", "(I)I"⟩
abbrev cX0_luckiest : ByteArray := prog_1_method_15_code
def yX0_luckiest : MethodName := ⟨RX0, "luckiest", "()I"⟩
abbrev cX0_allArrears : ByteArray := prog_1_method_16_code
def yX0_allArrears : MethodName := ⟨RX0, "allArrears", "()I"⟩
abbrev cX0_clearMembers : ByteArray := prog_1_method_17_code
def yX0_clearMembers : MethodName := ⟨RX0, "clearMembers", "()I"⟩
abbrev cX0_salt : ByteArray := prog_1_method_18_code
def yX0_salt : MethodName := ⟨RX0, "salt", "()I"⟩
abbrev cX0_ledger : ByteArray := prog_1_method_19_code
def yX0_ledger : MethodName := ⟨RX0, "ledger", "()I"⟩
abbrev cX0_memberOf : ByteArray := prog_1_method_20_code
def yX0_memberOf : MethodName := ⟨RX0, "memberOf", "(I)I"⟩
abbrev cX0_isLeft : ByteArray := prog_1_method_21_code
def yX0_isLeft : MethodName := ⟨RX0, "isLeft", "(I)Z"⟩
abbrev cX0_grainsOf : ByteArray := prog_1_method_22_code
def yX0_grainsOf : MethodName := ⟨RX0, "grainsOf", "(I)I"⟩
abbrev cX0_excessOf : ByteArray := prog_1_method_23_code
def yX0_excessOf : MethodName := ⟨RX0, "excessOf", "(I)I"⟩
abbrev cX0_faults : ByteArray := prog_1_method_24_code
def yX0_faults : MethodName := ⟨RX0, "faults", "()I"⟩
abbrev cX0_arrearsByAudit : ByteArray := prog_1_method_25_code
def yX0_arrearsByAudit : MethodName := ⟨RX0, "arrearsByAudit", "(I)I"⟩
abbrev cX0_daysUntilAudit : ByteArray := prog_1_method_26_code
def yX0_daysUntilAudit : MethodName := ⟨RX0, "daysUntilAudit", "()I"⟩
abbrev cX0_faultsFound : ByteArray := prog_1_method_27_code
def yX0_faultsFound : MethodName := ⟨RX0, "faultsFound", "()I"⟩
abbrev cX0_luckIn : ByteArray := prog_1_method_28_code
def yX0_luckIn : MethodName := ⟨RX0, "luckIn", "(II)I"⟩
abbrev cX0_daysUntilClear : ByteArray := prog_1_method_29_code
def yX0_daysUntilClear : MethodName := ⟨RX0, "daysUntilClear", "(I)I"⟩
abbrev cX0_daysUntilUnlucky : ByteArray := prog_1_method_30_code
def yX0_daysUntilUnlucky : MethodName := ⟨RX0, "daysUntilUnlucky", "(I)I"⟩
abbrev cX0_bestPinch : ByteArray := prog_1_method_31_code
def yX0_bestPinch : MethodName := ⟨RX0, "bestPinch", "(I)I"⟩
abbrev cX0_bestPenance : ByteArray := prog_1_method_32_code
def yX0_bestPenance : MethodName := ⟨RX0, "bestPenance", "(I)I"⟩
abbrev cX0_meanLuck : ByteArray := prog_1_method_33_code
def yX0_meanLuck : MethodName := ⟨RX0, "meanLuck", "()D"⟩
abbrev cX0_digest : ByteArray := prog_1_method_34_code
def yX0_digest : MethodName := ⟨RX0, "digest", "()J"⟩
abbrev cX0_withMember : ByteArray := prog_1_method_35_code
def yX0_withMember : MethodName := ⟨RX0, "withMember", "(JI)J"⟩
abbrev cX0_withThrow : ByteArray := prog_1_method_36_code
def yX0_withThrow : MethodName := ⟨RX0, "withThrow", "(JI)J"⟩
abbrev cX0_mixed : ByteArray := prog_1_method_37_code
def yX0_mixed : MethodName := ⟨RX0, "mixed", "(JI)J"⟩
abbrev cX0_checkMember : ByteArray := prog_1_method_38_code
def yX0_checkMember : MethodName := ⟨RX0, "checkMember", "(I)V"⟩
abbrev cX0_checkShoulder : ByteArray := prog_1_method_39_code
def yX0_checkShoulder : MethodName := ⟨RX0, "checkShoulder", "(I)V"⟩
abbrev cX0_checkEntry : ByteArray := prog_1_method_40_code
def yX0_checkEntry : MethodName := ⟨RX0, "checkEntry", "(I)V"⟩
abbrev cX0_checkAmount : ByteArray := prog_1_method_41_code
def yX0_checkAmount : MethodName := ⟨RX0, "checkAmount", "(II)V"⟩
abbrev cX0_checkCellar : ByteArray := prog_1_method_42_code
def yX0_checkCellar : MethodName := ⟨RX0, "checkCellar", "(I)V"⟩
abbrev cX0_checkLedgerHasRoom : ByteArray := prog_1_method_43_code
def yX0_checkLedgerHasRoom : MethodName := ⟨RX0, "checkLedgerHasRoom", "()V"⟩
abbrev cX0_addArrears : ByteArray := prog_1_method_44_code
def yX0_addArrears : MethodName := ⟨RX0, "addArrears", "(II)V"⟩
abbrev cX0_lessenArrears : ByteArray := prog_1_method_45_code
def yX0_lessenArrears : MethodName := ⟨RX0, "lessenArrears", "(II)V"⟩
abbrev cX0_addLumps : ByteArray := prog_1_method_46_code
def yX0_addLumps : MethodName := ⟨RX0, "addLumps", "(II)V"⟩
abbrev cX0_leftExcess : ByteArray := prog_1_method_47_code
def yX0_leftExcess : MethodName := ⟨RX0, "leftExcess", "(II)I"⟩
abbrev cX0_lossOf : ByteArray := prog_1_method_48_code
def yX0_lossOf : MethodName := ⟨RX0, "lossOf", "(I)I"⟩
abbrev cX0_eatOrFeelLuck : ByteArray := prog_1_method_49_code
def yX0_eatOrFeelLuck : MethodName := ⟨RX0, "eatOrFeelLuck", "(I)V"⟩
abbrev cX0_passOneDay : ByteArray := prog_1_method_50_code
def yX0_passOneDay : MethodName := ⟨RX0, "passOneDay", "()I"⟩
abbrev cX0_isAuditDay : ByteArray := prog_1_method_51_code
def yX0_isAuditDay : MethodName := ⟨RX0, "isAuditDay", "(I)Z"⟩
abbrev cX0_writeThrow : ByteArray := prog_1_method_52_code
def yX0_writeThrow : MethodName := ⟨RX0, "writeThrow", "(IZII)V"⟩
abbrev cX0_debtOf : ByteArray := prog_1_method_53_code
def yX0_debtOf : MethodName := ⟨RX0, "debtOf", "(I)I"⟩
abbrev cX0_beginTrial : ByteArray := prog_1_method_54_code
def yX0_beginTrial : MethodName := ⟨RX0, "beginTrial", "(I)V"⟩
abbrev cX0_beginTrialWithPinch : ByteArray := prog_1_method_55_code
def yX0_beginTrialWithPinch : MethodName := ⟨RX0, "beginTrialWithPinch", "(II)V"⟩
abbrev cX0_beginTrialWithPenance : ByteArray := prog_1_method_56_code
def yX0_beginTrialWithPenance : MethodName := ⟨RX0, "beginTrialWithPenance", "(II)V"⟩
abbrev cX0_passTrialDay : ByteArray := prog_1_method_57_code
def yX0_passTrialDay : MethodName := ⟨RX0, "passTrialDay", "()V"⟩
abbrev cX0_trialLuckBehind : ByteArray := prog_1_method_58_code
def yX0_trialLuckBehind : MethodName := ⟨RX0, "trialLuckBehind", "(I)I"⟩
def RX1 : String := "SaltOrderModel"
def TX1 : u_T := fun k => match k with
  | 0 => ("SaltOrderModel", "thrown", "I", false)
  | 1 => ("SaltOrderModel", "members", "I", false)
  | 2 => ("SaltOrderModel", "now", "[I", true)
  | _ => ("SaltOrderModel", "kept", "[I", true)
def tyX1 : Nat → FieldType := fun k => match k with
  | 0 => .int
  | 1 => .int
  | 2 => .array .int
  | _ => .array .int
abbrev wsX10 : List Cond := u_ws RX1 TX1 4
theorem nmX1 : ∀ a, a < 4 → ∀ b, b < 4 → a ≠ b → (TX1 a).2.1 ≠ (TX1 b).2.1 := by decide +kernel
theorem tyX1_ok : ∀ k, k < 4 → parseFieldDescriptor (TX1 k).2.2.1 = some (tyX1 k) := by decide +kernel
abbrev cX1_init : ByteArray := prog_3_method_1_code
def yX1_init : MethodName := ⟨RX1, "<init>", "()V"⟩
abbrev cX1_thrown : ByteArray := prog_3_method_2_code
def yX1_thrown : MethodName := ⟨RX1, "thrown", "()I"⟩
abbrev cX1_fail : ByteArray := prog_3_method_3_code
def yX1_fail : MethodName := ⟨RX1, "fail", "(I)I"⟩
abbrev cX1_told : ByteArray := prog_3_method_4_code
def yX1_told : MethodName := ⟨RX1, "told", "(I)I"⟩
abbrev cX1_isIn : ByteArray := prog_3_method_5_code
def yX1_isIn : MethodName := ⟨RX1, "isIn", "(III)Z"⟩
abbrev cX1_isMember : ByteArray := prog_3_method_6_code
def yX1_isMember : MethodName := ⟨RX1, "isMember", "(I)Z"⟩
abbrev cX1_isThrow : ByteArray := prog_3_method_7_code
def yX1_isThrow : MethodName := ⟨RX1, "isThrow", "(I)Z"⟩
abbrev cX1_me : ByteArray := prog_3_method_8_code
def yX1_me : MethodName := ⟨RX1, "me", "(II)I"⟩
abbrev cX1_let : ByteArray := prog_3_method_9_code
def yX1_let : MethodName := ⟨RX1, "let", "(III)V"⟩
abbrev cX1_th : ByteArray := prog_3_method_10_code
def yX1_th : MethodName := ⟨RX1, "th", "(II)I"⟩
abbrev cX1_write : ByteArray := prog_3_method_11_code
def yX1_write : MethodName := ⟨RX1, "write", "(II)V"⟩
abbrev cX1_keep : ByteArray := prog_3_method_12_code
def yX1_keep : MethodName := ⟨RX1, "keep", "()V"⟩
abbrev cX1_bringBack : ByteArray := prog_3_method_13_code
def yX1_bringBack : MethodName := ⟨RX1, "bringBack", "()V"⟩
abbrev cX1_cast : ByteArray := prog_3_method_14_code
def yX1_cast : MethodName := ⟨RX1, "cast", "(IZI)I"⟩
abbrev cX1_faultsNow : ByteArray := prog_3_method_15_code
def yX1_faultsNow : MethodName := ⟨RX1, "faultsNow", "()I"⟩
abbrev cX1_auditNow : ByteArray := prog_3_method_16_code
def yX1_auditNow : MethodName := ⟨RX1, "auditNow", "()I"⟩
abbrev cX1_loss : ByteArray := prog_3_method_17_code
def yX1_loss : MethodName := ⟨RX1, "loss", "(I)I"⟩
abbrev cX1_dayOn : ByteArray := prog_3_method_18_code
def yX1_dayOn : MethodName := ⟨RX1, "dayOn", "()I"⟩
abbrev cX1_daysOn : ByteArray := prog_3_method_19_code
def yX1_daysOn : MethodName := ⟨RX1, "daysOn", "(I)I"⟩
abbrev cX1_join : ByteArray := prog_3_method_20_code
def yX1_join : MethodName := ⟨RX1, "join", "()I"⟩
abbrev cX1_spill : ByteArray := prog_3_method_21_code
def yX1_spill : MethodName := ⟨RX1, "spill", "(II)I"⟩
abbrev cX1_throwSalt : ByteArray := prog_3_method_22_code
def yX1_throwSalt : MethodName := ⟨RX1, "throwSalt", "(III)I"⟩
abbrev cX1_doPenance : ByteArray := prog_3_method_23_code
def yX1_doPenance : MethodName := ⟨RX1, "doPenance", "(II)I"⟩
abbrev cX1_bringSalt : ByteArray := prog_3_method_24_code
def yX1_bringSalt : MethodName := ⟨RX1, "bringSalt", "(I)I"⟩
abbrev cX1_audit : ByteArray := prog_3_method_25_code
def yX1_audit : MethodName := ⟨RX1, "audit", "()I"⟩
abbrev cX1_pass : ByteArray := prog_3_method_26_code
def yX1_pass : MethodName := ⟨RX1, "pass", "(I)I"⟩
abbrev cX1_day : ByteArray := prog_3_method_27_code
def yX1_day : MethodName := ⟨RX1, "day", "()I"⟩
abbrev cX1_members : ByteArray := prog_3_method_28_code
def yX1_members : MethodName := ⟨RX1, "members", "()I"⟩
abbrev cX1_member : ByteArray := prog_3_method_29_code
def yX1_member : MethodName := ⟨RX1, "member", "(II)I"⟩
abbrev cX1_luckOf : ByteArray := prog_3_method_30_code
def yX1_luckOf : MethodName := ⟨RX1, "luckOf", "(I)I"⟩
abbrev cX1_arrearsOf : ByteArray := prog_3_method_31_code
def yX1_arrearsOf : MethodName := ⟨RX1, "arrearsOf", "(I)I"⟩
abbrev cX1_lumpsOf : ByteArray := prog_3_method_32_code
def yX1_lumpsOf : MethodName := ⟨RX1, "lumpsOf", "(I)I"⟩
abbrev cX1_dailyLoss : ByteArray := prog_3_method_33_code
def yX1_dailyLoss : MethodName := ⟨RX1, "dailyLoss", "(I)I"⟩
abbrev cX1_best : ByteArray := prog_3_method_34_code
def yX1_best : MethodName := ⟨RX1, "best", "()I"⟩
abbrev cX1_owed : ByteArray := prog_3_method_35_code
def yX1_owed : MethodName := ⟨RX1, "owed", "()I"⟩
abbrev cX1_luckiest : ByteArray := prog_3_method_36_code
def yX1_luckiest : MethodName := ⟨RX1, "luckiest", "()I"⟩
abbrev cX1_allArrears : ByteArray := prog_3_method_37_code
def yX1_allArrears : MethodName := ⟨RX1, "allArrears", "()I"⟩
abbrev cX1_clearMembers : ByteArray := prog_3_method_38_code
def yX1_clearMembers : MethodName := ⟨RX1, "clearMembers", "()I"⟩
abbrev cX1_salt : ByteArray := prog_3_method_39_code
def yX1_salt : MethodName := ⟨RX1, "salt", "()I"⟩
abbrev cX1_ledger : ByteArray := prog_3_method_40_code
def yX1_ledger : MethodName := ⟨RX1, "ledger", "()I"⟩
abbrev cX1_entry : ByteArray := prog_3_method_41_code
def yX1_entry : MethodName := ⟨RX1, "entry", "(II)I"⟩
abbrev cX1_memberOf : ByteArray := prog_3_method_42_code
def yX1_memberOf : MethodName := ⟨RX1, "memberOf", "(I)I"⟩
abbrev cX1_isLeft : ByteArray := prog_3_method_43_code
def yX1_isLeft : MethodName := ⟨RX1, "isLeft", "(I)Z"⟩
abbrev cX1_grainsOf : ByteArray := prog_3_method_44_code
def yX1_grainsOf : MethodName := ⟨RX1, "grainsOf", "(I)I"⟩
abbrev cX1_excessOf : ByteArray := prog_3_method_45_code
def yX1_excessOf : MethodName := ⟨RX1, "excessOf", "(I)I"⟩
abbrev cX1_faults : ByteArray := prog_3_method_46_code
def yX1_faults : MethodName := ⟨RX1, "faults", "()I"⟩
abbrev cX1_adds : ByteArray := prog_3_method_47_code
def yX1_adds : MethodName := ⟨RX1, "adds", "(I)I"⟩
abbrev cX1_arrearsByAudit : ByteArray := prog_3_method_48_code
def yX1_arrearsByAudit : MethodName := ⟨RX1, "arrearsByAudit", "(I)I"⟩
abbrev cX1_daysUntilAudit : ByteArray := prog_3_method_49_code
def yX1_daysUntilAudit : MethodName := ⟨RX1, "daysUntilAudit", "()I"⟩
abbrev cX1_faultsFound : ByteArray := prog_3_method_50_code
def yX1_faultsFound : MethodName := ⟨RX1, "faultsFound", "()I"⟩
abbrev cX1_luckIn : ByteArray := prog_3_method_51_code
def yX1_luckIn : MethodName := ⟨RX1, "luckIn", "(II)I"⟩
abbrev cX1_until : ByteArray := prog_3_method_52_code
def yX1_until : MethodName := ⟨RX1, "until", "(II)I"⟩
abbrev cX1_daysUntilClear : ByteArray := prog_3_method_53_code
def yX1_daysUntilClear : MethodName := ⟨RX1, "daysUntilClear", "(I)I"⟩
abbrev cX1_daysUntilUnlucky : ByteArray := prog_3_method_54_code
def yX1_daysUntilUnlucky : MethodName := ⟨RX1, "daysUntilUnlucky", "(I)I"⟩
abbrev cX1_pinch : ByteArray := prog_3_method_55_code
def yX1_pinch : MethodName := ⟨RX1, "pinch", "(I)I"⟩
abbrev cX1_penance : ByteArray := prog_3_method_56_code
def yX1_penance : MethodName := ⟨RX1, "penance", "(I)I"⟩
abbrev cX1_bestPinch : ByteArray := prog_3_method_57_code
def yX1_bestPinch : MethodName := ⟨RX1, "bestPinch", "(I)I"⟩
abbrev cX1_bestPenance : ByteArray := prog_3_method_58_code
def yX1_bestPenance : MethodName := ⟨RX1, "bestPenance", "(I)I"⟩
abbrev cX1_meanLuck : ByteArray := prog_3_method_59_code
def yX1_meanLuck : MethodName := ⟨RX1, "meanLuck", "()D"⟩
abbrev cX1_digest : ByteArray := prog_3_method_60_code
def yX1_digest : MethodName := ⟨RX1, "digest", "()J"⟩
def RJ9 : String := "java/lang/Math"
def TJ9 : u_T := fun k => match k with
  | _ => ("", "", "", false)
def tyJ9 : Nat → FieldType := fun k => match k with
  | _ => .int
abbrev wsJ90 : List Cond := u_ws RJ9 TJ9 0
theorem nmJ9 : ∀ a, a < 0 → ∀ b, b < 0 → a ≠ b → (TJ9 a).2.1 ≠ (TJ9 b).2.1 := by decide +kernel
theorem tyJ9_ok : ∀ k, k < 0 → parseFieldDescriptor (TJ9 k).2.2.1 = some (tyJ9 k) := by decide +kernel
abbrev cJ9_max_7cf53 : ByteArray := prog_8_method_65_code
def yJ9_max_7cf53 : MethodName := ⟨RJ9, "max", "(II)I"⟩
abbrev cJ9_min_7cf53 : ByteArray := prog_8_method_69_code
def yJ9_min_7cf53 : MethodName := ⟨RJ9, "min", "(II)I"⟩
def RJ0 : String := "java/lang/String"
def TJ0 : u_T := fun k => match k with
  | _ => ("", "", "", false)
def tyJ0 : Nat → FieldType := fun k => match k with
  | _ => .int
abbrev wsJ00 : List Cond := u_ws RJ0 TJ0 0
theorem nmJ0 : ∀ a, a < 0 → ∀ b, b < 0 → a ≠ b → (TJ0 a).2.1 ≠ (TJ0 b).2.1 := by decide +kernel
theorem tyJ0_ok : ∀ k, k < 0 → parseFieldDescriptor (TJ0 k).2.2.1 = some (tyJ0 k) := by decide +kernel
def RJ10 : String := "java/lang/System"
def TJ10 : u_T := fun k => match k with
  | _ => ("", "", "", false)
def tyJ10 : Nat → FieldType := fun k => match k with
  | _ => .int
abbrev wsJ100 : List Cond := u_ws RJ10 TJ10 0
theorem nmJ10 : ∀ a, a < 0 → ∀ b, b < 0 → a ≠ b → (TJ10 a).2.1 ≠ (TJ10 b).2.1 := by decide +kernel
theorem tyJ10_ok : ∀ k, k < 0 → parseFieldDescriptor (TJ10 k).2.2.1 = some (tyJ10 k) := by decide +kernel
def RL : String := "SaltOrderLaw"
abbrev cL_join : ByteArray := method_3_code
def yL_join : MethodName := ⟨RL, "join", "(LSaltOrder;[J)I"⟩
abbrev cL_spill : ByteArray := method_4_code
def yL_spill : MethodName := ⟨RL, "spill", "(LSaltOrder;II[J)I"⟩
abbrev cL_throwSalt : ByteArray := method_5_code
def yL_throwSalt : MethodName := ⟨RL, "throwSalt", "(LSaltOrder;III[J)I"⟩
abbrev cL_doPenance : ByteArray := method_6_code
def yL_doPenance : MethodName := ⟨RL, "doPenance", "(LSaltOrder;II[J)I"⟩
abbrev cL_bringSalt : ByteArray := method_7_code
def yL_bringSalt : MethodName := ⟨RL, "bringSalt", "(LSaltOrder;I[J)I"⟩
abbrev cL_pass : ByteArray := method_8_code
def yL_pass : MethodName := ⟨RL, "pass", "(LSaltOrder;I[J)I"⟩
abbrev cL_luckOf : ByteArray := method_9_code
def yL_luckOf : MethodName := ⟨RL, "luckOf", "(LSaltOrder;I[J)I"⟩
abbrev cL_arrearsOf : ByteArray := method_10_code
def yL_arrearsOf : MethodName := ⟨RL, "arrearsOf", "(LSaltOrder;I[J)I"⟩
abbrev cL_lumpsOf : ByteArray := method_11_code
def yL_lumpsOf : MethodName := ⟨RL, "lumpsOf", "(LSaltOrder;I[J)I"⟩
abbrev cL_dailyLoss : ByteArray := method_12_code
def yL_dailyLoss : MethodName := ⟨RL, "dailyLoss", "(LSaltOrder;I[J)I"⟩
abbrev cL_memberOf : ByteArray := method_13_code
def yL_memberOf : MethodName := ⟨RL, "memberOf", "(LSaltOrder;I[J)I"⟩
abbrev cL_isLeft : ByteArray := method_14_code
def yL_isLeft : MethodName := ⟨RL, "isLeft", "(LSaltOrder;I[J)I"⟩
abbrev cL_grainsOf : ByteArray := method_15_code
def yL_grainsOf : MethodName := ⟨RL, "grainsOf", "(LSaltOrder;I[J)I"⟩
abbrev cL_excessOf : ByteArray := method_16_code
def yL_excessOf : MethodName := ⟨RL, "excessOf", "(LSaltOrder;I[J)I"⟩
abbrev cL_arrearsByAudit : ByteArray := method_17_code
def yL_arrearsByAudit : MethodName := ⟨RL, "arrearsByAudit", "(LSaltOrder;I[J)I"⟩
abbrev cL_luckIn : ByteArray := method_18_code
def yL_luckIn : MethodName := ⟨RL, "luckIn", "(LSaltOrder;II[J)I"⟩
abbrev cL_daysUntilClear : ByteArray := method_19_code
def yL_daysUntilClear : MethodName := ⟨RL, "daysUntilClear", "(LSaltOrder;I[J)I"⟩
abbrev cL_daysUntilUnlucky : ByteArray := method_20_code
def yL_daysUntilUnlucky : MethodName := ⟨RL, "daysUntilUnlucky", "(LSaltOrder;I[J)I"⟩
abbrev cL_bestPinch : ByteArray := method_21_code
def yL_bestPinch : MethodName := ⟨RL, "bestPinch", "(LSaltOrder;I[J)I"⟩
abbrev cL_bestPenance : ByteArray := method_22_code
def yL_bestPenance : MethodName := ⟨RL, "bestPenance", "(LSaltOrder;I[J)I"⟩
abbrev cL_law : ByteArray := code
def yL_law : MethodName := ⟨RL, "law", "([I)Z"⟩
def wsX0_init : List Cond := .code yX0_init cX0_init 1 none :: ([.methodLink RX0 3 objectInit, .instanceMethod objectInit, .code objectInit ⟨#[0xb1]⟩ 1 none, .arrayClass .int, .fieldLink RX0 9 "SaltOrder" "luck" "[I", .fieldLink RX0 13 "SaltOrder" "arrears" "[I", .fieldLink RX0 16 "SaltOrder" "toEat" "[I", .fieldLink RX0 19 "SaltOrder" "throwers" "[I", .arrayClass .boolean, .fieldLink RX0 22 "SaltOrder" "lefts" "[Z", .fieldLink RX0 26 "SaltOrder" "thrown" "[I", .fieldLink RX0 29 "SaltOrder" "excesses" "[I", .fieldLink RX0 32 "SaltOrder" "memberCount" "I", .fieldLink RX0 36 "SaltOrder" "throwCount" "I", .fieldLink RX0 39 "SaltOrder" "cellar" "I", .fieldLink RX0 42 "SaltOrder" "today" "I", .fieldLink RX0 45 "SaltOrder" "found" "I"] ++ wsX00)
def wsX0_join : List Cond := .code yX0_join cX0_join 2 (some .int) :: ([.classLink RX0 48 "java/lang/IllegalStateException", .initialized "java/lang/IllegalStateException", .fieldLink RX0 32 "SaltOrder" "memberCount" "I", .fieldLink RX0 9 "SaltOrder" "luck" "[I", .fieldLink RX0 13 "SaltOrder" "arrears" "[I", .fieldLink RX0 16 "SaltOrder" "toEat" "[I"] ++ wsX00 ++ (vx_atS RX0 52 "java/lang/IllegalStateException" ["java/lang/RuntimeException", "java/lang/Exception"]).filter goodWord)
def wsX0_checkMember : List Cond := .code yX0_checkMember cX0_checkMember 2 none :: ([.classLink RX0 195 "java/lang/IndexOutOfBoundsException", .initialized "java/lang/IndexOutOfBoundsException", .fieldLink RX0 32 "SaltOrder" "memberCount" "I"] ++ wsX00 ++ (vx_atS RX0 199 "java/lang/IndexOutOfBoundsException" ["java/lang/RuntimeException", "java/lang/Exception"]).filter goodWord)
def wsX0_checkAmount : List Cond := .code yX0_checkAmount cX0_checkAmount 2 none :: ([.classLink RX0 204 "java/lang/IllegalArgumentException", .initialized "java/lang/IllegalArgumentException"] ++ (vx_atS RX0 208 "java/lang/IllegalArgumentException" ["java/lang/RuntimeException", "java/lang/Exception"]).filter goodWord)
def wsX0_checkCellar : List Cond := .code yX0_checkCellar cX0_checkCellar 2 none :: ([.classLink RX0 48 "java/lang/IllegalStateException", .initialized "java/lang/IllegalStateException", .fieldLink RX0 39 "SaltOrder" "cellar" "I"] ++ wsX00 ++ (vx_atS RX0 52 "java/lang/IllegalStateException" ["java/lang/RuntimeException", "java/lang/Exception"]).filter goodWord)
def wsX0_addArrears : List Cond := .code yX0_addArrears cX0_addArrears 3 none :: ([.fieldLink RX0 13 "SaltOrder" "arrears" "[I", .methodLink RX0 89 Lib.Math.min.name, .static Lib.Math.min.name, .initialized "java/lang/Math", .code Lib.Math.min.name Lib.Math.min.code 2 (some .int)] ++ wsX00)
def wsX0_spill_r1 : List Cond := [Cond.fieldLink RX0 39 "SaltOrder" "cellar" "I", Cond.fieldLink RX0 13 "SaltOrder" "arrears" "[I", Cond.methodLink RX0 55 yX0_checkMember, Cond.instanceMethod yX0_checkMember, Cond.selects RX0 yX0_checkMember yX0_checkMember, Cond.initialized RX0, Cond.code yX0_checkMember cX0_checkMember 2 none, Cond.classLink RX0 195 "java/lang/IndexOutOfBoundsException", Cond.initialized "java/lang/IndexOutOfBoundsException", Cond.fieldLink RX0 32 "SaltOrder" "memberCount" "I", Cond.methodLink RX0 59 yX0_checkAmount, Cond.static yX0_checkAmount, Cond.code yX0_checkAmount cX0_checkAmount 2 none, Cond.classLink RX0 204 "java/lang/IllegalArgumentException", Cond.initialized "java/lang/IllegalArgumentException", Cond.methodLink RX0 63 yX0_checkCellar, Cond.instanceMethod yX0_checkCellar, Cond.selects RX0 yX0_checkCellar yX0_checkCellar, Cond.code yX0_checkCellar cX0_checkCellar 2 none, Cond.classLink RX0 48 "java/lang/IllegalStateException", Cond.initialized "java/lang/IllegalStateException", Cond.methodLink RX0 66 yX0_addArrears, Cond.instanceMethod yX0_addArrears, Cond.selects RX0 yX0_addArrears yX0_addArrears]
def wsX0_spill_r2 : List Cond := [Cond.code yX0_addArrears cX0_addArrears 3 none, Cond.methodLink RX0 89 Lib.Math.min.name, Cond.static Lib.Math.min.name, Cond.initialized "java/lang/Math", Cond.code Lib.Math.min.name Lib.Math.min.code 2 (some .int)]
def wsX0_spill : List Cond := .code yX0_spill cX0_spill 3 (some .int) :: ((wsX0_spill_r1 ++ wsX0_spill_r2) ++ wsX00 ++ (vx_atS RX0 199 "java/lang/IndexOutOfBoundsException" ["java/lang/RuntimeException", "java/lang/Exception"]).filter goodWord ++ (vx_atS RX0 208 "java/lang/IllegalArgumentException" ["java/lang/RuntimeException", "java/lang/Exception"]).filter goodWord ++ (vx_atS RX0 52 "java/lang/IllegalStateException" ["java/lang/RuntimeException", "java/lang/Exception"]).filter goodWord)
def wsX0_checkShoulder : List Cond := .code yX0_checkShoulder cX0_checkShoulder 1 none :: ([.classLink RX0 195 "java/lang/IndexOutOfBoundsException", .initialized "java/lang/IndexOutOfBoundsException"] ++ (vx_atS RX0 199 "java/lang/IndexOutOfBoundsException" ["java/lang/RuntimeException", "java/lang/Exception"]).filter goodWord)
def wsX0_checkLedgerHasRoom : List Cond := .code yX0_checkLedgerHasRoom cX0_checkLedgerHasRoom 1 none :: ([.classLink RX0 48 "java/lang/IllegalStateException", .initialized "java/lang/IllegalStateException", .fieldLink RX0 36 "SaltOrder" "throwCount" "I"] ++ wsX00 ++ (vx_atS RX0 52 "java/lang/IllegalStateException" ["java/lang/RuntimeException", "java/lang/Exception"]).filter goodWord)
def wsX0_leftExcess : List Cond := .code yX0_leftExcess cX0_leftExcess 3 (some .int) :: ([.fieldLink RX0 13 "SaltOrder" "arrears" "[I", .methodLink RX0 213 Lib.Math.max.name, .static Lib.Math.max.name, .initialized "java/lang/Math", .code Lib.Math.max.name Lib.Math.max.code 2 (some .int)] ++ wsX00)
def wsX0_lessenArrears : List Cond := .code yX0_lessenArrears cX0_lessenArrears 3 none :: ([.fieldLink RX0 13 "SaltOrder" "arrears" "[I", .methodLink RX0 213 Lib.Math.max.name, .static Lib.Math.max.name, .initialized "java/lang/Math", .code Lib.Math.max.name Lib.Math.max.code 2 (some .int)] ++ wsX00)
def wsX0_writeThrow : List Cond := .code yX0_writeThrow cX0_writeThrow 5 none :: ([.fieldLink RX0 19 "SaltOrder" "throwers" "[I", .fieldLink RX0 36 "SaltOrder" "throwCount" "I", .fieldLink RX0 22 "SaltOrder" "lefts" "[Z", .fieldLink RX0 26 "SaltOrder" "thrown" "[I", .fieldLink RX0 29 "SaltOrder" "excesses" "[I"] ++ wsX00)
def wsX0_throwSalt_r1 : List Cond := [Cond.fieldLink RX0 39 "SaltOrder" "cellar" "I", Cond.methodLink RX0 55 yX0_checkMember, Cond.instanceMethod yX0_checkMember, Cond.selects RX0 yX0_checkMember yX0_checkMember, Cond.initialized RX0, Cond.code yX0_checkMember cX0_checkMember 2 none, Cond.classLink RX0 195 "java/lang/IndexOutOfBoundsException", Cond.initialized "java/lang/IndexOutOfBoundsException", Cond.fieldLink RX0 32 "SaltOrder" "memberCount" "I", Cond.methodLink RX0 69 yX0_checkShoulder, Cond.static yX0_checkShoulder, Cond.code yX0_checkShoulder cX0_checkShoulder 1 none, Cond.methodLink RX0 59 yX0_checkAmount, Cond.static yX0_checkAmount, Cond.code yX0_checkAmount cX0_checkAmount 2 none, Cond.classLink RX0 204 "java/lang/IllegalArgumentException", Cond.initialized "java/lang/IllegalArgumentException", Cond.methodLink RX0 63 yX0_checkCellar, Cond.instanceMethod yX0_checkCellar, Cond.selects RX0 yX0_checkCellar yX0_checkCellar, Cond.code yX0_checkCellar cX0_checkCellar 2 none, Cond.classLink RX0 48 "java/lang/IllegalStateException", Cond.initialized "java/lang/IllegalStateException", Cond.methodLink RX0 72 yX0_checkLedgerHasRoom]
def wsX0_throwSalt_r2 : List Cond := [Cond.instanceMethod yX0_checkLedgerHasRoom, Cond.selects RX0 yX0_checkLedgerHasRoom yX0_checkLedgerHasRoom, Cond.code yX0_checkLedgerHasRoom cX0_checkLedgerHasRoom 1 none, Cond.fieldLink RX0 36 "SaltOrder" "throwCount" "I", Cond.methodLink RX0 75 yX0_leftExcess, Cond.instanceMethod yX0_leftExcess, Cond.selects RX0 yX0_leftExcess yX0_leftExcess, Cond.code yX0_leftExcess cX0_leftExcess 3 (some .int), Cond.fieldLink RX0 13 "SaltOrder" "arrears" "[I", Cond.methodLink RX0 213 Lib.Math.max.name, Cond.static Lib.Math.max.name, Cond.initialized "java/lang/Math", Cond.code Lib.Math.max.name Lib.Math.max.code 2 (some .int), Cond.methodLink RX0 79 yX0_lessenArrears, Cond.instanceMethod yX0_lessenArrears, Cond.selects RX0 yX0_lessenArrears yX0_lessenArrears, Cond.code yX0_lessenArrears cX0_lessenArrears 3 none, Cond.methodLink RX0 82 yX0_writeThrow, Cond.instanceMethod yX0_writeThrow, Cond.selects RX0 yX0_writeThrow yX0_writeThrow, Cond.code yX0_writeThrow cX0_writeThrow 5 none, Cond.fieldLink RX0 19 "SaltOrder" "throwers" "[I", Cond.fieldLink RX0 22 "SaltOrder" "lefts" "[Z", Cond.fieldLink RX0 26 "SaltOrder" "thrown" "[I"]
def wsX0_throwSalt_r3 : List Cond := [Cond.fieldLink RX0 29 "SaltOrder" "excesses" "[I"]
def wsX0_throwSalt : List Cond := .code yX0_throwSalt cX0_throwSalt 6 (some .int) :: ((wsX0_throwSalt_r1 ++ (wsX0_throwSalt_r2 ++ wsX0_throwSalt_r3)) ++ wsX00 ++ (vx_atS RX0 199 "java/lang/IndexOutOfBoundsException" ["java/lang/RuntimeException", "java/lang/Exception"]).filter goodWord ++ (vx_atS RX0 208 "java/lang/IllegalArgumentException" ["java/lang/RuntimeException", "java/lang/Exception"]).filter goodWord ++ (vx_atS RX0 52 "java/lang/IllegalStateException" ["java/lang/RuntimeException", "java/lang/Exception"]).filter goodWord)
def wsX0_addLumps : List Cond := .code yX0_addLumps cX0_addLumps 3 none :: ([.fieldLink RX0 16 "SaltOrder" "toEat" "[I", .methodLink RX0 89 Lib.Math.min.name, .static Lib.Math.min.name, .initialized "java/lang/Math", .code Lib.Math.min.name Lib.Math.min.code 2 (some .int)] ++ wsX00)
def wsX0_doPenance : List Cond := .code yX0_doPenance cX0_doPenance 3 (some .int) :: ([.fieldLink RX0 16 "SaltOrder" "toEat" "[I", .methodLink RX0 55 yX0_checkMember, .instanceMethod yX0_checkMember, .selects RX0 yX0_checkMember yX0_checkMember, .initialized RX0, .code yX0_checkMember cX0_checkMember 2 none, .classLink RX0 195 "java/lang/IndexOutOfBoundsException", .initialized "java/lang/IndexOutOfBoundsException", .fieldLink RX0 32 "SaltOrder" "memberCount" "I", .methodLink RX0 59 yX0_checkAmount, .static yX0_checkAmount, .code yX0_checkAmount cX0_checkAmount 2 none, .classLink RX0 204 "java/lang/IllegalArgumentException", .initialized "java/lang/IllegalArgumentException", .methodLink RX0 86 yX0_addLumps, .instanceMethod yX0_addLumps, .selects RX0 yX0_addLumps yX0_addLumps, .code yX0_addLumps cX0_addLumps 3 none, .methodLink RX0 89 Lib.Math.min.name, .static Lib.Math.min.name, .initialized "java/lang/Math", .code Lib.Math.min.name Lib.Math.min.code 2 (some .int)] ++ wsX00 ++ (vx_atS RX0 199 "java/lang/IndexOutOfBoundsException" ["java/lang/RuntimeException", "java/lang/Exception"]).filter goodWord ++ (vx_atS RX0 208 "java/lang/IllegalArgumentException" ["java/lang/RuntimeException", "java/lang/Exception"]).filter goodWord)
def wsX0_bringSalt : List Cond := .code yX0_bringSalt cX0_bringSalt 2 (some .int) :: ([.fieldLink RX0 39 "SaltOrder" "cellar" "I", .methodLink RX0 89 Lib.Math.min.name, .static Lib.Math.min.name, .initialized "java/lang/Math", .code Lib.Math.min.name Lib.Math.min.code 2 (some .int), .methodLink RX0 59 yX0_checkAmount, .static yX0_checkAmount, .initialized RX0, .code yX0_checkAmount cX0_checkAmount 2 none, .classLink RX0 204 "java/lang/IllegalArgumentException", .initialized "java/lang/IllegalArgumentException"] ++ wsX00 ++ (vx_atS RX0 208 "java/lang/IllegalArgumentException" ["java/lang/RuntimeException", "java/lang/Exception"]).filter goodWord)
def wsX0_faults : List Cond := .code yX0_faults cX0_faults 3 (some .int) :: ([.fieldLink RX0 36 "SaltOrder" "throwCount" "I", .fieldLink RX0 29 "SaltOrder" "excesses" "[I"] ++ wsX00)
def wsX0_debtOf : List Cond := .code yX0_debtOf cX0_debtOf 4 (some .int) :: ([.fieldLink RX0 36 "SaltOrder" "throwCount" "I", .fieldLink RX0 19 "SaltOrder" "throwers" "[I", .fieldLink RX0 29 "SaltOrder" "excesses" "[I"] ++ wsX00)
def wsX0_audit : List Cond := .code yX0_audit cX0_audit 3 (some .int) :: ([.fieldLink RX0 32 "SaltOrder" "memberCount" "I", .fieldLink RX0 36 "SaltOrder" "throwCount" "I", .fieldLink RX0 45 "SaltOrder" "found" "I", .methodLink RX0 94 yX0_faults, .instanceMethod yX0_faults, .selects RX0 yX0_faults yX0_faults, .initialized RX0, .code yX0_faults cX0_faults 3 (some .int), .fieldLink RX0 29 "SaltOrder" "excesses" "[I", .methodLink RX0 98 yX0_debtOf, .instanceMethod yX0_debtOf, .selects RX0 yX0_debtOf yX0_debtOf, .code yX0_debtOf cX0_debtOf 4 (some .int), .fieldLink RX0 19 "SaltOrder" "throwers" "[I", .methodLink RX0 66 yX0_addArrears, .instanceMethod yX0_addArrears, .selects RX0 yX0_addArrears yX0_addArrears, .code yX0_addArrears cX0_addArrears 3 none, .fieldLink RX0 13 "SaltOrder" "arrears" "[I", .methodLink RX0 89 Lib.Math.min.name, .static Lib.Math.min.name, .initialized "java/lang/Math", .code Lib.Math.min.name Lib.Math.min.code 2 (some .int)] ++ wsX00)
def wsX0_isAuditDay : List Cond := .code yX0_isAuditDay cX0_isAuditDay 1 (some .boolean) :: ([])
def wsX0_lossOf : List Cond := .code yX0_lossOf cX0_lossOf 2 (some .int) :: ([.fieldLink RX0 16 "SaltOrder" "toEat" "[I", .fieldLink RX0 13 "SaltOrder" "arrears" "[I"] ++ wsX00)
def wsX0_eatOrFeelLuck : List Cond := .code yX0_eatOrFeelLuck cX0_eatOrFeelLuck 2 none :: ([.fieldLink RX0 16 "SaltOrder" "toEat" "[I", .fieldLink RX0 13 "SaltOrder" "arrears" "[I", .fieldLink RX0 9 "SaltOrder" "luck" "[I", .methodLink RX0 213 Lib.Math.max.name, .static Lib.Math.max.name, .initialized "java/lang/Math", .code Lib.Math.max.name Lib.Math.max.code 2 (some .int), .methodLink RX0 89 Lib.Math.min.name, .static Lib.Math.min.name, .code Lib.Math.min.name Lib.Math.min.code 2 (some .int), .methodLink RX0 79 yX0_lessenArrears, .instanceMethod yX0_lessenArrears, .selects RX0 yX0_lessenArrears yX0_lessenArrears, .initialized RX0, .code yX0_lessenArrears cX0_lessenArrears 3 none, .methodLink RX0 105 yX0_lossOf, .instanceMethod yX0_lossOf, .selects RX0 yX0_lossOf yX0_lossOf, .code yX0_lossOf cX0_lossOf 2 (some .int)] ++ wsX00)
def wsX0_passOneDay_r1 : List Cond := [Cond.fieldLink RX0 42 "SaltOrder" "today" "I", Cond.fieldLink RX0 32 "SaltOrder" "memberCount" "I", Cond.methodLink RX0 216 yX0_isAuditDay, Cond.static yX0_isAuditDay, Cond.initialized RX0, Cond.code yX0_isAuditDay cX0_isAuditDay 1 (some .boolean), Cond.methodLink RX0 219 yX0_audit, Cond.instanceMethod yX0_audit, Cond.selects RX0 yX0_audit yX0_audit, Cond.code yX0_audit cX0_audit 3 (some .int), Cond.fieldLink RX0 36 "SaltOrder" "throwCount" "I", Cond.fieldLink RX0 45 "SaltOrder" "found" "I", Cond.methodLink RX0 94 yX0_faults, Cond.instanceMethod yX0_faults, Cond.selects RX0 yX0_faults yX0_faults, Cond.code yX0_faults cX0_faults 3 (some .int), Cond.fieldLink RX0 29 "SaltOrder" "excesses" "[I", Cond.methodLink RX0 98 yX0_debtOf, Cond.instanceMethod yX0_debtOf, Cond.selects RX0 yX0_debtOf yX0_debtOf, Cond.code yX0_debtOf cX0_debtOf 4 (some .int), Cond.fieldLink RX0 19 "SaltOrder" "throwers" "[I", Cond.methodLink RX0 66 yX0_addArrears, Cond.instanceMethod yX0_addArrears]
def wsX0_passOneDay_r2 : List Cond := [Cond.selects RX0 yX0_addArrears yX0_addArrears, Cond.code yX0_addArrears cX0_addArrears 3 none, Cond.fieldLink RX0 13 "SaltOrder" "arrears" "[I", Cond.methodLink RX0 89 Lib.Math.min.name, Cond.static Lib.Math.min.name, Cond.initialized "java/lang/Math", Cond.code Lib.Math.min.name Lib.Math.min.code 2 (some .int), Cond.methodLink RX0 222 yX0_eatOrFeelLuck, Cond.instanceMethod yX0_eatOrFeelLuck, Cond.selects RX0 yX0_eatOrFeelLuck yX0_eatOrFeelLuck, Cond.code yX0_eatOrFeelLuck cX0_eatOrFeelLuck 2 none, Cond.fieldLink RX0 16 "SaltOrder" "toEat" "[I", Cond.fieldLink RX0 9 "SaltOrder" "luck" "[I", Cond.methodLink RX0 213 Lib.Math.max.name, Cond.static Lib.Math.max.name, Cond.code Lib.Math.max.name Lib.Math.max.code 2 (some .int), Cond.methodLink RX0 79 yX0_lessenArrears, Cond.instanceMethod yX0_lessenArrears, Cond.selects RX0 yX0_lessenArrears yX0_lessenArrears, Cond.code yX0_lessenArrears cX0_lessenArrears 3 none, Cond.methodLink RX0 105 yX0_lossOf, Cond.instanceMethod yX0_lossOf, Cond.selects RX0 yX0_lossOf yX0_lossOf, Cond.code yX0_lossOf cX0_lossOf 2 (some .int)]
def wsX0_passOneDay : List Cond := .code yX0_passOneDay cX0_passOneDay 3 (some .int) :: ((wsX0_passOneDay_r1 ++ wsX0_passOneDay_r2) ++ wsX00)
def wsX0_pass_r1 : List Cond := [Cond.methodLink RX0 59 yX0_checkAmount, Cond.static yX0_checkAmount, Cond.initialized RX0, Cond.code yX0_checkAmount cX0_checkAmount 2 none, Cond.classLink RX0 204 "java/lang/IllegalArgumentException", Cond.initialized "java/lang/IllegalArgumentException", Cond.methodLink RX0 102 yX0_passOneDay, Cond.instanceMethod yX0_passOneDay, Cond.selects RX0 yX0_passOneDay yX0_passOneDay, Cond.code yX0_passOneDay cX0_passOneDay 3 (some .int), Cond.fieldLink RX0 42 "SaltOrder" "today" "I", Cond.fieldLink RX0 32 "SaltOrder" "memberCount" "I", Cond.methodLink RX0 216 yX0_isAuditDay, Cond.static yX0_isAuditDay, Cond.code yX0_isAuditDay cX0_isAuditDay 1 (some .boolean), Cond.methodLink RX0 219 yX0_audit, Cond.instanceMethod yX0_audit, Cond.selects RX0 yX0_audit yX0_audit, Cond.code yX0_audit cX0_audit 3 (some .int), Cond.fieldLink RX0 36 "SaltOrder" "throwCount" "I", Cond.fieldLink RX0 45 "SaltOrder" "found" "I", Cond.methodLink RX0 94 yX0_faults, Cond.instanceMethod yX0_faults, Cond.selects RX0 yX0_faults yX0_faults]
def wsX0_pass_r2 : List Cond := [Cond.code yX0_faults cX0_faults 3 (some .int), Cond.fieldLink RX0 29 "SaltOrder" "excesses" "[I", Cond.methodLink RX0 98 yX0_debtOf, Cond.instanceMethod yX0_debtOf, Cond.selects RX0 yX0_debtOf yX0_debtOf, Cond.code yX0_debtOf cX0_debtOf 4 (some .int), Cond.fieldLink RX0 19 "SaltOrder" "throwers" "[I", Cond.methodLink RX0 66 yX0_addArrears, Cond.instanceMethod yX0_addArrears, Cond.selects RX0 yX0_addArrears yX0_addArrears, Cond.code yX0_addArrears cX0_addArrears 3 none, Cond.fieldLink RX0 13 "SaltOrder" "arrears" "[I", Cond.methodLink RX0 89 Lib.Math.min.name, Cond.static Lib.Math.min.name, Cond.initialized "java/lang/Math", Cond.code Lib.Math.min.name Lib.Math.min.code 2 (some .int), Cond.methodLink RX0 222 yX0_eatOrFeelLuck, Cond.instanceMethod yX0_eatOrFeelLuck, Cond.selects RX0 yX0_eatOrFeelLuck yX0_eatOrFeelLuck, Cond.code yX0_eatOrFeelLuck cX0_eatOrFeelLuck 2 none, Cond.fieldLink RX0 16 "SaltOrder" "toEat" "[I", Cond.fieldLink RX0 9 "SaltOrder" "luck" "[I", Cond.methodLink RX0 213 Lib.Math.max.name, Cond.static Lib.Math.max.name]
def wsX0_pass_r3 : List Cond := [Cond.code Lib.Math.max.name Lib.Math.max.code 2 (some .int), Cond.methodLink RX0 79 yX0_lessenArrears, Cond.instanceMethod yX0_lessenArrears, Cond.selects RX0 yX0_lessenArrears yX0_lessenArrears, Cond.code yX0_lessenArrears cX0_lessenArrears 3 none, Cond.methodLink RX0 105 yX0_lossOf, Cond.instanceMethod yX0_lossOf, Cond.selects RX0 yX0_lossOf yX0_lossOf, Cond.code yX0_lossOf cX0_lossOf 2 (some .int)]
def wsX0_pass : List Cond := .code yX0_pass cX0_pass 4 (some .int) :: ((wsX0_pass_r1 ++ (wsX0_pass_r2 ++ wsX0_pass_r3)) ++ wsX00 ++ (vx_atS RX0 208 "java/lang/IllegalArgumentException" ["java/lang/RuntimeException", "java/lang/Exception"]).filter goodWord)
def wsX0_day : List Cond := .code yX0_day cX0_day 1 (some .int) :: ([.fieldLink RX0 42 "SaltOrder" "today" "I"] ++ wsX00)
def wsX0_members : List Cond := .code yX0_members cX0_members 1 (some .int) :: ([.fieldLink RX0 32 "SaltOrder" "memberCount" "I"] ++ wsX00)
def wsX0_luckOf : List Cond := .code yX0_luckOf cX0_luckOf 2 (some .int) :: ([.fieldLink RX0 9 "SaltOrder" "luck" "[I", .methodLink RX0 55 yX0_checkMember, .instanceMethod yX0_checkMember, .selects RX0 yX0_checkMember yX0_checkMember, .initialized RX0, .code yX0_checkMember cX0_checkMember 2 none, .classLink RX0 195 "java/lang/IndexOutOfBoundsException", .initialized "java/lang/IndexOutOfBoundsException", .fieldLink RX0 32 "SaltOrder" "memberCount" "I"] ++ wsX00 ++ (vx_atS RX0 199 "java/lang/IndexOutOfBoundsException" ["java/lang/RuntimeException", "java/lang/Exception"]).filter goodWord)
def wsX0_arrearsOf : List Cond := .code yX0_arrearsOf cX0_arrearsOf 2 (some .int) :: ([.fieldLink RX0 13 "SaltOrder" "arrears" "[I", .methodLink RX0 55 yX0_checkMember, .instanceMethod yX0_checkMember, .selects RX0 yX0_checkMember yX0_checkMember, .initialized RX0, .code yX0_checkMember cX0_checkMember 2 none, .classLink RX0 195 "java/lang/IndexOutOfBoundsException", .initialized "java/lang/IndexOutOfBoundsException", .fieldLink RX0 32 "SaltOrder" "memberCount" "I"] ++ wsX00 ++ (vx_atS RX0 199 "java/lang/IndexOutOfBoundsException" ["java/lang/RuntimeException", "java/lang/Exception"]).filter goodWord)
def wsX0_lumpsOf : List Cond := .code yX0_lumpsOf cX0_lumpsOf 2 (some .int) :: ([.fieldLink RX0 16 "SaltOrder" "toEat" "[I", .methodLink RX0 55 yX0_checkMember, .instanceMethod yX0_checkMember, .selects RX0 yX0_checkMember yX0_checkMember, .initialized RX0, .code yX0_checkMember cX0_checkMember 2 none, .classLink RX0 195 "java/lang/IndexOutOfBoundsException", .initialized "java/lang/IndexOutOfBoundsException", .fieldLink RX0 32 "SaltOrder" "memberCount" "I"] ++ wsX00 ++ (vx_atS RX0 199 "java/lang/IndexOutOfBoundsException" ["java/lang/RuntimeException", "java/lang/Exception"]).filter goodWord)
def wsX0_dailyLoss : List Cond := .code yX0_dailyLoss cX0_dailyLoss 2 (some .int) :: ([.methodLink RX0 55 yX0_checkMember, .instanceMethod yX0_checkMember, .selects RX0 yX0_checkMember yX0_checkMember, .initialized RX0, .code yX0_checkMember cX0_checkMember 2 none, .classLink RX0 195 "java/lang/IndexOutOfBoundsException", .initialized "java/lang/IndexOutOfBoundsException", .fieldLink RX0 32 "SaltOrder" "memberCount" "I", .methodLink RX0 105 yX0_lossOf, .instanceMethod yX0_lossOf, .selects RX0 yX0_lossOf yX0_lossOf, .code yX0_lossOf cX0_lossOf 2 (some .int), .fieldLink RX0 16 "SaltOrder" "toEat" "[I", .fieldLink RX0 13 "SaltOrder" "arrears" "[I"] ++ wsX00 ++ (vx_atS RX0 199 "java/lang/IndexOutOfBoundsException" ["java/lang/RuntimeException", "java/lang/Exception"]).filter goodWord)
def wsX0_luckiest : List Cond := .code yX0_luckiest cX0_luckiest 4 (some .int) :: ([.fieldLink RX0 32 "SaltOrder" "memberCount" "I", .fieldLink RX0 9 "SaltOrder" "luck" "[I"] ++ wsX00)
def wsX0_allArrears : List Cond := .code yX0_allArrears cX0_allArrears 3 (some .int) :: ([.fieldLink RX0 32 "SaltOrder" "memberCount" "I", .fieldLink RX0 13 "SaltOrder" "arrears" "[I"] ++ wsX00)
def wsX0_clearMembers : List Cond := .code yX0_clearMembers cX0_clearMembers 3 (some .int) :: ([.fieldLink RX0 32 "SaltOrder" "memberCount" "I", .fieldLink RX0 13 "SaltOrder" "arrears" "[I"] ++ wsX00)
def wsX0_salt : List Cond := .code yX0_salt cX0_salt 1 (some .int) :: ([.fieldLink RX0 39 "SaltOrder" "cellar" "I"] ++ wsX00)
def wsX0_ledger : List Cond := .code yX0_ledger cX0_ledger 1 (some .int) :: ([.fieldLink RX0 36 "SaltOrder" "throwCount" "I"] ++ wsX00)
def wsX0_checkEntry : List Cond := .code yX0_checkEntry cX0_checkEntry 2 none :: ([.classLink RX0 195 "java/lang/IndexOutOfBoundsException", .initialized "java/lang/IndexOutOfBoundsException", .fieldLink RX0 36 "SaltOrder" "throwCount" "I"] ++ wsX00 ++ (vx_atS RX0 199 "java/lang/IndexOutOfBoundsException" ["java/lang/RuntimeException", "java/lang/Exception"]).filter goodWord)
def wsX0_memberOf : List Cond := .code yX0_memberOf cX0_memberOf 2 (some .int) :: ([.fieldLink RX0 19 "SaltOrder" "throwers" "[I", .methodLink RX0 108 yX0_checkEntry, .instanceMethod yX0_checkEntry, .selects RX0 yX0_checkEntry yX0_checkEntry, .initialized RX0, .code yX0_checkEntry cX0_checkEntry 2 none, .classLink RX0 195 "java/lang/IndexOutOfBoundsException", .initialized "java/lang/IndexOutOfBoundsException", .fieldLink RX0 36 "SaltOrder" "throwCount" "I"] ++ wsX00 ++ (vx_atS RX0 199 "java/lang/IndexOutOfBoundsException" ["java/lang/RuntimeException", "java/lang/Exception"]).filter goodWord)
def wsX0_isLeft : List Cond := .code yX0_isLeft cX0_isLeft 2 (some .boolean) :: ([.fieldLink RX0 22 "SaltOrder" "lefts" "[Z", .methodLink RX0 108 yX0_checkEntry, .instanceMethod yX0_checkEntry, .selects RX0 yX0_checkEntry yX0_checkEntry, .initialized RX0, .code yX0_checkEntry cX0_checkEntry 2 none, .classLink RX0 195 "java/lang/IndexOutOfBoundsException", .initialized "java/lang/IndexOutOfBoundsException", .fieldLink RX0 36 "SaltOrder" "throwCount" "I"] ++ wsX00 ++ (vx_atS RX0 199 "java/lang/IndexOutOfBoundsException" ["java/lang/RuntimeException", "java/lang/Exception"]).filter goodWord)
def wsX0_grainsOf : List Cond := .code yX0_grainsOf cX0_grainsOf 2 (some .int) :: ([.fieldLink RX0 26 "SaltOrder" "thrown" "[I", .methodLink RX0 108 yX0_checkEntry, .instanceMethod yX0_checkEntry, .selects RX0 yX0_checkEntry yX0_checkEntry, .initialized RX0, .code yX0_checkEntry cX0_checkEntry 2 none, .classLink RX0 195 "java/lang/IndexOutOfBoundsException", .initialized "java/lang/IndexOutOfBoundsException", .fieldLink RX0 36 "SaltOrder" "throwCount" "I"] ++ wsX00 ++ (vx_atS RX0 199 "java/lang/IndexOutOfBoundsException" ["java/lang/RuntimeException", "java/lang/Exception"]).filter goodWord)
def wsX0_excessOf : List Cond := .code yX0_excessOf cX0_excessOf 2 (some .int) :: ([.fieldLink RX0 29 "SaltOrder" "excesses" "[I", .methodLink RX0 108 yX0_checkEntry, .instanceMethod yX0_checkEntry, .selects RX0 yX0_checkEntry yX0_checkEntry, .initialized RX0, .code yX0_checkEntry cX0_checkEntry 2 none, .classLink RX0 195 "java/lang/IndexOutOfBoundsException", .initialized "java/lang/IndexOutOfBoundsException", .fieldLink RX0 36 "SaltOrder" "throwCount" "I"] ++ wsX00 ++ (vx_atS RX0 199 "java/lang/IndexOutOfBoundsException" ["java/lang/RuntimeException", "java/lang/Exception"]).filter goodWord)
def wsX0_arrearsByAudit : List Cond := .code yX0_arrearsByAudit cX0_arrearsByAudit 2 (some .int) :: ([.methodLink RX0 55 yX0_checkMember, .instanceMethod yX0_checkMember, .selects RX0 yX0_checkMember yX0_checkMember, .initialized RX0, .code yX0_checkMember cX0_checkMember 2 none, .classLink RX0 195 "java/lang/IndexOutOfBoundsException", .initialized "java/lang/IndexOutOfBoundsException", .fieldLink RX0 32 "SaltOrder" "memberCount" "I", .methodLink RX0 98 yX0_debtOf, .instanceMethod yX0_debtOf, .selects RX0 yX0_debtOf yX0_debtOf, .code yX0_debtOf cX0_debtOf 4 (some .int), .fieldLink RX0 36 "SaltOrder" "throwCount" "I", .fieldLink RX0 19 "SaltOrder" "throwers" "[I", .fieldLink RX0 29 "SaltOrder" "excesses" "[I"] ++ wsX00 ++ (vx_atS RX0 199 "java/lang/IndexOutOfBoundsException" ["java/lang/RuntimeException", "java/lang/Exception"]).filter goodWord)
def wsX0_daysUntilAudit : List Cond := .code yX0_daysUntilAudit cX0_daysUntilAudit 1 (some .int) :: ([.fieldLink RX0 42 "SaltOrder" "today" "I"] ++ wsX00)
def wsX0_faultsFound : List Cond := .code yX0_faultsFound cX0_faultsFound 1 (some .int) :: ([.fieldLink RX0 45 "SaltOrder" "found" "I"] ++ wsX00)
def wsX0_beginTrial : List Cond := .code yX0_beginTrial cX0_beginTrial 2 none :: ([.fieldLink RX0 9 "SaltOrder" "luck" "[I", .fieldLink RX0 13 "SaltOrder" "arrears" "[I", .fieldLink RX0 16 "SaltOrder" "toEat" "[I", .fieldLink RX0 42 "SaltOrder" "today" "I", .fieldLink RX0 225 "SaltOrder" "trialDay" "I", .fieldLink RX0 228 "SaltOrder" "trialDebt" "I", .methodLink RX0 98 yX0_debtOf, .instanceMethod yX0_debtOf, .selects RX0 yX0_debtOf yX0_debtOf, .initialized RX0, .code yX0_debtOf cX0_debtOf 4 (some .int), .fieldLink RX0 36 "SaltOrder" "throwCount" "I", .fieldLink RX0 19 "SaltOrder" "throwers" "[I", .fieldLink RX0 29 "SaltOrder" "excesses" "[I"] ++ wsX00)
def wsX0_passTrialDay_r1 : List Cond := [Cond.fieldLink RX0 225 "SaltOrder" "trialDay" "I", Cond.fieldLink RX0 228 "SaltOrder" "trialDebt" "I", Cond.methodLink RX0 216 yX0_isAuditDay, Cond.static yX0_isAuditDay, Cond.initialized RX0, Cond.code yX0_isAuditDay cX0_isAuditDay 1 (some .boolean), Cond.methodLink RX0 66 yX0_addArrears, Cond.instanceMethod yX0_addArrears, Cond.selects RX0 yX0_addArrears yX0_addArrears, Cond.code yX0_addArrears cX0_addArrears 3 none, Cond.fieldLink RX0 13 "SaltOrder" "arrears" "[I", Cond.methodLink RX0 89 Lib.Math.min.name, Cond.static Lib.Math.min.name, Cond.initialized "java/lang/Math", Cond.code Lib.Math.min.name Lib.Math.min.code 2 (some .int), Cond.methodLink RX0 222 yX0_eatOrFeelLuck, Cond.instanceMethod yX0_eatOrFeelLuck, Cond.selects RX0 yX0_eatOrFeelLuck yX0_eatOrFeelLuck, Cond.code yX0_eatOrFeelLuck cX0_eatOrFeelLuck 2 none, Cond.fieldLink RX0 16 "SaltOrder" "toEat" "[I", Cond.fieldLink RX0 9 "SaltOrder" "luck" "[I", Cond.methodLink RX0 213 Lib.Math.max.name, Cond.static Lib.Math.max.name, Cond.code Lib.Math.max.name Lib.Math.max.code 2 (some .int)]
def wsX0_passTrialDay_r2 : List Cond := [Cond.methodLink RX0 79 yX0_lessenArrears, Cond.instanceMethod yX0_lessenArrears, Cond.selects RX0 yX0_lessenArrears yX0_lessenArrears, Cond.code yX0_lessenArrears cX0_lessenArrears 3 none, Cond.methodLink RX0 105 yX0_lossOf, Cond.instanceMethod yX0_lossOf, Cond.selects RX0 yX0_lossOf yX0_lossOf, Cond.code yX0_lossOf cX0_lossOf 2 (some .int)]
def wsX0_passTrialDay : List Cond := .code yX0_passTrialDay cX0_passTrialDay 1 none :: ((wsX0_passTrialDay_r1 ++ wsX0_passTrialDay_r2) ++ wsX00)
def wsX0_trialLuckBehind_r1 : List Cond := [Cond.fieldLink RX0 9 "SaltOrder" "luck" "[I", Cond.methodLink RX0 117 yX0_passTrialDay, Cond.instanceMethod yX0_passTrialDay, Cond.selects RX0 yX0_passTrialDay yX0_passTrialDay, Cond.initialized RX0, Cond.code yX0_passTrialDay cX0_passTrialDay 1 none, Cond.fieldLink RX0 225 "SaltOrder" "trialDay" "I", Cond.fieldLink RX0 228 "SaltOrder" "trialDebt" "I", Cond.methodLink RX0 216 yX0_isAuditDay, Cond.static yX0_isAuditDay, Cond.code yX0_isAuditDay cX0_isAuditDay 1 (some .boolean), Cond.methodLink RX0 66 yX0_addArrears, Cond.instanceMethod yX0_addArrears, Cond.selects RX0 yX0_addArrears yX0_addArrears, Cond.code yX0_addArrears cX0_addArrears 3 none, Cond.fieldLink RX0 13 "SaltOrder" "arrears" "[I", Cond.methodLink RX0 89 Lib.Math.min.name, Cond.static Lib.Math.min.name, Cond.initialized "java/lang/Math", Cond.code Lib.Math.min.name Lib.Math.min.code 2 (some .int), Cond.methodLink RX0 222 yX0_eatOrFeelLuck, Cond.instanceMethod yX0_eatOrFeelLuck, Cond.selects RX0 yX0_eatOrFeelLuck yX0_eatOrFeelLuck, Cond.code yX0_eatOrFeelLuck cX0_eatOrFeelLuck 2 none]
def wsX0_trialLuckBehind_r2 : List Cond := [Cond.fieldLink RX0 16 "SaltOrder" "toEat" "[I", Cond.methodLink RX0 213 Lib.Math.max.name, Cond.static Lib.Math.max.name, Cond.code Lib.Math.max.name Lib.Math.max.code 2 (some .int), Cond.methodLink RX0 79 yX0_lessenArrears, Cond.instanceMethod yX0_lessenArrears, Cond.selects RX0 yX0_lessenArrears yX0_lessenArrears, Cond.code yX0_lessenArrears cX0_lessenArrears 3 none, Cond.methodLink RX0 105 yX0_lossOf, Cond.instanceMethod yX0_lossOf, Cond.selects RX0 yX0_lossOf yX0_lossOf, Cond.code yX0_lossOf cX0_lossOf 2 (some .int)]
def wsX0_trialLuckBehind : List Cond := .code yX0_trialLuckBehind cX0_trialLuckBehind 3 (some .int) :: ((wsX0_trialLuckBehind_r1 ++ wsX0_trialLuckBehind_r2) ++ wsX00)
def wsX0_luckIn_r1 : List Cond := [Cond.methodLink RX0 55 yX0_checkMember, Cond.instanceMethod yX0_checkMember, Cond.selects RX0 yX0_checkMember yX0_checkMember, Cond.initialized RX0, Cond.code yX0_checkMember cX0_checkMember 2 none, Cond.classLink RX0 195 "java/lang/IndexOutOfBoundsException", Cond.initialized "java/lang/IndexOutOfBoundsException", Cond.fieldLink RX0 32 "SaltOrder" "memberCount" "I", Cond.methodLink RX0 59 yX0_checkAmount, Cond.static yX0_checkAmount, Cond.code yX0_checkAmount cX0_checkAmount 2 none, Cond.classLink RX0 204 "java/lang/IllegalArgumentException", Cond.initialized "java/lang/IllegalArgumentException", Cond.methodLink RX0 111 yX0_beginTrial, Cond.instanceMethod yX0_beginTrial, Cond.selects RX0 yX0_beginTrial yX0_beginTrial, Cond.code yX0_beginTrial cX0_beginTrial 2 none, Cond.fieldLink RX0 9 "SaltOrder" "luck" "[I", Cond.fieldLink RX0 13 "SaltOrder" "arrears" "[I", Cond.fieldLink RX0 16 "SaltOrder" "toEat" "[I", Cond.fieldLink RX0 42 "SaltOrder" "today" "I", Cond.fieldLink RX0 225 "SaltOrder" "trialDay" "I", Cond.fieldLink RX0 228 "SaltOrder" "trialDebt" "I", Cond.methodLink RX0 98 yX0_debtOf]
def wsX0_luckIn_r2 : List Cond := [Cond.instanceMethod yX0_debtOf, Cond.selects RX0 yX0_debtOf yX0_debtOf, Cond.code yX0_debtOf cX0_debtOf 4 (some .int), Cond.fieldLink RX0 36 "SaltOrder" "throwCount" "I", Cond.fieldLink RX0 19 "SaltOrder" "throwers" "[I", Cond.fieldLink RX0 29 "SaltOrder" "excesses" "[I", Cond.methodLink RX0 114 yX0_trialLuckBehind, Cond.instanceMethod yX0_trialLuckBehind, Cond.selects RX0 yX0_trialLuckBehind yX0_trialLuckBehind, Cond.code yX0_trialLuckBehind cX0_trialLuckBehind 3 (some .int), Cond.methodLink RX0 117 yX0_passTrialDay, Cond.instanceMethod yX0_passTrialDay, Cond.selects RX0 yX0_passTrialDay yX0_passTrialDay, Cond.code yX0_passTrialDay cX0_passTrialDay 1 none, Cond.methodLink RX0 216 yX0_isAuditDay, Cond.static yX0_isAuditDay, Cond.code yX0_isAuditDay cX0_isAuditDay 1 (some .boolean), Cond.methodLink RX0 66 yX0_addArrears, Cond.instanceMethod yX0_addArrears, Cond.selects RX0 yX0_addArrears yX0_addArrears, Cond.code yX0_addArrears cX0_addArrears 3 none, Cond.methodLink RX0 89 Lib.Math.min.name, Cond.static Lib.Math.min.name, Cond.initialized "java/lang/Math"]
def wsX0_luckIn_r3 : List Cond := [Cond.code Lib.Math.min.name Lib.Math.min.code 2 (some .int), Cond.methodLink RX0 222 yX0_eatOrFeelLuck, Cond.instanceMethod yX0_eatOrFeelLuck, Cond.selects RX0 yX0_eatOrFeelLuck yX0_eatOrFeelLuck, Cond.code yX0_eatOrFeelLuck cX0_eatOrFeelLuck 2 none, Cond.methodLink RX0 213 Lib.Math.max.name, Cond.static Lib.Math.max.name, Cond.code Lib.Math.max.name Lib.Math.max.code 2 (some .int), Cond.methodLink RX0 79 yX0_lessenArrears, Cond.instanceMethod yX0_lessenArrears, Cond.selects RX0 yX0_lessenArrears yX0_lessenArrears, Cond.code yX0_lessenArrears cX0_lessenArrears 3 none, Cond.methodLink RX0 105 yX0_lossOf, Cond.instanceMethod yX0_lossOf, Cond.selects RX0 yX0_lossOf yX0_lossOf, Cond.code yX0_lossOf cX0_lossOf 2 (some .int)]
def wsX0_luckIn : List Cond := .code yX0_luckIn cX0_luckIn 3 (some .int) :: ((wsX0_luckIn_r1 ++ (wsX0_luckIn_r2 ++ wsX0_luckIn_r3)) ++ wsX00 ++ (vx_atS RX0 199 "java/lang/IndexOutOfBoundsException" ["java/lang/RuntimeException", "java/lang/Exception"]).filter goodWord ++ (vx_atS RX0 208 "java/lang/IllegalArgumentException" ["java/lang/RuntimeException", "java/lang/Exception"]).filter goodWord)
def wsX0_daysUntilClear_r1 : List Cond := [Cond.fieldLink RX0 13 "SaltOrder" "arrears" "[I", Cond.methodLink RX0 55 yX0_checkMember, Cond.instanceMethod yX0_checkMember, Cond.selects RX0 yX0_checkMember yX0_checkMember, Cond.initialized RX0, Cond.code yX0_checkMember cX0_checkMember 2 none, Cond.classLink RX0 195 "java/lang/IndexOutOfBoundsException", Cond.initialized "java/lang/IndexOutOfBoundsException", Cond.fieldLink RX0 32 "SaltOrder" "memberCount" "I", Cond.methodLink RX0 111 yX0_beginTrial, Cond.instanceMethod yX0_beginTrial, Cond.selects RX0 yX0_beginTrial yX0_beginTrial, Cond.code yX0_beginTrial cX0_beginTrial 2 none, Cond.fieldLink RX0 9 "SaltOrder" "luck" "[I", Cond.fieldLink RX0 16 "SaltOrder" "toEat" "[I", Cond.fieldLink RX0 42 "SaltOrder" "today" "I", Cond.fieldLink RX0 225 "SaltOrder" "trialDay" "I", Cond.fieldLink RX0 228 "SaltOrder" "trialDebt" "I", Cond.methodLink RX0 98 yX0_debtOf, Cond.instanceMethod yX0_debtOf, Cond.selects RX0 yX0_debtOf yX0_debtOf, Cond.code yX0_debtOf cX0_debtOf 4 (some .int), Cond.fieldLink RX0 36 "SaltOrder" "throwCount" "I", Cond.fieldLink RX0 19 "SaltOrder" "throwers" "[I"]
def wsX0_daysUntilClear_r2 : List Cond := [Cond.fieldLink RX0 29 "SaltOrder" "excesses" "[I", Cond.methodLink RX0 117 yX0_passTrialDay, Cond.instanceMethod yX0_passTrialDay, Cond.selects RX0 yX0_passTrialDay yX0_passTrialDay, Cond.code yX0_passTrialDay cX0_passTrialDay 1 none, Cond.methodLink RX0 216 yX0_isAuditDay, Cond.static yX0_isAuditDay, Cond.code yX0_isAuditDay cX0_isAuditDay 1 (some .boolean), Cond.methodLink RX0 66 yX0_addArrears, Cond.instanceMethod yX0_addArrears, Cond.selects RX0 yX0_addArrears yX0_addArrears, Cond.code yX0_addArrears cX0_addArrears 3 none, Cond.methodLink RX0 89 Lib.Math.min.name, Cond.static Lib.Math.min.name, Cond.initialized "java/lang/Math", Cond.code Lib.Math.min.name Lib.Math.min.code 2 (some .int), Cond.methodLink RX0 222 yX0_eatOrFeelLuck, Cond.instanceMethod yX0_eatOrFeelLuck, Cond.selects RX0 yX0_eatOrFeelLuck yX0_eatOrFeelLuck, Cond.code yX0_eatOrFeelLuck cX0_eatOrFeelLuck 2 none, Cond.methodLink RX0 213 Lib.Math.max.name, Cond.static Lib.Math.max.name, Cond.code Lib.Math.max.name Lib.Math.max.code 2 (some .int), Cond.methodLink RX0 79 yX0_lessenArrears]
def wsX0_daysUntilClear_r3 : List Cond := [Cond.instanceMethod yX0_lessenArrears, Cond.selects RX0 yX0_lessenArrears yX0_lessenArrears, Cond.code yX0_lessenArrears cX0_lessenArrears 3 none, Cond.methodLink RX0 105 yX0_lossOf, Cond.instanceMethod yX0_lossOf, Cond.selects RX0 yX0_lossOf yX0_lossOf, Cond.code yX0_lossOf cX0_lossOf 2 (some .int)]
def wsX0_daysUntilClear : List Cond := .code yX0_daysUntilClear cX0_daysUntilClear 3 (some .int) :: ((wsX0_daysUntilClear_r1 ++ (wsX0_daysUntilClear_r2 ++ wsX0_daysUntilClear_r3)) ++ wsX00 ++ (vx_atS RX0 199 "java/lang/IndexOutOfBoundsException" ["java/lang/RuntimeException", "java/lang/Exception"]).filter goodWord)
def wsX0_daysUntilUnlucky_r1 : List Cond := [Cond.fieldLink RX0 9 "SaltOrder" "luck" "[I", Cond.methodLink RX0 55 yX0_checkMember, Cond.instanceMethod yX0_checkMember, Cond.selects RX0 yX0_checkMember yX0_checkMember, Cond.initialized RX0, Cond.code yX0_checkMember cX0_checkMember 2 none, Cond.classLink RX0 195 "java/lang/IndexOutOfBoundsException", Cond.initialized "java/lang/IndexOutOfBoundsException", Cond.fieldLink RX0 32 "SaltOrder" "memberCount" "I", Cond.methodLink RX0 111 yX0_beginTrial, Cond.instanceMethod yX0_beginTrial, Cond.selects RX0 yX0_beginTrial yX0_beginTrial, Cond.code yX0_beginTrial cX0_beginTrial 2 none, Cond.fieldLink RX0 13 "SaltOrder" "arrears" "[I", Cond.fieldLink RX0 16 "SaltOrder" "toEat" "[I", Cond.fieldLink RX0 42 "SaltOrder" "today" "I", Cond.fieldLink RX0 225 "SaltOrder" "trialDay" "I", Cond.fieldLink RX0 228 "SaltOrder" "trialDebt" "I", Cond.methodLink RX0 98 yX0_debtOf, Cond.instanceMethod yX0_debtOf, Cond.selects RX0 yX0_debtOf yX0_debtOf, Cond.code yX0_debtOf cX0_debtOf 4 (some .int), Cond.fieldLink RX0 36 "SaltOrder" "throwCount" "I", Cond.fieldLink RX0 19 "SaltOrder" "throwers" "[I"]
def wsX0_daysUntilUnlucky_r2 : List Cond := [Cond.fieldLink RX0 29 "SaltOrder" "excesses" "[I", Cond.methodLink RX0 117 yX0_passTrialDay, Cond.instanceMethod yX0_passTrialDay, Cond.selects RX0 yX0_passTrialDay yX0_passTrialDay, Cond.code yX0_passTrialDay cX0_passTrialDay 1 none, Cond.methodLink RX0 216 yX0_isAuditDay, Cond.static yX0_isAuditDay, Cond.code yX0_isAuditDay cX0_isAuditDay 1 (some .boolean), Cond.methodLink RX0 66 yX0_addArrears, Cond.instanceMethod yX0_addArrears, Cond.selects RX0 yX0_addArrears yX0_addArrears, Cond.code yX0_addArrears cX0_addArrears 3 none, Cond.methodLink RX0 89 Lib.Math.min.name, Cond.static Lib.Math.min.name, Cond.initialized "java/lang/Math", Cond.code Lib.Math.min.name Lib.Math.min.code 2 (some .int), Cond.methodLink RX0 222 yX0_eatOrFeelLuck, Cond.instanceMethod yX0_eatOrFeelLuck, Cond.selects RX0 yX0_eatOrFeelLuck yX0_eatOrFeelLuck, Cond.code yX0_eatOrFeelLuck cX0_eatOrFeelLuck 2 none, Cond.methodLink RX0 213 Lib.Math.max.name, Cond.static Lib.Math.max.name, Cond.code Lib.Math.max.name Lib.Math.max.code 2 (some .int), Cond.methodLink RX0 79 yX0_lessenArrears]
def wsX0_daysUntilUnlucky_r3 : List Cond := [Cond.instanceMethod yX0_lessenArrears, Cond.selects RX0 yX0_lessenArrears yX0_lessenArrears, Cond.code yX0_lessenArrears cX0_lessenArrears 3 none, Cond.methodLink RX0 105 yX0_lossOf, Cond.instanceMethod yX0_lossOf, Cond.selects RX0 yX0_lossOf yX0_lossOf, Cond.code yX0_lossOf cX0_lossOf 2 (some .int)]
def wsX0_daysUntilUnlucky : List Cond := .code yX0_daysUntilUnlucky cX0_daysUntilUnlucky 3 (some .int) :: ((wsX0_daysUntilUnlucky_r1 ++ (wsX0_daysUntilUnlucky_r2 ++ wsX0_daysUntilUnlucky_r3)) ++ wsX00 ++ (vx_atS RX0 199 "java/lang/IndexOutOfBoundsException" ["java/lang/RuntimeException", "java/lang/Exception"]).filter goodWord)
def wsX0_beginTrialWithPinch_r1 : List Cond := [Cond.fieldLink RX0 228 "SaltOrder" "trialDebt" "I", Cond.methodLink RX0 111 yX0_beginTrial, Cond.instanceMethod yX0_beginTrial, Cond.selects RX0 yX0_beginTrial yX0_beginTrial, Cond.initialized RX0, Cond.code yX0_beginTrial cX0_beginTrial 2 none, Cond.fieldLink RX0 9 "SaltOrder" "luck" "[I", Cond.fieldLink RX0 13 "SaltOrder" "arrears" "[I", Cond.fieldLink RX0 16 "SaltOrder" "toEat" "[I", Cond.fieldLink RX0 42 "SaltOrder" "today" "I", Cond.fieldLink RX0 225 "SaltOrder" "trialDay" "I", Cond.methodLink RX0 98 yX0_debtOf, Cond.instanceMethod yX0_debtOf, Cond.selects RX0 yX0_debtOf yX0_debtOf, Cond.code yX0_debtOf cX0_debtOf 4 (some .int), Cond.fieldLink RX0 36 "SaltOrder" "throwCount" "I", Cond.fieldLink RX0 19 "SaltOrder" "throwers" "[I", Cond.fieldLink RX0 29 "SaltOrder" "excesses" "[I", Cond.methodLink RX0 75 yX0_leftExcess, Cond.instanceMethod yX0_leftExcess, Cond.selects RX0 yX0_leftExcess yX0_leftExcess, Cond.code yX0_leftExcess cX0_leftExcess 3 (some .int), Cond.methodLink RX0 213 Lib.Math.max.name, Cond.static Lib.Math.max.name]
def wsX0_beginTrialWithPinch_r2 : List Cond := [Cond.initialized "java/lang/Math", Cond.code Lib.Math.max.name Lib.Math.max.code 2 (some .int), Cond.methodLink RX0 79 yX0_lessenArrears, Cond.instanceMethod yX0_lessenArrears, Cond.selects RX0 yX0_lessenArrears yX0_lessenArrears, Cond.code yX0_lessenArrears cX0_lessenArrears 3 none]
def wsX0_beginTrialWithPinch : List Cond := .code yX0_beginTrialWithPinch cX0_beginTrialWithPinch 3 none :: ((wsX0_beginTrialWithPinch_r1 ++ wsX0_beginTrialWithPinch_r2) ++ wsX00)
def wsX0_bestPinch_r1 : List Cond := [Cond.fieldLink RX0 36 "SaltOrder" "throwCount" "I", Cond.fieldLink RX0 39 "SaltOrder" "cellar" "I", Cond.methodLink RX0 89 Lib.Math.min.name, Cond.static Lib.Math.min.name, Cond.initialized "java/lang/Math", Cond.code Lib.Math.min.name Lib.Math.min.code 2 (some .int), Cond.methodLink RX0 55 yX0_checkMember, Cond.instanceMethod yX0_checkMember, Cond.selects RX0 yX0_checkMember yX0_checkMember, Cond.initialized RX0, Cond.code yX0_checkMember cX0_checkMember 2 none, Cond.classLink RX0 195 "java/lang/IndexOutOfBoundsException", Cond.initialized "java/lang/IndexOutOfBoundsException", Cond.fieldLink RX0 32 "SaltOrder" "memberCount" "I", Cond.methodLink RX0 120 yX0_beginTrialWithPinch, Cond.instanceMethod yX0_beginTrialWithPinch, Cond.selects RX0 yX0_beginTrialWithPinch yX0_beginTrialWithPinch, Cond.code yX0_beginTrialWithPinch cX0_beginTrialWithPinch 3 none, Cond.fieldLink RX0 228 "SaltOrder" "trialDebt" "I", Cond.methodLink RX0 111 yX0_beginTrial, Cond.instanceMethod yX0_beginTrial, Cond.selects RX0 yX0_beginTrial yX0_beginTrial, Cond.code yX0_beginTrial cX0_beginTrial 2 none, Cond.fieldLink RX0 9 "SaltOrder" "luck" "[I"]
def wsX0_bestPinch_r2 : List Cond := [Cond.fieldLink RX0 13 "SaltOrder" "arrears" "[I", Cond.fieldLink RX0 16 "SaltOrder" "toEat" "[I", Cond.fieldLink RX0 42 "SaltOrder" "today" "I", Cond.fieldLink RX0 225 "SaltOrder" "trialDay" "I", Cond.methodLink RX0 98 yX0_debtOf, Cond.instanceMethod yX0_debtOf, Cond.selects RX0 yX0_debtOf yX0_debtOf, Cond.code yX0_debtOf cX0_debtOf 4 (some .int), Cond.fieldLink RX0 19 "SaltOrder" "throwers" "[I", Cond.fieldLink RX0 29 "SaltOrder" "excesses" "[I", Cond.methodLink RX0 75 yX0_leftExcess, Cond.instanceMethod yX0_leftExcess, Cond.selects RX0 yX0_leftExcess yX0_leftExcess, Cond.code yX0_leftExcess cX0_leftExcess 3 (some .int), Cond.methodLink RX0 213 Lib.Math.max.name, Cond.static Lib.Math.max.name, Cond.code Lib.Math.max.name Lib.Math.max.code 2 (some .int), Cond.methodLink RX0 79 yX0_lessenArrears, Cond.instanceMethod yX0_lessenArrears, Cond.selects RX0 yX0_lessenArrears yX0_lessenArrears, Cond.code yX0_lessenArrears cX0_lessenArrears 3 none, Cond.methodLink RX0 114 yX0_trialLuckBehind, Cond.instanceMethod yX0_trialLuckBehind, Cond.selects RX0 yX0_trialLuckBehind yX0_trialLuckBehind]
def wsX0_bestPinch_r3 : List Cond := [Cond.code yX0_trialLuckBehind cX0_trialLuckBehind 3 (some .int), Cond.methodLink RX0 117 yX0_passTrialDay, Cond.instanceMethod yX0_passTrialDay, Cond.selects RX0 yX0_passTrialDay yX0_passTrialDay, Cond.code yX0_passTrialDay cX0_passTrialDay 1 none, Cond.methodLink RX0 216 yX0_isAuditDay, Cond.static yX0_isAuditDay, Cond.code yX0_isAuditDay cX0_isAuditDay 1 (some .boolean), Cond.methodLink RX0 66 yX0_addArrears, Cond.instanceMethod yX0_addArrears, Cond.selects RX0 yX0_addArrears yX0_addArrears, Cond.code yX0_addArrears cX0_addArrears 3 none, Cond.methodLink RX0 222 yX0_eatOrFeelLuck, Cond.instanceMethod yX0_eatOrFeelLuck, Cond.selects RX0 yX0_eatOrFeelLuck yX0_eatOrFeelLuck, Cond.code yX0_eatOrFeelLuck cX0_eatOrFeelLuck 2 none, Cond.methodLink RX0 105 yX0_lossOf, Cond.instanceMethod yX0_lossOf, Cond.selects RX0 yX0_lossOf yX0_lossOf, Cond.code yX0_lossOf cX0_lossOf 2 (some .int)]
def wsX0_bestPinch : List Cond := .code yX0_bestPinch cX0_bestPinch 7 (some .int) :: ((wsX0_bestPinch_r1 ++ (wsX0_bestPinch_r2 ++ wsX0_bestPinch_r3)) ++ wsX00 ++ (vx_atS RX0 199 "java/lang/IndexOutOfBoundsException" ["java/lang/RuntimeException", "java/lang/Exception"]).filter goodWord)
def wsX0_beginTrialWithPenance_r1 : List Cond := [Cond.methodLink RX0 111 yX0_beginTrial, Cond.instanceMethod yX0_beginTrial, Cond.selects RX0 yX0_beginTrial yX0_beginTrial, Cond.initialized RX0, Cond.code yX0_beginTrial cX0_beginTrial 2 none, Cond.fieldLink RX0 9 "SaltOrder" "luck" "[I", Cond.fieldLink RX0 13 "SaltOrder" "arrears" "[I", Cond.fieldLink RX0 16 "SaltOrder" "toEat" "[I", Cond.fieldLink RX0 42 "SaltOrder" "today" "I", Cond.fieldLink RX0 225 "SaltOrder" "trialDay" "I", Cond.fieldLink RX0 228 "SaltOrder" "trialDebt" "I", Cond.methodLink RX0 98 yX0_debtOf, Cond.instanceMethod yX0_debtOf, Cond.selects RX0 yX0_debtOf yX0_debtOf, Cond.code yX0_debtOf cX0_debtOf 4 (some .int), Cond.fieldLink RX0 36 "SaltOrder" "throwCount" "I", Cond.fieldLink RX0 19 "SaltOrder" "throwers" "[I", Cond.fieldLink RX0 29 "SaltOrder" "excesses" "[I", Cond.methodLink RX0 86 yX0_addLumps, Cond.instanceMethod yX0_addLumps, Cond.selects RX0 yX0_addLumps yX0_addLumps, Cond.code yX0_addLumps cX0_addLumps 3 none, Cond.methodLink RX0 89 Lib.Math.min.name, Cond.static Lib.Math.min.name]
def wsX0_beginTrialWithPenance_r2 : List Cond := [Cond.initialized "java/lang/Math", Cond.code Lib.Math.min.name Lib.Math.min.code 2 (some .int)]
def wsX0_beginTrialWithPenance : List Cond := .code yX0_beginTrialWithPenance cX0_beginTrialWithPenance 3 none :: ((wsX0_beginTrialWithPenance_r1 ++ wsX0_beginTrialWithPenance_r2) ++ wsX00)
def wsX0_bestPenance_r1 : List Cond := [Cond.methodLink RX0 55 yX0_checkMember, Cond.instanceMethod yX0_checkMember, Cond.selects RX0 yX0_checkMember yX0_checkMember, Cond.initialized RX0, Cond.code yX0_checkMember cX0_checkMember 2 none, Cond.classLink RX0 195 "java/lang/IndexOutOfBoundsException", Cond.initialized "java/lang/IndexOutOfBoundsException", Cond.fieldLink RX0 32 "SaltOrder" "memberCount" "I", Cond.methodLink RX0 123 yX0_beginTrialWithPenance, Cond.instanceMethod yX0_beginTrialWithPenance, Cond.selects RX0 yX0_beginTrialWithPenance yX0_beginTrialWithPenance, Cond.code yX0_beginTrialWithPenance cX0_beginTrialWithPenance 3 none, Cond.methodLink RX0 111 yX0_beginTrial, Cond.instanceMethod yX0_beginTrial, Cond.selects RX0 yX0_beginTrial yX0_beginTrial, Cond.code yX0_beginTrial cX0_beginTrial 2 none, Cond.fieldLink RX0 9 "SaltOrder" "luck" "[I", Cond.fieldLink RX0 13 "SaltOrder" "arrears" "[I", Cond.fieldLink RX0 16 "SaltOrder" "toEat" "[I", Cond.fieldLink RX0 42 "SaltOrder" "today" "I", Cond.fieldLink RX0 225 "SaltOrder" "trialDay" "I", Cond.fieldLink RX0 228 "SaltOrder" "trialDebt" "I", Cond.methodLink RX0 98 yX0_debtOf, Cond.instanceMethod yX0_debtOf]
def wsX0_bestPenance_r2 : List Cond := [Cond.selects RX0 yX0_debtOf yX0_debtOf, Cond.code yX0_debtOf cX0_debtOf 4 (some .int), Cond.fieldLink RX0 36 "SaltOrder" "throwCount" "I", Cond.fieldLink RX0 19 "SaltOrder" "throwers" "[I", Cond.fieldLink RX0 29 "SaltOrder" "excesses" "[I", Cond.methodLink RX0 86 yX0_addLumps, Cond.instanceMethod yX0_addLumps, Cond.selects RX0 yX0_addLumps yX0_addLumps, Cond.code yX0_addLumps cX0_addLumps 3 none, Cond.methodLink RX0 89 Lib.Math.min.name, Cond.static Lib.Math.min.name, Cond.initialized "java/lang/Math", Cond.code Lib.Math.min.name Lib.Math.min.code 2 (some .int), Cond.methodLink RX0 114 yX0_trialLuckBehind, Cond.instanceMethod yX0_trialLuckBehind, Cond.selects RX0 yX0_trialLuckBehind yX0_trialLuckBehind, Cond.code yX0_trialLuckBehind cX0_trialLuckBehind 3 (some .int), Cond.methodLink RX0 117 yX0_passTrialDay, Cond.instanceMethod yX0_passTrialDay, Cond.selects RX0 yX0_passTrialDay yX0_passTrialDay, Cond.code yX0_passTrialDay cX0_passTrialDay 1 none, Cond.methodLink RX0 216 yX0_isAuditDay, Cond.static yX0_isAuditDay, Cond.code yX0_isAuditDay cX0_isAuditDay 1 (some .boolean)]
def wsX0_bestPenance_r3 : List Cond := [Cond.methodLink RX0 66 yX0_addArrears, Cond.instanceMethod yX0_addArrears, Cond.selects RX0 yX0_addArrears yX0_addArrears, Cond.code yX0_addArrears cX0_addArrears 3 none, Cond.methodLink RX0 222 yX0_eatOrFeelLuck, Cond.instanceMethod yX0_eatOrFeelLuck, Cond.selects RX0 yX0_eatOrFeelLuck yX0_eatOrFeelLuck, Cond.code yX0_eatOrFeelLuck cX0_eatOrFeelLuck 2 none, Cond.methodLink RX0 213 Lib.Math.max.name, Cond.static Lib.Math.max.name, Cond.code Lib.Math.max.name Lib.Math.max.code 2 (some .int), Cond.methodLink RX0 79 yX0_lessenArrears, Cond.instanceMethod yX0_lessenArrears, Cond.selects RX0 yX0_lessenArrears yX0_lessenArrears, Cond.code yX0_lessenArrears cX0_lessenArrears 3 none, Cond.methodLink RX0 105 yX0_lossOf, Cond.instanceMethod yX0_lossOf, Cond.selects RX0 yX0_lossOf yX0_lossOf, Cond.code yX0_lossOf cX0_lossOf 2 (some .int)]
def wsX0_bestPenance : List Cond := .code yX0_bestPenance cX0_bestPenance 6 (some .int) :: ((wsX0_bestPenance_r1 ++ (wsX0_bestPenance_r2 ++ wsX0_bestPenance_r3)) ++ wsX00 ++ (vx_atS RX0 199 "java/lang/IndexOutOfBoundsException" ["java/lang/RuntimeException", "java/lang/Exception"]).filter goodWord)
def wsX0_meanLuck : List Cond := .code yX0_meanLuck cX0_meanLuck 3 (some .double) :: ([.fieldLink RX0 32 "SaltOrder" "memberCount" "I", .fieldLink RX0 9 "SaltOrder" "luck" "[I"] ++ wsX00)
def wsX0_mixed : List Cond := .code yX0_mixed cX0_mixed 3 (some .long) :: ([.constantLong RX0 193 (31)])
def wsX0_withMember_r1 : List Cond := [Cond.methodLink RX0 159 yX0_luckOf, Cond.instanceMethod yX0_luckOf, Cond.selects RX0 yX0_luckOf yX0_luckOf, Cond.initialized RX0, Cond.code yX0_luckOf cX0_luckOf 2 (some .int), Cond.fieldLink RX0 9 "SaltOrder" "luck" "[I", Cond.methodLink RX0 55 yX0_checkMember, Cond.instanceMethod yX0_checkMember, Cond.selects RX0 yX0_checkMember yX0_checkMember, Cond.code yX0_checkMember cX0_checkMember 2 none, Cond.classLink RX0 195 "java/lang/IndexOutOfBoundsException", Cond.initialized "java/lang/IndexOutOfBoundsException", Cond.fieldLink RX0 32 "SaltOrder" "memberCount" "I", Cond.methodLink RX0 131 yX0_mixed, Cond.static yX0_mixed, Cond.code yX0_mixed cX0_mixed 3 (some .long), Cond.constantLong RX0 193 (31), Cond.methodLink RX0 162 yX0_arrearsOf, Cond.instanceMethod yX0_arrearsOf, Cond.selects RX0 yX0_arrearsOf yX0_arrearsOf, Cond.code yX0_arrearsOf cX0_arrearsOf 2 (some .int), Cond.fieldLink RX0 13 "SaltOrder" "arrears" "[I", Cond.methodLink RX0 165 yX0_lumpsOf, Cond.instanceMethod yX0_lumpsOf]
def wsX0_withMember_r2 : List Cond := [Cond.selects RX0 yX0_lumpsOf yX0_lumpsOf, Cond.code yX0_lumpsOf cX0_lumpsOf 2 (some .int), Cond.fieldLink RX0 16 "SaltOrder" "toEat" "[I", Cond.methodLink RX0 168 yX0_dailyLoss, Cond.instanceMethod yX0_dailyLoss, Cond.selects RX0 yX0_dailyLoss yX0_dailyLoss, Cond.code yX0_dailyLoss cX0_dailyLoss 2 (some .int), Cond.methodLink RX0 105 yX0_lossOf, Cond.instanceMethod yX0_lossOf, Cond.selects RX0 yX0_lossOf yX0_lossOf, Cond.code yX0_lossOf cX0_lossOf 2 (some .int), Cond.methodLink RX0 171 yX0_arrearsByAudit, Cond.instanceMethod yX0_arrearsByAudit, Cond.selects RX0 yX0_arrearsByAudit yX0_arrearsByAudit, Cond.code yX0_arrearsByAudit cX0_arrearsByAudit 2 (some .int), Cond.methodLink RX0 98 yX0_debtOf, Cond.instanceMethod yX0_debtOf, Cond.selects RX0 yX0_debtOf yX0_debtOf, Cond.code yX0_debtOf cX0_debtOf 4 (some .int), Cond.fieldLink RX0 36 "SaltOrder" "throwCount" "I", Cond.fieldLink RX0 19 "SaltOrder" "throwers" "[I", Cond.fieldLink RX0 29 "SaltOrder" "excesses" "[I", Cond.methodLink RX0 174 yX0_bestPinch, Cond.instanceMethod yX0_bestPinch]
def wsX0_withMember_r3 : List Cond := [Cond.selects RX0 yX0_bestPinch yX0_bestPinch, Cond.code yX0_bestPinch cX0_bestPinch 7 (some .int), Cond.fieldLink RX0 39 "SaltOrder" "cellar" "I", Cond.methodLink RX0 89 Lib.Math.min.name, Cond.static Lib.Math.min.name, Cond.initialized "java/lang/Math", Cond.code Lib.Math.min.name Lib.Math.min.code 2 (some .int), Cond.methodLink RX0 120 yX0_beginTrialWithPinch, Cond.instanceMethod yX0_beginTrialWithPinch, Cond.selects RX0 yX0_beginTrialWithPinch yX0_beginTrialWithPinch, Cond.code yX0_beginTrialWithPinch cX0_beginTrialWithPinch 3 none, Cond.fieldLink RX0 228 "SaltOrder" "trialDebt" "I", Cond.methodLink RX0 111 yX0_beginTrial, Cond.instanceMethod yX0_beginTrial, Cond.selects RX0 yX0_beginTrial yX0_beginTrial, Cond.code yX0_beginTrial cX0_beginTrial 2 none, Cond.fieldLink RX0 42 "SaltOrder" "today" "I", Cond.fieldLink RX0 225 "SaltOrder" "trialDay" "I", Cond.methodLink RX0 75 yX0_leftExcess, Cond.instanceMethod yX0_leftExcess, Cond.selects RX0 yX0_leftExcess yX0_leftExcess, Cond.code yX0_leftExcess cX0_leftExcess 3 (some .int), Cond.methodLink RX0 213 Lib.Math.max.name, Cond.static Lib.Math.max.name]
def wsX0_withMember_r4 : List Cond := [Cond.code Lib.Math.max.name Lib.Math.max.code 2 (some .int), Cond.methodLink RX0 79 yX0_lessenArrears, Cond.instanceMethod yX0_lessenArrears, Cond.selects RX0 yX0_lessenArrears yX0_lessenArrears, Cond.code yX0_lessenArrears cX0_lessenArrears 3 none, Cond.methodLink RX0 114 yX0_trialLuckBehind, Cond.instanceMethod yX0_trialLuckBehind, Cond.selects RX0 yX0_trialLuckBehind yX0_trialLuckBehind, Cond.code yX0_trialLuckBehind cX0_trialLuckBehind 3 (some .int), Cond.methodLink RX0 117 yX0_passTrialDay, Cond.instanceMethod yX0_passTrialDay, Cond.selects RX0 yX0_passTrialDay yX0_passTrialDay, Cond.code yX0_passTrialDay cX0_passTrialDay 1 none, Cond.methodLink RX0 216 yX0_isAuditDay, Cond.static yX0_isAuditDay, Cond.code yX0_isAuditDay cX0_isAuditDay 1 (some .boolean), Cond.methodLink RX0 66 yX0_addArrears, Cond.instanceMethod yX0_addArrears, Cond.selects RX0 yX0_addArrears yX0_addArrears, Cond.code yX0_addArrears cX0_addArrears 3 none, Cond.methodLink RX0 222 yX0_eatOrFeelLuck, Cond.instanceMethod yX0_eatOrFeelLuck, Cond.selects RX0 yX0_eatOrFeelLuck yX0_eatOrFeelLuck, Cond.code yX0_eatOrFeelLuck cX0_eatOrFeelLuck 2 none]
def wsX0_withMember_r5 : List Cond := [Cond.methodLink RX0 177 yX0_bestPenance, Cond.instanceMethod yX0_bestPenance, Cond.selects RX0 yX0_bestPenance yX0_bestPenance, Cond.code yX0_bestPenance cX0_bestPenance 6 (some .int), Cond.methodLink RX0 123 yX0_beginTrialWithPenance, Cond.instanceMethod yX0_beginTrialWithPenance, Cond.selects RX0 yX0_beginTrialWithPenance yX0_beginTrialWithPenance, Cond.code yX0_beginTrialWithPenance cX0_beginTrialWithPenance 3 none, Cond.methodLink RX0 86 yX0_addLumps, Cond.instanceMethod yX0_addLumps, Cond.selects RX0 yX0_addLumps yX0_addLumps, Cond.code yX0_addLumps cX0_addLumps 3 none]
def wsX0_withMember : List Cond := .code yX0_withMember cX0_withMember 6 (some .long) :: ((wsX0_withMember_r1 ++ (wsX0_withMember_r2 ++ (wsX0_withMember_r3 ++ (wsX0_withMember_r4 ++ wsX0_withMember_r5)))) ++ wsX00 ++ (vx_atS RX0 199 "java/lang/IndexOutOfBoundsException" ["java/lang/RuntimeException", "java/lang/Exception"]).filter goodWord)
def wsX0_withThrow_r1 : List Cond := [Cond.methodLink RX0 180 yX0_memberOf, Cond.instanceMethod yX0_memberOf, Cond.selects RX0 yX0_memberOf yX0_memberOf, Cond.initialized RX0, Cond.code yX0_memberOf cX0_memberOf 2 (some .int), Cond.fieldLink RX0 19 "SaltOrder" "throwers" "[I", Cond.methodLink RX0 108 yX0_checkEntry, Cond.instanceMethod yX0_checkEntry, Cond.selects RX0 yX0_checkEntry yX0_checkEntry, Cond.code yX0_checkEntry cX0_checkEntry 2 none, Cond.classLink RX0 195 "java/lang/IndexOutOfBoundsException", Cond.initialized "java/lang/IndexOutOfBoundsException", Cond.fieldLink RX0 36 "SaltOrder" "throwCount" "I", Cond.methodLink RX0 131 yX0_mixed, Cond.static yX0_mixed, Cond.code yX0_mixed cX0_mixed 3 (some .long), Cond.constantLong RX0 193 (31), Cond.methodLink RX0 183 yX0_isLeft, Cond.instanceMethod yX0_isLeft, Cond.selects RX0 yX0_isLeft yX0_isLeft, Cond.code yX0_isLeft cX0_isLeft 2 (some .boolean), Cond.fieldLink RX0 22 "SaltOrder" "lefts" "[Z", Cond.methodLink RX0 187 yX0_grainsOf, Cond.instanceMethod yX0_grainsOf]
def wsX0_withThrow_r2 : List Cond := [Cond.selects RX0 yX0_grainsOf yX0_grainsOf, Cond.code yX0_grainsOf cX0_grainsOf 2 (some .int), Cond.fieldLink RX0 26 "SaltOrder" "thrown" "[I", Cond.methodLink RX0 190 yX0_excessOf, Cond.instanceMethod yX0_excessOf, Cond.selects RX0 yX0_excessOf yX0_excessOf, Cond.code yX0_excessOf cX0_excessOf 2 (some .int), Cond.fieldLink RX0 29 "SaltOrder" "excesses" "[I"]
def wsX0_withThrow : List Cond := .code yX0_withThrow cX0_withThrow 6 (some .long) :: ((wsX0_withThrow_r1 ++ wsX0_withThrow_r2) ++ wsX00 ++ (vx_atS RX0 199 "java/lang/IndexOutOfBoundsException" ["java/lang/RuntimeException", "java/lang/Exception"]).filter goodWord)
def wsX0_digest_r1 : List Cond := [Cond.constantLong RX0 126 (2011), Cond.fieldLink RX0 32 "SaltOrder" "memberCount" "I", Cond.fieldLink RX0 36 "SaltOrder" "throwCount" "I", Cond.methodLink RX0 128 yX0_day, Cond.instanceMethod yX0_day, Cond.selects RX0 yX0_day yX0_day, Cond.initialized RX0, Cond.code yX0_day cX0_day 1 (some .int), Cond.fieldLink RX0 42 "SaltOrder" "today" "I", Cond.methodLink RX0 131 yX0_mixed, Cond.static yX0_mixed, Cond.code yX0_mixed cX0_mixed 3 (some .long), Cond.constantLong RX0 193 (31), Cond.methodLink RX0 135 yX0_members, Cond.instanceMethod yX0_members, Cond.selects RX0 yX0_members yX0_members, Cond.code yX0_members cX0_members 1 (some .int), Cond.methodLink RX0 138 yX0_salt, Cond.instanceMethod yX0_salt, Cond.selects RX0 yX0_salt yX0_salt, Cond.code yX0_salt cX0_salt 1 (some .int), Cond.fieldLink RX0 39 "SaltOrder" "cellar" "I", Cond.methodLink RX0 141 yX0_ledger, Cond.instanceMethod yX0_ledger]
def wsX0_digest_r2 : List Cond := [Cond.selects RX0 yX0_ledger yX0_ledger, Cond.code yX0_ledger cX0_ledger 1 (some .int), Cond.methodLink RX0 94 yX0_faults, Cond.instanceMethod yX0_faults, Cond.selects RX0 yX0_faults yX0_faults, Cond.code yX0_faults cX0_faults 3 (some .int), Cond.fieldLink RX0 29 "SaltOrder" "excesses" "[I", Cond.methodLink RX0 144 yX0_faultsFound, Cond.instanceMethod yX0_faultsFound, Cond.selects RX0 yX0_faultsFound yX0_faultsFound, Cond.code yX0_faultsFound cX0_faultsFound 1 (some .int), Cond.fieldLink RX0 45 "SaltOrder" "found" "I", Cond.methodLink RX0 147 yX0_luckiest, Cond.instanceMethod yX0_luckiest, Cond.selects RX0 yX0_luckiest yX0_luckiest, Cond.code yX0_luckiest cX0_luckiest 4 (some .int), Cond.fieldLink RX0 9 "SaltOrder" "luck" "[I", Cond.methodLink RX0 150 yX0_allArrears, Cond.instanceMethod yX0_allArrears, Cond.selects RX0 yX0_allArrears yX0_allArrears, Cond.code yX0_allArrears cX0_allArrears 3 (some .int), Cond.fieldLink RX0 13 "SaltOrder" "arrears" "[I", Cond.methodLink RX0 153 yX0_withMember, Cond.instanceMethod yX0_withMember]
def wsX0_digest_r3 : List Cond := [Cond.selects RX0 yX0_withMember yX0_withMember, Cond.code yX0_withMember cX0_withMember 6 (some .long), Cond.methodLink RX0 159 yX0_luckOf, Cond.instanceMethod yX0_luckOf, Cond.selects RX0 yX0_luckOf yX0_luckOf, Cond.code yX0_luckOf cX0_luckOf 2 (some .int), Cond.methodLink RX0 55 yX0_checkMember, Cond.instanceMethod yX0_checkMember, Cond.selects RX0 yX0_checkMember yX0_checkMember, Cond.code yX0_checkMember cX0_checkMember 2 none, Cond.classLink RX0 195 "java/lang/IndexOutOfBoundsException", Cond.initialized "java/lang/IndexOutOfBoundsException", Cond.methodLink RX0 162 yX0_arrearsOf, Cond.instanceMethod yX0_arrearsOf, Cond.selects RX0 yX0_arrearsOf yX0_arrearsOf, Cond.code yX0_arrearsOf cX0_arrearsOf 2 (some .int), Cond.methodLink RX0 165 yX0_lumpsOf, Cond.instanceMethod yX0_lumpsOf, Cond.selects RX0 yX0_lumpsOf yX0_lumpsOf, Cond.code yX0_lumpsOf cX0_lumpsOf 2 (some .int), Cond.fieldLink RX0 16 "SaltOrder" "toEat" "[I", Cond.methodLink RX0 168 yX0_dailyLoss, Cond.instanceMethod yX0_dailyLoss, Cond.selects RX0 yX0_dailyLoss yX0_dailyLoss]
def wsX0_digest_r4 : List Cond := [Cond.code yX0_dailyLoss cX0_dailyLoss 2 (some .int), Cond.methodLink RX0 105 yX0_lossOf, Cond.instanceMethod yX0_lossOf, Cond.selects RX0 yX0_lossOf yX0_lossOf, Cond.code yX0_lossOf cX0_lossOf 2 (some .int), Cond.methodLink RX0 171 yX0_arrearsByAudit, Cond.instanceMethod yX0_arrearsByAudit, Cond.selects RX0 yX0_arrearsByAudit yX0_arrearsByAudit, Cond.code yX0_arrearsByAudit cX0_arrearsByAudit 2 (some .int), Cond.methodLink RX0 98 yX0_debtOf, Cond.instanceMethod yX0_debtOf, Cond.selects RX0 yX0_debtOf yX0_debtOf, Cond.code yX0_debtOf cX0_debtOf 4 (some .int), Cond.fieldLink RX0 19 "SaltOrder" "throwers" "[I", Cond.methodLink RX0 174 yX0_bestPinch, Cond.instanceMethod yX0_bestPinch, Cond.selects RX0 yX0_bestPinch yX0_bestPinch, Cond.code yX0_bestPinch cX0_bestPinch 7 (some .int), Cond.methodLink RX0 89 Lib.Math.min.name, Cond.static Lib.Math.min.name, Cond.initialized "java/lang/Math", Cond.code Lib.Math.min.name Lib.Math.min.code 2 (some .int), Cond.methodLink RX0 120 yX0_beginTrialWithPinch, Cond.instanceMethod yX0_beginTrialWithPinch]
def wsX0_digest_r5 : List Cond := [Cond.selects RX0 yX0_beginTrialWithPinch yX0_beginTrialWithPinch, Cond.code yX0_beginTrialWithPinch cX0_beginTrialWithPinch 3 none, Cond.fieldLink RX0 228 "SaltOrder" "trialDebt" "I", Cond.methodLink RX0 111 yX0_beginTrial, Cond.instanceMethod yX0_beginTrial, Cond.selects RX0 yX0_beginTrial yX0_beginTrial, Cond.code yX0_beginTrial cX0_beginTrial 2 none, Cond.fieldLink RX0 225 "SaltOrder" "trialDay" "I", Cond.methodLink RX0 75 yX0_leftExcess, Cond.instanceMethod yX0_leftExcess, Cond.selects RX0 yX0_leftExcess yX0_leftExcess, Cond.code yX0_leftExcess cX0_leftExcess 3 (some .int), Cond.methodLink RX0 213 Lib.Math.max.name, Cond.static Lib.Math.max.name, Cond.code Lib.Math.max.name Lib.Math.max.code 2 (some .int), Cond.methodLink RX0 79 yX0_lessenArrears, Cond.instanceMethod yX0_lessenArrears, Cond.selects RX0 yX0_lessenArrears yX0_lessenArrears, Cond.code yX0_lessenArrears cX0_lessenArrears 3 none, Cond.methodLink RX0 114 yX0_trialLuckBehind, Cond.instanceMethod yX0_trialLuckBehind, Cond.selects RX0 yX0_trialLuckBehind yX0_trialLuckBehind, Cond.code yX0_trialLuckBehind cX0_trialLuckBehind 3 (some .int), Cond.methodLink RX0 117 yX0_passTrialDay]
def wsX0_digest_r6 : List Cond := [Cond.instanceMethod yX0_passTrialDay, Cond.selects RX0 yX0_passTrialDay yX0_passTrialDay, Cond.code yX0_passTrialDay cX0_passTrialDay 1 none, Cond.methodLink RX0 216 yX0_isAuditDay, Cond.static yX0_isAuditDay, Cond.code yX0_isAuditDay cX0_isAuditDay 1 (some .boolean), Cond.methodLink RX0 66 yX0_addArrears, Cond.instanceMethod yX0_addArrears, Cond.selects RX0 yX0_addArrears yX0_addArrears, Cond.code yX0_addArrears cX0_addArrears 3 none, Cond.methodLink RX0 222 yX0_eatOrFeelLuck, Cond.instanceMethod yX0_eatOrFeelLuck, Cond.selects RX0 yX0_eatOrFeelLuck yX0_eatOrFeelLuck, Cond.code yX0_eatOrFeelLuck cX0_eatOrFeelLuck 2 none, Cond.methodLink RX0 177 yX0_bestPenance, Cond.instanceMethod yX0_bestPenance, Cond.selects RX0 yX0_bestPenance yX0_bestPenance, Cond.code yX0_bestPenance cX0_bestPenance 6 (some .int), Cond.methodLink RX0 123 yX0_beginTrialWithPenance, Cond.instanceMethod yX0_beginTrialWithPenance, Cond.selects RX0 yX0_beginTrialWithPenance yX0_beginTrialWithPenance, Cond.code yX0_beginTrialWithPenance cX0_beginTrialWithPenance 3 none, Cond.methodLink RX0 86 yX0_addLumps, Cond.instanceMethod yX0_addLumps]
def wsX0_digest_r7 : List Cond := [Cond.selects RX0 yX0_addLumps yX0_addLumps, Cond.code yX0_addLumps cX0_addLumps 3 none, Cond.methodLink RX0 156 yX0_withThrow, Cond.instanceMethod yX0_withThrow, Cond.selects RX0 yX0_withThrow yX0_withThrow, Cond.code yX0_withThrow cX0_withThrow 6 (some .long), Cond.methodLink RX0 180 yX0_memberOf, Cond.instanceMethod yX0_memberOf, Cond.selects RX0 yX0_memberOf yX0_memberOf, Cond.code yX0_memberOf cX0_memberOf 2 (some .int), Cond.methodLink RX0 108 yX0_checkEntry, Cond.instanceMethod yX0_checkEntry, Cond.selects RX0 yX0_checkEntry yX0_checkEntry, Cond.code yX0_checkEntry cX0_checkEntry 2 none, Cond.methodLink RX0 183 yX0_isLeft, Cond.instanceMethod yX0_isLeft, Cond.selects RX0 yX0_isLeft yX0_isLeft, Cond.code yX0_isLeft cX0_isLeft 2 (some .boolean), Cond.fieldLink RX0 22 "SaltOrder" "lefts" "[Z", Cond.methodLink RX0 187 yX0_grainsOf, Cond.instanceMethod yX0_grainsOf, Cond.selects RX0 yX0_grainsOf yX0_grainsOf, Cond.code yX0_grainsOf cX0_grainsOf 2 (some .int), Cond.fieldLink RX0 26 "SaltOrder" "thrown" "[I"]
def wsX0_digest_r8 : List Cond := [Cond.methodLink RX0 190 yX0_excessOf, Cond.instanceMethod yX0_excessOf, Cond.selects RX0 yX0_excessOf yX0_excessOf, Cond.code yX0_excessOf cX0_excessOf 2 (some .int)]
def wsX0_digest : List Cond := .code yX0_digest cX0_digest 4 (some .long) :: ((wsX0_digest_r1 ++ (wsX0_digest_r2 ++ (wsX0_digest_r3 ++ (wsX0_digest_r4 ++ (wsX0_digest_r5 ++ (wsX0_digest_r6 ++ (wsX0_digest_r7 ++ wsX0_digest_r8))))))) ++ wsX00 ++ (vx_atS RX0 199 "java/lang/IndexOutOfBoundsException" ["java/lang/RuntimeException", "java/lang/Exception"]).filter goodWord)
def wsX1_init : List Cond := .code yX1_init cX1_init 1 none :: ([.methodLink RX1 1 objectInit, .instanceMethod objectInit, .code objectInit ⟨#[0xb1]⟩ 1 none, .arrayClass .int, .fieldLink RX1 9 "SaltOrderModel" "now" "[I", .fieldLink RX1 13 "SaltOrderModel" "kept" "[I"] ++ wsX10)
def wsX1_thrown : List Cond := .code yX1_thrown cX1_thrown 1 (some .int) :: ([.fieldLink RX1 16 "SaltOrderModel" "thrown" "I"] ++ wsX10)
def wsX1_fail : List Cond := .code yX1_fail cX1_fail 2 (some .int) :: ([.fieldLink RX1 16 "SaltOrderModel" "thrown" "I"] ++ wsX10)
def wsX1_told : List Cond := .code yX1_told cX1_told 2 (some .int) :: ([.fieldLink RX1 16 "SaltOrderModel" "thrown" "I"] ++ wsX10)
def wsX1_isIn : List Cond := .code yX1_isIn cX1_isIn 3 (some .boolean) :: ([])
def wsX1_isMember : List Cond := .code yX1_isMember cX1_isMember 2 (some .boolean) :: ([.fieldLink RX1 20 "SaltOrderModel" "members" "I", .methodLink RX1 23 yX1_isIn, .static yX1_isIn, .initialized RX1, .code yX1_isIn cX1_isIn 3 (some .boolean)] ++ wsX10)
def wsX1_isThrow : List Cond := .code yX1_isThrow cX1_isThrow 2 (some .boolean) :: ([.fieldLink RX1 9 "SaltOrderModel" "now" "[I", .methodLink RX1 23 yX1_isIn, .static yX1_isIn, .initialized RX1, .code yX1_isIn cX1_isIn 3 (some .boolean)] ++ wsX10)
def wsX1_me : List Cond := .code yX1_me cX1_me 3 (some .int) :: ([.fieldLink RX1 9 "SaltOrderModel" "now" "[I"] ++ wsX10)
def wsX1_let : List Cond := .code yX1_let cX1_let 4 none :: ([.fieldLink RX1 9 "SaltOrderModel" "now" "[I"] ++ wsX10)
def wsX1_th : List Cond := .code yX1_th cX1_th 3 (some .int) :: ([.fieldLink RX1 9 "SaltOrderModel" "now" "[I"] ++ wsX10)
def wsX1_write : List Cond := .code yX1_write cX1_write 3 none :: ([.fieldLink RX1 9 "SaltOrderModel" "now" "[I"] ++ wsX10)
def wsX1_keep : List Cond := .code yX1_keep cX1_keep 1 none :: ([.fieldLink RX1 9 "SaltOrderModel" "now" "[I", .fieldLink RX1 13 "SaltOrderModel" "kept" "[I", .methodLink RX1 27 arraycopyName, .native arraycopyName, .static arraycopyName, .initialized "java/lang/System"] ++ wsX10)
def wsX1_bringBack : List Cond := .code yX1_bringBack cX1_bringBack 1 none :: ([.fieldLink RX1 13 "SaltOrderModel" "kept" "[I", .fieldLink RX1 9 "SaltOrderModel" "now" "[I", .methodLink RX1 27 arraycopyName, .native arraycopyName, .static arraycopyName, .initialized "java/lang/System"] ++ wsX10)
def wsX1_cast : List Cond := .code yX1_cast cX1_cast 5 (some .int) :: ([.methodLink RX1 37 Lib.Math.max.name, .static Lib.Math.max.name, .initialized "java/lang/Math", .code Lib.Math.max.name Lib.Math.max.code 2 (some .int), .fieldLink RX1 9 "SaltOrderModel" "now" "[I", .methodLink RX1 33 yX1_me, .instanceMethod yX1_me, .selects RX1 yX1_me yX1_me, .initialized RX1, .code yX1_me cX1_me 3 (some .int), .methodLink RX1 42 yX1_let, .instanceMethod yX1_let, .selects RX1 yX1_let yX1_let, .code yX1_let cX1_let 4 none, .methodLink RX1 46 yX1_write, .instanceMethod yX1_write, .selects RX1 yX1_write yX1_write, .code yX1_write cX1_write 3 none] ++ wsX10)
def wsX1_faultsNow : List Cond := .code yX1_faultsNow cX1_faultsNow 3 (some .int) :: ([.fieldLink RX1 9 "SaltOrderModel" "now" "[I", .methodLink RX1 50 yX1_th, .instanceMethod yX1_th, .selects RX1 yX1_th yX1_th, .initialized RX1, .code yX1_th cX1_th 3 (some .int)] ++ wsX10)
def wsX1_auditNow : List Cond := .code yX1_auditNow cX1_auditNow 3 (some .int) :: ([.fieldLink RX1 9 "SaltOrderModel" "now" "[I", .methodLink RX1 57 Lib.Math.min.name, .static Lib.Math.min.name, .initialized "java/lang/Math", .code Lib.Math.min.name Lib.Math.min.code 2 (some .int), .methodLink RX1 53 yX1_faultsNow, .instanceMethod yX1_faultsNow, .selects RX1 yX1_faultsNow yX1_faultsNow, .initialized RX1, .code yX1_faultsNow cX1_faultsNow 3 (some .int), .methodLink RX1 50 yX1_th, .instanceMethod yX1_th, .selects RX1 yX1_th yX1_th, .code yX1_th cX1_th 3 (some .int), .methodLink RX1 33 yX1_me, .instanceMethod yX1_me, .selects RX1 yX1_me yX1_me, .code yX1_me cX1_me 3 (some .int), .methodLink RX1 42 yX1_let, .instanceMethod yX1_let, .selects RX1 yX1_let yX1_let, .code yX1_let cX1_let 4 none] ++ wsX10)
def wsX1_loss : List Cond := .code yX1_loss cX1_loss 2 (some .int) :: ([.methodLink RX1 33 yX1_me, .instanceMethod yX1_me, .selects RX1 yX1_me yX1_me, .initialized RX1, .code yX1_me cX1_me 3 (some .int), .fieldLink RX1 9 "SaltOrderModel" "now" "[I"] ++ wsX10)
def wsX1_dayOn_r1 : List Cond := [Cond.fieldLink RX1 9 "SaltOrderModel" "now" "[I", Cond.fieldLink RX1 20 "SaltOrderModel" "members" "I", Cond.methodLink RX1 37 Lib.Math.max.name, Cond.static Lib.Math.max.name, Cond.initialized "java/lang/Math", Cond.code Lib.Math.max.name Lib.Math.max.code 2 (some .int), Cond.methodLink RX1 57 Lib.Math.min.name, Cond.static Lib.Math.min.name, Cond.code Lib.Math.min.name Lib.Math.min.code 2 (some .int), Cond.methodLink RX1 60 yX1_auditNow, Cond.instanceMethod yX1_auditNow, Cond.selects RX1 yX1_auditNow yX1_auditNow, Cond.initialized RX1, Cond.code yX1_auditNow cX1_auditNow 3 (some .int), Cond.methodLink RX1 53 yX1_faultsNow, Cond.instanceMethod yX1_faultsNow, Cond.selects RX1 yX1_faultsNow yX1_faultsNow, Cond.code yX1_faultsNow cX1_faultsNow 3 (some .int), Cond.methodLink RX1 50 yX1_th, Cond.instanceMethod yX1_th, Cond.selects RX1 yX1_th yX1_th, Cond.code yX1_th cX1_th 3 (some .int), Cond.methodLink RX1 33 yX1_me, Cond.instanceMethod yX1_me]
def wsX1_dayOn_r2 : List Cond := [Cond.selects RX1 yX1_me yX1_me, Cond.code yX1_me cX1_me 3 (some .int), Cond.methodLink RX1 42 yX1_let, Cond.instanceMethod yX1_let, Cond.selects RX1 yX1_let yX1_let, Cond.code yX1_let cX1_let 4 none, Cond.methodLink RX1 63 yX1_loss, Cond.instanceMethod yX1_loss, Cond.selects RX1 yX1_loss yX1_loss, Cond.code yX1_loss cX1_loss 2 (some .int)]
def wsX1_dayOn : List Cond := .code yX1_dayOn cX1_dayOn 3 (some .int) :: ((wsX1_dayOn_r1 ++ wsX1_dayOn_r2) ++ wsX10)
def wsX1_daysOn_r1 : List Cond := [Cond.methodLink RX1 67 yX1_dayOn, Cond.instanceMethod yX1_dayOn, Cond.selects RX1 yX1_dayOn yX1_dayOn, Cond.initialized RX1, Cond.code yX1_dayOn cX1_dayOn 3 (some .int), Cond.fieldLink RX1 9 "SaltOrderModel" "now" "[I", Cond.fieldLink RX1 20 "SaltOrderModel" "members" "I", Cond.methodLink RX1 37 Lib.Math.max.name, Cond.static Lib.Math.max.name, Cond.initialized "java/lang/Math", Cond.code Lib.Math.max.name Lib.Math.max.code 2 (some .int), Cond.methodLink RX1 57 Lib.Math.min.name, Cond.static Lib.Math.min.name, Cond.code Lib.Math.min.name Lib.Math.min.code 2 (some .int), Cond.methodLink RX1 60 yX1_auditNow, Cond.instanceMethod yX1_auditNow, Cond.selects RX1 yX1_auditNow yX1_auditNow, Cond.code yX1_auditNow cX1_auditNow 3 (some .int), Cond.methodLink RX1 53 yX1_faultsNow, Cond.instanceMethod yX1_faultsNow, Cond.selects RX1 yX1_faultsNow yX1_faultsNow, Cond.code yX1_faultsNow cX1_faultsNow 3 (some .int), Cond.methodLink RX1 50 yX1_th, Cond.instanceMethod yX1_th]
def wsX1_daysOn_r2 : List Cond := [Cond.selects RX1 yX1_th yX1_th, Cond.code yX1_th cX1_th 3 (some .int), Cond.methodLink RX1 33 yX1_me, Cond.instanceMethod yX1_me, Cond.selects RX1 yX1_me yX1_me, Cond.code yX1_me cX1_me 3 (some .int), Cond.methodLink RX1 42 yX1_let, Cond.instanceMethod yX1_let, Cond.selects RX1 yX1_let yX1_let, Cond.code yX1_let cX1_let 4 none, Cond.methodLink RX1 63 yX1_loss, Cond.instanceMethod yX1_loss, Cond.selects RX1 yX1_loss yX1_loss, Cond.code yX1_loss cX1_loss 2 (some .int)]
def wsX1_daysOn : List Cond := .code yX1_daysOn cX1_daysOn 4 (some .int) :: ((wsX1_daysOn_r1 ++ wsX1_daysOn_r2) ++ wsX10)
def wsX1_join : List Cond := .code yX1_join cX1_join 1 (some .int) :: ([.fieldLink RX1 16 "SaltOrderModel" "thrown" "I", .fieldLink RX1 20 "SaltOrderModel" "members" "I", .methodLink RX1 70 yX1_fail, .instanceMethod yX1_fail, .selects RX1 yX1_fail yX1_fail, .initialized RX1, .code yX1_fail cX1_fail 2 (some .int), .methodLink RX1 42 yX1_let, .instanceMethod yX1_let, .selects RX1 yX1_let yX1_let, .code yX1_let cX1_let 4 none, .fieldLink RX1 9 "SaltOrderModel" "now" "[I"] ++ wsX10)
def wsX1_spill_r1 : List Cond := [Cond.fieldLink RX1 16 "SaltOrderModel" "thrown" "I", Cond.fieldLink RX1 9 "SaltOrderModel" "now" "[I", Cond.methodLink RX1 57 Lib.Math.min.name, Cond.static Lib.Math.min.name, Cond.initialized "java/lang/Math", Cond.code Lib.Math.min.name Lib.Math.min.code 2 (some .int), Cond.methodLink RX1 73 yX1_isMember, Cond.instanceMethod yX1_isMember, Cond.selects RX1 yX1_isMember yX1_isMember, Cond.initialized RX1, Cond.code yX1_isMember cX1_isMember 2 (some .boolean), Cond.fieldLink RX1 20 "SaltOrderModel" "members" "I", Cond.methodLink RX1 23 yX1_isIn, Cond.static yX1_isIn, Cond.code yX1_isIn cX1_isIn 3 (some .boolean), Cond.methodLink RX1 70 yX1_fail, Cond.instanceMethod yX1_fail, Cond.selects RX1 yX1_fail yX1_fail, Cond.code yX1_fail cX1_fail 2 (some .int), Cond.methodLink RX1 33 yX1_me, Cond.instanceMethod yX1_me, Cond.selects RX1 yX1_me yX1_me, Cond.code yX1_me cX1_me 3 (some .int), Cond.methodLink RX1 42 yX1_let]
def wsX1_spill_r2 : List Cond := [Cond.instanceMethod yX1_let, Cond.selects RX1 yX1_let yX1_let, Cond.code yX1_let cX1_let 4 none]
def wsX1_spill : List Cond := .code yX1_spill cX1_spill 3 (some .int) :: ((wsX1_spill_r1 ++ wsX1_spill_r2) ++ wsX10)
def wsX1_throwSalt_r1 : List Cond := [Cond.fieldLink RX1 16 "SaltOrderModel" "thrown" "I", Cond.fieldLink RX1 9 "SaltOrderModel" "now" "[I", Cond.methodLink RX1 73 yX1_isMember, Cond.instanceMethod yX1_isMember, Cond.selects RX1 yX1_isMember yX1_isMember, Cond.initialized RX1, Cond.code yX1_isMember cX1_isMember 2 (some .boolean), Cond.fieldLink RX1 20 "SaltOrderModel" "members" "I", Cond.methodLink RX1 23 yX1_isIn, Cond.static yX1_isIn, Cond.code yX1_isIn cX1_isIn 3 (some .boolean), Cond.methodLink RX1 70 yX1_fail, Cond.instanceMethod yX1_fail, Cond.selects RX1 yX1_fail yX1_fail, Cond.code yX1_fail cX1_fail 2 (some .int), Cond.methodLink RX1 77 yX1_cast, Cond.instanceMethod yX1_cast, Cond.selects RX1 yX1_cast yX1_cast, Cond.code yX1_cast cX1_cast 5 (some .int), Cond.methodLink RX1 37 Lib.Math.max.name, Cond.static Lib.Math.max.name, Cond.initialized "java/lang/Math", Cond.code Lib.Math.max.name Lib.Math.max.code 2 (some .int), Cond.methodLink RX1 33 yX1_me]
def wsX1_throwSalt_r2 : List Cond := [Cond.instanceMethod yX1_me, Cond.selects RX1 yX1_me yX1_me, Cond.code yX1_me cX1_me 3 (some .int), Cond.methodLink RX1 42 yX1_let, Cond.instanceMethod yX1_let, Cond.selects RX1 yX1_let yX1_let, Cond.code yX1_let cX1_let 4 none, Cond.methodLink RX1 46 yX1_write, Cond.instanceMethod yX1_write, Cond.selects RX1 yX1_write yX1_write, Cond.code yX1_write cX1_write 3 none]
def wsX1_throwSalt : List Cond := .code yX1_throwSalt cX1_throwSalt 4 (some .int) :: ((wsX1_throwSalt_r1 ++ wsX1_throwSalt_r2) ++ wsX10)
def wsX1_doPenance_r1 : List Cond := [Cond.fieldLink RX1 16 "SaltOrderModel" "thrown" "I", Cond.methodLink RX1 57 Lib.Math.min.name, Cond.static Lib.Math.min.name, Cond.initialized "java/lang/Math", Cond.code Lib.Math.min.name Lib.Math.min.code 2 (some .int), Cond.methodLink RX1 73 yX1_isMember, Cond.instanceMethod yX1_isMember, Cond.selects RX1 yX1_isMember yX1_isMember, Cond.initialized RX1, Cond.code yX1_isMember cX1_isMember 2 (some .boolean), Cond.fieldLink RX1 20 "SaltOrderModel" "members" "I", Cond.methodLink RX1 23 yX1_isIn, Cond.static yX1_isIn, Cond.code yX1_isIn cX1_isIn 3 (some .boolean), Cond.methodLink RX1 70 yX1_fail, Cond.instanceMethod yX1_fail, Cond.selects RX1 yX1_fail yX1_fail, Cond.code yX1_fail cX1_fail 2 (some .int), Cond.methodLink RX1 33 yX1_me, Cond.instanceMethod yX1_me, Cond.selects RX1 yX1_me yX1_me, Cond.code yX1_me cX1_me 3 (some .int), Cond.fieldLink RX1 9 "SaltOrderModel" "now" "[I", Cond.methodLink RX1 42 yX1_let]
def wsX1_doPenance_r2 : List Cond := [Cond.instanceMethod yX1_let, Cond.selects RX1 yX1_let yX1_let, Cond.code yX1_let cX1_let 4 none]
def wsX1_doPenance : List Cond := .code yX1_doPenance cX1_doPenance 3 (some .int) :: ((wsX1_doPenance_r1 ++ wsX1_doPenance_r2) ++ wsX10)
def wsX1_bringSalt : List Cond := .code yX1_bringSalt cX1_bringSalt 2 (some .int) :: ([.fieldLink RX1 16 "SaltOrderModel" "thrown" "I", .fieldLink RX1 9 "SaltOrderModel" "now" "[I", .methodLink RX1 57 Lib.Math.min.name, .static Lib.Math.min.name, .initialized "java/lang/Math", .code Lib.Math.min.name Lib.Math.min.code 2 (some .int), .methodLink RX1 23 yX1_isIn, .static yX1_isIn, .initialized RX1, .code yX1_isIn cX1_isIn 3 (some .boolean), .methodLink RX1 70 yX1_fail, .instanceMethod yX1_fail, .selects RX1 yX1_fail yX1_fail, .code yX1_fail cX1_fail 2 (some .int)] ++ wsX10)
def wsX1_audit_r1 : List Cond := [Cond.methodLink RX1 60 yX1_auditNow, Cond.instanceMethod yX1_auditNow, Cond.selects RX1 yX1_auditNow yX1_auditNow, Cond.initialized RX1, Cond.code yX1_auditNow cX1_auditNow 3 (some .int), Cond.fieldLink RX1 9 "SaltOrderModel" "now" "[I", Cond.methodLink RX1 57 Lib.Math.min.name, Cond.static Lib.Math.min.name, Cond.initialized "java/lang/Math", Cond.code Lib.Math.min.name Lib.Math.min.code 2 (some .int), Cond.methodLink RX1 53 yX1_faultsNow, Cond.instanceMethod yX1_faultsNow, Cond.selects RX1 yX1_faultsNow yX1_faultsNow, Cond.code yX1_faultsNow cX1_faultsNow 3 (some .int), Cond.methodLink RX1 50 yX1_th, Cond.instanceMethod yX1_th, Cond.selects RX1 yX1_th yX1_th, Cond.code yX1_th cX1_th 3 (some .int), Cond.methodLink RX1 33 yX1_me, Cond.instanceMethod yX1_me, Cond.selects RX1 yX1_me yX1_me, Cond.code yX1_me cX1_me 3 (some .int), Cond.methodLink RX1 42 yX1_let, Cond.instanceMethod yX1_let]
def wsX1_audit_r2 : List Cond := [Cond.selects RX1 yX1_let yX1_let, Cond.code yX1_let cX1_let 4 none, Cond.methodLink RX1 81 yX1_told, Cond.instanceMethod yX1_told, Cond.selects RX1 yX1_told yX1_told, Cond.code yX1_told cX1_told 2 (some .int), Cond.fieldLink RX1 16 "SaltOrderModel" "thrown" "I"]
def wsX1_audit : List Cond := .code yX1_audit cX1_audit 1 (some .int) :: ((wsX1_audit_r1 ++ wsX1_audit_r2) ++ wsX10)
def wsX1_pass_r1 : List Cond := [Cond.fieldLink RX1 16 "SaltOrderModel" "thrown" "I", Cond.methodLink RX1 23 yX1_isIn, Cond.static yX1_isIn, Cond.initialized RX1, Cond.code yX1_isIn cX1_isIn 3 (some .boolean), Cond.methodLink RX1 84 yX1_daysOn, Cond.instanceMethod yX1_daysOn, Cond.selects RX1 yX1_daysOn yX1_daysOn, Cond.code yX1_daysOn cX1_daysOn 4 (some .int), Cond.methodLink RX1 67 yX1_dayOn, Cond.instanceMethod yX1_dayOn, Cond.selects RX1 yX1_dayOn yX1_dayOn, Cond.code yX1_dayOn cX1_dayOn 3 (some .int), Cond.fieldLink RX1 9 "SaltOrderModel" "now" "[I", Cond.fieldLink RX1 20 "SaltOrderModel" "members" "I", Cond.methodLink RX1 37 Lib.Math.max.name, Cond.static Lib.Math.max.name, Cond.initialized "java/lang/Math", Cond.code Lib.Math.max.name Lib.Math.max.code 2 (some .int), Cond.methodLink RX1 57 Lib.Math.min.name, Cond.static Lib.Math.min.name, Cond.code Lib.Math.min.name Lib.Math.min.code 2 (some .int), Cond.methodLink RX1 60 yX1_auditNow, Cond.instanceMethod yX1_auditNow]
def wsX1_pass_r2 : List Cond := [Cond.selects RX1 yX1_auditNow yX1_auditNow, Cond.code yX1_auditNow cX1_auditNow 3 (some .int), Cond.methodLink RX1 53 yX1_faultsNow, Cond.instanceMethod yX1_faultsNow, Cond.selects RX1 yX1_faultsNow yX1_faultsNow, Cond.code yX1_faultsNow cX1_faultsNow 3 (some .int), Cond.methodLink RX1 50 yX1_th, Cond.instanceMethod yX1_th, Cond.selects RX1 yX1_th yX1_th, Cond.code yX1_th cX1_th 3 (some .int), Cond.methodLink RX1 33 yX1_me, Cond.instanceMethod yX1_me, Cond.selects RX1 yX1_me yX1_me, Cond.code yX1_me cX1_me 3 (some .int), Cond.methodLink RX1 42 yX1_let, Cond.instanceMethod yX1_let, Cond.selects RX1 yX1_let yX1_let, Cond.code yX1_let cX1_let 4 none, Cond.methodLink RX1 63 yX1_loss, Cond.instanceMethod yX1_loss, Cond.selects RX1 yX1_loss yX1_loss, Cond.code yX1_loss cX1_loss 2 (some .int), Cond.methodLink RX1 70 yX1_fail, Cond.instanceMethod yX1_fail]
def wsX1_pass_r3 : List Cond := [Cond.selects RX1 yX1_fail yX1_fail, Cond.code yX1_fail cX1_fail 2 (some .int)]
def wsX1_pass : List Cond := .code yX1_pass cX1_pass 2 (some .int) :: ((wsX1_pass_r1 ++ (wsX1_pass_r2 ++ wsX1_pass_r3)) ++ wsX10)
def wsX1_day : List Cond := .code yX1_day cX1_day 1 (some .int) :: ([.fieldLink RX1 9 "SaltOrderModel" "now" "[I", .methodLink RX1 81 yX1_told, .instanceMethod yX1_told, .selects RX1 yX1_told yX1_told, .initialized RX1, .code yX1_told cX1_told 2 (some .int), .fieldLink RX1 16 "SaltOrderModel" "thrown" "I"] ++ wsX10)
def wsX1_members : List Cond := .code yX1_members cX1_members 1 (some .int) :: ([.fieldLink RX1 20 "SaltOrderModel" "members" "I", .methodLink RX1 81 yX1_told, .instanceMethod yX1_told, .selects RX1 yX1_told yX1_told, .initialized RX1, .code yX1_told cX1_told 2 (some .int), .fieldLink RX1 16 "SaltOrderModel" "thrown" "I"] ++ wsX10)
def wsX1_member : List Cond := .code yX1_member cX1_member 3 (some .int) :: ([.fieldLink RX1 16 "SaltOrderModel" "thrown" "I", .methodLink RX1 73 yX1_isMember, .instanceMethod yX1_isMember, .selects RX1 yX1_isMember yX1_isMember, .initialized RX1, .code yX1_isMember cX1_isMember 2 (some .boolean), .fieldLink RX1 20 "SaltOrderModel" "members" "I", .methodLink RX1 23 yX1_isIn, .static yX1_isIn, .code yX1_isIn cX1_isIn 3 (some .boolean), .methodLink RX1 33 yX1_me, .instanceMethod yX1_me, .selects RX1 yX1_me yX1_me, .code yX1_me cX1_me 3 (some .int), .fieldLink RX1 9 "SaltOrderModel" "now" "[I", .methodLink RX1 70 yX1_fail, .instanceMethod yX1_fail, .selects RX1 yX1_fail yX1_fail, .code yX1_fail cX1_fail 2 (some .int)] ++ wsX10)
def wsX1_luckOf : List Cond := .code yX1_luckOf cX1_luckOf 2 (some .int) :: ([.methodLink RX1 87 yX1_member, .instanceMethod yX1_member, .selects RX1 yX1_member yX1_member, .initialized RX1, .code yX1_member cX1_member 3 (some .int), .fieldLink RX1 16 "SaltOrderModel" "thrown" "I", .methodLink RX1 73 yX1_isMember, .instanceMethod yX1_isMember, .selects RX1 yX1_isMember yX1_isMember, .code yX1_isMember cX1_isMember 2 (some .boolean), .fieldLink RX1 20 "SaltOrderModel" "members" "I", .methodLink RX1 23 yX1_isIn, .static yX1_isIn, .code yX1_isIn cX1_isIn 3 (some .boolean), .methodLink RX1 33 yX1_me, .instanceMethod yX1_me, .selects RX1 yX1_me yX1_me, .code yX1_me cX1_me 3 (some .int), .fieldLink RX1 9 "SaltOrderModel" "now" "[I", .methodLink RX1 70 yX1_fail, .instanceMethod yX1_fail, .selects RX1 yX1_fail yX1_fail, .code yX1_fail cX1_fail 2 (some .int)] ++ wsX10)
def wsX1_arrearsOf : List Cond := .code yX1_arrearsOf cX1_arrearsOf 2 (some .int) :: ([.methodLink RX1 87 yX1_member, .instanceMethod yX1_member, .selects RX1 yX1_member yX1_member, .initialized RX1, .code yX1_member cX1_member 3 (some .int), .fieldLink RX1 16 "SaltOrderModel" "thrown" "I", .methodLink RX1 73 yX1_isMember, .instanceMethod yX1_isMember, .selects RX1 yX1_isMember yX1_isMember, .code yX1_isMember cX1_isMember 2 (some .boolean), .fieldLink RX1 20 "SaltOrderModel" "members" "I", .methodLink RX1 23 yX1_isIn, .static yX1_isIn, .code yX1_isIn cX1_isIn 3 (some .boolean), .methodLink RX1 33 yX1_me, .instanceMethod yX1_me, .selects RX1 yX1_me yX1_me, .code yX1_me cX1_me 3 (some .int), .fieldLink RX1 9 "SaltOrderModel" "now" "[I", .methodLink RX1 70 yX1_fail, .instanceMethod yX1_fail, .selects RX1 yX1_fail yX1_fail, .code yX1_fail cX1_fail 2 (some .int)] ++ wsX10)
def wsX1_lumpsOf : List Cond := .code yX1_lumpsOf cX1_lumpsOf 2 (some .int) :: ([.methodLink RX1 87 yX1_member, .instanceMethod yX1_member, .selects RX1 yX1_member yX1_member, .initialized RX1, .code yX1_member cX1_member 3 (some .int), .fieldLink RX1 16 "SaltOrderModel" "thrown" "I", .methodLink RX1 73 yX1_isMember, .instanceMethod yX1_isMember, .selects RX1 yX1_isMember yX1_isMember, .code yX1_isMember cX1_isMember 2 (some .boolean), .fieldLink RX1 20 "SaltOrderModel" "members" "I", .methodLink RX1 23 yX1_isIn, .static yX1_isIn, .code yX1_isIn cX1_isIn 3 (some .boolean), .methodLink RX1 33 yX1_me, .instanceMethod yX1_me, .selects RX1 yX1_me yX1_me, .code yX1_me cX1_me 3 (some .int), .fieldLink RX1 9 "SaltOrderModel" "now" "[I", .methodLink RX1 70 yX1_fail, .instanceMethod yX1_fail, .selects RX1 yX1_fail yX1_fail, .code yX1_fail cX1_fail 2 (some .int)] ++ wsX10)
def wsX1_dailyLoss : List Cond := .code yX1_dailyLoss cX1_dailyLoss 2 (some .int) :: ([.fieldLink RX1 16 "SaltOrderModel" "thrown" "I", .methodLink RX1 73 yX1_isMember, .instanceMethod yX1_isMember, .selects RX1 yX1_isMember yX1_isMember, .initialized RX1, .code yX1_isMember cX1_isMember 2 (some .boolean), .fieldLink RX1 20 "SaltOrderModel" "members" "I", .methodLink RX1 23 yX1_isIn, .static yX1_isIn, .code yX1_isIn cX1_isIn 3 (some .boolean), .methodLink RX1 63 yX1_loss, .instanceMethod yX1_loss, .selects RX1 yX1_loss yX1_loss, .code yX1_loss cX1_loss 2 (some .int), .methodLink RX1 33 yX1_me, .instanceMethod yX1_me, .selects RX1 yX1_me yX1_me, .code yX1_me cX1_me 3 (some .int), .fieldLink RX1 9 "SaltOrderModel" "now" "[I", .methodLink RX1 70 yX1_fail, .instanceMethod yX1_fail, .selects RX1 yX1_fail yX1_fail, .code yX1_fail cX1_fail 2 (some .int)] ++ wsX10)
def wsX1_best : List Cond := .code yX1_best cX1_best 3 (some .int) :: ([.fieldLink RX1 20 "SaltOrderModel" "members" "I", .methodLink RX1 33 yX1_me, .instanceMethod yX1_me, .selects RX1 yX1_me yX1_me, .initialized RX1, .code yX1_me cX1_me 3 (some .int), .fieldLink RX1 9 "SaltOrderModel" "now" "[I"] ++ wsX10)
def wsX1_owed : List Cond := .code yX1_owed cX1_owed 3 (some .int) :: ([.fieldLink RX1 20 "SaltOrderModel" "members" "I", .methodLink RX1 33 yX1_me, .instanceMethod yX1_me, .selects RX1 yX1_me yX1_me, .initialized RX1, .code yX1_me cX1_me 3 (some .int), .fieldLink RX1 9 "SaltOrderModel" "now" "[I"] ++ wsX10)
def wsX1_luckiest : List Cond := .code yX1_luckiest cX1_luckiest 1 (some .int) :: ([.methodLink RX1 90 yX1_best, .instanceMethod yX1_best, .selects RX1 yX1_best yX1_best, .initialized RX1, .code yX1_best cX1_best 3 (some .int), .fieldLink RX1 20 "SaltOrderModel" "members" "I", .methodLink RX1 33 yX1_me, .instanceMethod yX1_me, .selects RX1 yX1_me yX1_me, .code yX1_me cX1_me 3 (some .int), .fieldLink RX1 9 "SaltOrderModel" "now" "[I", .methodLink RX1 81 yX1_told, .instanceMethod yX1_told, .selects RX1 yX1_told yX1_told, .code yX1_told cX1_told 2 (some .int), .fieldLink RX1 16 "SaltOrderModel" "thrown" "I"] ++ wsX10)
def wsX1_allArrears : List Cond := .code yX1_allArrears cX1_allArrears 1 (some .int) :: ([.methodLink RX1 93 yX1_owed, .instanceMethod yX1_owed, .selects RX1 yX1_owed yX1_owed, .initialized RX1, .code yX1_owed cX1_owed 3 (some .int), .fieldLink RX1 20 "SaltOrderModel" "members" "I", .methodLink RX1 33 yX1_me, .instanceMethod yX1_me, .selects RX1 yX1_me yX1_me, .code yX1_me cX1_me 3 (some .int), .fieldLink RX1 9 "SaltOrderModel" "now" "[I", .methodLink RX1 81 yX1_told, .instanceMethod yX1_told, .selects RX1 yX1_told yX1_told, .code yX1_told cX1_told 2 (some .int), .fieldLink RX1 16 "SaltOrderModel" "thrown" "I"] ++ wsX10)
def wsX1_clearMembers : List Cond := .code yX1_clearMembers cX1_clearMembers 3 (some .int) :: ([.fieldLink RX1 16 "SaltOrderModel" "thrown" "I", .fieldLink RX1 20 "SaltOrderModel" "members" "I", .methodLink RX1 33 yX1_me, .instanceMethod yX1_me, .selects RX1 yX1_me yX1_me, .initialized RX1, .code yX1_me cX1_me 3 (some .int), .fieldLink RX1 9 "SaltOrderModel" "now" "[I"] ++ wsX10)
def wsX1_salt : List Cond := .code yX1_salt cX1_salt 1 (some .int) :: ([.fieldLink RX1 9 "SaltOrderModel" "now" "[I", .methodLink RX1 81 yX1_told, .instanceMethod yX1_told, .selects RX1 yX1_told yX1_told, .initialized RX1, .code yX1_told cX1_told 2 (some .int), .fieldLink RX1 16 "SaltOrderModel" "thrown" "I"] ++ wsX10)
def wsX1_ledger : List Cond := .code yX1_ledger cX1_ledger 1 (some .int) :: ([.fieldLink RX1 9 "SaltOrderModel" "now" "[I", .methodLink RX1 81 yX1_told, .instanceMethod yX1_told, .selects RX1 yX1_told yX1_told, .initialized RX1, .code yX1_told cX1_told 2 (some .int), .fieldLink RX1 16 "SaltOrderModel" "thrown" "I"] ++ wsX10)
def wsX1_entry : List Cond := .code yX1_entry cX1_entry 3 (some .int) :: ([.fieldLink RX1 16 "SaltOrderModel" "thrown" "I", .methodLink RX1 96 yX1_isThrow, .instanceMethod yX1_isThrow, .selects RX1 yX1_isThrow yX1_isThrow, .initialized RX1, .code yX1_isThrow cX1_isThrow 2 (some .boolean), .fieldLink RX1 9 "SaltOrderModel" "now" "[I", .methodLink RX1 23 yX1_isIn, .static yX1_isIn, .code yX1_isIn cX1_isIn 3 (some .boolean), .methodLink RX1 50 yX1_th, .instanceMethod yX1_th, .selects RX1 yX1_th yX1_th, .code yX1_th cX1_th 3 (some .int), .methodLink RX1 70 yX1_fail, .instanceMethod yX1_fail, .selects RX1 yX1_fail yX1_fail, .code yX1_fail cX1_fail 2 (some .int)] ++ wsX10)
def wsX1_memberOf : List Cond := .code yX1_memberOf cX1_memberOf 2 (some .int) :: ([.methodLink RX1 99 yX1_entry, .instanceMethod yX1_entry, .selects RX1 yX1_entry yX1_entry, .initialized RX1, .code yX1_entry cX1_entry 3 (some .int), .fieldLink RX1 16 "SaltOrderModel" "thrown" "I", .methodLink RX1 96 yX1_isThrow, .instanceMethod yX1_isThrow, .selects RX1 yX1_isThrow yX1_isThrow, .code yX1_isThrow cX1_isThrow 2 (some .boolean), .fieldLink RX1 9 "SaltOrderModel" "now" "[I", .methodLink RX1 23 yX1_isIn, .static yX1_isIn, .code yX1_isIn cX1_isIn 3 (some .boolean), .methodLink RX1 50 yX1_th, .instanceMethod yX1_th, .selects RX1 yX1_th yX1_th, .code yX1_th cX1_th 3 (some .int), .methodLink RX1 70 yX1_fail, .instanceMethod yX1_fail, .selects RX1 yX1_fail yX1_fail, .code yX1_fail cX1_fail 2 (some .int)] ++ wsX10)
def wsX1_isLeft : List Cond := .code yX1_isLeft cX1_isLeft 2 (some .boolean) :: ([.methodLink RX1 99 yX1_entry, .instanceMethod yX1_entry, .selects RX1 yX1_entry yX1_entry, .initialized RX1, .code yX1_entry cX1_entry 3 (some .int), .fieldLink RX1 16 "SaltOrderModel" "thrown" "I", .methodLink RX1 96 yX1_isThrow, .instanceMethod yX1_isThrow, .selects RX1 yX1_isThrow yX1_isThrow, .code yX1_isThrow cX1_isThrow 2 (some .boolean), .fieldLink RX1 9 "SaltOrderModel" "now" "[I", .methodLink RX1 23 yX1_isIn, .static yX1_isIn, .code yX1_isIn cX1_isIn 3 (some .boolean), .methodLink RX1 50 yX1_th, .instanceMethod yX1_th, .selects RX1 yX1_th yX1_th, .code yX1_th cX1_th 3 (some .int), .methodLink RX1 70 yX1_fail, .instanceMethod yX1_fail, .selects RX1 yX1_fail yX1_fail, .code yX1_fail cX1_fail 2 (some .int)] ++ wsX10)
def wsX1_grainsOf : List Cond := .code yX1_grainsOf cX1_grainsOf 2 (some .int) :: ([.methodLink RX1 99 yX1_entry, .instanceMethod yX1_entry, .selects RX1 yX1_entry yX1_entry, .initialized RX1, .code yX1_entry cX1_entry 3 (some .int), .fieldLink RX1 16 "SaltOrderModel" "thrown" "I", .methodLink RX1 96 yX1_isThrow, .instanceMethod yX1_isThrow, .selects RX1 yX1_isThrow yX1_isThrow, .code yX1_isThrow cX1_isThrow 2 (some .boolean), .fieldLink RX1 9 "SaltOrderModel" "now" "[I", .methodLink RX1 23 yX1_isIn, .static yX1_isIn, .code yX1_isIn cX1_isIn 3 (some .boolean), .methodLink RX1 50 yX1_th, .instanceMethod yX1_th, .selects RX1 yX1_th yX1_th, .code yX1_th cX1_th 3 (some .int), .methodLink RX1 70 yX1_fail, .instanceMethod yX1_fail, .selects RX1 yX1_fail yX1_fail, .code yX1_fail cX1_fail 2 (some .int)] ++ wsX10)
def wsX1_excessOf : List Cond := .code yX1_excessOf cX1_excessOf 2 (some .int) :: ([.methodLink RX1 99 yX1_entry, .instanceMethod yX1_entry, .selects RX1 yX1_entry yX1_entry, .initialized RX1, .code yX1_entry cX1_entry 3 (some .int), .fieldLink RX1 16 "SaltOrderModel" "thrown" "I", .methodLink RX1 96 yX1_isThrow, .instanceMethod yX1_isThrow, .selects RX1 yX1_isThrow yX1_isThrow, .code yX1_isThrow cX1_isThrow 2 (some .boolean), .fieldLink RX1 9 "SaltOrderModel" "now" "[I", .methodLink RX1 23 yX1_isIn, .static yX1_isIn, .code yX1_isIn cX1_isIn 3 (some .boolean), .methodLink RX1 50 yX1_th, .instanceMethod yX1_th, .selects RX1 yX1_th yX1_th, .code yX1_th cX1_th 3 (some .int), .methodLink RX1 70 yX1_fail, .instanceMethod yX1_fail, .selects RX1 yX1_fail yX1_fail, .code yX1_fail cX1_fail 2 (some .int)] ++ wsX10)
def wsX1_faults : List Cond := .code yX1_faults cX1_faults 1 (some .int) :: ([.methodLink RX1 53 yX1_faultsNow, .instanceMethod yX1_faultsNow, .selects RX1 yX1_faultsNow yX1_faultsNow, .initialized RX1, .code yX1_faultsNow cX1_faultsNow 3 (some .int), .fieldLink RX1 9 "SaltOrderModel" "now" "[I", .methodLink RX1 50 yX1_th, .instanceMethod yX1_th, .selects RX1 yX1_th yX1_th, .code yX1_th cX1_th 3 (some .int), .methodLink RX1 81 yX1_told, .instanceMethod yX1_told, .selects RX1 yX1_told yX1_told, .code yX1_told cX1_told 2 (some .int), .fieldLink RX1 16 "SaltOrderModel" "thrown" "I"] ++ wsX10)
def wsX1_adds : List Cond := .code yX1_adds cX1_adds 4 (some .int) :: ([.fieldLink RX1 9 "SaltOrderModel" "now" "[I", .methodLink RX1 50 yX1_th, .instanceMethod yX1_th, .selects RX1 yX1_th yX1_th, .initialized RX1, .code yX1_th cX1_th 3 (some .int)] ++ wsX10)
def wsX1_arrearsByAudit : List Cond := .code yX1_arrearsByAudit cX1_arrearsByAudit 2 (some .int) :: ([.fieldLink RX1 16 "SaltOrderModel" "thrown" "I", .methodLink RX1 73 yX1_isMember, .instanceMethod yX1_isMember, .selects RX1 yX1_isMember yX1_isMember, .initialized RX1, .code yX1_isMember cX1_isMember 2 (some .boolean), .fieldLink RX1 20 "SaltOrderModel" "members" "I", .methodLink RX1 23 yX1_isIn, .static yX1_isIn, .code yX1_isIn cX1_isIn 3 (some .boolean), .methodLink RX1 102 yX1_adds, .instanceMethod yX1_adds, .selects RX1 yX1_adds yX1_adds, .code yX1_adds cX1_adds 4 (some .int), .fieldLink RX1 9 "SaltOrderModel" "now" "[I", .methodLink RX1 50 yX1_th, .instanceMethod yX1_th, .selects RX1 yX1_th yX1_th, .code yX1_th cX1_th 3 (some .int), .methodLink RX1 70 yX1_fail, .instanceMethod yX1_fail, .selects RX1 yX1_fail yX1_fail, .code yX1_fail cX1_fail 2 (some .int)] ++ wsX10)
def wsX1_daysUntilAudit : List Cond := .code yX1_daysUntilAudit cX1_daysUntilAudit 1 (some .int) :: ([.fieldLink RX1 9 "SaltOrderModel" "now" "[I", .methodLink RX1 81 yX1_told, .instanceMethod yX1_told, .selects RX1 yX1_told yX1_told, .initialized RX1, .code yX1_told cX1_told 2 (some .int), .fieldLink RX1 16 "SaltOrderModel" "thrown" "I"] ++ wsX10)
def wsX1_faultsFound : List Cond := .code yX1_faultsFound cX1_faultsFound 1 (some .int) :: ([.fieldLink RX1 9 "SaltOrderModel" "now" "[I", .methodLink RX1 81 yX1_told, .instanceMethod yX1_told, .selects RX1 yX1_told yX1_told, .initialized RX1, .code yX1_told cX1_told 2 (some .int), .fieldLink RX1 16 "SaltOrderModel" "thrown" "I"] ++ wsX10)
def wsX1_luckIn_r1 : List Cond := [Cond.fieldLink RX1 16 "SaltOrderModel" "thrown" "I", Cond.methodLink RX1 73 yX1_isMember, Cond.instanceMethod yX1_isMember, Cond.selects RX1 yX1_isMember yX1_isMember, Cond.initialized RX1, Cond.code yX1_isMember cX1_isMember 2 (some .boolean), Cond.fieldLink RX1 20 "SaltOrderModel" "members" "I", Cond.methodLink RX1 23 yX1_isIn, Cond.static yX1_isIn, Cond.code yX1_isIn cX1_isIn 3 (some .boolean), Cond.methodLink RX1 70 yX1_fail, Cond.instanceMethod yX1_fail, Cond.selects RX1 yX1_fail yX1_fail, Cond.code yX1_fail cX1_fail 2 (some .int), Cond.methodLink RX1 105 yX1_keep, Cond.instanceMethod yX1_keep, Cond.selects RX1 yX1_keep yX1_keep, Cond.code yX1_keep cX1_keep 1 none, Cond.fieldLink RX1 9 "SaltOrderModel" "now" "[I", Cond.fieldLink RX1 13 "SaltOrderModel" "kept" "[I", Cond.methodLink RX1 27 arraycopyName, Cond.native arraycopyName, Cond.static arraycopyName, Cond.initialized "java/lang/System"]
def wsX1_luckIn_r2 : List Cond := [Cond.methodLink RX1 84 yX1_daysOn, Cond.instanceMethod yX1_daysOn, Cond.selects RX1 yX1_daysOn yX1_daysOn, Cond.code yX1_daysOn cX1_daysOn 4 (some .int), Cond.methodLink RX1 67 yX1_dayOn, Cond.instanceMethod yX1_dayOn, Cond.selects RX1 yX1_dayOn yX1_dayOn, Cond.code yX1_dayOn cX1_dayOn 3 (some .int), Cond.methodLink RX1 37 Lib.Math.max.name, Cond.static Lib.Math.max.name, Cond.initialized "java/lang/Math", Cond.code Lib.Math.max.name Lib.Math.max.code 2 (some .int), Cond.methodLink RX1 57 Lib.Math.min.name, Cond.static Lib.Math.min.name, Cond.code Lib.Math.min.name Lib.Math.min.code 2 (some .int), Cond.methodLink RX1 60 yX1_auditNow, Cond.instanceMethod yX1_auditNow, Cond.selects RX1 yX1_auditNow yX1_auditNow, Cond.code yX1_auditNow cX1_auditNow 3 (some .int), Cond.methodLink RX1 53 yX1_faultsNow, Cond.instanceMethod yX1_faultsNow, Cond.selects RX1 yX1_faultsNow yX1_faultsNow, Cond.code yX1_faultsNow cX1_faultsNow 3 (some .int), Cond.methodLink RX1 50 yX1_th]
def wsX1_luckIn_r3 : List Cond := [Cond.instanceMethod yX1_th, Cond.selects RX1 yX1_th yX1_th, Cond.code yX1_th cX1_th 3 (some .int), Cond.methodLink RX1 33 yX1_me, Cond.instanceMethod yX1_me, Cond.selects RX1 yX1_me yX1_me, Cond.code yX1_me cX1_me 3 (some .int), Cond.methodLink RX1 42 yX1_let, Cond.instanceMethod yX1_let, Cond.selects RX1 yX1_let yX1_let, Cond.code yX1_let cX1_let 4 none, Cond.methodLink RX1 63 yX1_loss, Cond.instanceMethod yX1_loss, Cond.selects RX1 yX1_loss yX1_loss, Cond.code yX1_loss cX1_loss 2 (some .int), Cond.methodLink RX1 108 yX1_bringBack, Cond.instanceMethod yX1_bringBack, Cond.selects RX1 yX1_bringBack yX1_bringBack, Cond.code yX1_bringBack cX1_bringBack 1 none]
def wsX1_luckIn : List Cond := .code yX1_luckIn cX1_luckIn 4 (some .int) :: ((wsX1_luckIn_r1 ++ (wsX1_luckIn_r2 ++ wsX1_luckIn_r3)) ++ wsX10)
def wsX1_until_r1 : List Cond := [Cond.methodLink RX1 105 yX1_keep, Cond.instanceMethod yX1_keep, Cond.selects RX1 yX1_keep yX1_keep, Cond.initialized RX1, Cond.code yX1_keep cX1_keep 1 none, Cond.fieldLink RX1 9 "SaltOrderModel" "now" "[I", Cond.fieldLink RX1 13 "SaltOrderModel" "kept" "[I", Cond.methodLink RX1 27 arraycopyName, Cond.native arraycopyName, Cond.static arraycopyName, Cond.initialized "java/lang/System", Cond.methodLink RX1 33 yX1_me, Cond.instanceMethod yX1_me, Cond.selects RX1 yX1_me yX1_me, Cond.code yX1_me cX1_me 3 (some .int), Cond.methodLink RX1 67 yX1_dayOn, Cond.instanceMethod yX1_dayOn, Cond.selects RX1 yX1_dayOn yX1_dayOn, Cond.code yX1_dayOn cX1_dayOn 3 (some .int), Cond.fieldLink RX1 20 "SaltOrderModel" "members" "I", Cond.methodLink RX1 37 Lib.Math.max.name, Cond.static Lib.Math.max.name, Cond.initialized "java/lang/Math", Cond.code Lib.Math.max.name Lib.Math.max.code 2 (some .int)]
def wsX1_until_r2 : List Cond := [Cond.methodLink RX1 57 Lib.Math.min.name, Cond.static Lib.Math.min.name, Cond.code Lib.Math.min.name Lib.Math.min.code 2 (some .int), Cond.methodLink RX1 60 yX1_auditNow, Cond.instanceMethod yX1_auditNow, Cond.selects RX1 yX1_auditNow yX1_auditNow, Cond.code yX1_auditNow cX1_auditNow 3 (some .int), Cond.methodLink RX1 53 yX1_faultsNow, Cond.instanceMethod yX1_faultsNow, Cond.selects RX1 yX1_faultsNow yX1_faultsNow, Cond.code yX1_faultsNow cX1_faultsNow 3 (some .int), Cond.methodLink RX1 50 yX1_th, Cond.instanceMethod yX1_th, Cond.selects RX1 yX1_th yX1_th, Cond.code yX1_th cX1_th 3 (some .int), Cond.methodLink RX1 42 yX1_let, Cond.instanceMethod yX1_let, Cond.selects RX1 yX1_let yX1_let, Cond.code yX1_let cX1_let 4 none, Cond.methodLink RX1 63 yX1_loss, Cond.instanceMethod yX1_loss, Cond.selects RX1 yX1_loss yX1_loss, Cond.code yX1_loss cX1_loss 2 (some .int), Cond.methodLink RX1 108 yX1_bringBack]
def wsX1_until_r3 : List Cond := [Cond.instanceMethod yX1_bringBack, Cond.selects RX1 yX1_bringBack yX1_bringBack, Cond.code yX1_bringBack cX1_bringBack 1 none]
def wsX1_until : List Cond := .code yX1_until cX1_until 4 (some .int) :: ((wsX1_until_r1 ++ (wsX1_until_r2 ++ wsX1_until_r3)) ++ wsX10)
def wsX1_daysUntilClear_r1 : List Cond := [Cond.fieldLink RX1 16 "SaltOrderModel" "thrown" "I", Cond.methodLink RX1 73 yX1_isMember, Cond.instanceMethod yX1_isMember, Cond.selects RX1 yX1_isMember yX1_isMember, Cond.initialized RX1, Cond.code yX1_isMember cX1_isMember 2 (some .boolean), Cond.fieldLink RX1 20 "SaltOrderModel" "members" "I", Cond.methodLink RX1 23 yX1_isIn, Cond.static yX1_isIn, Cond.code yX1_isIn cX1_isIn 3 (some .boolean), Cond.methodLink RX1 111 yX1_until, Cond.instanceMethod yX1_until, Cond.selects RX1 yX1_until yX1_until, Cond.code yX1_until cX1_until 4 (some .int), Cond.methodLink RX1 105 yX1_keep, Cond.instanceMethod yX1_keep, Cond.selects RX1 yX1_keep yX1_keep, Cond.code yX1_keep cX1_keep 1 none, Cond.fieldLink RX1 9 "SaltOrderModel" "now" "[I", Cond.fieldLink RX1 13 "SaltOrderModel" "kept" "[I", Cond.methodLink RX1 27 arraycopyName, Cond.native arraycopyName, Cond.static arraycopyName, Cond.initialized "java/lang/System"]
def wsX1_daysUntilClear_r2 : List Cond := [Cond.methodLink RX1 33 yX1_me, Cond.instanceMethod yX1_me, Cond.selects RX1 yX1_me yX1_me, Cond.code yX1_me cX1_me 3 (some .int), Cond.methodLink RX1 67 yX1_dayOn, Cond.instanceMethod yX1_dayOn, Cond.selects RX1 yX1_dayOn yX1_dayOn, Cond.code yX1_dayOn cX1_dayOn 3 (some .int), Cond.methodLink RX1 37 Lib.Math.max.name, Cond.static Lib.Math.max.name, Cond.initialized "java/lang/Math", Cond.code Lib.Math.max.name Lib.Math.max.code 2 (some .int), Cond.methodLink RX1 57 Lib.Math.min.name, Cond.static Lib.Math.min.name, Cond.code Lib.Math.min.name Lib.Math.min.code 2 (some .int), Cond.methodLink RX1 60 yX1_auditNow, Cond.instanceMethod yX1_auditNow, Cond.selects RX1 yX1_auditNow yX1_auditNow, Cond.code yX1_auditNow cX1_auditNow 3 (some .int), Cond.methodLink RX1 53 yX1_faultsNow, Cond.instanceMethod yX1_faultsNow, Cond.selects RX1 yX1_faultsNow yX1_faultsNow, Cond.code yX1_faultsNow cX1_faultsNow 3 (some .int), Cond.methodLink RX1 50 yX1_th]
def wsX1_daysUntilClear_r3 : List Cond := [Cond.instanceMethod yX1_th, Cond.selects RX1 yX1_th yX1_th, Cond.code yX1_th cX1_th 3 (some .int), Cond.methodLink RX1 42 yX1_let, Cond.instanceMethod yX1_let, Cond.selects RX1 yX1_let yX1_let, Cond.code yX1_let cX1_let 4 none, Cond.methodLink RX1 63 yX1_loss, Cond.instanceMethod yX1_loss, Cond.selects RX1 yX1_loss yX1_loss, Cond.code yX1_loss cX1_loss 2 (some .int), Cond.methodLink RX1 108 yX1_bringBack, Cond.instanceMethod yX1_bringBack, Cond.selects RX1 yX1_bringBack yX1_bringBack, Cond.code yX1_bringBack cX1_bringBack 1 none, Cond.methodLink RX1 70 yX1_fail, Cond.instanceMethod yX1_fail, Cond.selects RX1 yX1_fail yX1_fail, Cond.code yX1_fail cX1_fail 2 (some .int)]
def wsX1_daysUntilClear : List Cond := .code yX1_daysUntilClear cX1_daysUntilClear 2 (some .int) :: ((wsX1_daysUntilClear_r1 ++ (wsX1_daysUntilClear_r2 ++ wsX1_daysUntilClear_r3)) ++ wsX10)
def wsX1_daysUntilUnlucky_r1 : List Cond := [Cond.fieldLink RX1 16 "SaltOrderModel" "thrown" "I", Cond.methodLink RX1 73 yX1_isMember, Cond.instanceMethod yX1_isMember, Cond.selects RX1 yX1_isMember yX1_isMember, Cond.initialized RX1, Cond.code yX1_isMember cX1_isMember 2 (some .boolean), Cond.fieldLink RX1 20 "SaltOrderModel" "members" "I", Cond.methodLink RX1 23 yX1_isIn, Cond.static yX1_isIn, Cond.code yX1_isIn cX1_isIn 3 (some .boolean), Cond.methodLink RX1 111 yX1_until, Cond.instanceMethod yX1_until, Cond.selects RX1 yX1_until yX1_until, Cond.code yX1_until cX1_until 4 (some .int), Cond.methodLink RX1 105 yX1_keep, Cond.instanceMethod yX1_keep, Cond.selects RX1 yX1_keep yX1_keep, Cond.code yX1_keep cX1_keep 1 none, Cond.fieldLink RX1 9 "SaltOrderModel" "now" "[I", Cond.fieldLink RX1 13 "SaltOrderModel" "kept" "[I", Cond.methodLink RX1 27 arraycopyName, Cond.native arraycopyName, Cond.static arraycopyName, Cond.initialized "java/lang/System"]
def wsX1_daysUntilUnlucky_r2 : List Cond := [Cond.methodLink RX1 33 yX1_me, Cond.instanceMethod yX1_me, Cond.selects RX1 yX1_me yX1_me, Cond.code yX1_me cX1_me 3 (some .int), Cond.methodLink RX1 67 yX1_dayOn, Cond.instanceMethod yX1_dayOn, Cond.selects RX1 yX1_dayOn yX1_dayOn, Cond.code yX1_dayOn cX1_dayOn 3 (some .int), Cond.methodLink RX1 37 Lib.Math.max.name, Cond.static Lib.Math.max.name, Cond.initialized "java/lang/Math", Cond.code Lib.Math.max.name Lib.Math.max.code 2 (some .int), Cond.methodLink RX1 57 Lib.Math.min.name, Cond.static Lib.Math.min.name, Cond.code Lib.Math.min.name Lib.Math.min.code 2 (some .int), Cond.methodLink RX1 60 yX1_auditNow, Cond.instanceMethod yX1_auditNow, Cond.selects RX1 yX1_auditNow yX1_auditNow, Cond.code yX1_auditNow cX1_auditNow 3 (some .int), Cond.methodLink RX1 53 yX1_faultsNow, Cond.instanceMethod yX1_faultsNow, Cond.selects RX1 yX1_faultsNow yX1_faultsNow, Cond.code yX1_faultsNow cX1_faultsNow 3 (some .int), Cond.methodLink RX1 50 yX1_th]
def wsX1_daysUntilUnlucky_r3 : List Cond := [Cond.instanceMethod yX1_th, Cond.selects RX1 yX1_th yX1_th, Cond.code yX1_th cX1_th 3 (some .int), Cond.methodLink RX1 42 yX1_let, Cond.instanceMethod yX1_let, Cond.selects RX1 yX1_let yX1_let, Cond.code yX1_let cX1_let 4 none, Cond.methodLink RX1 63 yX1_loss, Cond.instanceMethod yX1_loss, Cond.selects RX1 yX1_loss yX1_loss, Cond.code yX1_loss cX1_loss 2 (some .int), Cond.methodLink RX1 108 yX1_bringBack, Cond.instanceMethod yX1_bringBack, Cond.selects RX1 yX1_bringBack yX1_bringBack, Cond.code yX1_bringBack cX1_bringBack 1 none, Cond.methodLink RX1 70 yX1_fail, Cond.instanceMethod yX1_fail, Cond.selects RX1 yX1_fail yX1_fail, Cond.code yX1_fail cX1_fail 2 (some .int)]
def wsX1_daysUntilUnlucky : List Cond := .code yX1_daysUntilUnlucky cX1_daysUntilUnlucky 2 (some .int) :: ((wsX1_daysUntilUnlucky_r1 ++ (wsX1_daysUntilUnlucky_r2 ++ wsX1_daysUntilUnlucky_r3)) ++ wsX10)
def wsX1_pinch_r1 : List Cond := [Cond.fieldLink RX1 9 "SaltOrderModel" "now" "[I", Cond.methodLink RX1 57 Lib.Math.min.name, Cond.static Lib.Math.min.name, Cond.initialized "java/lang/Math", Cond.code Lib.Math.min.name Lib.Math.min.code 2 (some .int), Cond.methodLink RX1 105 yX1_keep, Cond.instanceMethod yX1_keep, Cond.selects RX1 yX1_keep yX1_keep, Cond.initialized RX1, Cond.code yX1_keep cX1_keep 1 none, Cond.fieldLink RX1 13 "SaltOrderModel" "kept" "[I", Cond.methodLink RX1 27 arraycopyName, Cond.native arraycopyName, Cond.static arraycopyName, Cond.initialized "java/lang/System", Cond.methodLink RX1 77 yX1_cast, Cond.instanceMethod yX1_cast, Cond.selects RX1 yX1_cast yX1_cast, Cond.code yX1_cast cX1_cast 5 (some .int), Cond.methodLink RX1 37 Lib.Math.max.name, Cond.static Lib.Math.max.name, Cond.code Lib.Math.max.name Lib.Math.max.code 2 (some .int), Cond.methodLink RX1 33 yX1_me, Cond.instanceMethod yX1_me]
def wsX1_pinch_r2 : List Cond := [Cond.selects RX1 yX1_me yX1_me, Cond.code yX1_me cX1_me 3 (some .int), Cond.methodLink RX1 42 yX1_let, Cond.instanceMethod yX1_let, Cond.selects RX1 yX1_let yX1_let, Cond.code yX1_let cX1_let 4 none, Cond.methodLink RX1 46 yX1_write, Cond.instanceMethod yX1_write, Cond.selects RX1 yX1_write yX1_write, Cond.code yX1_write cX1_write 3 none, Cond.methodLink RX1 84 yX1_daysOn, Cond.instanceMethod yX1_daysOn, Cond.selects RX1 yX1_daysOn yX1_daysOn, Cond.code yX1_daysOn cX1_daysOn 4 (some .int), Cond.methodLink RX1 67 yX1_dayOn, Cond.instanceMethod yX1_dayOn, Cond.selects RX1 yX1_dayOn yX1_dayOn, Cond.code yX1_dayOn cX1_dayOn 3 (some .int), Cond.fieldLink RX1 20 "SaltOrderModel" "members" "I", Cond.methodLink RX1 60 yX1_auditNow, Cond.instanceMethod yX1_auditNow, Cond.selects RX1 yX1_auditNow yX1_auditNow, Cond.code yX1_auditNow cX1_auditNow 3 (some .int), Cond.methodLink RX1 53 yX1_faultsNow]
def wsX1_pinch_r3 : List Cond := [Cond.instanceMethod yX1_faultsNow, Cond.selects RX1 yX1_faultsNow yX1_faultsNow, Cond.code yX1_faultsNow cX1_faultsNow 3 (some .int), Cond.methodLink RX1 50 yX1_th, Cond.instanceMethod yX1_th, Cond.selects RX1 yX1_th yX1_th, Cond.code yX1_th cX1_th 3 (some .int), Cond.methodLink RX1 63 yX1_loss, Cond.instanceMethod yX1_loss, Cond.selects RX1 yX1_loss yX1_loss, Cond.code yX1_loss cX1_loss 2 (some .int), Cond.methodLink RX1 108 yX1_bringBack, Cond.instanceMethod yX1_bringBack, Cond.selects RX1 yX1_bringBack yX1_bringBack, Cond.code yX1_bringBack cX1_bringBack 1 none]
def wsX1_pinch : List Cond := .code yX1_pinch cX1_pinch 7 (some .int) :: ((wsX1_pinch_r1 ++ (wsX1_pinch_r2 ++ wsX1_pinch_r3)) ++ wsX10)
def wsX1_penance_r1 : List Cond := [Cond.methodLink RX1 57 Lib.Math.min.name, Cond.static Lib.Math.min.name, Cond.initialized "java/lang/Math", Cond.code Lib.Math.min.name Lib.Math.min.code 2 (some .int), Cond.methodLink RX1 105 yX1_keep, Cond.instanceMethod yX1_keep, Cond.selects RX1 yX1_keep yX1_keep, Cond.initialized RX1, Cond.code yX1_keep cX1_keep 1 none, Cond.fieldLink RX1 9 "SaltOrderModel" "now" "[I", Cond.fieldLink RX1 13 "SaltOrderModel" "kept" "[I", Cond.methodLink RX1 27 arraycopyName, Cond.native arraycopyName, Cond.static arraycopyName, Cond.initialized "java/lang/System", Cond.methodLink RX1 33 yX1_me, Cond.instanceMethod yX1_me, Cond.selects RX1 yX1_me yX1_me, Cond.code yX1_me cX1_me 3 (some .int), Cond.methodLink RX1 42 yX1_let, Cond.instanceMethod yX1_let, Cond.selects RX1 yX1_let yX1_let, Cond.code yX1_let cX1_let 4 none, Cond.methodLink RX1 84 yX1_daysOn]
def wsX1_penance_r2 : List Cond := [Cond.instanceMethod yX1_daysOn, Cond.selects RX1 yX1_daysOn yX1_daysOn, Cond.code yX1_daysOn cX1_daysOn 4 (some .int), Cond.methodLink RX1 67 yX1_dayOn, Cond.instanceMethod yX1_dayOn, Cond.selects RX1 yX1_dayOn yX1_dayOn, Cond.code yX1_dayOn cX1_dayOn 3 (some .int), Cond.fieldLink RX1 20 "SaltOrderModel" "members" "I", Cond.methodLink RX1 37 Lib.Math.max.name, Cond.static Lib.Math.max.name, Cond.code Lib.Math.max.name Lib.Math.max.code 2 (some .int), Cond.methodLink RX1 60 yX1_auditNow, Cond.instanceMethod yX1_auditNow, Cond.selects RX1 yX1_auditNow yX1_auditNow, Cond.code yX1_auditNow cX1_auditNow 3 (some .int), Cond.methodLink RX1 53 yX1_faultsNow, Cond.instanceMethod yX1_faultsNow, Cond.selects RX1 yX1_faultsNow yX1_faultsNow, Cond.code yX1_faultsNow cX1_faultsNow 3 (some .int), Cond.methodLink RX1 50 yX1_th, Cond.instanceMethod yX1_th, Cond.selects RX1 yX1_th yX1_th, Cond.code yX1_th cX1_th 3 (some .int), Cond.methodLink RX1 63 yX1_loss]
def wsX1_penance_r3 : List Cond := [Cond.instanceMethod yX1_loss, Cond.selects RX1 yX1_loss yX1_loss, Cond.code yX1_loss cX1_loss 2 (some .int), Cond.methodLink RX1 108 yX1_bringBack, Cond.instanceMethod yX1_bringBack, Cond.selects RX1 yX1_bringBack yX1_bringBack, Cond.code yX1_bringBack cX1_bringBack 1 none]
def wsX1_penance : List Cond := .code yX1_penance cX1_penance 6 (some .int) :: ((wsX1_penance_r1 ++ (wsX1_penance_r2 ++ wsX1_penance_r3)) ++ wsX10)
def wsX1_bestPinch_r1 : List Cond := [Cond.fieldLink RX1 16 "SaltOrderModel" "thrown" "I", Cond.methodLink RX1 73 yX1_isMember, Cond.instanceMethod yX1_isMember, Cond.selects RX1 yX1_isMember yX1_isMember, Cond.initialized RX1, Cond.code yX1_isMember cX1_isMember 2 (some .boolean), Cond.fieldLink RX1 20 "SaltOrderModel" "members" "I", Cond.methodLink RX1 23 yX1_isIn, Cond.static yX1_isIn, Cond.code yX1_isIn cX1_isIn 3 (some .boolean), Cond.methodLink RX1 114 yX1_pinch, Cond.instanceMethod yX1_pinch, Cond.selects RX1 yX1_pinch yX1_pinch, Cond.code yX1_pinch cX1_pinch 7 (some .int), Cond.fieldLink RX1 9 "SaltOrderModel" "now" "[I", Cond.methodLink RX1 57 Lib.Math.min.name, Cond.static Lib.Math.min.name, Cond.initialized "java/lang/Math", Cond.code Lib.Math.min.name Lib.Math.min.code 2 (some .int), Cond.methodLink RX1 105 yX1_keep, Cond.instanceMethod yX1_keep, Cond.selects RX1 yX1_keep yX1_keep, Cond.code yX1_keep cX1_keep 1 none, Cond.fieldLink RX1 13 "SaltOrderModel" "kept" "[I"]
def wsX1_bestPinch_r2 : List Cond := [Cond.methodLink RX1 27 arraycopyName, Cond.native arraycopyName, Cond.static arraycopyName, Cond.initialized "java/lang/System", Cond.methodLink RX1 77 yX1_cast, Cond.instanceMethod yX1_cast, Cond.selects RX1 yX1_cast yX1_cast, Cond.code yX1_cast cX1_cast 5 (some .int), Cond.methodLink RX1 37 Lib.Math.max.name, Cond.static Lib.Math.max.name, Cond.code Lib.Math.max.name Lib.Math.max.code 2 (some .int), Cond.methodLink RX1 33 yX1_me, Cond.instanceMethod yX1_me, Cond.selects RX1 yX1_me yX1_me, Cond.code yX1_me cX1_me 3 (some .int), Cond.methodLink RX1 42 yX1_let, Cond.instanceMethod yX1_let, Cond.selects RX1 yX1_let yX1_let, Cond.code yX1_let cX1_let 4 none, Cond.methodLink RX1 46 yX1_write, Cond.instanceMethod yX1_write, Cond.selects RX1 yX1_write yX1_write, Cond.code yX1_write cX1_write 3 none, Cond.methodLink RX1 84 yX1_daysOn]
def wsX1_bestPinch_r3 : List Cond := [Cond.instanceMethod yX1_daysOn, Cond.selects RX1 yX1_daysOn yX1_daysOn, Cond.code yX1_daysOn cX1_daysOn 4 (some .int), Cond.methodLink RX1 67 yX1_dayOn, Cond.instanceMethod yX1_dayOn, Cond.selects RX1 yX1_dayOn yX1_dayOn, Cond.code yX1_dayOn cX1_dayOn 3 (some .int), Cond.methodLink RX1 60 yX1_auditNow, Cond.instanceMethod yX1_auditNow, Cond.selects RX1 yX1_auditNow yX1_auditNow, Cond.code yX1_auditNow cX1_auditNow 3 (some .int), Cond.methodLink RX1 53 yX1_faultsNow, Cond.instanceMethod yX1_faultsNow, Cond.selects RX1 yX1_faultsNow yX1_faultsNow, Cond.code yX1_faultsNow cX1_faultsNow 3 (some .int), Cond.methodLink RX1 50 yX1_th, Cond.instanceMethod yX1_th, Cond.selects RX1 yX1_th yX1_th, Cond.code yX1_th cX1_th 3 (some .int), Cond.methodLink RX1 63 yX1_loss, Cond.instanceMethod yX1_loss, Cond.selects RX1 yX1_loss yX1_loss, Cond.code yX1_loss cX1_loss 2 (some .int), Cond.methodLink RX1 108 yX1_bringBack]
def wsX1_bestPinch_r4 : List Cond := [Cond.instanceMethod yX1_bringBack, Cond.selects RX1 yX1_bringBack yX1_bringBack, Cond.code yX1_bringBack cX1_bringBack 1 none, Cond.methodLink RX1 70 yX1_fail, Cond.instanceMethod yX1_fail, Cond.selects RX1 yX1_fail yX1_fail, Cond.code yX1_fail cX1_fail 2 (some .int)]
def wsX1_bestPinch : List Cond := .code yX1_bestPinch cX1_bestPinch 2 (some .int) :: ((wsX1_bestPinch_r1 ++ (wsX1_bestPinch_r2 ++ (wsX1_bestPinch_r3 ++ wsX1_bestPinch_r4))) ++ wsX10)
def wsX1_bestPenance_r1 : List Cond := [Cond.fieldLink RX1 16 "SaltOrderModel" "thrown" "I", Cond.methodLink RX1 73 yX1_isMember, Cond.instanceMethod yX1_isMember, Cond.selects RX1 yX1_isMember yX1_isMember, Cond.initialized RX1, Cond.code yX1_isMember cX1_isMember 2 (some .boolean), Cond.fieldLink RX1 20 "SaltOrderModel" "members" "I", Cond.methodLink RX1 23 yX1_isIn, Cond.static yX1_isIn, Cond.code yX1_isIn cX1_isIn 3 (some .boolean), Cond.methodLink RX1 117 yX1_penance, Cond.instanceMethod yX1_penance, Cond.selects RX1 yX1_penance yX1_penance, Cond.code yX1_penance cX1_penance 6 (some .int), Cond.methodLink RX1 57 Lib.Math.min.name, Cond.static Lib.Math.min.name, Cond.initialized "java/lang/Math", Cond.code Lib.Math.min.name Lib.Math.min.code 2 (some .int), Cond.methodLink RX1 105 yX1_keep, Cond.instanceMethod yX1_keep, Cond.selects RX1 yX1_keep yX1_keep, Cond.code yX1_keep cX1_keep 1 none, Cond.fieldLink RX1 9 "SaltOrderModel" "now" "[I", Cond.fieldLink RX1 13 "SaltOrderModel" "kept" "[I"]
def wsX1_bestPenance_r2 : List Cond := [Cond.methodLink RX1 27 arraycopyName, Cond.native arraycopyName, Cond.static arraycopyName, Cond.initialized "java/lang/System", Cond.methodLink RX1 33 yX1_me, Cond.instanceMethod yX1_me, Cond.selects RX1 yX1_me yX1_me, Cond.code yX1_me cX1_me 3 (some .int), Cond.methodLink RX1 42 yX1_let, Cond.instanceMethod yX1_let, Cond.selects RX1 yX1_let yX1_let, Cond.code yX1_let cX1_let 4 none, Cond.methodLink RX1 84 yX1_daysOn, Cond.instanceMethod yX1_daysOn, Cond.selects RX1 yX1_daysOn yX1_daysOn, Cond.code yX1_daysOn cX1_daysOn 4 (some .int), Cond.methodLink RX1 67 yX1_dayOn, Cond.instanceMethod yX1_dayOn, Cond.selects RX1 yX1_dayOn yX1_dayOn, Cond.code yX1_dayOn cX1_dayOn 3 (some .int), Cond.methodLink RX1 37 Lib.Math.max.name, Cond.static Lib.Math.max.name, Cond.code Lib.Math.max.name Lib.Math.max.code 2 (some .int), Cond.methodLink RX1 60 yX1_auditNow]
def wsX1_bestPenance_r3 : List Cond := [Cond.instanceMethod yX1_auditNow, Cond.selects RX1 yX1_auditNow yX1_auditNow, Cond.code yX1_auditNow cX1_auditNow 3 (some .int), Cond.methodLink RX1 53 yX1_faultsNow, Cond.instanceMethod yX1_faultsNow, Cond.selects RX1 yX1_faultsNow yX1_faultsNow, Cond.code yX1_faultsNow cX1_faultsNow 3 (some .int), Cond.methodLink RX1 50 yX1_th, Cond.instanceMethod yX1_th, Cond.selects RX1 yX1_th yX1_th, Cond.code yX1_th cX1_th 3 (some .int), Cond.methodLink RX1 63 yX1_loss, Cond.instanceMethod yX1_loss, Cond.selects RX1 yX1_loss yX1_loss, Cond.code yX1_loss cX1_loss 2 (some .int), Cond.methodLink RX1 108 yX1_bringBack, Cond.instanceMethod yX1_bringBack, Cond.selects RX1 yX1_bringBack yX1_bringBack, Cond.code yX1_bringBack cX1_bringBack 1 none, Cond.methodLink RX1 70 yX1_fail, Cond.instanceMethod yX1_fail, Cond.selects RX1 yX1_fail yX1_fail, Cond.code yX1_fail cX1_fail 2 (some .int)]
def wsX1_bestPenance : List Cond := .code yX1_bestPenance cX1_bestPenance 2 (some .int) :: ((wsX1_bestPenance_r1 ++ (wsX1_bestPenance_r2 ++ wsX1_bestPenance_r3)) ++ wsX10)
def wsX1_meanLuck : List Cond := .code yX1_meanLuck cX1_meanLuck 3 (some .double) :: ([.fieldLink RX1 16 "SaltOrderModel" "thrown" "I", .fieldLink RX1 20 "SaltOrderModel" "members" "I", .methodLink RX1 33 yX1_me, .instanceMethod yX1_me, .selects RX1 yX1_me yX1_me, .initialized RX1, .code yX1_me cX1_me 3 (some .int), .fieldLink RX1 9 "SaltOrderModel" "now" "[I"] ++ wsX10)
def wsX1_digest_r1 : List Cond := [Cond.fieldLink RX1 16 "SaltOrderModel" "thrown" "I", Cond.arrayClass .int, Cond.fieldLink RX1 9 "SaltOrderModel" "now" "[I", Cond.fieldLink RX1 20 "SaltOrderModel" "members" "I", Cond.constantLong RX1 120 (2011), Cond.constantLong RX1 122 (31), Cond.methodLink RX1 53 yX1_faultsNow, Cond.instanceMethod yX1_faultsNow, Cond.selects RX1 yX1_faultsNow yX1_faultsNow, Cond.initialized RX1, Cond.code yX1_faultsNow cX1_faultsNow 3 (some .int), Cond.methodLink RX1 50 yX1_th, Cond.instanceMethod yX1_th, Cond.selects RX1 yX1_th yX1_th, Cond.code yX1_th cX1_th 3 (some .int), Cond.methodLink RX1 90 yX1_best, Cond.instanceMethod yX1_best, Cond.selects RX1 yX1_best yX1_best, Cond.code yX1_best cX1_best 3 (some .int), Cond.methodLink RX1 33 yX1_me, Cond.instanceMethod yX1_me, Cond.selects RX1 yX1_me yX1_me, Cond.code yX1_me cX1_me 3 (some .int), Cond.methodLink RX1 93 yX1_owed]
def wsX1_digest_r2 : List Cond := [Cond.instanceMethod yX1_owed, Cond.selects RX1 yX1_owed yX1_owed, Cond.code yX1_owed cX1_owed 3 (some .int), Cond.methodLink RX1 63 yX1_loss, Cond.instanceMethod yX1_loss, Cond.selects RX1 yX1_loss yX1_loss, Cond.code yX1_loss cX1_loss 2 (some .int), Cond.methodLink RX1 102 yX1_adds, Cond.instanceMethod yX1_adds, Cond.selects RX1 yX1_adds yX1_adds, Cond.code yX1_adds cX1_adds 4 (some .int), Cond.methodLink RX1 114 yX1_pinch, Cond.instanceMethod yX1_pinch, Cond.selects RX1 yX1_pinch yX1_pinch, Cond.code yX1_pinch cX1_pinch 7 (some .int), Cond.methodLink RX1 57 Lib.Math.min.name, Cond.static Lib.Math.min.name, Cond.initialized "java/lang/Math", Cond.code Lib.Math.min.name Lib.Math.min.code 2 (some .int), Cond.methodLink RX1 105 yX1_keep, Cond.instanceMethod yX1_keep, Cond.selects RX1 yX1_keep yX1_keep, Cond.code yX1_keep cX1_keep 1 none, Cond.fieldLink RX1 13 "SaltOrderModel" "kept" "[I"]
def wsX1_digest_r3 : List Cond := [Cond.methodLink RX1 27 arraycopyName, Cond.native arraycopyName, Cond.static arraycopyName, Cond.initialized "java/lang/System", Cond.methodLink RX1 77 yX1_cast, Cond.instanceMethod yX1_cast, Cond.selects RX1 yX1_cast yX1_cast, Cond.code yX1_cast cX1_cast 5 (some .int), Cond.methodLink RX1 37 Lib.Math.max.name, Cond.static Lib.Math.max.name, Cond.code Lib.Math.max.name Lib.Math.max.code 2 (some .int), Cond.methodLink RX1 42 yX1_let, Cond.instanceMethod yX1_let, Cond.selects RX1 yX1_let yX1_let, Cond.code yX1_let cX1_let 4 none, Cond.methodLink RX1 46 yX1_write, Cond.instanceMethod yX1_write, Cond.selects RX1 yX1_write yX1_write, Cond.code yX1_write cX1_write 3 none, Cond.methodLink RX1 84 yX1_daysOn, Cond.instanceMethod yX1_daysOn, Cond.selects RX1 yX1_daysOn yX1_daysOn, Cond.code yX1_daysOn cX1_daysOn 4 (some .int), Cond.methodLink RX1 67 yX1_dayOn]
def wsX1_digest_r4 : List Cond := [Cond.instanceMethod yX1_dayOn, Cond.selects RX1 yX1_dayOn yX1_dayOn, Cond.code yX1_dayOn cX1_dayOn 3 (some .int), Cond.methodLink RX1 60 yX1_auditNow, Cond.instanceMethod yX1_auditNow, Cond.selects RX1 yX1_auditNow yX1_auditNow, Cond.code yX1_auditNow cX1_auditNow 3 (some .int), Cond.methodLink RX1 108 yX1_bringBack, Cond.instanceMethod yX1_bringBack, Cond.selects RX1 yX1_bringBack yX1_bringBack, Cond.code yX1_bringBack cX1_bringBack 1 none, Cond.methodLink RX1 117 yX1_penance, Cond.instanceMethod yX1_penance, Cond.selects RX1 yX1_penance yX1_penance, Cond.code yX1_penance cX1_penance 6 (some .int)]
def wsX1_digest : List Cond := .code yX1_digest cX1_digest 10 (some .long) :: ((wsX1_digest_r1 ++ (wsX1_digest_r2 ++ (wsX1_digest_r3 ++ wsX1_digest_r4))) ++ wsX10)
def wsJ9_max_7cf53 : List Cond := .code yJ9_max_7cf53 cJ9_max_7cf53 2 (some .int) :: ([])
def wsJ9_min_7cf53 : List Cond := .code yJ9_min_7cf53 cJ9_min_7cf53 2 (some .int) :: ([])
def wsL_join : List Cond := .codeWith yL_join cL_join 3 (some .int) [(0, 8, 11, 13)] :: ([.classLink RL 13 "java/lang/IllegalStateException", .methodLink RL 7 yX0_join, .instanceMethod yX0_join, .selects RX0 yX0_join yX0_join, .initialized RX0, .code yX0_join cX0_join 2 (some .int), .classLink RX0 48 "java/lang/IllegalStateException", .initialized "java/lang/IllegalStateException", .fieldLink RX0 32 "SaltOrder" "memberCount" "I", .fieldLink RX0 9 "SaltOrder" "luck" "[I", .fieldLink RX0 13 "SaltOrder" "arrears" "[I", .fieldLink RX0 16 "SaltOrder" "toEat" "[I"] ++ wsX00 ++ (vx_atS RX0 52 "java/lang/IllegalStateException" ["java/lang/RuntimeException", "java/lang/Exception"]).filter goodWord)
def wsL_spill_r1 : List Cond := [Cond.classLink RL 19 "java/lang/IndexOutOfBoundsException", Cond.classLink RL 21 "java/lang/IllegalArgumentException", Cond.classLink RL 13 "java/lang/IllegalStateException", Cond.methodLink RL 15 yX0_spill, Cond.instanceMethod yX0_spill, Cond.selects RX0 yX0_spill yX0_spill, Cond.initialized RX0, Cond.code yX0_spill cX0_spill 3 (some .int), Cond.fieldLink RX0 39 "SaltOrder" "cellar" "I", Cond.fieldLink RX0 13 "SaltOrder" "arrears" "[I", Cond.methodLink RX0 55 yX0_checkMember, Cond.instanceMethod yX0_checkMember, Cond.selects RX0 yX0_checkMember yX0_checkMember, Cond.code yX0_checkMember cX0_checkMember 2 none, Cond.classLink RX0 195 "java/lang/IndexOutOfBoundsException", Cond.initialized "java/lang/IndexOutOfBoundsException", Cond.fieldLink RX0 32 "SaltOrder" "memberCount" "I", Cond.methodLink RX0 59 yX0_checkAmount, Cond.static yX0_checkAmount, Cond.code yX0_checkAmount cX0_checkAmount 2 none, Cond.classLink RX0 204 "java/lang/IllegalArgumentException", Cond.initialized "java/lang/IllegalArgumentException", Cond.methodLink RX0 63 yX0_checkCellar, Cond.instanceMethod yX0_checkCellar]
def wsL_spill_r2 : List Cond := [Cond.selects RX0 yX0_checkCellar yX0_checkCellar, Cond.code yX0_checkCellar cX0_checkCellar 2 none, Cond.classLink RX0 48 "java/lang/IllegalStateException", Cond.initialized "java/lang/IllegalStateException", Cond.methodLink RX0 66 yX0_addArrears, Cond.instanceMethod yX0_addArrears, Cond.selects RX0 yX0_addArrears yX0_addArrears, Cond.code yX0_addArrears cX0_addArrears 3 none, Cond.methodLink RX0 89 Lib.Math.min.name, Cond.static Lib.Math.min.name, Cond.initialized "java/lang/Math", Cond.code Lib.Math.min.name Lib.Math.min.code 2 (some .int)]
def wsL_spill : List Cond := .codeWith yL_spill cL_spill 5 (some .int) [(0, 10, 13, 19), (0, 10, 17, 21), (0, 10, 21, 13)] :: ((wsL_spill_r1 ++ wsL_spill_r2) ++ wsX00 ++ (vx_atS RX0 199 "java/lang/IndexOutOfBoundsException" ["java/lang/RuntimeException", "java/lang/Exception"]).filter goodWord ++ (vx_atS RX0 208 "java/lang/IllegalArgumentException" ["java/lang/RuntimeException", "java/lang/Exception"]).filter goodWord ++ (vx_atS RX0 52 "java/lang/IllegalStateException" ["java/lang/RuntimeException", "java/lang/Exception"]).filter goodWord)
def wsL_throwSalt_r1 : List Cond := [Cond.classLink RL 19 "java/lang/IndexOutOfBoundsException", Cond.classLink RL 21 "java/lang/IllegalArgumentException", Cond.classLink RL 13 "java/lang/IllegalStateException", Cond.methodLink RL 23 yX0_throwSalt, Cond.instanceMethod yX0_throwSalt, Cond.selects RX0 yX0_throwSalt yX0_throwSalt, Cond.initialized RX0, Cond.code yX0_throwSalt cX0_throwSalt 6 (some .int), Cond.fieldLink RX0 39 "SaltOrder" "cellar" "I", Cond.methodLink RX0 55 yX0_checkMember, Cond.instanceMethod yX0_checkMember, Cond.selects RX0 yX0_checkMember yX0_checkMember, Cond.code yX0_checkMember cX0_checkMember 2 none, Cond.classLink RX0 195 "java/lang/IndexOutOfBoundsException", Cond.initialized "java/lang/IndexOutOfBoundsException", Cond.fieldLink RX0 32 "SaltOrder" "memberCount" "I", Cond.methodLink RX0 69 yX0_checkShoulder, Cond.static yX0_checkShoulder, Cond.code yX0_checkShoulder cX0_checkShoulder 1 none, Cond.methodLink RX0 59 yX0_checkAmount, Cond.static yX0_checkAmount, Cond.code yX0_checkAmount cX0_checkAmount 2 none, Cond.classLink RX0 204 "java/lang/IllegalArgumentException", Cond.initialized "java/lang/IllegalArgumentException"]
def wsL_throwSalt_r2 : List Cond := [Cond.methodLink RX0 63 yX0_checkCellar, Cond.instanceMethod yX0_checkCellar, Cond.selects RX0 yX0_checkCellar yX0_checkCellar, Cond.code yX0_checkCellar cX0_checkCellar 2 none, Cond.classLink RX0 48 "java/lang/IllegalStateException", Cond.initialized "java/lang/IllegalStateException", Cond.methodLink RX0 72 yX0_checkLedgerHasRoom, Cond.instanceMethod yX0_checkLedgerHasRoom, Cond.selects RX0 yX0_checkLedgerHasRoom yX0_checkLedgerHasRoom, Cond.code yX0_checkLedgerHasRoom cX0_checkLedgerHasRoom 1 none, Cond.fieldLink RX0 36 "SaltOrder" "throwCount" "I", Cond.methodLink RX0 75 yX0_leftExcess, Cond.instanceMethod yX0_leftExcess, Cond.selects RX0 yX0_leftExcess yX0_leftExcess, Cond.code yX0_leftExcess cX0_leftExcess 3 (some .int), Cond.fieldLink RX0 13 "SaltOrder" "arrears" "[I", Cond.methodLink RX0 213 Lib.Math.max.name, Cond.static Lib.Math.max.name, Cond.initialized "java/lang/Math", Cond.code Lib.Math.max.name Lib.Math.max.code 2 (some .int), Cond.methodLink RX0 79 yX0_lessenArrears, Cond.instanceMethod yX0_lessenArrears, Cond.selects RX0 yX0_lessenArrears yX0_lessenArrears, Cond.code yX0_lessenArrears cX0_lessenArrears 3 none]
def wsL_throwSalt_r3 : List Cond := [Cond.methodLink RX0 82 yX0_writeThrow, Cond.instanceMethod yX0_writeThrow, Cond.selects RX0 yX0_writeThrow yX0_writeThrow, Cond.code yX0_writeThrow cX0_writeThrow 5 none, Cond.fieldLink RX0 19 "SaltOrder" "throwers" "[I", Cond.fieldLink RX0 22 "SaltOrder" "lefts" "[Z", Cond.fieldLink RX0 26 "SaltOrder" "thrown" "[I", Cond.fieldLink RX0 29 "SaltOrder" "excesses" "[I"]
def wsL_throwSalt : List Cond := .codeWith yL_throwSalt cL_throwSalt 6 (some .int) [(0, 12, 15, 19), (0, 12, 19, 21), (0, 12, 23, 13)] :: ((wsL_throwSalt_r1 ++ (wsL_throwSalt_r2 ++ wsL_throwSalt_r3)) ++ wsX00 ++ (vx_atS RX0 199 "java/lang/IndexOutOfBoundsException" ["java/lang/RuntimeException", "java/lang/Exception"]).filter goodWord ++ (vx_atS RX0 208 "java/lang/IllegalArgumentException" ["java/lang/RuntimeException", "java/lang/Exception"]).filter goodWord ++ (vx_atS RX0 52 "java/lang/IllegalStateException" ["java/lang/RuntimeException", "java/lang/Exception"]).filter goodWord)
def wsL_doPenance_r1 : List Cond := [Cond.classLink RL 19 "java/lang/IndexOutOfBoundsException", Cond.classLink RL 21 "java/lang/IllegalArgumentException", Cond.methodLink RL 27 yX0_doPenance, Cond.instanceMethod yX0_doPenance, Cond.selects RX0 yX0_doPenance yX0_doPenance, Cond.initialized RX0, Cond.code yX0_doPenance cX0_doPenance 3 (some .int), Cond.fieldLink RX0 16 "SaltOrder" "toEat" "[I", Cond.methodLink RX0 55 yX0_checkMember, Cond.instanceMethod yX0_checkMember, Cond.selects RX0 yX0_checkMember yX0_checkMember, Cond.code yX0_checkMember cX0_checkMember 2 none, Cond.classLink RX0 195 "java/lang/IndexOutOfBoundsException", Cond.initialized "java/lang/IndexOutOfBoundsException", Cond.fieldLink RX0 32 "SaltOrder" "memberCount" "I", Cond.methodLink RX0 59 yX0_checkAmount, Cond.static yX0_checkAmount, Cond.code yX0_checkAmount cX0_checkAmount 2 none, Cond.classLink RX0 204 "java/lang/IllegalArgumentException", Cond.initialized "java/lang/IllegalArgumentException", Cond.methodLink RX0 86 yX0_addLumps, Cond.instanceMethod yX0_addLumps, Cond.selects RX0 yX0_addLumps yX0_addLumps, Cond.code yX0_addLumps cX0_addLumps 3 none]
def wsL_doPenance_r2 : List Cond := [Cond.methodLink RX0 89 Lib.Math.min.name, Cond.static Lib.Math.min.name, Cond.initialized "java/lang/Math", Cond.code Lib.Math.min.name Lib.Math.min.code 2 (some .int)]
def wsL_doPenance : List Cond := .codeWith yL_doPenance cL_doPenance 5 (some .int) [(0, 10, 13, 19), (0, 10, 17, 21)] :: ((wsL_doPenance_r1 ++ wsL_doPenance_r2) ++ wsX00 ++ (vx_atS RX0 199 "java/lang/IndexOutOfBoundsException" ["java/lang/RuntimeException", "java/lang/Exception"]).filter goodWord ++ (vx_atS RX0 208 "java/lang/IllegalArgumentException" ["java/lang/RuntimeException", "java/lang/Exception"]).filter goodWord)
def wsL_bringSalt : List Cond := .codeWith yL_bringSalt cL_bringSalt 4 (some .int) [(0, 9, 12, 21)] :: ([.classLink RL 21 "java/lang/IllegalArgumentException", .methodLink RL 30 yX0_bringSalt, .instanceMethod yX0_bringSalt, .selects RX0 yX0_bringSalt yX0_bringSalt, .initialized RX0, .code yX0_bringSalt cX0_bringSalt 2 (some .int), .fieldLink RX0 39 "SaltOrder" "cellar" "I", .methodLink RX0 89 Lib.Math.min.name, .static Lib.Math.min.name, .initialized "java/lang/Math", .code Lib.Math.min.name Lib.Math.min.code 2 (some .int), .methodLink RX0 59 yX0_checkAmount, .static yX0_checkAmount, .code yX0_checkAmount cX0_checkAmount 2 none, .classLink RX0 204 "java/lang/IllegalArgumentException", .initialized "java/lang/IllegalArgumentException"] ++ wsX00 ++ (vx_atS RX0 208 "java/lang/IllegalArgumentException" ["java/lang/RuntimeException", "java/lang/Exception"]).filter goodWord)
def wsL_pass_r1 : List Cond := [Cond.classLink RL 21 "java/lang/IllegalArgumentException", Cond.methodLink RL 34 yX0_pass, Cond.instanceMethod yX0_pass, Cond.selects RX0 yX0_pass yX0_pass, Cond.initialized RX0, Cond.code yX0_pass cX0_pass 4 (some .int), Cond.methodLink RX0 59 yX0_checkAmount, Cond.static yX0_checkAmount, Cond.code yX0_checkAmount cX0_checkAmount 2 none, Cond.classLink RX0 204 "java/lang/IllegalArgumentException", Cond.initialized "java/lang/IllegalArgumentException", Cond.methodLink RX0 102 yX0_passOneDay, Cond.instanceMethod yX0_passOneDay, Cond.selects RX0 yX0_passOneDay yX0_passOneDay, Cond.code yX0_passOneDay cX0_passOneDay 3 (some .int), Cond.fieldLink RX0 42 "SaltOrder" "today" "I", Cond.fieldLink RX0 32 "SaltOrder" "memberCount" "I", Cond.methodLink RX0 216 yX0_isAuditDay, Cond.static yX0_isAuditDay, Cond.code yX0_isAuditDay cX0_isAuditDay 1 (some .boolean), Cond.methodLink RX0 219 yX0_audit, Cond.instanceMethod yX0_audit, Cond.selects RX0 yX0_audit yX0_audit, Cond.code yX0_audit cX0_audit 3 (some .int)]
def wsL_pass_r2 : List Cond := [Cond.fieldLink RX0 36 "SaltOrder" "throwCount" "I", Cond.fieldLink RX0 45 "SaltOrder" "found" "I", Cond.methodLink RX0 94 yX0_faults, Cond.instanceMethod yX0_faults, Cond.selects RX0 yX0_faults yX0_faults, Cond.code yX0_faults cX0_faults 3 (some .int), Cond.fieldLink RX0 29 "SaltOrder" "excesses" "[I", Cond.methodLink RX0 98 yX0_debtOf, Cond.instanceMethod yX0_debtOf, Cond.selects RX0 yX0_debtOf yX0_debtOf, Cond.code yX0_debtOf cX0_debtOf 4 (some .int), Cond.fieldLink RX0 19 "SaltOrder" "throwers" "[I", Cond.methodLink RX0 66 yX0_addArrears, Cond.instanceMethod yX0_addArrears, Cond.selects RX0 yX0_addArrears yX0_addArrears, Cond.code yX0_addArrears cX0_addArrears 3 none, Cond.fieldLink RX0 13 "SaltOrder" "arrears" "[I", Cond.methodLink RX0 89 Lib.Math.min.name, Cond.static Lib.Math.min.name, Cond.initialized "java/lang/Math", Cond.code Lib.Math.min.name Lib.Math.min.code 2 (some .int), Cond.methodLink RX0 222 yX0_eatOrFeelLuck, Cond.instanceMethod yX0_eatOrFeelLuck, Cond.selects RX0 yX0_eatOrFeelLuck yX0_eatOrFeelLuck]
def wsL_pass_r3 : List Cond := [Cond.code yX0_eatOrFeelLuck cX0_eatOrFeelLuck 2 none, Cond.fieldLink RX0 16 "SaltOrder" "toEat" "[I", Cond.fieldLink RX0 9 "SaltOrder" "luck" "[I", Cond.methodLink RX0 213 Lib.Math.max.name, Cond.static Lib.Math.max.name, Cond.code Lib.Math.max.name Lib.Math.max.code 2 (some .int), Cond.methodLink RX0 79 yX0_lessenArrears, Cond.instanceMethod yX0_lessenArrears, Cond.selects RX0 yX0_lessenArrears yX0_lessenArrears, Cond.code yX0_lessenArrears cX0_lessenArrears 3 none, Cond.methodLink RX0 105 yX0_lossOf, Cond.instanceMethod yX0_lossOf, Cond.selects RX0 yX0_lossOf yX0_lossOf, Cond.code yX0_lossOf cX0_lossOf 2 (some .int)]
def wsL_pass : List Cond := .codeWith yL_pass cL_pass 4 (some .int) [(0, 9, 12, 21)] :: ((wsL_pass_r1 ++ (wsL_pass_r2 ++ wsL_pass_r3)) ++ wsX00 ++ (vx_atS RX0 208 "java/lang/IllegalArgumentException" ["java/lang/RuntimeException", "java/lang/Exception"]).filter goodWord)
def wsL_luckOf : List Cond := .codeWith yL_luckOf cL_luckOf 4 (some .int) [(0, 9, 12, 19)] :: ([.classLink RL 19 "java/lang/IndexOutOfBoundsException", .methodLink RL 37 yX0_luckOf, .instanceMethod yX0_luckOf, .selects RX0 yX0_luckOf yX0_luckOf, .initialized RX0, .code yX0_luckOf cX0_luckOf 2 (some .int), .fieldLink RX0 9 "SaltOrder" "luck" "[I", .methodLink RX0 55 yX0_checkMember, .instanceMethod yX0_checkMember, .selects RX0 yX0_checkMember yX0_checkMember, .code yX0_checkMember cX0_checkMember 2 none, .classLink RX0 195 "java/lang/IndexOutOfBoundsException", .initialized "java/lang/IndexOutOfBoundsException", .fieldLink RX0 32 "SaltOrder" "memberCount" "I"] ++ wsX00 ++ (vx_atS RX0 199 "java/lang/IndexOutOfBoundsException" ["java/lang/RuntimeException", "java/lang/Exception"]).filter goodWord)
def wsL_arrearsOf : List Cond := .codeWith yL_arrearsOf cL_arrearsOf 4 (some .int) [(0, 9, 12, 19)] :: ([.classLink RL 19 "java/lang/IndexOutOfBoundsException", .methodLink RL 40 yX0_arrearsOf, .instanceMethod yX0_arrearsOf, .selects RX0 yX0_arrearsOf yX0_arrearsOf, .initialized RX0, .code yX0_arrearsOf cX0_arrearsOf 2 (some .int), .fieldLink RX0 13 "SaltOrder" "arrears" "[I", .methodLink RX0 55 yX0_checkMember, .instanceMethod yX0_checkMember, .selects RX0 yX0_checkMember yX0_checkMember, .code yX0_checkMember cX0_checkMember 2 none, .classLink RX0 195 "java/lang/IndexOutOfBoundsException", .initialized "java/lang/IndexOutOfBoundsException", .fieldLink RX0 32 "SaltOrder" "memberCount" "I"] ++ wsX00 ++ (vx_atS RX0 199 "java/lang/IndexOutOfBoundsException" ["java/lang/RuntimeException", "java/lang/Exception"]).filter goodWord)
def wsL_lumpsOf : List Cond := .codeWith yL_lumpsOf cL_lumpsOf 4 (some .int) [(0, 9, 12, 19)] :: ([.classLink RL 19 "java/lang/IndexOutOfBoundsException", .methodLink RL 43 yX0_lumpsOf, .instanceMethod yX0_lumpsOf, .selects RX0 yX0_lumpsOf yX0_lumpsOf, .initialized RX0, .code yX0_lumpsOf cX0_lumpsOf 2 (some .int), .fieldLink RX0 16 "SaltOrder" "toEat" "[I", .methodLink RX0 55 yX0_checkMember, .instanceMethod yX0_checkMember, .selects RX0 yX0_checkMember yX0_checkMember, .code yX0_checkMember cX0_checkMember 2 none, .classLink RX0 195 "java/lang/IndexOutOfBoundsException", .initialized "java/lang/IndexOutOfBoundsException", .fieldLink RX0 32 "SaltOrder" "memberCount" "I"] ++ wsX00 ++ (vx_atS RX0 199 "java/lang/IndexOutOfBoundsException" ["java/lang/RuntimeException", "java/lang/Exception"]).filter goodWord)
def wsL_dailyLoss : List Cond := .codeWith yL_dailyLoss cL_dailyLoss 4 (some .int) [(0, 9, 12, 19)] :: ([.classLink RL 19 "java/lang/IndexOutOfBoundsException", .methodLink RL 46 yX0_dailyLoss, .instanceMethod yX0_dailyLoss, .selects RX0 yX0_dailyLoss yX0_dailyLoss, .initialized RX0, .code yX0_dailyLoss cX0_dailyLoss 2 (some .int), .methodLink RX0 55 yX0_checkMember, .instanceMethod yX0_checkMember, .selects RX0 yX0_checkMember yX0_checkMember, .code yX0_checkMember cX0_checkMember 2 none, .classLink RX0 195 "java/lang/IndexOutOfBoundsException", .initialized "java/lang/IndexOutOfBoundsException", .fieldLink RX0 32 "SaltOrder" "memberCount" "I", .methodLink RX0 105 yX0_lossOf, .instanceMethod yX0_lossOf, .selects RX0 yX0_lossOf yX0_lossOf, .code yX0_lossOf cX0_lossOf 2 (some .int), .fieldLink RX0 16 "SaltOrder" "toEat" "[I", .fieldLink RX0 13 "SaltOrder" "arrears" "[I"] ++ wsX00 ++ (vx_atS RX0 199 "java/lang/IndexOutOfBoundsException" ["java/lang/RuntimeException", "java/lang/Exception"]).filter goodWord)
def wsL_memberOf : List Cond := .codeWith yL_memberOf cL_memberOf 4 (some .int) [(0, 9, 12, 19)] :: ([.classLink RL 19 "java/lang/IndexOutOfBoundsException", .methodLink RL 49 yX0_memberOf, .instanceMethod yX0_memberOf, .selects RX0 yX0_memberOf yX0_memberOf, .initialized RX0, .code yX0_memberOf cX0_memberOf 2 (some .int), .fieldLink RX0 19 "SaltOrder" "throwers" "[I", .methodLink RX0 108 yX0_checkEntry, .instanceMethod yX0_checkEntry, .selects RX0 yX0_checkEntry yX0_checkEntry, .code yX0_checkEntry cX0_checkEntry 2 none, .classLink RX0 195 "java/lang/IndexOutOfBoundsException", .initialized "java/lang/IndexOutOfBoundsException", .fieldLink RX0 36 "SaltOrder" "throwCount" "I"] ++ wsX00 ++ (vx_atS RX0 199 "java/lang/IndexOutOfBoundsException" ["java/lang/RuntimeException", "java/lang/Exception"]).filter goodWord)
def wsL_isLeft : List Cond := .codeWith yL_isLeft cL_isLeft 4 (some .int) [(0, 16, 19, 19)] :: ([.classLink RL 19 "java/lang/IndexOutOfBoundsException", .methodLink RL 52 yX0_isLeft, .instanceMethod yX0_isLeft, .selects RX0 yX0_isLeft yX0_isLeft, .initialized RX0, .code yX0_isLeft cX0_isLeft 2 (some .boolean), .fieldLink RX0 22 "SaltOrder" "lefts" "[Z", .methodLink RX0 108 yX0_checkEntry, .instanceMethod yX0_checkEntry, .selects RX0 yX0_checkEntry yX0_checkEntry, .code yX0_checkEntry cX0_checkEntry 2 none, .classLink RX0 195 "java/lang/IndexOutOfBoundsException", .initialized "java/lang/IndexOutOfBoundsException", .fieldLink RX0 36 "SaltOrder" "throwCount" "I"] ++ wsX00 ++ (vx_atS RX0 199 "java/lang/IndexOutOfBoundsException" ["java/lang/RuntimeException", "java/lang/Exception"]).filter goodWord)
def wsL_grainsOf : List Cond := .codeWith yL_grainsOf cL_grainsOf 4 (some .int) [(0, 9, 12, 19)] :: ([.classLink RL 19 "java/lang/IndexOutOfBoundsException", .methodLink RL 56 yX0_grainsOf, .instanceMethod yX0_grainsOf, .selects RX0 yX0_grainsOf yX0_grainsOf, .initialized RX0, .code yX0_grainsOf cX0_grainsOf 2 (some .int), .fieldLink RX0 26 "SaltOrder" "thrown" "[I", .methodLink RX0 108 yX0_checkEntry, .instanceMethod yX0_checkEntry, .selects RX0 yX0_checkEntry yX0_checkEntry, .code yX0_checkEntry cX0_checkEntry 2 none, .classLink RX0 195 "java/lang/IndexOutOfBoundsException", .initialized "java/lang/IndexOutOfBoundsException", .fieldLink RX0 36 "SaltOrder" "throwCount" "I"] ++ wsX00 ++ (vx_atS RX0 199 "java/lang/IndexOutOfBoundsException" ["java/lang/RuntimeException", "java/lang/Exception"]).filter goodWord)
def wsL_excessOf : List Cond := .codeWith yL_excessOf cL_excessOf 4 (some .int) [(0, 9, 12, 19)] :: ([.classLink RL 19 "java/lang/IndexOutOfBoundsException", .methodLink RL 59 yX0_excessOf, .instanceMethod yX0_excessOf, .selects RX0 yX0_excessOf yX0_excessOf, .initialized RX0, .code yX0_excessOf cX0_excessOf 2 (some .int), .fieldLink RX0 29 "SaltOrder" "excesses" "[I", .methodLink RX0 108 yX0_checkEntry, .instanceMethod yX0_checkEntry, .selects RX0 yX0_checkEntry yX0_checkEntry, .code yX0_checkEntry cX0_checkEntry 2 none, .classLink RX0 195 "java/lang/IndexOutOfBoundsException", .initialized "java/lang/IndexOutOfBoundsException", .fieldLink RX0 36 "SaltOrder" "throwCount" "I"] ++ wsX00 ++ (vx_atS RX0 199 "java/lang/IndexOutOfBoundsException" ["java/lang/RuntimeException", "java/lang/Exception"]).filter goodWord)
def wsL_arrearsByAudit : List Cond := .codeWith yL_arrearsByAudit cL_arrearsByAudit 4 (some .int) [(0, 9, 12, 19)] :: ([.classLink RL 19 "java/lang/IndexOutOfBoundsException", .methodLink RL 62 yX0_arrearsByAudit, .instanceMethod yX0_arrearsByAudit, .selects RX0 yX0_arrearsByAudit yX0_arrearsByAudit, .initialized RX0, .code yX0_arrearsByAudit cX0_arrearsByAudit 2 (some .int), .methodLink RX0 55 yX0_checkMember, .instanceMethod yX0_checkMember, .selects RX0 yX0_checkMember yX0_checkMember, .code yX0_checkMember cX0_checkMember 2 none, .classLink RX0 195 "java/lang/IndexOutOfBoundsException", .initialized "java/lang/IndexOutOfBoundsException", .fieldLink RX0 32 "SaltOrder" "memberCount" "I", .methodLink RX0 98 yX0_debtOf, .instanceMethod yX0_debtOf, .selects RX0 yX0_debtOf yX0_debtOf, .code yX0_debtOf cX0_debtOf 4 (some .int), .fieldLink RX0 36 "SaltOrder" "throwCount" "I", .fieldLink RX0 19 "SaltOrder" "throwers" "[I", .fieldLink RX0 29 "SaltOrder" "excesses" "[I"] ++ wsX00 ++ (vx_atS RX0 199 "java/lang/IndexOutOfBoundsException" ["java/lang/RuntimeException", "java/lang/Exception"]).filter goodWord)
def wsL_luckIn_r1 : List Cond := [Cond.classLink RL 19 "java/lang/IndexOutOfBoundsException", Cond.classLink RL 21 "java/lang/IllegalArgumentException", Cond.methodLink RL 65 yX0_luckIn, Cond.instanceMethod yX0_luckIn, Cond.selects RX0 yX0_luckIn yX0_luckIn, Cond.initialized RX0, Cond.code yX0_luckIn cX0_luckIn 3 (some .int), Cond.methodLink RX0 55 yX0_checkMember, Cond.instanceMethod yX0_checkMember, Cond.selects RX0 yX0_checkMember yX0_checkMember, Cond.code yX0_checkMember cX0_checkMember 2 none, Cond.classLink RX0 195 "java/lang/IndexOutOfBoundsException", Cond.initialized "java/lang/IndexOutOfBoundsException", Cond.fieldLink RX0 32 "SaltOrder" "memberCount" "I", Cond.methodLink RX0 59 yX0_checkAmount, Cond.static yX0_checkAmount, Cond.code yX0_checkAmount cX0_checkAmount 2 none, Cond.classLink RX0 204 "java/lang/IllegalArgumentException", Cond.initialized "java/lang/IllegalArgumentException", Cond.methodLink RX0 111 yX0_beginTrial, Cond.instanceMethod yX0_beginTrial, Cond.selects RX0 yX0_beginTrial yX0_beginTrial, Cond.code yX0_beginTrial cX0_beginTrial 2 none, Cond.fieldLink RX0 9 "SaltOrder" "luck" "[I"]
def wsL_luckIn_r2 : List Cond := [Cond.fieldLink RX0 13 "SaltOrder" "arrears" "[I", Cond.fieldLink RX0 16 "SaltOrder" "toEat" "[I", Cond.fieldLink RX0 42 "SaltOrder" "today" "I", Cond.fieldLink RX0 225 "SaltOrder" "trialDay" "I", Cond.fieldLink RX0 228 "SaltOrder" "trialDebt" "I", Cond.methodLink RX0 98 yX0_debtOf, Cond.instanceMethod yX0_debtOf, Cond.selects RX0 yX0_debtOf yX0_debtOf, Cond.code yX0_debtOf cX0_debtOf 4 (some .int), Cond.fieldLink RX0 36 "SaltOrder" "throwCount" "I", Cond.fieldLink RX0 19 "SaltOrder" "throwers" "[I", Cond.fieldLink RX0 29 "SaltOrder" "excesses" "[I", Cond.methodLink RX0 114 yX0_trialLuckBehind, Cond.instanceMethod yX0_trialLuckBehind, Cond.selects RX0 yX0_trialLuckBehind yX0_trialLuckBehind, Cond.code yX0_trialLuckBehind cX0_trialLuckBehind 3 (some .int), Cond.methodLink RX0 117 yX0_passTrialDay, Cond.instanceMethod yX0_passTrialDay, Cond.selects RX0 yX0_passTrialDay yX0_passTrialDay, Cond.code yX0_passTrialDay cX0_passTrialDay 1 none, Cond.methodLink RX0 216 yX0_isAuditDay, Cond.static yX0_isAuditDay, Cond.code yX0_isAuditDay cX0_isAuditDay 1 (some .boolean), Cond.methodLink RX0 66 yX0_addArrears]
def wsL_luckIn_r3 : List Cond := [Cond.instanceMethod yX0_addArrears, Cond.selects RX0 yX0_addArrears yX0_addArrears, Cond.code yX0_addArrears cX0_addArrears 3 none, Cond.methodLink RX0 89 Lib.Math.min.name, Cond.static Lib.Math.min.name, Cond.initialized "java/lang/Math", Cond.code Lib.Math.min.name Lib.Math.min.code 2 (some .int), Cond.methodLink RX0 222 yX0_eatOrFeelLuck, Cond.instanceMethod yX0_eatOrFeelLuck, Cond.selects RX0 yX0_eatOrFeelLuck yX0_eatOrFeelLuck, Cond.code yX0_eatOrFeelLuck cX0_eatOrFeelLuck 2 none, Cond.methodLink RX0 213 Lib.Math.max.name, Cond.static Lib.Math.max.name, Cond.code Lib.Math.max.name Lib.Math.max.code 2 (some .int), Cond.methodLink RX0 79 yX0_lessenArrears, Cond.instanceMethod yX0_lessenArrears, Cond.selects RX0 yX0_lessenArrears yX0_lessenArrears, Cond.code yX0_lessenArrears cX0_lessenArrears 3 none, Cond.methodLink RX0 105 yX0_lossOf, Cond.instanceMethod yX0_lossOf, Cond.selects RX0 yX0_lossOf yX0_lossOf, Cond.code yX0_lossOf cX0_lossOf 2 (some .int)]
def wsL_luckIn : List Cond := .codeWith yL_luckIn cL_luckIn 5 (some .int) [(0, 10, 13, 19), (0, 10, 17, 21)] :: ((wsL_luckIn_r1 ++ (wsL_luckIn_r2 ++ wsL_luckIn_r3)) ++ wsX00 ++ (vx_atS RX0 199 "java/lang/IndexOutOfBoundsException" ["java/lang/RuntimeException", "java/lang/Exception"]).filter goodWord ++ (vx_atS RX0 208 "java/lang/IllegalArgumentException" ["java/lang/RuntimeException", "java/lang/Exception"]).filter goodWord)
def wsL_daysUntilClear_r1 : List Cond := [Cond.classLink RL 19 "java/lang/IndexOutOfBoundsException", Cond.methodLink RL 68 yX0_daysUntilClear, Cond.instanceMethod yX0_daysUntilClear, Cond.selects RX0 yX0_daysUntilClear yX0_daysUntilClear, Cond.initialized RX0, Cond.code yX0_daysUntilClear cX0_daysUntilClear 3 (some .int), Cond.fieldLink RX0 13 "SaltOrder" "arrears" "[I", Cond.methodLink RX0 55 yX0_checkMember, Cond.instanceMethod yX0_checkMember, Cond.selects RX0 yX0_checkMember yX0_checkMember, Cond.code yX0_checkMember cX0_checkMember 2 none, Cond.classLink RX0 195 "java/lang/IndexOutOfBoundsException", Cond.initialized "java/lang/IndexOutOfBoundsException", Cond.fieldLink RX0 32 "SaltOrder" "memberCount" "I", Cond.methodLink RX0 111 yX0_beginTrial, Cond.instanceMethod yX0_beginTrial, Cond.selects RX0 yX0_beginTrial yX0_beginTrial, Cond.code yX0_beginTrial cX0_beginTrial 2 none, Cond.fieldLink RX0 9 "SaltOrder" "luck" "[I", Cond.fieldLink RX0 16 "SaltOrder" "toEat" "[I", Cond.fieldLink RX0 42 "SaltOrder" "today" "I", Cond.fieldLink RX0 225 "SaltOrder" "trialDay" "I", Cond.fieldLink RX0 228 "SaltOrder" "trialDebt" "I", Cond.methodLink RX0 98 yX0_debtOf]
def wsL_daysUntilClear_r2 : List Cond := [Cond.instanceMethod yX0_debtOf, Cond.selects RX0 yX0_debtOf yX0_debtOf, Cond.code yX0_debtOf cX0_debtOf 4 (some .int), Cond.fieldLink RX0 36 "SaltOrder" "throwCount" "I", Cond.fieldLink RX0 19 "SaltOrder" "throwers" "[I", Cond.fieldLink RX0 29 "SaltOrder" "excesses" "[I", Cond.methodLink RX0 117 yX0_passTrialDay, Cond.instanceMethod yX0_passTrialDay, Cond.selects RX0 yX0_passTrialDay yX0_passTrialDay, Cond.code yX0_passTrialDay cX0_passTrialDay 1 none, Cond.methodLink RX0 216 yX0_isAuditDay, Cond.static yX0_isAuditDay, Cond.code yX0_isAuditDay cX0_isAuditDay 1 (some .boolean), Cond.methodLink RX0 66 yX0_addArrears, Cond.instanceMethod yX0_addArrears, Cond.selects RX0 yX0_addArrears yX0_addArrears, Cond.code yX0_addArrears cX0_addArrears 3 none, Cond.methodLink RX0 89 Lib.Math.min.name, Cond.static Lib.Math.min.name, Cond.initialized "java/lang/Math", Cond.code Lib.Math.min.name Lib.Math.min.code 2 (some .int), Cond.methodLink RX0 222 yX0_eatOrFeelLuck, Cond.instanceMethod yX0_eatOrFeelLuck, Cond.selects RX0 yX0_eatOrFeelLuck yX0_eatOrFeelLuck]
def wsL_daysUntilClear_r3 : List Cond := [Cond.code yX0_eatOrFeelLuck cX0_eatOrFeelLuck 2 none, Cond.methodLink RX0 213 Lib.Math.max.name, Cond.static Lib.Math.max.name, Cond.code Lib.Math.max.name Lib.Math.max.code 2 (some .int), Cond.methodLink RX0 79 yX0_lessenArrears, Cond.instanceMethod yX0_lessenArrears, Cond.selects RX0 yX0_lessenArrears yX0_lessenArrears, Cond.code yX0_lessenArrears cX0_lessenArrears 3 none, Cond.methodLink RX0 105 yX0_lossOf, Cond.instanceMethod yX0_lossOf, Cond.selects RX0 yX0_lossOf yX0_lossOf, Cond.code yX0_lossOf cX0_lossOf 2 (some .int)]
def wsL_daysUntilClear : List Cond := .codeWith yL_daysUntilClear cL_daysUntilClear 4 (some .int) [(0, 9, 12, 19)] :: ((wsL_daysUntilClear_r1 ++ (wsL_daysUntilClear_r2 ++ wsL_daysUntilClear_r3)) ++ wsX00 ++ (vx_atS RX0 199 "java/lang/IndexOutOfBoundsException" ["java/lang/RuntimeException", "java/lang/Exception"]).filter goodWord)
def wsL_daysUntilUnlucky_r1 : List Cond := [Cond.classLink RL 19 "java/lang/IndexOutOfBoundsException", Cond.methodLink RL 71 yX0_daysUntilUnlucky, Cond.instanceMethod yX0_daysUntilUnlucky, Cond.selects RX0 yX0_daysUntilUnlucky yX0_daysUntilUnlucky, Cond.initialized RX0, Cond.code yX0_daysUntilUnlucky cX0_daysUntilUnlucky 3 (some .int), Cond.fieldLink RX0 9 "SaltOrder" "luck" "[I", Cond.methodLink RX0 55 yX0_checkMember, Cond.instanceMethod yX0_checkMember, Cond.selects RX0 yX0_checkMember yX0_checkMember, Cond.code yX0_checkMember cX0_checkMember 2 none, Cond.classLink RX0 195 "java/lang/IndexOutOfBoundsException", Cond.initialized "java/lang/IndexOutOfBoundsException", Cond.fieldLink RX0 32 "SaltOrder" "memberCount" "I", Cond.methodLink RX0 111 yX0_beginTrial, Cond.instanceMethod yX0_beginTrial, Cond.selects RX0 yX0_beginTrial yX0_beginTrial, Cond.code yX0_beginTrial cX0_beginTrial 2 none, Cond.fieldLink RX0 13 "SaltOrder" "arrears" "[I", Cond.fieldLink RX0 16 "SaltOrder" "toEat" "[I", Cond.fieldLink RX0 42 "SaltOrder" "today" "I", Cond.fieldLink RX0 225 "SaltOrder" "trialDay" "I", Cond.fieldLink RX0 228 "SaltOrder" "trialDebt" "I", Cond.methodLink RX0 98 yX0_debtOf]
def wsL_daysUntilUnlucky_r2 : List Cond := [Cond.instanceMethod yX0_debtOf, Cond.selects RX0 yX0_debtOf yX0_debtOf, Cond.code yX0_debtOf cX0_debtOf 4 (some .int), Cond.fieldLink RX0 36 "SaltOrder" "throwCount" "I", Cond.fieldLink RX0 19 "SaltOrder" "throwers" "[I", Cond.fieldLink RX0 29 "SaltOrder" "excesses" "[I", Cond.methodLink RX0 117 yX0_passTrialDay, Cond.instanceMethod yX0_passTrialDay, Cond.selects RX0 yX0_passTrialDay yX0_passTrialDay, Cond.code yX0_passTrialDay cX0_passTrialDay 1 none, Cond.methodLink RX0 216 yX0_isAuditDay, Cond.static yX0_isAuditDay, Cond.code yX0_isAuditDay cX0_isAuditDay 1 (some .boolean), Cond.methodLink RX0 66 yX0_addArrears, Cond.instanceMethod yX0_addArrears, Cond.selects RX0 yX0_addArrears yX0_addArrears, Cond.code yX0_addArrears cX0_addArrears 3 none, Cond.methodLink RX0 89 Lib.Math.min.name, Cond.static Lib.Math.min.name, Cond.initialized "java/lang/Math", Cond.code Lib.Math.min.name Lib.Math.min.code 2 (some .int), Cond.methodLink RX0 222 yX0_eatOrFeelLuck, Cond.instanceMethod yX0_eatOrFeelLuck, Cond.selects RX0 yX0_eatOrFeelLuck yX0_eatOrFeelLuck]
def wsL_daysUntilUnlucky_r3 : List Cond := [Cond.code yX0_eatOrFeelLuck cX0_eatOrFeelLuck 2 none, Cond.methodLink RX0 213 Lib.Math.max.name, Cond.static Lib.Math.max.name, Cond.code Lib.Math.max.name Lib.Math.max.code 2 (some .int), Cond.methodLink RX0 79 yX0_lessenArrears, Cond.instanceMethod yX0_lessenArrears, Cond.selects RX0 yX0_lessenArrears yX0_lessenArrears, Cond.code yX0_lessenArrears cX0_lessenArrears 3 none, Cond.methodLink RX0 105 yX0_lossOf, Cond.instanceMethod yX0_lossOf, Cond.selects RX0 yX0_lossOf yX0_lossOf, Cond.code yX0_lossOf cX0_lossOf 2 (some .int)]
def wsL_daysUntilUnlucky : List Cond := .codeWith yL_daysUntilUnlucky cL_daysUntilUnlucky 4 (some .int) [(0, 9, 12, 19)] :: ((wsL_daysUntilUnlucky_r1 ++ (wsL_daysUntilUnlucky_r2 ++ wsL_daysUntilUnlucky_r3)) ++ wsX00 ++ (vx_atS RX0 199 "java/lang/IndexOutOfBoundsException" ["java/lang/RuntimeException", "java/lang/Exception"]).filter goodWord)
def wsL_bestPinch_r1 : List Cond := [Cond.classLink RL 19 "java/lang/IndexOutOfBoundsException", Cond.methodLink RL 74 yX0_bestPinch, Cond.instanceMethod yX0_bestPinch, Cond.selects RX0 yX0_bestPinch yX0_bestPinch, Cond.initialized RX0, Cond.code yX0_bestPinch cX0_bestPinch 7 (some .int), Cond.fieldLink RX0 36 "SaltOrder" "throwCount" "I", Cond.fieldLink RX0 39 "SaltOrder" "cellar" "I", Cond.methodLink RX0 89 Lib.Math.min.name, Cond.static Lib.Math.min.name, Cond.initialized "java/lang/Math", Cond.code Lib.Math.min.name Lib.Math.min.code 2 (some .int), Cond.methodLink RX0 55 yX0_checkMember, Cond.instanceMethod yX0_checkMember, Cond.selects RX0 yX0_checkMember yX0_checkMember, Cond.code yX0_checkMember cX0_checkMember 2 none, Cond.classLink RX0 195 "java/lang/IndexOutOfBoundsException", Cond.initialized "java/lang/IndexOutOfBoundsException", Cond.fieldLink RX0 32 "SaltOrder" "memberCount" "I", Cond.methodLink RX0 120 yX0_beginTrialWithPinch, Cond.instanceMethod yX0_beginTrialWithPinch, Cond.selects RX0 yX0_beginTrialWithPinch yX0_beginTrialWithPinch, Cond.code yX0_beginTrialWithPinch cX0_beginTrialWithPinch 3 none, Cond.fieldLink RX0 228 "SaltOrder" "trialDebt" "I"]
def wsL_bestPinch_r2 : List Cond := [Cond.methodLink RX0 111 yX0_beginTrial, Cond.instanceMethod yX0_beginTrial, Cond.selects RX0 yX0_beginTrial yX0_beginTrial, Cond.code yX0_beginTrial cX0_beginTrial 2 none, Cond.fieldLink RX0 9 "SaltOrder" "luck" "[I", Cond.fieldLink RX0 13 "SaltOrder" "arrears" "[I", Cond.fieldLink RX0 16 "SaltOrder" "toEat" "[I", Cond.fieldLink RX0 42 "SaltOrder" "today" "I", Cond.fieldLink RX0 225 "SaltOrder" "trialDay" "I", Cond.methodLink RX0 98 yX0_debtOf, Cond.instanceMethod yX0_debtOf, Cond.selects RX0 yX0_debtOf yX0_debtOf, Cond.code yX0_debtOf cX0_debtOf 4 (some .int), Cond.fieldLink RX0 19 "SaltOrder" "throwers" "[I", Cond.fieldLink RX0 29 "SaltOrder" "excesses" "[I", Cond.methodLink RX0 75 yX0_leftExcess, Cond.instanceMethod yX0_leftExcess, Cond.selects RX0 yX0_leftExcess yX0_leftExcess, Cond.code yX0_leftExcess cX0_leftExcess 3 (some .int), Cond.methodLink RX0 213 Lib.Math.max.name, Cond.static Lib.Math.max.name, Cond.code Lib.Math.max.name Lib.Math.max.code 2 (some .int), Cond.methodLink RX0 79 yX0_lessenArrears, Cond.instanceMethod yX0_lessenArrears]
def wsL_bestPinch_r3 : List Cond := [Cond.selects RX0 yX0_lessenArrears yX0_lessenArrears, Cond.code yX0_lessenArrears cX0_lessenArrears 3 none, Cond.methodLink RX0 114 yX0_trialLuckBehind, Cond.instanceMethod yX0_trialLuckBehind, Cond.selects RX0 yX0_trialLuckBehind yX0_trialLuckBehind, Cond.code yX0_trialLuckBehind cX0_trialLuckBehind 3 (some .int), Cond.methodLink RX0 117 yX0_passTrialDay, Cond.instanceMethod yX0_passTrialDay, Cond.selects RX0 yX0_passTrialDay yX0_passTrialDay, Cond.code yX0_passTrialDay cX0_passTrialDay 1 none, Cond.methodLink RX0 216 yX0_isAuditDay, Cond.static yX0_isAuditDay, Cond.code yX0_isAuditDay cX0_isAuditDay 1 (some .boolean), Cond.methodLink RX0 66 yX0_addArrears, Cond.instanceMethod yX0_addArrears, Cond.selects RX0 yX0_addArrears yX0_addArrears, Cond.code yX0_addArrears cX0_addArrears 3 none, Cond.methodLink RX0 222 yX0_eatOrFeelLuck, Cond.instanceMethod yX0_eatOrFeelLuck, Cond.selects RX0 yX0_eatOrFeelLuck yX0_eatOrFeelLuck, Cond.code yX0_eatOrFeelLuck cX0_eatOrFeelLuck 2 none, Cond.methodLink RX0 105 yX0_lossOf, Cond.instanceMethod yX0_lossOf, Cond.selects RX0 yX0_lossOf yX0_lossOf]
def wsL_bestPinch_r4 : List Cond := [Cond.code yX0_lossOf cX0_lossOf 2 (some .int)]
def wsL_bestPinch : List Cond := .codeWith yL_bestPinch cL_bestPinch 4 (some .int) [(0, 9, 12, 19)] :: ((wsL_bestPinch_r1 ++ (wsL_bestPinch_r2 ++ (wsL_bestPinch_r3 ++ wsL_bestPinch_r4))) ++ wsX00 ++ (vx_atS RX0 199 "java/lang/IndexOutOfBoundsException" ["java/lang/RuntimeException", "java/lang/Exception"]).filter goodWord)
def wsL_bestPenance_r1 : List Cond := [Cond.classLink RL 19 "java/lang/IndexOutOfBoundsException", Cond.methodLink RL 77 yX0_bestPenance, Cond.instanceMethod yX0_bestPenance, Cond.selects RX0 yX0_bestPenance yX0_bestPenance, Cond.initialized RX0, Cond.code yX0_bestPenance cX0_bestPenance 6 (some .int), Cond.methodLink RX0 55 yX0_checkMember, Cond.instanceMethod yX0_checkMember, Cond.selects RX0 yX0_checkMember yX0_checkMember, Cond.code yX0_checkMember cX0_checkMember 2 none, Cond.classLink RX0 195 "java/lang/IndexOutOfBoundsException", Cond.initialized "java/lang/IndexOutOfBoundsException", Cond.fieldLink RX0 32 "SaltOrder" "memberCount" "I", Cond.methodLink RX0 123 yX0_beginTrialWithPenance, Cond.instanceMethod yX0_beginTrialWithPenance, Cond.selects RX0 yX0_beginTrialWithPenance yX0_beginTrialWithPenance, Cond.code yX0_beginTrialWithPenance cX0_beginTrialWithPenance 3 none, Cond.methodLink RX0 111 yX0_beginTrial, Cond.instanceMethod yX0_beginTrial, Cond.selects RX0 yX0_beginTrial yX0_beginTrial, Cond.code yX0_beginTrial cX0_beginTrial 2 none, Cond.fieldLink RX0 9 "SaltOrder" "luck" "[I", Cond.fieldLink RX0 13 "SaltOrder" "arrears" "[I", Cond.fieldLink RX0 16 "SaltOrder" "toEat" "[I"]
def wsL_bestPenance_r2 : List Cond := [Cond.fieldLink RX0 42 "SaltOrder" "today" "I", Cond.fieldLink RX0 225 "SaltOrder" "trialDay" "I", Cond.fieldLink RX0 228 "SaltOrder" "trialDebt" "I", Cond.methodLink RX0 98 yX0_debtOf, Cond.instanceMethod yX0_debtOf, Cond.selects RX0 yX0_debtOf yX0_debtOf, Cond.code yX0_debtOf cX0_debtOf 4 (some .int), Cond.fieldLink RX0 36 "SaltOrder" "throwCount" "I", Cond.fieldLink RX0 19 "SaltOrder" "throwers" "[I", Cond.fieldLink RX0 29 "SaltOrder" "excesses" "[I", Cond.methodLink RX0 86 yX0_addLumps, Cond.instanceMethod yX0_addLumps, Cond.selects RX0 yX0_addLumps yX0_addLumps, Cond.code yX0_addLumps cX0_addLumps 3 none, Cond.methodLink RX0 89 Lib.Math.min.name, Cond.static Lib.Math.min.name, Cond.initialized "java/lang/Math", Cond.code Lib.Math.min.name Lib.Math.min.code 2 (some .int), Cond.methodLink RX0 114 yX0_trialLuckBehind, Cond.instanceMethod yX0_trialLuckBehind, Cond.selects RX0 yX0_trialLuckBehind yX0_trialLuckBehind, Cond.code yX0_trialLuckBehind cX0_trialLuckBehind 3 (some .int), Cond.methodLink RX0 117 yX0_passTrialDay, Cond.instanceMethod yX0_passTrialDay]
def wsL_bestPenance_r3 : List Cond := [Cond.selects RX0 yX0_passTrialDay yX0_passTrialDay, Cond.code yX0_passTrialDay cX0_passTrialDay 1 none, Cond.methodLink RX0 216 yX0_isAuditDay, Cond.static yX0_isAuditDay, Cond.code yX0_isAuditDay cX0_isAuditDay 1 (some .boolean), Cond.methodLink RX0 66 yX0_addArrears, Cond.instanceMethod yX0_addArrears, Cond.selects RX0 yX0_addArrears yX0_addArrears, Cond.code yX0_addArrears cX0_addArrears 3 none, Cond.methodLink RX0 222 yX0_eatOrFeelLuck, Cond.instanceMethod yX0_eatOrFeelLuck, Cond.selects RX0 yX0_eatOrFeelLuck yX0_eatOrFeelLuck, Cond.code yX0_eatOrFeelLuck cX0_eatOrFeelLuck 2 none, Cond.methodLink RX0 213 Lib.Math.max.name, Cond.static Lib.Math.max.name, Cond.code Lib.Math.max.name Lib.Math.max.code 2 (some .int), Cond.methodLink RX0 79 yX0_lessenArrears, Cond.instanceMethod yX0_lessenArrears, Cond.selects RX0 yX0_lessenArrears yX0_lessenArrears, Cond.code yX0_lessenArrears cX0_lessenArrears 3 none, Cond.methodLink RX0 105 yX0_lossOf, Cond.instanceMethod yX0_lossOf, Cond.selects RX0 yX0_lossOf yX0_lossOf, Cond.code yX0_lossOf cX0_lossOf 2 (some .int)]
def wsL_bestPenance : List Cond := .codeWith yL_bestPenance cL_bestPenance 4 (some .int) [(0, 9, 12, 19)] :: ((wsL_bestPenance_r1 ++ (wsL_bestPenance_r2 ++ wsL_bestPenance_r3)) ++ wsX00 ++ (vx_atS RX0 199 "java/lang/IndexOutOfBoundsException" ["java/lang/RuntimeException", "java/lang/Exception"]).filter goodWord)
def wsL_law0_r1 : List Cond := [Cond.classLink RL 8 RX0, Cond.instantiable RX0 14, Cond.initialized RX0, Cond.classLink RL 81 RX1, Cond.instantiable RX1 4, Cond.initialized RX1, Cond.arrayClass .long, Cond.methodLink RL 80 yX0_init, Cond.instanceMethod yX0_init, Cond.code yX0_init cX0_init 1 none, Cond.methodLink RX0 3 objectInit, Cond.instanceMethod objectInit, Cond.code objectInit ⟨#[0xb1]⟩ 1 none, Cond.arrayClass .int, Cond.fieldLink RX0 9 "SaltOrder" "luck" "[I", Cond.fieldLink RX0 13 "SaltOrder" "arrears" "[I", Cond.fieldLink RX0 16 "SaltOrder" "toEat" "[I", Cond.fieldLink RX0 19 "SaltOrder" "throwers" "[I", Cond.arrayClass .boolean, Cond.fieldLink RX0 22 "SaltOrder" "lefts" "[Z", Cond.fieldLink RX0 26 "SaltOrder" "thrown" "[I", Cond.fieldLink RX0 29 "SaltOrder" "excesses" "[I", Cond.fieldLink RX0 32 "SaltOrder" "memberCount" "I", Cond.fieldLink RX0 36 "SaltOrder" "throwCount" "I"]
def wsL_law0_r2 : List Cond := [Cond.fieldLink RX0 39 "SaltOrder" "cellar" "I", Cond.fieldLink RX0 42 "SaltOrder" "today" "I", Cond.fieldLink RX0 45 "SaltOrder" "found" "I", Cond.methodLink RL 83 yX1_init, Cond.instanceMethod yX1_init, Cond.code yX1_init cX1_init 1 none, Cond.methodLink RX1 1 objectInit, Cond.fieldLink RX1 9 "SaltOrderModel" "now" "[I", Cond.fieldLink RX1 13 "SaltOrderModel" "kept" "[I", Cond.methodLink RL 84 yL_join, Cond.static yL_join, Cond.initialized RL, Cond.codeWith yL_join cL_join 3 (some .int) [(0, 8, 11, 13)], Cond.classLink RL 13 "java/lang/IllegalStateException", Cond.methodLink RL 7 yX0_join, Cond.instanceMethod yX0_join, Cond.selects RX0 yX0_join yX0_join, Cond.code yX0_join cX0_join 2 (some .int), Cond.classLink RX0 48 "java/lang/IllegalStateException", Cond.initialized "java/lang/IllegalStateException", Cond.methodLink RL 89 yX1_join, Cond.instanceMethod yX1_join, Cond.selects RX1 yX1_join yX1_join, Cond.code yX1_join cX1_join 1 (some .int)]
def wsL_law0_r3 : List Cond := [Cond.fieldLink RX1 16 "SaltOrderModel" "thrown" "I", Cond.fieldLink RX1 20 "SaltOrderModel" "members" "I", Cond.methodLink RX1 70 yX1_fail, Cond.instanceMethod yX1_fail, Cond.selects RX1 yX1_fail yX1_fail, Cond.code yX1_fail cX1_fail 2 (some .int), Cond.methodLink RX1 42 yX1_let, Cond.instanceMethod yX1_let, Cond.selects RX1 yX1_let yX1_let, Cond.code yX1_let cX1_let 4 none, Cond.methodLink RL 90 yX1_thrown, Cond.instanceMethod yX1_thrown, Cond.selects RX1 yX1_thrown yX1_thrown, Cond.code yX1_thrown cX1_thrown 1 (some .int), Cond.methodLink RL 93 yL_spill, Cond.static yL_spill, Cond.codeWith yL_spill cL_spill 5 (some .int) [(0, 10, 13, 19), (0, 10, 17, 21), (0, 10, 21, 13)], Cond.classLink RL 19 "java/lang/IndexOutOfBoundsException", Cond.classLink RL 21 "java/lang/IllegalArgumentException", Cond.methodLink RL 15 yX0_spill, Cond.instanceMethod yX0_spill, Cond.selects RX0 yX0_spill yX0_spill, Cond.code yX0_spill cX0_spill 3 (some .int), Cond.methodLink RX0 55 yX0_checkMember]
def wsL_law0_r4 : List Cond := [Cond.instanceMethod yX0_checkMember, Cond.selects RX0 yX0_checkMember yX0_checkMember, Cond.code yX0_checkMember cX0_checkMember 2 none, Cond.classLink RX0 195 "java/lang/IndexOutOfBoundsException", Cond.initialized "java/lang/IndexOutOfBoundsException", Cond.methodLink RX0 59 yX0_checkAmount, Cond.static yX0_checkAmount, Cond.code yX0_checkAmount cX0_checkAmount 2 none, Cond.classLink RX0 204 "java/lang/IllegalArgumentException", Cond.initialized "java/lang/IllegalArgumentException", Cond.methodLink RX0 63 yX0_checkCellar, Cond.instanceMethod yX0_checkCellar, Cond.selects RX0 yX0_checkCellar yX0_checkCellar, Cond.code yX0_checkCellar cX0_checkCellar 2 none, Cond.methodLink RX0 66 yX0_addArrears, Cond.instanceMethod yX0_addArrears, Cond.selects RX0 yX0_addArrears yX0_addArrears, Cond.code yX0_addArrears cX0_addArrears 3 none, Cond.methodLink RX0 89 Lib.Math.min.name, Cond.static Lib.Math.min.name, Cond.initialized "java/lang/Math", Cond.code Lib.Math.min.name Lib.Math.min.code 2 (some .int), Cond.methodLink RL 96 yX1_spill, Cond.instanceMethod yX1_spill]
def wsL_law0_r5 : List Cond := [Cond.selects RX1 yX1_spill yX1_spill, Cond.code yX1_spill cX1_spill 3 (some .int), Cond.methodLink RX1 57 Lib.Math.min.name, Cond.methodLink RX1 73 yX1_isMember, Cond.instanceMethod yX1_isMember, Cond.selects RX1 yX1_isMember yX1_isMember, Cond.code yX1_isMember cX1_isMember 2 (some .boolean), Cond.methodLink RX1 23 yX1_isIn, Cond.static yX1_isIn, Cond.code yX1_isIn cX1_isIn 3 (some .boolean), Cond.methodLink RX1 33 yX1_me, Cond.instanceMethod yX1_me, Cond.selects RX1 yX1_me yX1_me, Cond.code yX1_me cX1_me 3 (some .int), Cond.methodLink RL 97 yL_throwSalt, Cond.static yL_throwSalt, Cond.codeWith yL_throwSalt cL_throwSalt 6 (some .int) [(0, 12, 15, 19), (0, 12, 19, 21), (0, 12, 23, 13)], Cond.methodLink RL 23 yX0_throwSalt, Cond.instanceMethod yX0_throwSalt, Cond.selects RX0 yX0_throwSalt yX0_throwSalt, Cond.code yX0_throwSalt cX0_throwSalt 6 (some .int), Cond.methodLink RX0 69 yX0_checkShoulder, Cond.static yX0_checkShoulder, Cond.code yX0_checkShoulder cX0_checkShoulder 1 none]
def wsL_law0_r6 : List Cond := [Cond.methodLink RX0 72 yX0_checkLedgerHasRoom, Cond.instanceMethod yX0_checkLedgerHasRoom, Cond.selects RX0 yX0_checkLedgerHasRoom yX0_checkLedgerHasRoom, Cond.code yX0_checkLedgerHasRoom cX0_checkLedgerHasRoom 1 none, Cond.methodLink RX0 75 yX0_leftExcess, Cond.instanceMethod yX0_leftExcess, Cond.selects RX0 yX0_leftExcess yX0_leftExcess, Cond.code yX0_leftExcess cX0_leftExcess 3 (some .int), Cond.methodLink RX0 213 Lib.Math.max.name, Cond.static Lib.Math.max.name, Cond.code Lib.Math.max.name Lib.Math.max.code 2 (some .int), Cond.methodLink RX0 79 yX0_lessenArrears, Cond.instanceMethod yX0_lessenArrears, Cond.selects RX0 yX0_lessenArrears yX0_lessenArrears, Cond.code yX0_lessenArrears cX0_lessenArrears 3 none, Cond.methodLink RX0 82 yX0_writeThrow, Cond.instanceMethod yX0_writeThrow, Cond.selects RX0 yX0_writeThrow yX0_writeThrow, Cond.code yX0_writeThrow cX0_writeThrow 5 none, Cond.methodLink RL 100 yX1_throwSalt, Cond.instanceMethod yX1_throwSalt, Cond.selects RX1 yX1_throwSalt yX1_throwSalt, Cond.code yX1_throwSalt cX1_throwSalt 4 (some .int), Cond.methodLink RX1 77 yX1_cast]
def wsL_law0_r7 : List Cond := [Cond.instanceMethod yX1_cast, Cond.selects RX1 yX1_cast yX1_cast, Cond.code yX1_cast cX1_cast 5 (some .int), Cond.methodLink RX1 37 Lib.Math.max.name, Cond.methodLink RX1 46 yX1_write, Cond.instanceMethod yX1_write, Cond.selects RX1 yX1_write yX1_write, Cond.code yX1_write cX1_write 3 none, Cond.methodLink RL 101 yL_doPenance, Cond.static yL_doPenance, Cond.codeWith yL_doPenance cL_doPenance 5 (some .int) [(0, 10, 13, 19), (0, 10, 17, 21)], Cond.methodLink RL 27 yX0_doPenance, Cond.instanceMethod yX0_doPenance, Cond.selects RX0 yX0_doPenance yX0_doPenance, Cond.code yX0_doPenance cX0_doPenance 3 (some .int), Cond.methodLink RX0 86 yX0_addLumps, Cond.instanceMethod yX0_addLumps, Cond.selects RX0 yX0_addLumps yX0_addLumps, Cond.code yX0_addLumps cX0_addLumps 3 none, Cond.methodLink RL 103 yX1_doPenance, Cond.instanceMethod yX1_doPenance, Cond.selects RX1 yX1_doPenance yX1_doPenance, Cond.code yX1_doPenance cX1_doPenance 3 (some .int), Cond.methodLink RL 104 yL_bringSalt]
def wsL_law0_r8 : List Cond := [Cond.static yL_bringSalt, Cond.codeWith yL_bringSalt cL_bringSalt 4 (some .int) [(0, 9, 12, 21)], Cond.methodLink RL 30 yX0_bringSalt, Cond.instanceMethod yX0_bringSalt, Cond.selects RX0 yX0_bringSalt yX0_bringSalt, Cond.code yX0_bringSalt cX0_bringSalt 2 (some .int), Cond.methodLink RL 107 yX1_bringSalt, Cond.instanceMethod yX1_bringSalt, Cond.selects RX1 yX1_bringSalt yX1_bringSalt, Cond.code yX1_bringSalt cX1_bringSalt 2 (some .int), Cond.methodLink RL 108 yX0_audit, Cond.instanceMethod yX0_audit, Cond.selects RX0 yX0_audit yX0_audit, Cond.code yX0_audit cX0_audit 3 (some .int), Cond.methodLink RX0 94 yX0_faults, Cond.instanceMethod yX0_faults, Cond.selects RX0 yX0_faults yX0_faults, Cond.code yX0_faults cX0_faults 3 (some .int), Cond.methodLink RX0 98 yX0_debtOf, Cond.instanceMethod yX0_debtOf, Cond.selects RX0 yX0_debtOf yX0_debtOf, Cond.code yX0_debtOf cX0_debtOf 4 (some .int), Cond.methodLink RL 111 yX1_audit, Cond.instanceMethod yX1_audit]
def wsL_law0_r9 : List Cond := [Cond.selects RX1 yX1_audit yX1_audit, Cond.code yX1_audit cX1_audit 1 (some .int), Cond.methodLink RX1 60 yX1_auditNow, Cond.instanceMethod yX1_auditNow, Cond.selects RX1 yX1_auditNow yX1_auditNow, Cond.code yX1_auditNow cX1_auditNow 3 (some .int), Cond.methodLink RX1 53 yX1_faultsNow, Cond.instanceMethod yX1_faultsNow, Cond.selects RX1 yX1_faultsNow yX1_faultsNow, Cond.code yX1_faultsNow cX1_faultsNow 3 (some .int), Cond.methodLink RX1 50 yX1_th, Cond.instanceMethod yX1_th, Cond.selects RX1 yX1_th yX1_th, Cond.code yX1_th cX1_th 3 (some .int), Cond.methodLink RX1 81 yX1_told, Cond.instanceMethod yX1_told, Cond.selects RX1 yX1_told yX1_told, Cond.code yX1_told cX1_told 2 (some .int), Cond.methodLink RL 112 yL_pass, Cond.static yL_pass, Cond.codeWith yL_pass cL_pass 4 (some .int) [(0, 9, 12, 21)], Cond.methodLink RL 34 yX0_pass, Cond.instanceMethod yX0_pass, Cond.selects RX0 yX0_pass yX0_pass]
def wsL_law0_r10 : List Cond := [Cond.code yX0_pass cX0_pass 4 (some .int), Cond.methodLink RX0 102 yX0_passOneDay, Cond.instanceMethod yX0_passOneDay, Cond.selects RX0 yX0_passOneDay yX0_passOneDay, Cond.code yX0_passOneDay cX0_passOneDay 3 (some .int), Cond.methodLink RX0 216 yX0_isAuditDay, Cond.static yX0_isAuditDay, Cond.code yX0_isAuditDay cX0_isAuditDay 1 (some .boolean), Cond.methodLink RX0 219 yX0_audit, Cond.methodLink RX0 222 yX0_eatOrFeelLuck, Cond.instanceMethod yX0_eatOrFeelLuck, Cond.selects RX0 yX0_eatOrFeelLuck yX0_eatOrFeelLuck, Cond.code yX0_eatOrFeelLuck cX0_eatOrFeelLuck 2 none, Cond.methodLink RX0 105 yX0_lossOf, Cond.instanceMethod yX0_lossOf, Cond.selects RX0 yX0_lossOf yX0_lossOf, Cond.code yX0_lossOf cX0_lossOf 2 (some .int), Cond.methodLink RL 114 yX1_pass, Cond.instanceMethod yX1_pass, Cond.selects RX1 yX1_pass yX1_pass, Cond.code yX1_pass cX1_pass 2 (some .int), Cond.methodLink RX1 84 yX1_daysOn, Cond.instanceMethod yX1_daysOn, Cond.selects RX1 yX1_daysOn yX1_daysOn]
def wsL_law0_r11 : List Cond := [Cond.code yX1_daysOn cX1_daysOn 4 (some .int), Cond.methodLink RX1 67 yX1_dayOn, Cond.instanceMethod yX1_dayOn, Cond.selects RX1 yX1_dayOn yX1_dayOn, Cond.code yX1_dayOn cX1_dayOn 3 (some .int), Cond.methodLink RX1 63 yX1_loss, Cond.instanceMethod yX1_loss, Cond.selects RX1 yX1_loss yX1_loss, Cond.code yX1_loss cX1_loss 2 (some .int), Cond.methodLink RL 115 yX0_day, Cond.instanceMethod yX0_day, Cond.selects RX0 yX0_day yX0_day, Cond.code yX0_day cX0_day 1 (some .int), Cond.methodLink RL 118 yX1_day, Cond.instanceMethod yX1_day, Cond.selects RX1 yX1_day yX1_day, Cond.code yX1_day cX1_day 1 (some .int), Cond.methodLink RL 119 yX0_members, Cond.instanceMethod yX0_members, Cond.selects RX0 yX0_members yX0_members, Cond.code yX0_members cX0_members 1 (some .int), Cond.methodLink RL 122 yX1_members, Cond.instanceMethod yX1_members, Cond.selects RX1 yX1_members yX1_members]
def wsL_law0_r12 : List Cond := [Cond.code yX1_members cX1_members 1 (some .int), Cond.methodLink RL 123 yL_luckOf, Cond.static yL_luckOf, Cond.codeWith yL_luckOf cL_luckOf 4 (some .int) [(0, 9, 12, 19)], Cond.methodLink RL 37 yX0_luckOf, Cond.instanceMethod yX0_luckOf, Cond.selects RX0 yX0_luckOf yX0_luckOf, Cond.code yX0_luckOf cX0_luckOf 2 (some .int), Cond.methodLink RL 125 yX1_luckOf, Cond.instanceMethod yX1_luckOf, Cond.selects RX1 yX1_luckOf yX1_luckOf, Cond.code yX1_luckOf cX1_luckOf 2 (some .int), Cond.methodLink RX1 87 yX1_member, Cond.instanceMethod yX1_member, Cond.selects RX1 yX1_member yX1_member, Cond.code yX1_member cX1_member 3 (some .int), Cond.methodLink RL 126 yL_arrearsOf, Cond.static yL_arrearsOf, Cond.codeWith yL_arrearsOf cL_arrearsOf 4 (some .int) [(0, 9, 12, 19)], Cond.methodLink RL 40 yX0_arrearsOf, Cond.instanceMethod yX0_arrearsOf, Cond.selects RX0 yX0_arrearsOf yX0_arrearsOf, Cond.code yX0_arrearsOf cX0_arrearsOf 2 (some .int), Cond.methodLink RL 128 yX1_arrearsOf]
def wsL_law0_r13 : List Cond := [Cond.instanceMethod yX1_arrearsOf, Cond.selects RX1 yX1_arrearsOf yX1_arrearsOf, Cond.code yX1_arrearsOf cX1_arrearsOf 2 (some .int), Cond.methodLink RL 129 yL_lumpsOf, Cond.static yL_lumpsOf, Cond.codeWith yL_lumpsOf cL_lumpsOf 4 (some .int) [(0, 9, 12, 19)], Cond.methodLink RL 43 yX0_lumpsOf, Cond.instanceMethod yX0_lumpsOf, Cond.selects RX0 yX0_lumpsOf yX0_lumpsOf, Cond.code yX0_lumpsOf cX0_lumpsOf 2 (some .int), Cond.methodLink RL 131 yX1_lumpsOf, Cond.instanceMethod yX1_lumpsOf, Cond.selects RX1 yX1_lumpsOf yX1_lumpsOf, Cond.code yX1_lumpsOf cX1_lumpsOf 2 (some .int), Cond.methodLink RL 132 yL_dailyLoss, Cond.static yL_dailyLoss, Cond.codeWith yL_dailyLoss cL_dailyLoss 4 (some .int) [(0, 9, 12, 19)], Cond.methodLink RL 46 yX0_dailyLoss, Cond.instanceMethod yX0_dailyLoss, Cond.selects RX0 yX0_dailyLoss yX0_dailyLoss, Cond.code yX0_dailyLoss cX0_dailyLoss 2 (some .int), Cond.methodLink RL 134 yX1_dailyLoss, Cond.instanceMethod yX1_dailyLoss, Cond.selects RX1 yX1_dailyLoss yX1_dailyLoss]
def wsL_law0_r14 : List Cond := [Cond.code yX1_dailyLoss cX1_dailyLoss 2 (some .int), Cond.methodLink RL 135 yX0_luckiest, Cond.instanceMethod yX0_luckiest, Cond.selects RX0 yX0_luckiest yX0_luckiest, Cond.code yX0_luckiest cX0_luckiest 4 (some .int), Cond.methodLink RL 138 yX1_luckiest, Cond.instanceMethod yX1_luckiest, Cond.selects RX1 yX1_luckiest yX1_luckiest, Cond.code yX1_luckiest cX1_luckiest 1 (some .int), Cond.methodLink RX1 90 yX1_best, Cond.instanceMethod yX1_best, Cond.selects RX1 yX1_best yX1_best, Cond.code yX1_best cX1_best 3 (some .int), Cond.methodLink RL 139 yX0_allArrears, Cond.instanceMethod yX0_allArrears, Cond.selects RX0 yX0_allArrears yX0_allArrears, Cond.code yX0_allArrears cX0_allArrears 3 (some .int), Cond.methodLink RL 142 yX1_allArrears, Cond.instanceMethod yX1_allArrears, Cond.selects RX1 yX1_allArrears yX1_allArrears, Cond.code yX1_allArrears cX1_allArrears 1 (some .int), Cond.methodLink RX1 93 yX1_owed, Cond.instanceMethod yX1_owed, Cond.selects RX1 yX1_owed yX1_owed]
def wsL_law0_r15 : List Cond := [Cond.code yX1_owed cX1_owed 3 (some .int), Cond.methodLink RL 143 yX0_clearMembers, Cond.instanceMethod yX0_clearMembers, Cond.selects RX0 yX0_clearMembers yX0_clearMembers, Cond.code yX0_clearMembers cX0_clearMembers 3 (some .int), Cond.methodLink RL 146 yX1_clearMembers, Cond.instanceMethod yX1_clearMembers, Cond.selects RX1 yX1_clearMembers yX1_clearMembers, Cond.code yX1_clearMembers cX1_clearMembers 3 (some .int), Cond.methodLink RL 147 yX0_salt, Cond.instanceMethod yX0_salt, Cond.selects RX0 yX0_salt yX0_salt, Cond.code yX0_salt cX0_salt 1 (some .int), Cond.methodLink RL 150 yX1_salt, Cond.instanceMethod yX1_salt, Cond.selects RX1 yX1_salt yX1_salt, Cond.code yX1_salt cX1_salt 1 (some .int), Cond.methodLink RL 151 yX0_ledger, Cond.instanceMethod yX0_ledger, Cond.selects RX0 yX0_ledger yX0_ledger, Cond.code yX0_ledger cX0_ledger 1 (some .int), Cond.methodLink RL 154 yX1_ledger, Cond.instanceMethod yX1_ledger, Cond.selects RX1 yX1_ledger yX1_ledger]
def wsL_law0_r16 : List Cond := [Cond.code yX1_ledger cX1_ledger 1 (some .int), Cond.methodLink RL 155 yL_memberOf, Cond.static yL_memberOf, Cond.codeWith yL_memberOf cL_memberOf 4 (some .int) [(0, 9, 12, 19)], Cond.methodLink RL 49 yX0_memberOf, Cond.instanceMethod yX0_memberOf, Cond.selects RX0 yX0_memberOf yX0_memberOf, Cond.code yX0_memberOf cX0_memberOf 2 (some .int), Cond.methodLink RX0 108 yX0_checkEntry, Cond.instanceMethod yX0_checkEntry, Cond.selects RX0 yX0_checkEntry yX0_checkEntry, Cond.code yX0_checkEntry cX0_checkEntry 2 none, Cond.methodLink RL 157 yX1_memberOf, Cond.instanceMethod yX1_memberOf, Cond.selects RX1 yX1_memberOf yX1_memberOf, Cond.code yX1_memberOf cX1_memberOf 2 (some .int), Cond.methodLink RX1 99 yX1_entry, Cond.instanceMethod yX1_entry, Cond.selects RX1 yX1_entry yX1_entry, Cond.code yX1_entry cX1_entry 3 (some .int), Cond.methodLink RX1 96 yX1_isThrow, Cond.instanceMethod yX1_isThrow, Cond.selects RX1 yX1_isThrow yX1_isThrow, Cond.code yX1_isThrow cX1_isThrow 2 (some .boolean)]
def wsL_law0_r17 : List Cond := [Cond.methodLink RL 158 yL_isLeft, Cond.static yL_isLeft, Cond.codeWith yL_isLeft cL_isLeft 4 (some .int) [(0, 16, 19, 19)], Cond.methodLink RL 52 yX0_isLeft, Cond.instanceMethod yX0_isLeft, Cond.selects RX0 yX0_isLeft yX0_isLeft, Cond.code yX0_isLeft cX0_isLeft 2 (some .boolean), Cond.methodLink RL 160 yX1_isLeft, Cond.instanceMethod yX1_isLeft, Cond.selects RX1 yX1_isLeft yX1_isLeft, Cond.code yX1_isLeft cX1_isLeft 2 (some .boolean), Cond.methodLink RL 161 yL_grainsOf, Cond.static yL_grainsOf, Cond.codeWith yL_grainsOf cL_grainsOf 4 (some .int) [(0, 9, 12, 19)], Cond.methodLink RL 56 yX0_grainsOf, Cond.instanceMethod yX0_grainsOf, Cond.selects RX0 yX0_grainsOf yX0_grainsOf, Cond.code yX0_grainsOf cX0_grainsOf 2 (some .int), Cond.methodLink RL 163 yX1_grainsOf, Cond.instanceMethod yX1_grainsOf, Cond.selects RX1 yX1_grainsOf yX1_grainsOf, Cond.code yX1_grainsOf cX1_grainsOf 2 (some .int), Cond.methodLink RL 164 yL_excessOf, Cond.static yL_excessOf]
def wsL_law0_r18 : List Cond := [Cond.codeWith yL_excessOf cL_excessOf 4 (some .int) [(0, 9, 12, 19)], Cond.methodLink RL 59 yX0_excessOf, Cond.instanceMethod yX0_excessOf, Cond.selects RX0 yX0_excessOf yX0_excessOf, Cond.code yX0_excessOf cX0_excessOf 2 (some .int), Cond.methodLink RL 166 yX1_excessOf, Cond.instanceMethod yX1_excessOf, Cond.selects RX1 yX1_excessOf yX1_excessOf, Cond.code yX1_excessOf cX1_excessOf 2 (some .int), Cond.methodLink RL 167 yX0_faults, Cond.methodLink RL 170 yX1_faults, Cond.instanceMethod yX1_faults, Cond.selects RX1 yX1_faults yX1_faults, Cond.code yX1_faults cX1_faults 1 (some .int), Cond.methodLink RL 171 yL_arrearsByAudit, Cond.static yL_arrearsByAudit, Cond.codeWith yL_arrearsByAudit cL_arrearsByAudit 4 (some .int) [(0, 9, 12, 19)], Cond.methodLink RL 62 yX0_arrearsByAudit, Cond.instanceMethod yX0_arrearsByAudit, Cond.selects RX0 yX0_arrearsByAudit yX0_arrearsByAudit, Cond.code yX0_arrearsByAudit cX0_arrearsByAudit 2 (some .int), Cond.methodLink RL 173 yX1_arrearsByAudit, Cond.instanceMethod yX1_arrearsByAudit, Cond.selects RX1 yX1_arrearsByAudit yX1_arrearsByAudit]
def wsL_law0_r19 : List Cond := [Cond.code yX1_arrearsByAudit cX1_arrearsByAudit 2 (some .int), Cond.methodLink RX1 102 yX1_adds, Cond.instanceMethod yX1_adds, Cond.selects RX1 yX1_adds yX1_adds, Cond.code yX1_adds cX1_adds 4 (some .int), Cond.methodLink RL 174 yX0_daysUntilAudit, Cond.instanceMethod yX0_daysUntilAudit, Cond.selects RX0 yX0_daysUntilAudit yX0_daysUntilAudit, Cond.code yX0_daysUntilAudit cX0_daysUntilAudit 1 (some .int), Cond.methodLink RL 177 yX1_daysUntilAudit, Cond.instanceMethod yX1_daysUntilAudit, Cond.selects RX1 yX1_daysUntilAudit yX1_daysUntilAudit, Cond.code yX1_daysUntilAudit cX1_daysUntilAudit 1 (some .int), Cond.methodLink RL 178 yX0_faultsFound, Cond.instanceMethod yX0_faultsFound, Cond.selects RX0 yX0_faultsFound yX0_faultsFound, Cond.code yX0_faultsFound cX0_faultsFound 1 (some .int), Cond.methodLink RL 181 yX1_faultsFound, Cond.instanceMethod yX1_faultsFound, Cond.selects RX1 yX1_faultsFound yX1_faultsFound, Cond.code yX1_faultsFound cX1_faultsFound 1 (some .int), Cond.methodLink RL 182 yL_luckIn, Cond.static yL_luckIn, Cond.codeWith yL_luckIn cL_luckIn 5 (some .int) [(0, 10, 13, 19), (0, 10, 17, 21)]]
def wsL_law0_r20 : List Cond := [Cond.methodLink RL 65 yX0_luckIn, Cond.instanceMethod yX0_luckIn, Cond.selects RX0 yX0_luckIn yX0_luckIn, Cond.code yX0_luckIn cX0_luckIn 3 (some .int), Cond.methodLink RX0 111 yX0_beginTrial, Cond.instanceMethod yX0_beginTrial, Cond.selects RX0 yX0_beginTrial yX0_beginTrial, Cond.code yX0_beginTrial cX0_beginTrial 2 none, Cond.fieldLink RX0 225 "SaltOrder" "trialDay" "I", Cond.fieldLink RX0 228 "SaltOrder" "trialDebt" "I", Cond.methodLink RX0 114 yX0_trialLuckBehind, Cond.instanceMethod yX0_trialLuckBehind, Cond.selects RX0 yX0_trialLuckBehind yX0_trialLuckBehind, Cond.code yX0_trialLuckBehind cX0_trialLuckBehind 3 (some .int), Cond.methodLink RX0 117 yX0_passTrialDay, Cond.instanceMethod yX0_passTrialDay, Cond.selects RX0 yX0_passTrialDay yX0_passTrialDay, Cond.code yX0_passTrialDay cX0_passTrialDay 1 none, Cond.methodLink RL 184 yX1_luckIn, Cond.instanceMethod yX1_luckIn, Cond.selects RX1 yX1_luckIn yX1_luckIn, Cond.code yX1_luckIn cX1_luckIn 4 (some .int), Cond.methodLink RX1 105 yX1_keep, Cond.instanceMethod yX1_keep]
def wsL_law0_r21 : List Cond := [Cond.selects RX1 yX1_keep yX1_keep, Cond.code yX1_keep cX1_keep 1 none, Cond.methodLink RX1 27 arraycopyName, Cond.native arraycopyName, Cond.static arraycopyName, Cond.initialized "java/lang/System", Cond.methodLink RX1 108 yX1_bringBack, Cond.instanceMethod yX1_bringBack, Cond.selects RX1 yX1_bringBack yX1_bringBack, Cond.code yX1_bringBack cX1_bringBack 1 none, Cond.methodLink RL 185 yL_daysUntilClear, Cond.static yL_daysUntilClear, Cond.codeWith yL_daysUntilClear cL_daysUntilClear 4 (some .int) [(0, 9, 12, 19)], Cond.methodLink RL 68 yX0_daysUntilClear, Cond.instanceMethod yX0_daysUntilClear, Cond.selects RX0 yX0_daysUntilClear yX0_daysUntilClear, Cond.code yX0_daysUntilClear cX0_daysUntilClear 3 (some .int), Cond.methodLink RL 187 yX1_daysUntilClear, Cond.instanceMethod yX1_daysUntilClear, Cond.selects RX1 yX1_daysUntilClear yX1_daysUntilClear, Cond.code yX1_daysUntilClear cX1_daysUntilClear 2 (some .int), Cond.methodLink RX1 111 yX1_until, Cond.instanceMethod yX1_until, Cond.selects RX1 yX1_until yX1_until]
def wsL_law0_r22 : List Cond := [Cond.code yX1_until cX1_until 4 (some .int), Cond.methodLink RL 188 yL_daysUntilUnlucky, Cond.static yL_daysUntilUnlucky, Cond.codeWith yL_daysUntilUnlucky cL_daysUntilUnlucky 4 (some .int) [(0, 9, 12, 19)], Cond.methodLink RL 71 yX0_daysUntilUnlucky, Cond.instanceMethod yX0_daysUntilUnlucky, Cond.selects RX0 yX0_daysUntilUnlucky yX0_daysUntilUnlucky, Cond.code yX0_daysUntilUnlucky cX0_daysUntilUnlucky 3 (some .int), Cond.methodLink RL 190 yX1_daysUntilUnlucky, Cond.instanceMethod yX1_daysUntilUnlucky, Cond.selects RX1 yX1_daysUntilUnlucky yX1_daysUntilUnlucky, Cond.code yX1_daysUntilUnlucky cX1_daysUntilUnlucky 2 (some .int), Cond.methodLink RL 191 yL_bestPinch, Cond.static yL_bestPinch, Cond.codeWith yL_bestPinch cL_bestPinch 4 (some .int) [(0, 9, 12, 19)], Cond.methodLink RL 74 yX0_bestPinch, Cond.instanceMethod yX0_bestPinch, Cond.selects RX0 yX0_bestPinch yX0_bestPinch, Cond.code yX0_bestPinch cX0_bestPinch 7 (some .int), Cond.methodLink RX0 120 yX0_beginTrialWithPinch, Cond.instanceMethod yX0_beginTrialWithPinch, Cond.selects RX0 yX0_beginTrialWithPinch yX0_beginTrialWithPinch, Cond.code yX0_beginTrialWithPinch cX0_beginTrialWithPinch 3 none, Cond.methodLink RL 193 yX1_bestPinch]
def wsL_law0_r23 : List Cond := [Cond.instanceMethod yX1_bestPinch, Cond.selects RX1 yX1_bestPinch yX1_bestPinch, Cond.code yX1_bestPinch cX1_bestPinch 2 (some .int), Cond.methodLink RX1 114 yX1_pinch, Cond.instanceMethod yX1_pinch, Cond.selects RX1 yX1_pinch yX1_pinch, Cond.code yX1_pinch cX1_pinch 7 (some .int), Cond.methodLink RL 194 yL_bestPenance, Cond.static yL_bestPenance, Cond.codeWith yL_bestPenance cL_bestPenance 4 (some .int) [(0, 9, 12, 19)], Cond.methodLink RL 77 yX0_bestPenance, Cond.instanceMethod yX0_bestPenance, Cond.selects RX0 yX0_bestPenance yX0_bestPenance, Cond.code yX0_bestPenance cX0_bestPenance 6 (some .int), Cond.methodLink RX0 123 yX0_beginTrialWithPenance, Cond.instanceMethod yX0_beginTrialWithPenance, Cond.selects RX0 yX0_beginTrialWithPenance yX0_beginTrialWithPenance, Cond.code yX0_beginTrialWithPenance cX0_beginTrialWithPenance 3 none, Cond.methodLink RL 196 yX1_bestPenance, Cond.instanceMethod yX1_bestPenance, Cond.selects RX1 yX1_bestPenance yX1_bestPenance, Cond.code yX1_bestPenance cX1_bestPenance 2 (some .int), Cond.methodLink RX1 117 yX1_penance, Cond.instanceMethod yX1_penance]
def wsL_law0_r24 : List Cond := [Cond.selects RX1 yX1_penance yX1_penance, Cond.code yX1_penance cX1_penance 6 (some .int), Cond.methodLink RL 197 yX0_meanLuck, Cond.instanceMethod yX0_meanLuck, Cond.selects RX0 yX0_meanLuck yX0_meanLuck, Cond.code yX0_meanLuck cX0_meanLuck 3 (some .double), Cond.methodLink RL 201 yX1_meanLuck, Cond.instanceMethod yX1_meanLuck, Cond.selects RX1 yX1_meanLuck yX1_meanLuck, Cond.code yX1_meanLuck cX1_meanLuck 3 (some .double), Cond.methodLink RL 202 yX0_digest, Cond.instanceMethod yX0_digest, Cond.selects RX0 yX0_digest yX0_digest, Cond.code yX0_digest cX0_digest 4 (some .long), Cond.constantLong RX0 126 (2011), Cond.methodLink RX0 128 yX0_day, Cond.methodLink RX0 131 yX0_mixed, Cond.static yX0_mixed, Cond.code yX0_mixed cX0_mixed 3 (some .long), Cond.constantLong RX0 193 (31), Cond.methodLink RX0 135 yX0_members, Cond.methodLink RX0 138 yX0_salt, Cond.methodLink RX0 141 yX0_ledger, Cond.methodLink RX0 144 yX0_faultsFound]
def wsL_law0_r25 : List Cond := [Cond.methodLink RX0 147 yX0_luckiest, Cond.methodLink RX0 150 yX0_allArrears, Cond.methodLink RX0 153 yX0_withMember, Cond.instanceMethod yX0_withMember, Cond.selects RX0 yX0_withMember yX0_withMember, Cond.code yX0_withMember cX0_withMember 6 (some .long), Cond.methodLink RX0 159 yX0_luckOf, Cond.methodLink RX0 162 yX0_arrearsOf, Cond.methodLink RX0 165 yX0_lumpsOf, Cond.methodLink RX0 168 yX0_dailyLoss, Cond.methodLink RX0 171 yX0_arrearsByAudit, Cond.methodLink RX0 174 yX0_bestPinch, Cond.methodLink RX0 177 yX0_bestPenance, Cond.methodLink RX0 156 yX0_withThrow, Cond.instanceMethod yX0_withThrow, Cond.selects RX0 yX0_withThrow yX0_withThrow, Cond.code yX0_withThrow cX0_withThrow 6 (some .long), Cond.methodLink RX0 180 yX0_memberOf, Cond.methodLink RX0 183 yX0_isLeft, Cond.methodLink RX0 187 yX0_grainsOf, Cond.methodLink RX0 190 yX0_excessOf, Cond.methodLink RL 206 yX1_digest, Cond.instanceMethod yX1_digest, Cond.selects RX1 yX1_digest yX1_digest]
def wsL_law0_r26 : List Cond := [Cond.code yX1_digest cX1_digest 10 (some .long), Cond.constantLong RX1 120 (2011), Cond.constantLong RX1 122 (31)]
def wsL_law0 : List Cond := (wsL_law0_r1 ++ (wsL_law0_r2 ++ (wsL_law0_r3 ++ (wsL_law0_r4 ++ (wsL_law0_r5 ++ (wsL_law0_r6 ++ (wsL_law0_r7 ++ (wsL_law0_r8 ++ (wsL_law0_r9 ++ (wsL_law0_r10 ++ (wsL_law0_r11 ++ (wsL_law0_r12 ++ (wsL_law0_r13 ++ (wsL_law0_r14 ++ (wsL_law0_r15 ++ (wsL_law0_r16 ++ (wsL_law0_r17 ++ (wsL_law0_r18 ++ (wsL_law0_r19 ++ (wsL_law0_r20 ++ (wsL_law0_r21 ++ (wsL_law0_r22 ++ (wsL_law0_r23 ++ (wsL_law0_r24 ++ (wsL_law0_r25 ++ wsL_law0_r26))))))))))))))))))))))))) ++ wsX00 ++ wsX10 ++ ([] : List Cond)
def wsL_law : List Cond := wsL_law0 ++ (vx_atS RX0 52 "java/lang/IllegalStateException" ["java/lang/RuntimeException", "java/lang/Exception"]).filter goodWord ++ (vx_atS RX0 199 "java/lang/IndexOutOfBoundsException" ["java/lang/RuntimeException", "java/lang/Exception"]).filter goodWord ++ (vx_atS RX0 208 "java/lang/IllegalArgumentException" ["java/lang/RuntimeException", "java/lang/Exception"]).filter goodWord
end
section
theorem z_inT {big ws : List Cond} (ps : List Nat) (hp : ws = ps.filterMap (fun i => big[i]?)) : ∀ w ∈ ws, w ∈ big := by
  intro w hw
  rw [hp] at hw
  obtain ⟨i, -, hi⟩ := List.mem_filterMap.mp hw
  exact List.mem_of_getElem? hi
theorem z_inA {big a b : List Cond} (ha : ∀ w ∈ a, w ∈ big) (hb : ∀ w ∈ b, w ∈ big) : ∀ w ∈ a ++ b, w ∈ big := fun w h => (List.mem_append.mp h).elim (ha w) (hb w)
set_option maxRecDepth 20000 in
theorem wsL_law0_r1_in : ∀ w ∈ wsL_law0_r1, w ∈ lw_tbl := z_inT [56, 57, 46, 528, 529, 47, 789, 58, 59, 60, 61, 62, 63, 107, 64, 65, 66, 68, 108, 69, 70, 71, 67, 72] (by decide +kernel)
set_option maxRecDepth 20000 in
theorem wsL_law0_r2_in : ∀ w ∈ wsL_law0_r2, w ∈ lw_tbl := z_inT [73, 74, 75, 530, 531, 532, 533, 536, 537, 360, 361, 45, 362, 363, 364, 365, 366, 367, 368, 51, 551, 552, 553, 554] (by decide +kernel)
set_option maxRecDepth 20000 in
theorem wsL_law0_r3_in : ∀ w ∈ wsL_law0_r3, w ∈ lw_tbl := z_inT [534, 535, 555, 557, 21, 558, 559, 561, 22, 562, 547, 548, 549, 550, 384, 385, 386, 387, 388, 389, 390, 391, 392, 193] (by decide +kernel)
set_option maxRecDepth 20000 in
theorem wsL_law0_r4_in : ∀ w ∈ wsL_law0_r4, w ∈ lw_tbl := z_inT [195, 3, 196, 197, 52, 393, 394, 395, 396, 53, 412, 414, 17, 415, 121, 123, 1, 124, 125, 126, 54, 127, 563, 564] (by decide +kernel)
set_option maxRecDepth 20000 in
theorem wsL_law0_r5_in : ∀ w ∈ wsL_law0_r5, w ∈ lw_tbl := z_inT [565, 566, 578, 567, 569, 23, 570, 571, 572, 573, 574, 576, 24, 577, 417, 418, 419, 420, 421, 422, 423, 424, 425, 426] (by decide +kernel)
set_option maxRecDepth 20000 in
theorem wsL_law0_r6_in : ∀ w ∈ wsL_law0_r6, w ∈ lw_tbl := z_inT [428, 430, 18, 431, 297, 299, 8, 300, 301, 302, 303, 304, 306, 9, 307, 433, 435, 19, 436, 579, 580, 581, 582, 583] (by decide +kernel)
set_option maxRecDepth 20000 in
theorem wsL_law0_r7_in : ∀ w ∈ wsL_law0_r7, w ∈ lw_tbl := z_inT [585, 25, 586, 587, 588, 590, 26, 591, 437, 438, 439, 440, 441, 442, 443, 331, 333, 14, 334, 592, 593, 594, 595, 444] (by decide +kernel)
set_option maxRecDepth 20000 in
theorem wsL_law0_r8_in : ∀ w ∈ wsL_law0_r8, w ∈ lw_tbl := z_inT [445, 446, 447, 448, 449, 450, 596, 597, 598, 599, 109, 110, 111, 112, 113, 114, 115, 116, 117, 119, 0, 120, 600, 601] (by decide +kernel)
set_option maxRecDepth 20000 in
theorem wsL_law0_r9_in : ∀ w ∈ wsL_law0_r9, w ∈ lw_tbl := z_inT [602, 603, 604, 606, 27, 607, 608, 610, 28, 611, 612, 614, 29, 615, 616, 618, 30, 619, 451, 452, 453, 454, 455, 456] (by decide +kernel)
set_option maxRecDepth 20000 in
theorem wsL_law0_r10_in : ∀ w ∈ wsL_law0_r10, w ∈ lw_tbl := z_inT [457, 458, 460, 20, 461, 316, 317, 318, 462, 319, 321, 12, 322, 277, 279, 5, 280, 620, 621, 622, 623, 624, 626, 31] (by decide +kernel)
set_option maxRecDepth 20000 in
theorem wsL_law0_r11_in : ∀ w ∈ wsL_law0_r11, w ∈ lw_tbl := z_inT [627, 628, 630, 32, 631, 632, 634, 33, 635, 128, 129, 130, 131, 636, 637, 638, 639, 132, 133, 134, 135, 640, 641, 642] (by decide +kernel)
set_option maxRecDepth 20000 in
theorem wsL_law0_r12_in : ∀ w ∈ wsL_law0_r12, w ∈ lw_tbl := z_inT [643, 463, 464, 465, 466, 190, 191, 192, 644, 645, 646, 647, 648, 650, 34, 651, 467, 468, 469, 470, 266, 267, 268, 652] (by decide +kernel)
set_option maxRecDepth 20000 in
theorem wsL_law0_r13_in : ∀ w ∈ wsL_law0_r13, w ∈ lw_tbl := z_inT [653, 654, 655, 471, 472, 473, 474, 270, 271, 272, 656, 657, 658, 659, 475, 476, 477, 478, 274, 275, 276, 660, 661, 662] (by decide +kernel)
set_option maxRecDepth 20000 in
theorem wsL_law0_r14_in : ∀ w ∈ wsL_law0_r14, w ∈ lw_tbl := z_inT [663, 136, 137, 138, 139, 664, 665, 666, 667, 668, 670, 35, 671, 140, 141, 142, 143, 672, 673, 674, 675, 676, 678, 36] (by decide +kernel)
set_option maxRecDepth 20000 in
theorem wsL_law0_r15_in : ∀ w ∈ wsL_law0_r15, w ∈ lw_tbl := z_inT [679, 144, 145, 146, 147, 680, 681, 682, 683, 148, 149, 150, 151, 684, 685, 686, 687, 152, 153, 154, 155, 688, 689, 690] (by decide +kernel)
set_option maxRecDepth 20000 in
theorem wsL_law0_r16_in : ∀ w ∈ wsL_law0_r16, w ∈ lw_tbl := z_inT [691, 479, 480, 481, 482, 340, 341, 342, 343, 345, 16, 346, 692, 693, 694, 695, 696, 698, 37, 699, 700, 702, 38, 703] (by decide +kernel)
set_option maxRecDepth 20000 in
theorem wsL_law0_r17_in : ∀ w ∈ wsL_law0_r17, w ∈ lw_tbl := z_inT [483, 484, 485, 486, 349, 350, 351, 704, 705, 706, 707, 487, 488, 489, 490, 353, 354, 355, 708, 709, 710, 711, 491, 492] (by decide +kernel)
set_option maxRecDepth 20000 in
theorem wsL_law0_r18_in : ∀ w ∈ wsL_law0_r18, w ∈ lw_tbl := z_inT [493, 494, 357, 358, 359, 712, 713, 714, 715, 156, 716, 717, 718, 719, 495, 496, 497, 498, 282, 283, 284, 720, 721, 722] (by decide +kernel)
set_option maxRecDepth 20000 in
theorem wsL_law0_r19_in : ∀ w ∈ wsL_law0_r19, w ∈ lw_tbl := z_inT [723, 724, 726, 39, 727, 157, 158, 159, 160, 728, 729, 730, 731, 161, 162, 163, 164, 732, 733, 734, 735, 499, 500, 501] (by decide +kernel)
set_option maxRecDepth 20000 in
theorem wsL_law0_r20_in : ∀ w ∈ wsL_law0_r20, w ∈ lw_tbl := z_inT [502, 503, 504, 505, 293, 295, 7, 296, 76, 77, 308, 310, 10, 311, 312, 314, 11, 315, 736, 737, 738, 739, 740, 742] (by decide +kernel)
set_option maxRecDepth 20000 in
theorem wsL_law0_r21_in : ∀ w ∈ wsL_law0_r21, w ∈ lw_tbl := z_inT [40, 743, 744, 746, 745, 55, 747, 749, 41, 750, 506, 507, 508, 509, 510, 511, 512, 751, 752, 753, 754, 755, 757, 42] (by decide +kernel)
set_option maxRecDepth 20000 in
theorem wsL_law0_r22_in : ∀ w ∈ wsL_law0_r22, w ∈ lw_tbl := z_inT [758, 513, 514, 515, 516, 517, 518, 519, 759, 760, 761, 762, 520, 521, 522, 523, 286, 287, 288, 289, 291, 6, 292, 763] (by decide +kernel)
set_option maxRecDepth 20000 in
theorem wsL_law0_r23_in : ∀ w ∈ wsL_law0_r23, w ∈ lw_tbl := z_inT [764, 765, 766, 767, 769, 43, 770, 524, 525, 526, 527, 324, 325, 326, 327, 329, 13, 330, 771, 772, 773, 774, 775, 777] (by decide +kernel)
set_option maxRecDepth 20000 in
theorem wsL_law0_r24_in : ∀ w ∈ wsL_law0_r24, w ∈ lw_tbl := z_inT [44, 778, 165, 166, 167, 168, 779, 780, 781, 782, 169, 170, 171, 172, 173, 174, 175, 176, 177, 178, 179, 180, 181, 182] (by decide +kernel)
set_option maxRecDepth 20000 in
theorem wsL_law0_r25_in : ∀ w ∈ wsL_law0_r25, w ∈ lw_tbl := z_inT [183, 184, 185, 187, 2, 188, 189, 265, 269, 273, 281, 285, 323, 335, 337, 15, 338, 339, 348, 352, 356, 783, 784, 785] (by decide +kernel)
set_option maxRecDepth 20000 in
theorem wsL_law0_r26_in : ∀ w ∈ wsL_law0_r26, w ∈ lw_tbl := z_inT [786, 787, 788] (by decide +kernel)
set_option maxRecDepth 20000 in
theorem wsX00_in : ∀ w ∈ wsX00, w ∈ lw_tbl := z_inT [78, 80, 82, 84, 86, 88, 90, 92, 94, 96, 98, 100, 102, 104] (by decide +kernel)
set_option maxRecDepth 20000 in
theorem wsX10_in : ∀ w ∈ wsX10, w ∈ lw_tbl := z_inT [538, 540, 542, 544] (by decide +kernel)
theorem wsL_law_in0 : ∀ w ∈ wsL_law0, w ∈ lw_tbl := z_inA (z_inA (z_inA (z_inA wsL_law0_r1_in (z_inA wsL_law0_r2_in (z_inA wsL_law0_r3_in (z_inA wsL_law0_r4_in (z_inA wsL_law0_r5_in (z_inA wsL_law0_r6_in (z_inA wsL_law0_r7_in (z_inA wsL_law0_r8_in (z_inA wsL_law0_r9_in (z_inA wsL_law0_r10_in (z_inA wsL_law0_r11_in (z_inA wsL_law0_r12_in (z_inA wsL_law0_r13_in (z_inA wsL_law0_r14_in (z_inA wsL_law0_r15_in (z_inA wsL_law0_r16_in (z_inA wsL_law0_r17_in (z_inA wsL_law0_r18_in (z_inA wsL_law0_r19_in (z_inA wsL_law0_r20_in (z_inA wsL_law0_r21_in (z_inA wsL_law0_r22_in (z_inA wsL_law0_r23_in (z_inA wsL_law0_r24_in (z_inA wsL_law0_r25_in (wsL_law0_r26_in)))))))))))))))))))))))))) wsX00_in) wsX10_in) (fun _ h => nomatch h)
theorem wsL_law_x0 : ∀ w ∈ (vx_atS RX0 52 "java/lang/IllegalStateException" ["java/lang/RuntimeException", "java/lang/Exception"]).filter goodWord, w ∈ lw_tbl := by decide +kernel
theorem wsL_law_x1 : ∀ w ∈ (vx_atS RX0 199 "java/lang/IndexOutOfBoundsException" ["java/lang/RuntimeException", "java/lang/Exception"]).filter goodWord, w ∈ lw_tbl := by decide +kernel
theorem wsL_law_x2 : ∀ w ∈ (vx_atS RX0 208 "java/lang/IllegalArgumentException" ["java/lang/RuntimeException", "java/lang/Exception"]).filter goodWord, w ∈ lw_tbl := by decide +kernel
theorem wsL_law_in : ∀ w ∈ wsL_law, w ∈ lw_tbl := fun w h => (List.mem_append.mp h).elim (fun h => (List.mem_append.mp h).elim (fun h => (List.mem_append.mp h).elim (fun h => wsL_law_in0 w h) (fun h => wsL_law_x0 w h)) (fun h => wsL_law_x1 w h)) (fun h => wsL_law_x2 w h)
theorem inlX0 : ∀ w ∈ wsX00, w ∈ wsL_law := fun _ h => List.mem_append_left _ (List.mem_append_left _ (List.mem_append_left _ (List.mem_append_left _ (List.mem_append_left _ (List.mem_append_right _ h)))))
theorem inX0 : ∀ w ∈ wsX00, w ∈ lw_tbl := fun w h => wsL_law_in w (inlX0 w h)
theorem inlX1 : ∀ w ∈ wsX10, w ∈ wsL_law := fun _ h => List.mem_append_left _ (List.mem_append_left _ (List.mem_append_left _ (List.mem_append_left _ (List.mem_append_right _ h))))
theorem inX1 : ∀ w ∈ wsX10, w ∈ lw_tbl := fun w h => wsL_law_in w (inlX1 w h)
theorem inJ9 : ∀ w ∈ wsJ90, w ∈ lw_tbl := by decide +kernel
theorem inJ0 : ∀ w ∈ wsJ00, w ∈ lw_tbl := by decide +kernel
theorem inJ10 : ∀ w ∈ wsJ100, w ∈ lw_tbl := by decide +kernel
end
section
theorem dX0_init_0 : decode cX0_init 0 = .ok (.aload_n 0, 1) := by decide +kernel
theorem dX0_init_1 : decode cX0_init 1 = .ok (.invokespecial 3, 3) := by decide +kernel
theorem dX0_init_4 : decode cX0_init 4 = .ok (.aload_n 0, 1) := by decide +kernel
theorem dX0_init_5 : decode cX0_init 5 = .ok (.bipush 9, 2) := by decide +kernel
theorem dX0_init_7 : decode cX0_init 7 = .ok (.newarray .int, 2) := by decide +kernel
theorem dX0_init_9 : decode cX0_init 9 = .ok (.putfield 9, 3) := by decide +kernel
theorem dX0_init_12 : decode cX0_init 12 = .ok (.aload_n 0, 1) := by decide +kernel
theorem dX0_init_13 : decode cX0_init 13 = .ok (.bipush 9, 2) := by decide +kernel
theorem dX0_init_15 : decode cX0_init 15 = .ok (.newarray .int, 2) := by decide +kernel
theorem dX0_init_17 : decode cX0_init 17 = .ok (.putfield 13, 3) := by decide +kernel
theorem dX0_init_20 : decode cX0_init 20 = .ok (.aload_n 0, 1) := by decide +kernel
theorem dX0_init_21 : decode cX0_init 21 = .ok (.bipush 9, 2) := by decide +kernel
theorem dX0_init_23 : decode cX0_init 23 = .ok (.newarray .int, 2) := by decide +kernel
theorem dX0_init_25 : decode cX0_init 25 = .ok (.putfield 16, 3) := by decide +kernel
theorem dX0_init_28 : decode cX0_init 28 = .ok (.aload_n 0, 1) := by decide +kernel
theorem dX0_init_29 : decode cX0_init 29 = .ok (.bipush 30, 2) := by decide +kernel
theorem dX0_init_31 : decode cX0_init 31 = .ok (.newarray .int, 2) := by decide +kernel
theorem dX0_init_33 : decode cX0_init 33 = .ok (.putfield 19, 3) := by decide +kernel
theorem dX0_init_36 : decode cX0_init 36 = .ok (.aload_n 0, 1) := by decide +kernel
theorem dX0_init_37 : decode cX0_init 37 = .ok (.bipush 30, 2) := by decide +kernel
theorem dX0_init_39 : decode cX0_init 39 = .ok (.newarray .boolean, 2) := by decide +kernel
theorem dX0_init_41 : decode cX0_init 41 = .ok (.putfield 22, 3) := by decide +kernel
theorem dX0_init_44 : decode cX0_init 44 = .ok (.aload_n 0, 1) := by decide +kernel
theorem dX0_init_45 : decode cX0_init 45 = .ok (.bipush 30, 2) := by decide +kernel
theorem dX0_init_47 : decode cX0_init 47 = .ok (.newarray .int, 2) := by decide +kernel
theorem dX0_init_49 : decode cX0_init 49 = .ok (.putfield 26, 3) := by decide +kernel
theorem dX0_init_52 : decode cX0_init 52 = .ok (.aload_n 0, 1) := by decide +kernel
theorem dX0_init_53 : decode cX0_init 53 = .ok (.bipush 30, 2) := by decide +kernel
theorem dX0_init_55 : decode cX0_init 55 = .ok (.newarray .int, 2) := by decide +kernel
theorem dX0_init_57 : decode cX0_init 57 = .ok (.putfield 29, 3) := by decide +kernel
theorem dX0_init_60 : decode cX0_init 60 = .ok (.aload_n 0, 1) := by decide +kernel
theorem dX0_init_61 : decode cX0_init 61 = .ok (.iconst 0, 1) := by decide +kernel
theorem dX0_init_62 : decode cX0_init 62 = .ok (.putfield 32, 3) := by decide +kernel
theorem dX0_init_65 : decode cX0_init 65 = .ok (.aload_n 0, 1) := by decide +kernel
theorem dX0_init_66 : decode cX0_init 66 = .ok (.iconst 0, 1) := by decide +kernel
theorem dX0_init_67 : decode cX0_init 67 = .ok (.putfield 36, 3) := by decide +kernel
theorem dX0_init_70 : decode cX0_init 70 = .ok (.aload_n 0, 1) := by decide +kernel
theorem dX0_init_71 : decode cX0_init 71 = .ok (.bipush 100, 2) := by decide +kernel
theorem dX0_init_73 : decode cX0_init 73 = .ok (.putfield 39, 3) := by decide +kernel
theorem dX0_init_76 : decode cX0_init 76 = .ok (.aload_n 0, 1) := by decide +kernel
theorem dX0_init_77 : decode cX0_init 77 = .ok (.iconst 0, 1) := by decide +kernel
theorem dX0_init_78 : decode cX0_init 78 = .ok (.putfield 42, 3) := by decide +kernel
theorem dX0_init_81 : decode cX0_init 81 = .ok (.aload_n 0, 1) := by decide +kernel
theorem dX0_init_82 : decode cX0_init 82 = .ok (.iconst 0, 1) := by decide +kernel
theorem dX0_init_83 : decode cX0_init 83 = .ok (.putfield 45, 3) := by decide +kernel
theorem dX0_init_86 : decode cX0_init 86 = .ok (.return_, 1) := by decide +kernel
theorem dX0_join_0 : decode cX0_join 0 = .ok (.aload_n 0, 1) := by decide +kernel
theorem dX0_join_1 : decode cX0_join 1 = .ok (.getfield 32, 3) := by decide +kernel
theorem dX0_join_4 : decode cX0_join 4 = .ok (.bipush 8, 2) := by decide +kernel
theorem dX0_join_6 : decode cX0_join 6 = .ok (.if_icmp .lt 13, 3) := by decide +kernel
theorem dX0_join_9 : decode cX0_join 9 = .ok (.new 48, 3) := by decide +kernel
theorem dX0_join_12 : decode cX0_join 12 = .ok (.dup, 1) := by decide +kernel
theorem dX0_join_13 : decode cX0_join 13 = .ok (.ldc 50, 2) := by decide +kernel
theorem dX0_join_15 : decode cX0_join 15 = .ok (.invokespecial 52, 3) := by decide +kernel
theorem dX0_join_18 : decode cX0_join 18 = .ok (.athrow, 1) := by decide +kernel
theorem dX0_join_19 : decode cX0_join 19 = .ok (.aload_n 0, 1) := by decide +kernel
theorem dX0_join_20 : decode cX0_join 20 = .ok (.getfield 32, 3) := by decide +kernel
theorem dX0_join_23 : decode cX0_join 23 = .ok (.istore_n 1, 1) := by decide +kernel
theorem dX0_join_24 : decode cX0_join 24 = .ok (.aload_n 0, 1) := by decide +kernel
theorem dX0_join_25 : decode cX0_join 25 = .ok (.getfield 9, 3) := by decide +kernel
theorem dX0_join_28 : decode cX0_join 28 = .ok (.iload_n 1, 1) := by decide +kernel
theorem dX0_join_29 : decode cX0_join 29 = .ok (.bipush 50, 2) := by decide +kernel
theorem dX0_join_31 : decode cX0_join 31 = .ok (.iastore, 1) := by decide +kernel
theorem dX0_join_32 : decode cX0_join 32 = .ok (.aload_n 0, 1) := by decide +kernel
theorem dX0_join_33 : decode cX0_join 33 = .ok (.getfield 13, 3) := by decide +kernel
theorem dX0_join_36 : decode cX0_join 36 = .ok (.iload_n 1, 1) := by decide +kernel
theorem dX0_join_37 : decode cX0_join 37 = .ok (.iconst 0, 1) := by decide +kernel
theorem dX0_join_38 : decode cX0_join 38 = .ok (.iastore, 1) := by decide +kernel
theorem dX0_join_39 : decode cX0_join 39 = .ok (.aload_n 0, 1) := by decide +kernel
theorem dX0_join_40 : decode cX0_join 40 = .ok (.getfield 16, 3) := by decide +kernel
theorem dX0_join_43 : decode cX0_join 43 = .ok (.iload_n 1, 1) := by decide +kernel
theorem dX0_join_44 : decode cX0_join 44 = .ok (.iconst 0, 1) := by decide +kernel
theorem dX0_join_45 : decode cX0_join 45 = .ok (.iastore, 1) := by decide +kernel
theorem dX0_join_46 : decode cX0_join 46 = .ok (.aload_n 0, 1) := by decide +kernel
theorem dX0_join_47 : decode cX0_join 47 = .ok (.dup, 1) := by decide +kernel
theorem dX0_join_48 : decode cX0_join 48 = .ok (.getfield 32, 3) := by decide +kernel
theorem dX0_join_51 : decode cX0_join 51 = .ok (.iconst 1, 1) := by decide +kernel
theorem dX0_join_52 : decode cX0_join 52 = .ok (.iadd, 1) := by decide +kernel
theorem dX0_join_53 : decode cX0_join 53 = .ok (.putfield 32, 3) := by decide +kernel
theorem dX0_join_56 : decode cX0_join 56 = .ok (.iload_n 1, 1) := by decide +kernel
theorem dX0_join_57 : decode cX0_join 57 = .ok (.ireturn, 1) := by decide +kernel
set_option maxRecDepth 20000 in
theorem ggX0_spill_X0_checkMember : GoodIn wsX0_spill wsX0_checkMember := goodIn_ca (goodIn_r _ [7, 8, 9, 10, 30, 31, 32, 33, 34, 35, 36, 37, 38, 39, 40, 41, 42, 43] (by decide +kernel) (by decide +kernel)) (goodIn_sub (fun _ h => List.mem_cons_of_mem _ (List.mem_append_left _ (List.mem_append_left _ (List.mem_append_right _ h)))) (by decide +kernel))
set_option maxRecDepth 20000 in
theorem gX0_spill_X0_checkMember : GoodIn wsX0_spill (wsV RX0 55 RX0 yX0_checkMember wsX0_checkMember) := goodIn_app (goodIn_of _ (by decide +kernel)) ggX0_spill_X0_checkMember
set_option maxRecDepth 20000 in
theorem ggX0_spill_X0_checkAmount : GoodIn wsX0_spill wsX0_checkAmount := goodIn_ca (goodIn_r _ [13, 14, 15] (by decide +kernel) (by decide +kernel)) (goodIn_sub (fun _ h => List.mem_cons_of_mem _ (List.mem_append_left _ (List.mem_append_right _ h))) (by decide +kernel))
set_option maxRecDepth 20000 in
theorem gX0_spill_X0_checkAmount : GoodIn wsX0_spill (va_wsS RX0 59 yX0_checkAmount wsX0_checkAmount) := goodIn_app (goodIn_of _ (by decide +kernel)) ggX0_spill_X0_checkAmount
set_option maxRecDepth 20000 in
theorem ggX0_spill_X0_checkCellar : GoodIn wsX0_spill wsX0_checkCellar := goodIn_ca (goodIn_r _ [19, 20, 21, 1, 30, 31, 32, 33, 34, 35, 36, 37, 38, 39, 40, 41, 42, 43] (by decide +kernel) (by decide +kernel)) (goodIn_sub (fun _ h => List.mem_cons_of_mem _ (List.mem_append_right _ h)) (by decide +kernel))
set_option maxRecDepth 20000 in
theorem gX0_spill_X0_checkCellar : GoodIn wsX0_spill (wsV RX0 63 RX0 yX0_checkCellar wsX0_checkCellar) := goodIn_app (goodIn_of _ (by decide +kernel)) ggX0_spill_X0_checkCellar
set_option maxRecDepth 20000 in
theorem ggX0_spill_X0_addArrears : GoodIn wsX0_spill wsX0_addArrears := goodIn_r _ [25, 2, 26, 27, 28, 29, 30, 31, 32, 33, 34, 35, 36, 37, 38, 39, 40, 41, 42, 43] (by decide +kernel) (by decide +kernel)
set_option maxRecDepth 20000 in
theorem gX0_spill_X0_addArrears : GoodIn wsX0_spill (wsV RX0 66 RX0 yX0_addArrears wsX0_addArrears) := goodIn_app (goodIn_of _ (by decide +kernel)) ggX0_spill_X0_addArrears
theorem dX0_spill_0 : decode cX0_spill 0 = .ok (.aload_n 0, 1) := by decide +kernel
theorem dX0_spill_1 : decode cX0_spill 1 = .ok (.iload_n 1, 1) := by decide +kernel
theorem dX0_spill_2 : decode cX0_spill 2 = .ok (.invokevirtual 55, 3) := by decide +kernel
theorem dX0_spill_5 : decode cX0_spill 5 = .ok (.iload_n 2, 1) := by decide +kernel
theorem dX0_spill_6 : decode cX0_spill 6 = .ok (.bipush 30, 2) := by decide +kernel
theorem dX0_spill_8 : decode cX0_spill 8 = .ok (.invokestatic 59, 3) := by decide +kernel
theorem dX0_spill_11 : decode cX0_spill 11 = .ok (.aload_n 0, 1) := by decide +kernel
theorem dX0_spill_12 : decode cX0_spill 12 = .ok (.iload_n 2, 1) := by decide +kernel
theorem dX0_spill_13 : decode cX0_spill 13 = .ok (.invokevirtual 63, 3) := by decide +kernel
theorem dX0_spill_16 : decode cX0_spill 16 = .ok (.aload_n 0, 1) := by decide +kernel
theorem dX0_spill_17 : decode cX0_spill 17 = .ok (.dup, 1) := by decide +kernel
theorem dX0_spill_18 : decode cX0_spill 18 = .ok (.getfield 39, 3) := by decide +kernel
theorem dX0_spill_21 : decode cX0_spill 21 = .ok (.iload_n 2, 1) := by decide +kernel
theorem dX0_spill_22 : decode cX0_spill 22 = .ok (.isub, 1) := by decide +kernel
theorem dX0_spill_23 : decode cX0_spill 23 = .ok (.putfield 39, 3) := by decide +kernel
theorem dX0_spill_26 : decode cX0_spill 26 = .ok (.aload_n 0, 1) := by decide +kernel
theorem dX0_spill_27 : decode cX0_spill 27 = .ok (.iload_n 1, 1) := by decide +kernel
theorem dX0_spill_28 : decode cX0_spill 28 = .ok (.iload_n 2, 1) := by decide +kernel
theorem dX0_spill_29 : decode cX0_spill 29 = .ok (.invokevirtual 66, 3) := by decide +kernel
theorem dX0_spill_32 : decode cX0_spill 32 = .ok (.aload_n 0, 1) := by decide +kernel
theorem dX0_spill_33 : decode cX0_spill 33 = .ok (.getfield 13, 3) := by decide +kernel
theorem dX0_spill_36 : decode cX0_spill 36 = .ok (.iload_n 1, 1) := by decide +kernel
theorem dX0_spill_37 : decode cX0_spill 37 = .ok (.iaload, 1) := by decide +kernel
theorem dX0_spill_38 : decode cX0_spill 38 = .ok (.ireturn, 1) := by decide +kernel
set_option maxRecDepth 20000 in
theorem ggX0_throwSalt_X0_checkMember : GoodIn wsX0_throwSalt wsX0_checkMember := goodIn_ca (goodIn_r _ [6, 7, 8, 9, 50, 51, 52, 53, 54, 55, 56, 57, 58, 59, 60, 61, 62, 63] (by decide +kernel) (by decide +kernel)) (goodIn_sub (fun _ h => List.mem_cons_of_mem _ (List.mem_append_left _ (List.mem_append_left _ (List.mem_append_right _ h)))) (by decide +kernel))
set_option maxRecDepth 20000 in
theorem gX0_throwSalt_X0_checkMember : GoodIn wsX0_throwSalt (wsV RX0 55 RX0 yX0_checkMember wsX0_checkMember) := goodIn_app (goodIn_of _ (by decide +kernel)) ggX0_throwSalt_X0_checkMember
set_option maxRecDepth 20000 in
theorem ggX0_throwSalt_X0_checkShoulder : GoodIn wsX0_throwSalt wsX0_checkShoulder := goodIn_ca (goodIn_r _ [12, 7, 8] (by decide +kernel) (by decide +kernel)) (goodIn_sub (fun _ h => List.mem_cons_of_mem _ (List.mem_append_left _ (List.mem_append_left _ (List.mem_append_right _ h)))) (by decide +kernel))
set_option maxRecDepth 20000 in
theorem gX0_throwSalt_X0_checkShoulder : GoodIn wsX0_throwSalt (va_wsS RX0 69 yX0_checkShoulder wsX0_checkShoulder) := goodIn_app (goodIn_of _ (by decide +kernel)) ggX0_throwSalt_X0_checkShoulder
set_option maxRecDepth 20000 in
theorem ggX0_throwSalt_X0_checkAmount : GoodIn wsX0_throwSalt wsX0_checkAmount := goodIn_ca (goodIn_r _ [15, 16, 17] (by decide +kernel) (by decide +kernel)) (goodIn_sub (fun _ h => List.mem_cons_of_mem _ (List.mem_append_left _ (List.mem_append_right _ h))) (by decide +kernel))
set_option maxRecDepth 20000 in
theorem gX0_throwSalt_X0_checkAmount : GoodIn wsX0_throwSalt (va_wsS RX0 59 yX0_checkAmount wsX0_checkAmount) := goodIn_app (goodIn_of _ (by decide +kernel)) ggX0_throwSalt_X0_checkAmount
set_option maxRecDepth 20000 in
theorem ggX0_throwSalt_X0_checkCellar : GoodIn wsX0_throwSalt wsX0_checkCellar := goodIn_ca (goodIn_r _ [21, 22, 23, 1, 50, 51, 52, 53, 54, 55, 56, 57, 58, 59, 60, 61, 62, 63] (by decide +kernel) (by decide +kernel)) (goodIn_sub (fun _ h => List.mem_cons_of_mem _ (List.mem_append_right _ h)) (by decide +kernel))
set_option maxRecDepth 20000 in
theorem gX0_throwSalt_X0_checkCellar : GoodIn wsX0_throwSalt (wsV RX0 63 RX0 yX0_checkCellar wsX0_checkCellar) := goodIn_app (goodIn_of _ (by decide +kernel)) ggX0_throwSalt_X0_checkCellar
set_option maxRecDepth 20000 in
theorem ggX0_throwSalt_X0_checkLedgerHasRoom : GoodIn wsX0_throwSalt wsX0_checkLedgerHasRoom := goodIn_ca (goodIn_r _ [27, 22, 23, 28, 50, 51, 52, 53, 54, 55, 56, 57, 58, 59, 60, 61, 62, 63] (by decide +kernel) (by decide +kernel)) (goodIn_sub (fun _ h => List.mem_cons_of_mem _ (List.mem_append_right _ h)) (by decide +kernel))
set_option maxRecDepth 20000 in
theorem gX0_throwSalt_X0_checkLedgerHasRoom : GoodIn wsX0_throwSalt (wsV RX0 72 RX0 yX0_checkLedgerHasRoom wsX0_checkLedgerHasRoom) := goodIn_app (goodIn_of _ (by decide +kernel)) ggX0_throwSalt_X0_checkLedgerHasRoom
set_option maxRecDepth 20000 in
theorem ggX0_throwSalt_X0_leftExcess : GoodIn wsX0_throwSalt wsX0_leftExcess := goodIn_r _ [32, 33, 34, 35, 36, 37, 50, 51, 52, 53, 54, 55, 56, 57, 58, 59, 60, 61, 62, 63] (by decide +kernel) (by decide +kernel)
set_option maxRecDepth 20000 in
theorem gX0_throwSalt_X0_leftExcess : GoodIn wsX0_throwSalt (wsV RX0 75 RX0 yX0_leftExcess wsX0_leftExcess) := goodIn_app (goodIn_of _ (by decide +kernel)) ggX0_throwSalt_X0_leftExcess
set_option maxRecDepth 20000 in
theorem ggX0_throwSalt_X0_lessenArrears : GoodIn wsX0_throwSalt wsX0_lessenArrears := goodIn_r _ [41, 33, 34, 35, 36, 37, 50, 51, 52, 53, 54, 55, 56, 57, 58, 59, 60, 61, 62, 63] (by decide +kernel) (by decide +kernel)
set_option maxRecDepth 20000 in
theorem gX0_throwSalt_X0_lessenArrears : GoodIn wsX0_throwSalt (wsV RX0 79 RX0 yX0_lessenArrears wsX0_lessenArrears) := goodIn_app (goodIn_of _ (by decide +kernel)) ggX0_throwSalt_X0_lessenArrears
set_option maxRecDepth 20000 in
theorem ggX0_throwSalt_X0_writeThrow : GoodIn wsX0_throwSalt wsX0_writeThrow := goodIn_r _ [45, 46, 28, 47, 48, 49, 50, 51, 52, 53, 54, 55, 56, 57, 58, 59, 60, 61, 62, 63] (by decide +kernel) (by decide +kernel)
set_option maxRecDepth 20000 in
theorem gX0_throwSalt_X0_writeThrow : GoodIn wsX0_throwSalt (wsV RX0 82 RX0 yX0_writeThrow wsX0_writeThrow) := goodIn_app (goodIn_of _ (by decide +kernel)) ggX0_throwSalt_X0_writeThrow
theorem dX0_throwSalt_0 : decode cX0_throwSalt 0 = .ok (.aload_n 0, 1) := by decide +kernel
theorem dX0_throwSalt_1 : decode cX0_throwSalt 1 = .ok (.iload_n 1, 1) := by decide +kernel
theorem dX0_throwSalt_2 : decode cX0_throwSalt 2 = .ok (.invokevirtual 55, 3) := by decide +kernel
theorem dX0_throwSalt_5 : decode cX0_throwSalt 5 = .ok (.iload_n 2, 1) := by decide +kernel
theorem dX0_throwSalt_6 : decode cX0_throwSalt 6 = .ok (.invokestatic 69, 3) := by decide +kernel
theorem dX0_throwSalt_9 : decode cX0_throwSalt 9 = .ok (.iload_n 3, 1) := by decide +kernel
theorem dX0_throwSalt_10 : decode cX0_throwSalt 10 = .ok (.bipush 9, 2) := by decide +kernel
theorem dX0_throwSalt_12 : decode cX0_throwSalt 12 = .ok (.invokestatic 59, 3) := by decide +kernel
theorem dX0_throwSalt_15 : decode cX0_throwSalt 15 = .ok (.aload_n 0, 1) := by decide +kernel
theorem dX0_throwSalt_16 : decode cX0_throwSalt 16 = .ok (.iload_n 3, 1) := by decide +kernel
theorem dX0_throwSalt_17 : decode cX0_throwSalt 17 = .ok (.invokevirtual 63, 3) := by decide +kernel
theorem dX0_throwSalt_20 : decode cX0_throwSalt 20 = .ok (.aload_n 0, 1) := by decide +kernel
theorem dX0_throwSalt_21 : decode cX0_throwSalt 21 = .ok (.invokevirtual 72, 3) := by decide +kernel
theorem dX0_throwSalt_24 : decode cX0_throwSalt 24 = .ok (.iload_n 2, 1) := by decide +kernel
theorem dX0_throwSalt_25 : decode cX0_throwSalt 25 = .ok (.ifCond .ne 7, 3) := by decide +kernel
theorem dX0_throwSalt_28 : decode cX0_throwSalt 28 = .ok (.iconst 1, 1) := by decide +kernel
theorem dX0_throwSalt_29 : decode cX0_throwSalt 29 = .ok (.goto 4, 3) := by decide +kernel
theorem dX0_throwSalt_32 : decode cX0_throwSalt 32 = .ok (.iconst 0, 1) := by decide +kernel
theorem dX0_throwSalt_33 : decode cX0_throwSalt 33 = .ok (.istore 4, 2) := by decide +kernel
theorem dX0_throwSalt_35 : decode cX0_throwSalt 35 = .ok (.iload 4, 2) := by decide +kernel
theorem dX0_throwSalt_37 : decode cX0_throwSalt 37 = .ok (.ifCond .eq 12, 3) := by decide +kernel
theorem dX0_throwSalt_40 : decode cX0_throwSalt 40 = .ok (.aload_n 0, 1) := by decide +kernel
theorem dX0_throwSalt_41 : decode cX0_throwSalt 41 = .ok (.iload_n 1, 1) := by decide +kernel
theorem dX0_throwSalt_42 : decode cX0_throwSalt 42 = .ok (.iload_n 3, 1) := by decide +kernel
theorem dX0_throwSalt_43 : decode cX0_throwSalt 43 = .ok (.invokevirtual 75, 3) := by decide +kernel
theorem dX0_throwSalt_46 : decode cX0_throwSalt 46 = .ok (.goto 4, 3) := by decide +kernel
theorem dX0_throwSalt_49 : decode cX0_throwSalt 49 = .ok (.iload_n 3, 1) := by decide +kernel
theorem dX0_throwSalt_50 : decode cX0_throwSalt 50 = .ok (.istore 5, 2) := by decide +kernel
theorem dX0_throwSalt_52 : decode cX0_throwSalt 52 = .ok (.iload 4, 2) := by decide +kernel
theorem dX0_throwSalt_54 : decode cX0_throwSalt 54 = .ok (.ifCond .eq 9, 3) := by decide +kernel
theorem dX0_throwSalt_57 : decode cX0_throwSalt 57 = .ok (.aload_n 0, 1) := by decide +kernel
theorem dX0_throwSalt_58 : decode cX0_throwSalt 58 = .ok (.iload_n 1, 1) := by decide +kernel
theorem dX0_throwSalt_59 : decode cX0_throwSalt 59 = .ok (.iload_n 3, 1) := by decide +kernel
theorem dX0_throwSalt_60 : decode cX0_throwSalt 60 = .ok (.invokevirtual 79, 3) := by decide +kernel
theorem dX0_throwSalt_63 : decode cX0_throwSalt 63 = .ok (.aload_n 0, 1) := by decide +kernel
theorem dX0_throwSalt_64 : decode cX0_throwSalt 64 = .ok (.dup, 1) := by decide +kernel
theorem dX0_throwSalt_65 : decode cX0_throwSalt 65 = .ok (.getfield 39, 3) := by decide +kernel
theorem dX0_throwSalt_68 : decode cX0_throwSalt 68 = .ok (.iload_n 3, 1) := by decide +kernel
theorem dX0_throwSalt_69 : decode cX0_throwSalt 69 = .ok (.isub, 1) := by decide +kernel
theorem dX0_throwSalt_70 : decode cX0_throwSalt 70 = .ok (.putfield 39, 3) := by decide +kernel
theorem dX0_throwSalt_73 : decode cX0_throwSalt 73 = .ok (.aload_n 0, 1) := by decide +kernel
theorem dX0_throwSalt_74 : decode cX0_throwSalt 74 = .ok (.iload_n 1, 1) := by decide +kernel
theorem dX0_throwSalt_75 : decode cX0_throwSalt 75 = .ok (.iload 4, 2) := by decide +kernel
theorem dX0_throwSalt_77 : decode cX0_throwSalt 77 = .ok (.iload_n 3, 1) := by decide +kernel
theorem dX0_throwSalt_78 : decode cX0_throwSalt 78 = .ok (.iload 5, 2) := by decide +kernel
theorem dX0_throwSalt_80 : decode cX0_throwSalt 80 = .ok (.invokevirtual 82, 3) := by decide +kernel
theorem dX0_throwSalt_83 : decode cX0_throwSalt 83 = .ok (.iload 5, 2) := by decide +kernel
theorem dX0_throwSalt_85 : decode cX0_throwSalt 85 = .ok (.ireturn, 1) := by decide +kernel
set_option maxRecDepth 20000 in
theorem ggX0_doPenance_X0_checkMember : GoodIn wsX0_doPenance wsX0_checkMember := goodIn_ca (goodIn_r _ [6, 7, 8, 9, 23, 24, 25, 26, 27, 28, 29, 30, 31, 32, 33, 34, 35, 36] (by decide +kernel) (by decide +kernel)) (goodIn_sub (fun _ h => List.mem_cons_of_mem _ (List.mem_append_left _ (List.mem_append_right _ h))) (by decide +kernel))
set_option maxRecDepth 20000 in
theorem gX0_doPenance_X0_checkMember : GoodIn wsX0_doPenance (wsV RX0 55 RX0 yX0_checkMember wsX0_checkMember) := goodIn_app (goodIn_of _ (by decide +kernel)) ggX0_doPenance_X0_checkMember
set_option maxRecDepth 20000 in
theorem ggX0_doPenance_X0_checkAmount : GoodIn wsX0_doPenance wsX0_checkAmount := goodIn_ca (goodIn_r _ [12, 13, 14] (by decide +kernel) (by decide +kernel)) (goodIn_sub (fun _ h => List.mem_cons_of_mem _ (List.mem_append_right _ h)) (by decide +kernel))
set_option maxRecDepth 20000 in
theorem gX0_doPenance_X0_checkAmount : GoodIn wsX0_doPenance (va_wsS RX0 59 yX0_checkAmount wsX0_checkAmount) := goodIn_app (goodIn_of _ (by decide +kernel)) ggX0_doPenance_X0_checkAmount
set_option maxRecDepth 20000 in
theorem ggX0_doPenance_X0_addLumps : GoodIn wsX0_doPenance wsX0_addLumps := goodIn_r _ [18, 1, 19, 20, 21, 22, 23, 24, 25, 26, 27, 28, 29, 30, 31, 32, 33, 34, 35, 36] (by decide +kernel) (by decide +kernel)
set_option maxRecDepth 20000 in
theorem gX0_doPenance_X0_addLumps : GoodIn wsX0_doPenance (wsV RX0 86 RX0 yX0_addLumps wsX0_addLumps) := goodIn_app (goodIn_of _ (by decide +kernel)) ggX0_doPenance_X0_addLumps
theorem dX0_doPenance_0 : decode cX0_doPenance 0 = .ok (.aload_n 0, 1) := by decide +kernel
theorem dX0_doPenance_1 : decode cX0_doPenance 1 = .ok (.iload_n 1, 1) := by decide +kernel
theorem dX0_doPenance_2 : decode cX0_doPenance 2 = .ok (.invokevirtual 55, 3) := by decide +kernel
theorem dX0_doPenance_5 : decode cX0_doPenance 5 = .ok (.iload_n 2, 1) := by decide +kernel
theorem dX0_doPenance_6 : decode cX0_doPenance 6 = .ok (.bipush 9, 2) := by decide +kernel
theorem dX0_doPenance_8 : decode cX0_doPenance 8 = .ok (.invokestatic 59, 3) := by decide +kernel
theorem dX0_doPenance_11 : decode cX0_doPenance 11 = .ok (.aload_n 0, 1) := by decide +kernel
theorem dX0_doPenance_12 : decode cX0_doPenance 12 = .ok (.iload_n 1, 1) := by decide +kernel
theorem dX0_doPenance_13 : decode cX0_doPenance 13 = .ok (.iload_n 2, 1) := by decide +kernel
theorem dX0_doPenance_14 : decode cX0_doPenance 14 = .ok (.invokevirtual 86, 3) := by decide +kernel
theorem dX0_doPenance_17 : decode cX0_doPenance 17 = .ok (.aload_n 0, 1) := by decide +kernel
theorem dX0_doPenance_18 : decode cX0_doPenance 18 = .ok (.getfield 16, 3) := by decide +kernel
theorem dX0_doPenance_21 : decode cX0_doPenance 21 = .ok (.iload_n 1, 1) := by decide +kernel
theorem dX0_doPenance_22 : decode cX0_doPenance 22 = .ok (.iaload, 1) := by decide +kernel
theorem dX0_doPenance_23 : decode cX0_doPenance 23 = .ok (.ireturn, 1) := by decide +kernel
set_option maxRecDepth 20000 in
theorem ggX0_bringSalt_X0_checkAmount : GoodIn wsX0_bringSalt wsX0_checkAmount := goodIn_ca (goodIn_r _ [9, 10, 11] (by decide +kernel) (by decide +kernel)) (goodIn_sub (fun _ h => List.mem_cons_of_mem _ (List.mem_append_right _ h)) (by decide +kernel))
set_option maxRecDepth 20000 in
theorem gX0_bringSalt_X0_checkAmount : GoodIn wsX0_bringSalt (va_wsS RX0 59 yX0_checkAmount wsX0_checkAmount) := goodIn_app (goodIn_of _ (by decide +kernel)) ggX0_bringSalt_X0_checkAmount
theorem dX0_bringSalt_0 : decode cX0_bringSalt 0 = .ok (.iload_n 1, 1) := by decide +kernel
theorem dX0_bringSalt_1 : decode cX0_bringSalt 1 = .ok (.sipush 500, 3) := by decide +kernel
theorem dX0_bringSalt_4 : decode cX0_bringSalt 4 = .ok (.invokestatic 59, 3) := by decide +kernel
theorem dX0_bringSalt_7 : decode cX0_bringSalt 7 = .ok (.aload_n 0, 1) := by decide +kernel
theorem dX0_bringSalt_8 : decode cX0_bringSalt 8 = .ok (.sipush 500, 3) := by decide +kernel
theorem dX0_bringSalt_11 : decode cX0_bringSalt 11 = .ok (.aload_n 0, 1) := by decide +kernel
theorem dX0_bringSalt_12 : decode cX0_bringSalt 12 = .ok (.getfield 39, 3) := by decide +kernel
theorem dX0_bringSalt_15 : decode cX0_bringSalt 15 = .ok (.iload_n 1, 1) := by decide +kernel
theorem dX0_bringSalt_16 : decode cX0_bringSalt 16 = .ok (.iadd, 1) := by decide +kernel
theorem dX0_bringSalt_17 : decode cX0_bringSalt 17 = .ok (.invokestatic 89, 3) := by decide +kernel
theorem dX0_bringSalt_20 : decode cX0_bringSalt 20 = .ok (.putfield 39, 3) := by decide +kernel
theorem dX0_bringSalt_23 : decode cX0_bringSalt 23 = .ok (.aload_n 0, 1) := by decide +kernel
theorem dX0_bringSalt_24 : decode cX0_bringSalt 24 = .ok (.getfield 39, 3) := by decide +kernel
theorem dX0_bringSalt_27 : decode cX0_bringSalt 27 = .ok (.ireturn, 1) := by decide +kernel
set_option maxRecDepth 20000 in
theorem ggX0_audit_X0_faults : GoodIn wsX0_audit wsX0_faults := goodIn_r _ [8, 2, 9, 24, 25, 26, 27, 28, 29, 30, 31, 32, 33, 34, 35, 36, 37] (by decide +kernel) (by decide +kernel)
set_option maxRecDepth 20000 in
theorem gX0_audit_X0_faults : GoodIn wsX0_audit (wsV RX0 94 RX0 yX0_faults wsX0_faults) := goodIn_app (goodIn_of _ (by decide +kernel)) ggX0_audit_X0_faults
set_option maxRecDepth 20000 in
theorem ggX0_audit_X0_debtOf : GoodIn wsX0_audit wsX0_debtOf := goodIn_r _ [13, 2, 14, 9, 24, 25, 26, 27, 28, 29, 30, 31, 32, 33, 34, 35, 36, 37] (by decide +kernel) (by decide +kernel)
set_option maxRecDepth 20000 in
theorem gX0_audit_X0_debtOf : GoodIn wsX0_audit (wsV RX0 98 RX0 yX0_debtOf wsX0_debtOf) := goodIn_app (goodIn_of _ (by decide +kernel)) ggX0_audit_X0_debtOf
set_option maxRecDepth 20000 in
theorem ggX0_audit_X0_addArrears : GoodIn wsX0_audit wsX0_addArrears := goodIn_r _ [18, 19, 20, 21, 22, 23, 24, 25, 26, 27, 28, 29, 30, 31, 32, 33, 34, 35, 36, 37] (by decide +kernel) (by decide +kernel)
set_option maxRecDepth 20000 in
theorem gX0_audit_X0_addArrears : GoodIn wsX0_audit (wsV RX0 66 RX0 yX0_addArrears wsX0_addArrears) := goodIn_app (goodIn_of _ (by decide +kernel)) ggX0_audit_X0_addArrears
theorem dX0_audit_0 : decode cX0_audit 0 = .ok (.aload_n 0, 1) := by decide +kernel
theorem dX0_audit_1 : decode cX0_audit 1 = .ok (.invokevirtual 94, 3) := by decide +kernel
theorem dX0_audit_4 : decode cX0_audit 4 = .ok (.istore_n 1, 1) := by decide +kernel
theorem dX0_audit_5 : decode cX0_audit 5 = .ok (.iconst 0, 1) := by decide +kernel
theorem dX0_audit_6 : decode cX0_audit 6 = .ok (.istore_n 2, 1) := by decide +kernel
theorem dX0_audit_7 : decode cX0_audit 7 = .ok (.iload_n 2, 1) := by decide +kernel
theorem dX0_audit_8 : decode cX0_audit 8 = .ok (.aload_n 0, 1) := by decide +kernel
theorem dX0_audit_9 : decode cX0_audit 9 = .ok (.getfield 32, 3) := by decide +kernel
theorem dX0_audit_12 : decode cX0_audit 12 = .ok (.if_icmp .ge 19, 3) := by decide +kernel
theorem dX0_audit_15 : decode cX0_audit 15 = .ok (.aload_n 0, 1) := by decide +kernel
theorem dX0_audit_16 : decode cX0_audit 16 = .ok (.iload_n 2, 1) := by decide +kernel
theorem dX0_audit_17 : decode cX0_audit 17 = .ok (.aload_n 0, 1) := by decide +kernel
theorem dX0_audit_18 : decode cX0_audit 18 = .ok (.iload_n 2, 1) := by decide +kernel
theorem dX0_audit_19 : decode cX0_audit 19 = .ok (.invokevirtual 98, 3) := by decide +kernel
theorem dX0_audit_22 : decode cX0_audit 22 = .ok (.invokevirtual 66, 3) := by decide +kernel
theorem dX0_audit_25 : decode cX0_audit 25 = .ok (.iinc 2 1, 3) := by decide +kernel
theorem dX0_audit_28 : decode cX0_audit 28 = .ok (.goto (-21), 3) := by decide +kernel
theorem dX0_audit_31 : decode cX0_audit 31 = .ok (.aload_n 0, 1) := by decide +kernel
theorem dX0_audit_32 : decode cX0_audit 32 = .ok (.iconst 0, 1) := by decide +kernel
theorem dX0_audit_33 : decode cX0_audit 33 = .ok (.putfield 36, 3) := by decide +kernel
theorem dX0_audit_36 : decode cX0_audit 36 = .ok (.aload_n 0, 1) := by decide +kernel
theorem dX0_audit_37 : decode cX0_audit 37 = .ok (.dup, 1) := by decide +kernel
theorem dX0_audit_38 : decode cX0_audit 38 = .ok (.getfield 45, 3) := by decide +kernel
theorem dX0_audit_41 : decode cX0_audit 41 = .ok (.iload_n 1, 1) := by decide +kernel
theorem dX0_audit_42 : decode cX0_audit 42 = .ok (.iadd, 1) := by decide +kernel
theorem dX0_audit_43 : decode cX0_audit 43 = .ok (.putfield 45, 3) := by decide +kernel
theorem dX0_audit_46 : decode cX0_audit 46 = .ok (.iload_n 1, 1) := by decide +kernel
theorem dX0_audit_47 : decode cX0_audit 47 = .ok (.ireturn, 1) := by decide +kernel
set_option maxRecDepth 20000 in
theorem ggX0_pass_X0_checkAmount : GoodIn wsX0_pass wsX0_checkAmount := goodIn_ca (goodIn_r _ [4, 5, 6] (by decide +kernel) (by decide +kernel)) (goodIn_sub (fun _ h => List.mem_cons_of_mem _ (List.mem_append_right _ h)) (by decide +kernel))
set_option maxRecDepth 20000 in
theorem gX0_pass_X0_checkAmount : GoodIn wsX0_pass (va_wsS RX0 59 yX0_checkAmount wsX0_checkAmount) := goodIn_app (goodIn_of _ (by decide +kernel)) ggX0_pass_X0_checkAmount
set_option maxRecDepth 20000 in
theorem ggX0_pass_X0_passOneDay : GoodIn wsX0_pass wsX0_passOneDay := goodIn_r _ [10, 11, 12, 13, 14, 3, 15, 16, 17, 18, 19, 20, 21, 22, 23, 24, 25, 26, 27, 28, 29, 30, 31, 32, 33, 34, 35, 36, 37, 38, 39, 40, 41, 42, 43, 44, 45, 46, 47, 48, 49, 50, 51, 52, 53, 54, 55, 56, 57, 58, 59, 60, 61, 62, 63, 64, 65, 66, 67, 68, 69, 70, 71] (by decide +kernel) (by decide +kernel)
set_option maxRecDepth 20000 in
theorem gX0_pass_X0_passOneDay : GoodIn wsX0_pass (wsV RX0 102 RX0 yX0_passOneDay wsX0_passOneDay) := goodIn_app (goodIn_of _ (by decide +kernel)) ggX0_pass_X0_passOneDay
theorem dX0_pass_0 : decode cX0_pass 0 = .ok (.iload_n 1, 1) := by decide +kernel
theorem dX0_pass_1 : decode cX0_pass 1 = .ok (.bipush 60, 2) := by decide +kernel
theorem dX0_pass_3 : decode cX0_pass 3 = .ok (.invokestatic 59, 3) := by decide +kernel
theorem dX0_pass_6 : decode cX0_pass 6 = .ok (.iconst 0, 1) := by decide +kernel
theorem dX0_pass_7 : decode cX0_pass 7 = .ok (.istore_n 2, 1) := by decide +kernel
theorem dX0_pass_8 : decode cX0_pass 8 = .ok (.iconst 0, 1) := by decide +kernel
theorem dX0_pass_9 : decode cX0_pass 9 = .ok (.istore_n 3, 1) := by decide +kernel
theorem dX0_pass_10 : decode cX0_pass 10 = .ok (.iload_n 3, 1) := by decide +kernel
theorem dX0_pass_11 : decode cX0_pass 11 = .ok (.iload_n 1, 1) := by decide +kernel
theorem dX0_pass_12 : decode cX0_pass 12 = .ok (.if_icmp .ge 16, 3) := by decide +kernel
theorem dX0_pass_15 : decode cX0_pass 15 = .ok (.iload_n 2, 1) := by decide +kernel
theorem dX0_pass_16 : decode cX0_pass 16 = .ok (.aload_n 0, 1) := by decide +kernel
theorem dX0_pass_17 : decode cX0_pass 17 = .ok (.invokevirtual 102, 3) := by decide +kernel
theorem dX0_pass_20 : decode cX0_pass 20 = .ok (.iadd, 1) := by decide +kernel
theorem dX0_pass_21 : decode cX0_pass 21 = .ok (.istore_n 2, 1) := by decide +kernel
theorem dX0_pass_22 : decode cX0_pass 22 = .ok (.iinc 3 1, 3) := by decide +kernel
theorem dX0_pass_25 : decode cX0_pass 25 = .ok (.goto (-15), 3) := by decide +kernel
theorem dX0_pass_28 : decode cX0_pass 28 = .ok (.iload_n 2, 1) := by decide +kernel
theorem dX0_pass_29 : decode cX0_pass 29 = .ok (.ireturn, 1) := by decide +kernel
theorem dX0_day_0 : decode cX0_day 0 = .ok (.aload_n 0, 1) := by decide +kernel
theorem dX0_day_1 : decode cX0_day 1 = .ok (.getfield 42, 3) := by decide +kernel
theorem dX0_day_4 : decode cX0_day 4 = .ok (.ireturn, 1) := by decide +kernel
theorem dX0_members_0 : decode cX0_members 0 = .ok (.aload_n 0, 1) := by decide +kernel
theorem dX0_members_1 : decode cX0_members 1 = .ok (.getfield 32, 3) := by decide +kernel
theorem dX0_members_4 : decode cX0_members 4 = .ok (.ireturn, 1) := by decide +kernel
set_option maxRecDepth 20000 in
theorem ggX0_luckOf_X0_checkMember : GoodIn wsX0_luckOf wsX0_checkMember := goodIn_ca (goodIn_r _ [6, 7, 8, 9, 10, 11, 12, 13, 14, 15, 16, 17, 18, 19, 20, 21, 22, 23] (by decide +kernel) (by decide +kernel)) (goodIn_sub (fun _ h => List.mem_cons_of_mem _ (List.mem_append_right _ h)) (by decide +kernel))
set_option maxRecDepth 20000 in
theorem gX0_luckOf_X0_checkMember : GoodIn wsX0_luckOf (wsV RX0 55 RX0 yX0_checkMember wsX0_checkMember) := goodIn_app (goodIn_of _ (by decide +kernel)) ggX0_luckOf_X0_checkMember
theorem dX0_luckOf_0 : decode cX0_luckOf 0 = .ok (.aload_n 0, 1) := by decide +kernel
theorem dX0_luckOf_1 : decode cX0_luckOf 1 = .ok (.iload_n 1, 1) := by decide +kernel
theorem dX0_luckOf_2 : decode cX0_luckOf 2 = .ok (.invokevirtual 55, 3) := by decide +kernel
theorem dX0_luckOf_5 : decode cX0_luckOf 5 = .ok (.aload_n 0, 1) := by decide +kernel
theorem dX0_luckOf_6 : decode cX0_luckOf 6 = .ok (.getfield 9, 3) := by decide +kernel
theorem dX0_luckOf_9 : decode cX0_luckOf 9 = .ok (.iload_n 1, 1) := by decide +kernel
theorem dX0_luckOf_10 : decode cX0_luckOf 10 = .ok (.iaload, 1) := by decide +kernel
theorem dX0_luckOf_11 : decode cX0_luckOf 11 = .ok (.ireturn, 1) := by decide +kernel
set_option maxRecDepth 20000 in
theorem ggX0_arrearsOf_X0_checkMember : GoodIn wsX0_arrearsOf wsX0_checkMember := goodIn_ca (goodIn_r _ [6, 7, 8, 9, 10, 11, 12, 13, 14, 15, 16, 17, 18, 19, 20, 21, 22, 23] (by decide +kernel) (by decide +kernel)) (goodIn_sub (fun _ h => List.mem_cons_of_mem _ (List.mem_append_right _ h)) (by decide +kernel))
set_option maxRecDepth 20000 in
theorem gX0_arrearsOf_X0_checkMember : GoodIn wsX0_arrearsOf (wsV RX0 55 RX0 yX0_checkMember wsX0_checkMember) := goodIn_app (goodIn_of _ (by decide +kernel)) ggX0_arrearsOf_X0_checkMember
theorem dX0_arrearsOf_0 : decode cX0_arrearsOf 0 = .ok (.aload_n 0, 1) := by decide +kernel
theorem dX0_arrearsOf_1 : decode cX0_arrearsOf 1 = .ok (.iload_n 1, 1) := by decide +kernel
theorem dX0_arrearsOf_2 : decode cX0_arrearsOf 2 = .ok (.invokevirtual 55, 3) := by decide +kernel
theorem dX0_arrearsOf_5 : decode cX0_arrearsOf 5 = .ok (.aload_n 0, 1) := by decide +kernel
theorem dX0_arrearsOf_6 : decode cX0_arrearsOf 6 = .ok (.getfield 13, 3) := by decide +kernel
theorem dX0_arrearsOf_9 : decode cX0_arrearsOf 9 = .ok (.iload_n 1, 1) := by decide +kernel
theorem dX0_arrearsOf_10 : decode cX0_arrearsOf 10 = .ok (.iaload, 1) := by decide +kernel
theorem dX0_arrearsOf_11 : decode cX0_arrearsOf 11 = .ok (.ireturn, 1) := by decide +kernel
set_option maxRecDepth 20000 in
theorem ggX0_lumpsOf_X0_checkMember : GoodIn wsX0_lumpsOf wsX0_checkMember := goodIn_ca (goodIn_r _ [6, 7, 8, 9, 10, 11, 12, 13, 14, 15, 16, 17, 18, 19, 20, 21, 22, 23] (by decide +kernel) (by decide +kernel)) (goodIn_sub (fun _ h => List.mem_cons_of_mem _ (List.mem_append_right _ h)) (by decide +kernel))
set_option maxRecDepth 20000 in
theorem gX0_lumpsOf_X0_checkMember : GoodIn wsX0_lumpsOf (wsV RX0 55 RX0 yX0_checkMember wsX0_checkMember) := goodIn_app (goodIn_of _ (by decide +kernel)) ggX0_lumpsOf_X0_checkMember
theorem dX0_lumpsOf_0 : decode cX0_lumpsOf 0 = .ok (.aload_n 0, 1) := by decide +kernel
theorem dX0_lumpsOf_1 : decode cX0_lumpsOf 1 = .ok (.iload_n 1, 1) := by decide +kernel
theorem dX0_lumpsOf_2 : decode cX0_lumpsOf 2 = .ok (.invokevirtual 55, 3) := by decide +kernel
theorem dX0_lumpsOf_5 : decode cX0_lumpsOf 5 = .ok (.aload_n 0, 1) := by decide +kernel
theorem dX0_lumpsOf_6 : decode cX0_lumpsOf 6 = .ok (.getfield 16, 3) := by decide +kernel
theorem dX0_lumpsOf_9 : decode cX0_lumpsOf 9 = .ok (.iload_n 1, 1) := by decide +kernel
theorem dX0_lumpsOf_10 : decode cX0_lumpsOf 10 = .ok (.iaload, 1) := by decide +kernel
theorem dX0_lumpsOf_11 : decode cX0_lumpsOf 11 = .ok (.ireturn, 1) := by decide +kernel
set_option maxRecDepth 20000 in
theorem ggX0_dailyLoss_X0_checkMember : GoodIn wsX0_dailyLoss wsX0_checkMember := goodIn_ca (goodIn_r _ [5, 6, 7, 8, 15, 16, 17, 18, 19, 20, 21, 22, 23, 24, 25, 26, 27, 28] (by decide +kernel) (by decide +kernel)) (goodIn_sub (fun _ h => List.mem_cons_of_mem _ (List.mem_append_right _ h)) (by decide +kernel))
set_option maxRecDepth 20000 in
theorem gX0_dailyLoss_X0_checkMember : GoodIn wsX0_dailyLoss (wsV RX0 55 RX0 yX0_checkMember wsX0_checkMember) := goodIn_app (goodIn_of _ (by decide +kernel)) ggX0_dailyLoss_X0_checkMember
set_option maxRecDepth 20000 in
theorem ggX0_dailyLoss_X0_lossOf : GoodIn wsX0_dailyLoss wsX0_lossOf := goodIn_r _ [12, 13, 14, 15, 16, 17, 18, 19, 20, 21, 22, 23, 24, 25, 26, 27, 28] (by decide +kernel) (by decide +kernel)
set_option maxRecDepth 20000 in
theorem gX0_dailyLoss_X0_lossOf : GoodIn wsX0_dailyLoss (wsV RX0 105 RX0 yX0_lossOf wsX0_lossOf) := goodIn_app (goodIn_of _ (by decide +kernel)) ggX0_dailyLoss_X0_lossOf
theorem dX0_dailyLoss_0 : decode cX0_dailyLoss 0 = .ok (.aload_n 0, 1) := by decide +kernel
theorem dX0_dailyLoss_1 : decode cX0_dailyLoss 1 = .ok (.iload_n 1, 1) := by decide +kernel
theorem dX0_dailyLoss_2 : decode cX0_dailyLoss 2 = .ok (.invokevirtual 55, 3) := by decide +kernel
theorem dX0_dailyLoss_5 : decode cX0_dailyLoss 5 = .ok (.aload_n 0, 1) := by decide +kernel
theorem dX0_dailyLoss_6 : decode cX0_dailyLoss 6 = .ok (.iload_n 1, 1) := by decide +kernel
theorem dX0_dailyLoss_7 : decode cX0_dailyLoss 7 = .ok (.invokevirtual 105, 3) := by decide +kernel
theorem dX0_dailyLoss_10 : decode cX0_dailyLoss 10 = .ok (.ireturn, 1) := by decide +kernel
theorem dX0_luckiest_0 : decode cX0_luckiest 0 = .ok (.iconst (-1), 1) := by decide +kernel
theorem dX0_luckiest_1 : decode cX0_luckiest 1 = .ok (.istore_n 1, 1) := by decide +kernel
theorem dX0_luckiest_2 : decode cX0_luckiest 2 = .ok (.iconst (-1), 1) := by decide +kernel
theorem dX0_luckiest_3 : decode cX0_luckiest 3 = .ok (.istore_n 2, 1) := by decide +kernel
theorem dX0_luckiest_4 : decode cX0_luckiest 4 = .ok (.iconst 0, 1) := by decide +kernel
theorem dX0_luckiest_5 : decode cX0_luckiest 5 = .ok (.istore_n 3, 1) := by decide +kernel
theorem dX0_luckiest_6 : decode cX0_luckiest 6 = .ok (.iload_n 3, 1) := by decide +kernel
theorem dX0_luckiest_7 : decode cX0_luckiest 7 = .ok (.aload_n 0, 1) := by decide +kernel
theorem dX0_luckiest_8 : decode cX0_luckiest 8 = .ok (.getfield 32, 3) := by decide +kernel
theorem dX0_luckiest_11 : decode cX0_luckiest 11 = .ok (.if_icmp .ge 28, 3) := by decide +kernel
theorem dX0_luckiest_14 : decode cX0_luckiest 14 = .ok (.aload_n 0, 1) := by decide +kernel
theorem dX0_luckiest_15 : decode cX0_luckiest 15 = .ok (.getfield 9, 3) := by decide +kernel
theorem dX0_luckiest_18 : decode cX0_luckiest 18 = .ok (.iload_n 3, 1) := by decide +kernel
theorem dX0_luckiest_19 : decode cX0_luckiest 19 = .ok (.iaload, 1) := by decide +kernel
theorem dX0_luckiest_20 : decode cX0_luckiest 20 = .ok (.iload_n 2, 1) := by decide +kernel
theorem dX0_luckiest_21 : decode cX0_luckiest 21 = .ok (.if_icmp .le 12, 3) := by decide +kernel
theorem dX0_luckiest_24 : decode cX0_luckiest 24 = .ok (.iload_n 3, 1) := by decide +kernel
theorem dX0_luckiest_25 : decode cX0_luckiest 25 = .ok (.istore_n 1, 1) := by decide +kernel
theorem dX0_luckiest_26 : decode cX0_luckiest 26 = .ok (.aload_n 0, 1) := by decide +kernel
theorem dX0_luckiest_27 : decode cX0_luckiest 27 = .ok (.getfield 9, 3) := by decide +kernel
theorem dX0_luckiest_30 : decode cX0_luckiest 30 = .ok (.iload_n 3, 1) := by decide +kernel
theorem dX0_luckiest_31 : decode cX0_luckiest 31 = .ok (.iaload, 1) := by decide +kernel
theorem dX0_luckiest_32 : decode cX0_luckiest 32 = .ok (.istore_n 2, 1) := by decide +kernel
theorem dX0_luckiest_33 : decode cX0_luckiest 33 = .ok (.iinc 3 1, 3) := by decide +kernel
theorem dX0_luckiest_36 : decode cX0_luckiest 36 = .ok (.goto (-30), 3) := by decide +kernel
theorem dX0_luckiest_39 : decode cX0_luckiest 39 = .ok (.iload_n 1, 1) := by decide +kernel
theorem dX0_luckiest_40 : decode cX0_luckiest 40 = .ok (.ireturn, 1) := by decide +kernel
theorem dX0_allArrears_0 : decode cX0_allArrears 0 = .ok (.iconst 0, 1) := by decide +kernel
theorem dX0_allArrears_1 : decode cX0_allArrears 1 = .ok (.istore_n 1, 1) := by decide +kernel
theorem dX0_allArrears_2 : decode cX0_allArrears 2 = .ok (.iconst 0, 1) := by decide +kernel
theorem dX0_allArrears_3 : decode cX0_allArrears 3 = .ok (.istore_n 2, 1) := by decide +kernel
theorem dX0_allArrears_4 : decode cX0_allArrears 4 = .ok (.iload_n 2, 1) := by decide +kernel
theorem dX0_allArrears_5 : decode cX0_allArrears 5 = .ok (.aload_n 0, 1) := by decide +kernel
theorem dX0_allArrears_6 : decode cX0_allArrears 6 = .ok (.getfield 32, 3) := by decide +kernel
theorem dX0_allArrears_9 : decode cX0_allArrears 9 = .ok (.if_icmp .ge 18, 3) := by decide +kernel
theorem dX0_allArrears_12 : decode cX0_allArrears 12 = .ok (.iload_n 1, 1) := by decide +kernel
theorem dX0_allArrears_13 : decode cX0_allArrears 13 = .ok (.aload_n 0, 1) := by decide +kernel
theorem dX0_allArrears_14 : decode cX0_allArrears 14 = .ok (.getfield 13, 3) := by decide +kernel
theorem dX0_allArrears_17 : decode cX0_allArrears 17 = .ok (.iload_n 2, 1) := by decide +kernel
theorem dX0_allArrears_18 : decode cX0_allArrears 18 = .ok (.iaload, 1) := by decide +kernel
theorem dX0_allArrears_19 : decode cX0_allArrears 19 = .ok (.iadd, 1) := by decide +kernel
theorem dX0_allArrears_20 : decode cX0_allArrears 20 = .ok (.istore_n 1, 1) := by decide +kernel
theorem dX0_allArrears_21 : decode cX0_allArrears 21 = .ok (.iinc 2 1, 3) := by decide +kernel
theorem dX0_allArrears_24 : decode cX0_allArrears 24 = .ok (.goto (-20), 3) := by decide +kernel
theorem dX0_allArrears_27 : decode cX0_allArrears 27 = .ok (.iload_n 1, 1) := by decide +kernel
theorem dX0_allArrears_28 : decode cX0_allArrears 28 = .ok (.ireturn, 1) := by decide +kernel
theorem dX0_clearMembers_0 : decode cX0_clearMembers 0 = .ok (.iconst 0, 1) := by decide +kernel
theorem dX0_clearMembers_1 : decode cX0_clearMembers 1 = .ok (.istore_n 1, 1) := by decide +kernel
theorem dX0_clearMembers_2 : decode cX0_clearMembers 2 = .ok (.iconst 0, 1) := by decide +kernel
theorem dX0_clearMembers_3 : decode cX0_clearMembers 3 = .ok (.istore_n 2, 1) := by decide +kernel
theorem dX0_clearMembers_4 : decode cX0_clearMembers 4 = .ok (.iload_n 2, 1) := by decide +kernel
theorem dX0_clearMembers_5 : decode cX0_clearMembers 5 = .ok (.aload_n 0, 1) := by decide +kernel
theorem dX0_clearMembers_6 : decode cX0_clearMembers 6 = .ok (.getfield 32, 3) := by decide +kernel
theorem dX0_clearMembers_9 : decode cX0_clearMembers 9 = .ok (.if_icmp .ge 21, 3) := by decide +kernel
theorem dX0_clearMembers_12 : decode cX0_clearMembers 12 = .ok (.aload_n 0, 1) := by decide +kernel
theorem dX0_clearMembers_13 : decode cX0_clearMembers 13 = .ok (.getfield 13, 3) := by decide +kernel
theorem dX0_clearMembers_16 : decode cX0_clearMembers 16 = .ok (.iload_n 2, 1) := by decide +kernel
theorem dX0_clearMembers_17 : decode cX0_clearMembers 17 = .ok (.iaload, 1) := by decide +kernel
theorem dX0_clearMembers_18 : decode cX0_clearMembers 18 = .ok (.ifCond .ne 6, 3) := by decide +kernel
theorem dX0_clearMembers_21 : decode cX0_clearMembers 21 = .ok (.iinc 1 1, 3) := by decide +kernel
theorem dX0_clearMembers_24 : decode cX0_clearMembers 24 = .ok (.iinc 2 1, 3) := by decide +kernel
theorem dX0_clearMembers_27 : decode cX0_clearMembers 27 = .ok (.goto (-23), 3) := by decide +kernel
theorem dX0_clearMembers_30 : decode cX0_clearMembers 30 = .ok (.iload_n 1, 1) := by decide +kernel
theorem dX0_clearMembers_31 : decode cX0_clearMembers 31 = .ok (.ireturn, 1) := by decide +kernel
theorem dX0_salt_0 : decode cX0_salt 0 = .ok (.aload_n 0, 1) := by decide +kernel
theorem dX0_salt_1 : decode cX0_salt 1 = .ok (.getfield 39, 3) := by decide +kernel
theorem dX0_salt_4 : decode cX0_salt 4 = .ok (.ireturn, 1) := by decide +kernel
theorem dX0_ledger_0 : decode cX0_ledger 0 = .ok (.aload_n 0, 1) := by decide +kernel
theorem dX0_ledger_1 : decode cX0_ledger 1 = .ok (.getfield 36, 3) := by decide +kernel
theorem dX0_ledger_4 : decode cX0_ledger 4 = .ok (.ireturn, 1) := by decide +kernel
set_option maxRecDepth 20000 in
theorem ggX0_memberOf_X0_checkEntry : GoodIn wsX0_memberOf wsX0_checkEntry := goodIn_ca (goodIn_r _ [6, 7, 8, 9, 10, 11, 12, 13, 14, 15, 16, 17, 18, 19, 20, 21, 22, 23] (by decide +kernel) (by decide +kernel)) (goodIn_sub (fun _ h => List.mem_cons_of_mem _ (List.mem_append_right _ h)) (by decide +kernel))
set_option maxRecDepth 20000 in
theorem gX0_memberOf_X0_checkEntry : GoodIn wsX0_memberOf (wsV RX0 108 RX0 yX0_checkEntry wsX0_checkEntry) := goodIn_app (goodIn_of _ (by decide +kernel)) ggX0_memberOf_X0_checkEntry
theorem dX0_memberOf_0 : decode cX0_memberOf 0 = .ok (.aload_n 0, 1) := by decide +kernel
theorem dX0_memberOf_1 : decode cX0_memberOf 1 = .ok (.iload_n 1, 1) := by decide +kernel
theorem dX0_memberOf_2 : decode cX0_memberOf 2 = .ok (.invokevirtual 108, 3) := by decide +kernel
theorem dX0_memberOf_5 : decode cX0_memberOf 5 = .ok (.aload_n 0, 1) := by decide +kernel
theorem dX0_memberOf_6 : decode cX0_memberOf 6 = .ok (.getfield 19, 3) := by decide +kernel
theorem dX0_memberOf_9 : decode cX0_memberOf 9 = .ok (.iload_n 1, 1) := by decide +kernel
theorem dX0_memberOf_10 : decode cX0_memberOf 10 = .ok (.iaload, 1) := by decide +kernel
theorem dX0_memberOf_11 : decode cX0_memberOf 11 = .ok (.ireturn, 1) := by decide +kernel
set_option maxRecDepth 20000 in
theorem ggX0_isLeft_X0_checkEntry : GoodIn wsX0_isLeft wsX0_checkEntry := goodIn_ca (goodIn_r _ [6, 7, 8, 9, 10, 11, 12, 13, 14, 15, 16, 17, 18, 19, 20, 21, 22, 23] (by decide +kernel) (by decide +kernel)) (goodIn_sub (fun _ h => List.mem_cons_of_mem _ (List.mem_append_right _ h)) (by decide +kernel))
set_option maxRecDepth 20000 in
theorem gX0_isLeft_X0_checkEntry : GoodIn wsX0_isLeft (wsV RX0 108 RX0 yX0_checkEntry wsX0_checkEntry) := goodIn_app (goodIn_of _ (by decide +kernel)) ggX0_isLeft_X0_checkEntry
theorem dX0_isLeft_0 : decode cX0_isLeft 0 = .ok (.aload_n 0, 1) := by decide +kernel
theorem dX0_isLeft_1 : decode cX0_isLeft 1 = .ok (.iload_n 1, 1) := by decide +kernel
theorem dX0_isLeft_2 : decode cX0_isLeft 2 = .ok (.invokevirtual 108, 3) := by decide +kernel
theorem dX0_isLeft_5 : decode cX0_isLeft 5 = .ok (.aload_n 0, 1) := by decide +kernel
theorem dX0_isLeft_6 : decode cX0_isLeft 6 = .ok (.getfield 22, 3) := by decide +kernel
theorem dX0_isLeft_9 : decode cX0_isLeft 9 = .ok (.iload_n 1, 1) := by decide +kernel
theorem dX0_isLeft_10 : decode cX0_isLeft 10 = .ok (.baload, 1) := by decide +kernel
theorem dX0_isLeft_11 : decode cX0_isLeft 11 = .ok (.ireturn, 1) := by decide +kernel
set_option maxRecDepth 20000 in
theorem ggX0_grainsOf_X0_checkEntry : GoodIn wsX0_grainsOf wsX0_checkEntry := goodIn_ca (goodIn_r _ [6, 7, 8, 9, 10, 11, 12, 13, 14, 15, 16, 17, 18, 19, 20, 21, 22, 23] (by decide +kernel) (by decide +kernel)) (goodIn_sub (fun _ h => List.mem_cons_of_mem _ (List.mem_append_right _ h)) (by decide +kernel))
set_option maxRecDepth 20000 in
theorem gX0_grainsOf_X0_checkEntry : GoodIn wsX0_grainsOf (wsV RX0 108 RX0 yX0_checkEntry wsX0_checkEntry) := goodIn_app (goodIn_of _ (by decide +kernel)) ggX0_grainsOf_X0_checkEntry
theorem dX0_grainsOf_0 : decode cX0_grainsOf 0 = .ok (.aload_n 0, 1) := by decide +kernel
theorem dX0_grainsOf_1 : decode cX0_grainsOf 1 = .ok (.iload_n 1, 1) := by decide +kernel
theorem dX0_grainsOf_2 : decode cX0_grainsOf 2 = .ok (.invokevirtual 108, 3) := by decide +kernel
theorem dX0_grainsOf_5 : decode cX0_grainsOf 5 = .ok (.aload_n 0, 1) := by decide +kernel
theorem dX0_grainsOf_6 : decode cX0_grainsOf 6 = .ok (.getfield 26, 3) := by decide +kernel
theorem dX0_grainsOf_9 : decode cX0_grainsOf 9 = .ok (.iload_n 1, 1) := by decide +kernel
theorem dX0_grainsOf_10 : decode cX0_grainsOf 10 = .ok (.iaload, 1) := by decide +kernel
theorem dX0_grainsOf_11 : decode cX0_grainsOf 11 = .ok (.ireturn, 1) := by decide +kernel
set_option maxRecDepth 20000 in
theorem ggX0_excessOf_X0_checkEntry : GoodIn wsX0_excessOf wsX0_checkEntry := goodIn_ca (goodIn_r _ [6, 7, 8, 9, 10, 11, 12, 13, 14, 15, 16, 17, 18, 19, 20, 21, 22, 23] (by decide +kernel) (by decide +kernel)) (goodIn_sub (fun _ h => List.mem_cons_of_mem _ (List.mem_append_right _ h)) (by decide +kernel))
set_option maxRecDepth 20000 in
theorem gX0_excessOf_X0_checkEntry : GoodIn wsX0_excessOf (wsV RX0 108 RX0 yX0_checkEntry wsX0_checkEntry) := goodIn_app (goodIn_of _ (by decide +kernel)) ggX0_excessOf_X0_checkEntry
theorem dX0_excessOf_0 : decode cX0_excessOf 0 = .ok (.aload_n 0, 1) := by decide +kernel
theorem dX0_excessOf_1 : decode cX0_excessOf 1 = .ok (.iload_n 1, 1) := by decide +kernel
theorem dX0_excessOf_2 : decode cX0_excessOf 2 = .ok (.invokevirtual 108, 3) := by decide +kernel
theorem dX0_excessOf_5 : decode cX0_excessOf 5 = .ok (.aload_n 0, 1) := by decide +kernel
theorem dX0_excessOf_6 : decode cX0_excessOf 6 = .ok (.getfield 29, 3) := by decide +kernel
theorem dX0_excessOf_9 : decode cX0_excessOf 9 = .ok (.iload_n 1, 1) := by decide +kernel
theorem dX0_excessOf_10 : decode cX0_excessOf 10 = .ok (.iaload, 1) := by decide +kernel
theorem dX0_excessOf_11 : decode cX0_excessOf 11 = .ok (.ireturn, 1) := by decide +kernel
theorem dX0_faults_0 : decode cX0_faults 0 = .ok (.iconst 0, 1) := by decide +kernel
theorem dX0_faults_1 : decode cX0_faults 1 = .ok (.istore_n 1, 1) := by decide +kernel
theorem dX0_faults_2 : decode cX0_faults 2 = .ok (.iconst 0, 1) := by decide +kernel
theorem dX0_faults_3 : decode cX0_faults 3 = .ok (.istore_n 2, 1) := by decide +kernel
theorem dX0_faults_4 : decode cX0_faults 4 = .ok (.iload_n 2, 1) := by decide +kernel
theorem dX0_faults_5 : decode cX0_faults 5 = .ok (.aload_n 0, 1) := by decide +kernel
theorem dX0_faults_6 : decode cX0_faults 6 = .ok (.getfield 36, 3) := by decide +kernel
theorem dX0_faults_9 : decode cX0_faults 9 = .ok (.if_icmp .ge 21, 3) := by decide +kernel
theorem dX0_faults_12 : decode cX0_faults 12 = .ok (.aload_n 0, 1) := by decide +kernel
theorem dX0_faults_13 : decode cX0_faults 13 = .ok (.getfield 29, 3) := by decide +kernel
theorem dX0_faults_16 : decode cX0_faults 16 = .ok (.iload_n 2, 1) := by decide +kernel
theorem dX0_faults_17 : decode cX0_faults 17 = .ok (.iaload, 1) := by decide +kernel
theorem dX0_faults_18 : decode cX0_faults 18 = .ok (.ifCond .le 6, 3) := by decide +kernel
theorem dX0_faults_21 : decode cX0_faults 21 = .ok (.iinc 1 1, 3) := by decide +kernel
theorem dX0_faults_24 : decode cX0_faults 24 = .ok (.iinc 2 1, 3) := by decide +kernel
theorem dX0_faults_27 : decode cX0_faults 27 = .ok (.goto (-23), 3) := by decide +kernel
theorem dX0_faults_30 : decode cX0_faults 30 = .ok (.iload_n 1, 1) := by decide +kernel
theorem dX0_faults_31 : decode cX0_faults 31 = .ok (.ireturn, 1) := by decide +kernel
set_option maxRecDepth 20000 in
theorem ggX0_arrearsByAudit_X0_checkMember : GoodIn wsX0_arrearsByAudit wsX0_checkMember := goodIn_ca (goodIn_r _ [5, 6, 7, 8, 16, 17, 18, 19, 20, 21, 22, 23, 24, 25, 26, 27, 28, 29] (by decide +kernel) (by decide +kernel)) (goodIn_sub (fun _ h => List.mem_cons_of_mem _ (List.mem_append_right _ h)) (by decide +kernel))
set_option maxRecDepth 20000 in
theorem gX0_arrearsByAudit_X0_checkMember : GoodIn wsX0_arrearsByAudit (wsV RX0 55 RX0 yX0_checkMember wsX0_checkMember) := goodIn_app (goodIn_of _ (by decide +kernel)) ggX0_arrearsByAudit_X0_checkMember
set_option maxRecDepth 20000 in
theorem ggX0_arrearsByAudit_X0_debtOf : GoodIn wsX0_arrearsByAudit wsX0_debtOf := goodIn_r _ [12, 13, 14, 15, 16, 17, 18, 19, 20, 21, 22, 23, 24, 25, 26, 27, 28, 29] (by decide +kernel) (by decide +kernel)
set_option maxRecDepth 20000 in
theorem gX0_arrearsByAudit_X0_debtOf : GoodIn wsX0_arrearsByAudit (wsV RX0 98 RX0 yX0_debtOf wsX0_debtOf) := goodIn_app (goodIn_of _ (by decide +kernel)) ggX0_arrearsByAudit_X0_debtOf
theorem dX0_arrearsByAudit_0 : decode cX0_arrearsByAudit 0 = .ok (.aload_n 0, 1) := by decide +kernel
theorem dX0_arrearsByAudit_1 : decode cX0_arrearsByAudit 1 = .ok (.iload_n 1, 1) := by decide +kernel
theorem dX0_arrearsByAudit_2 : decode cX0_arrearsByAudit 2 = .ok (.invokevirtual 55, 3) := by decide +kernel
theorem dX0_arrearsByAudit_5 : decode cX0_arrearsByAudit 5 = .ok (.aload_n 0, 1) := by decide +kernel
theorem dX0_arrearsByAudit_6 : decode cX0_arrearsByAudit 6 = .ok (.iload_n 1, 1) := by decide +kernel
theorem dX0_arrearsByAudit_7 : decode cX0_arrearsByAudit 7 = .ok (.invokevirtual 98, 3) := by decide +kernel
theorem dX0_arrearsByAudit_10 : decode cX0_arrearsByAudit 10 = .ok (.ireturn, 1) := by decide +kernel
theorem dX0_daysUntilAudit_0 : decode cX0_daysUntilAudit 0 = .ok (.bipush 6, 2) := by decide +kernel
theorem dX0_daysUntilAudit_2 : decode cX0_daysUntilAudit 2 = .ok (.aload_n 0, 1) := by decide +kernel
theorem dX0_daysUntilAudit_3 : decode cX0_daysUntilAudit 3 = .ok (.getfield 42, 3) := by decide +kernel
theorem dX0_daysUntilAudit_6 : decode cX0_daysUntilAudit 6 = .ok (.bipush 7, 2) := by decide +kernel
theorem dX0_daysUntilAudit_8 : decode cX0_daysUntilAudit 8 = .ok (.irem, 1) := by decide +kernel
theorem dX0_daysUntilAudit_9 : decode cX0_daysUntilAudit 9 = .ok (.isub, 1) := by decide +kernel
theorem dX0_daysUntilAudit_10 : decode cX0_daysUntilAudit 10 = .ok (.ireturn, 1) := by decide +kernel
theorem dX0_faultsFound_0 : decode cX0_faultsFound 0 = .ok (.aload_n 0, 1) := by decide +kernel
theorem dX0_faultsFound_1 : decode cX0_faultsFound 1 = .ok (.getfield 45, 3) := by decide +kernel
theorem dX0_faultsFound_4 : decode cX0_faultsFound 4 = .ok (.ireturn, 1) := by decide +kernel
set_option maxRecDepth 20000 in
theorem ggX0_luckIn_X0_checkMember : GoodIn wsX0_luckIn wsX0_checkMember := goodIn_ca (goodIn_r _ [5, 6, 7, 8, 65, 66, 67, 68, 69, 70, 71, 72, 73, 74, 75, 76, 77, 78] (by decide +kernel) (by decide +kernel)) (goodIn_sub (fun _ h => List.mem_cons_of_mem _ (List.mem_append_left _ (List.mem_append_right _ h))) (by decide +kernel))
set_option maxRecDepth 20000 in
theorem gX0_luckIn_X0_checkMember : GoodIn wsX0_luckIn (wsV RX0 55 RX0 yX0_checkMember wsX0_checkMember) := goodIn_app (goodIn_of _ (by decide +kernel)) ggX0_luckIn_X0_checkMember
set_option maxRecDepth 20000 in
theorem ggX0_luckIn_X0_checkAmount : GoodIn wsX0_luckIn wsX0_checkAmount := goodIn_ca (goodIn_r _ [11, 12, 13] (by decide +kernel) (by decide +kernel)) (goodIn_sub (fun _ h => List.mem_cons_of_mem _ (List.mem_append_right _ h)) (by decide +kernel))
set_option maxRecDepth 20000 in
theorem gX0_luckIn_X0_checkAmount : GoodIn wsX0_luckIn (va_wsS RX0 59 yX0_checkAmount wsX0_checkAmount) := goodIn_app (goodIn_of _ (by decide +kernel)) ggX0_luckIn_X0_checkAmount
set_option maxRecDepth 20000 in
theorem ggX0_luckIn_X0_beginTrial : GoodIn wsX0_luckIn wsX0_beginTrial := goodIn_r _ [17, 18, 19, 20, 21, 22, 23, 24, 25, 26, 4, 27, 28, 29, 30, 65, 66, 67, 68, 69, 70, 71, 72, 73, 74, 75, 76, 77, 78] (by decide +kernel) (by decide +kernel)
set_option maxRecDepth 20000 in
theorem gX0_luckIn_X0_beginTrial : GoodIn wsX0_luckIn (wsV RX0 111 RX0 yX0_beginTrial wsX0_beginTrial) := goodIn_app (goodIn_of _ (by decide +kernel)) ggX0_luckIn_X0_beginTrial
set_option maxRecDepth 20000 in
theorem ggX0_luckIn_X0_trialLuckBehind : GoodIn wsX0_luckIn wsX0_trialLuckBehind := goodIn_r _ [34, 18, 35, 36, 37, 4, 38, 22, 23, 39, 40, 41, 42, 43, 44, 45, 19, 46, 47, 48, 49, 50, 51, 52, 53, 20, 54, 55, 56, 57, 58, 59, 60, 61, 62, 63, 64, 65, 66, 67, 68, 69, 70, 71, 72, 73, 74, 75, 76, 77, 78] (by decide +kernel) (by decide +kernel)
set_option maxRecDepth 20000 in
theorem gX0_luckIn_X0_trialLuckBehind : GoodIn wsX0_luckIn (wsV RX0 114 RX0 yX0_trialLuckBehind wsX0_trialLuckBehind) := goodIn_app (goodIn_of _ (by decide +kernel)) ggX0_luckIn_X0_trialLuckBehind
theorem dX0_luckIn_0 : decode cX0_luckIn 0 = .ok (.aload_n 0, 1) := by decide +kernel
theorem dX0_luckIn_1 : decode cX0_luckIn 1 = .ok (.iload_n 1, 1) := by decide +kernel
theorem dX0_luckIn_2 : decode cX0_luckIn 2 = .ok (.invokevirtual 55, 3) := by decide +kernel
theorem dX0_luckIn_5 : decode cX0_luckIn 5 = .ok (.iload_n 2, 1) := by decide +kernel
theorem dX0_luckIn_6 : decode cX0_luckIn 6 = .ok (.bipush 60, 2) := by decide +kernel
theorem dX0_luckIn_8 : decode cX0_luckIn 8 = .ok (.invokestatic 59, 3) := by decide +kernel
theorem dX0_luckIn_11 : decode cX0_luckIn 11 = .ok (.aload_n 0, 1) := by decide +kernel
theorem dX0_luckIn_12 : decode cX0_luckIn 12 = .ok (.iload_n 1, 1) := by decide +kernel
theorem dX0_luckIn_13 : decode cX0_luckIn 13 = .ok (.invokevirtual 111, 3) := by decide +kernel
theorem dX0_luckIn_16 : decode cX0_luckIn 16 = .ok (.aload_n 0, 1) := by decide +kernel
theorem dX0_luckIn_17 : decode cX0_luckIn 17 = .ok (.iload_n 2, 1) := by decide +kernel
theorem dX0_luckIn_18 : decode cX0_luckIn 18 = .ok (.invokevirtual 114, 3) := by decide +kernel
theorem dX0_luckIn_21 : decode cX0_luckIn 21 = .ok (.ireturn, 1) := by decide +kernel
set_option maxRecDepth 20000 in
theorem ggX0_daysUntilClear_X0_checkMember : GoodIn wsX0_daysUntilClear wsX0_checkMember := goodIn_ca (goodIn_r _ [6, 7, 8, 9, 56, 57, 58, 59, 60, 61, 62, 63, 64, 65, 66, 67, 68, 69] (by decide +kernel) (by decide +kernel)) (goodIn_sub (fun _ h => List.mem_cons_of_mem _ (List.mem_append_right _ h)) (by decide +kernel))
set_option maxRecDepth 20000 in
theorem gX0_daysUntilClear_X0_checkMember : GoodIn wsX0_daysUntilClear (wsV RX0 55 RX0 yX0_checkMember wsX0_checkMember) := goodIn_app (goodIn_of _ (by decide +kernel)) ggX0_daysUntilClear_X0_checkMember
set_option maxRecDepth 20000 in
theorem ggX0_daysUntilClear_X0_beginTrial : GoodIn wsX0_daysUntilClear wsX0_beginTrial := goodIn_r _ [13, 14, 1, 15, 16, 17, 18, 19, 20, 21, 5, 22, 23, 24, 25, 56, 57, 58, 59, 60, 61, 62, 63, 64, 65, 66, 67, 68, 69] (by decide +kernel) (by decide +kernel)
set_option maxRecDepth 20000 in
theorem gX0_daysUntilClear_X0_beginTrial : GoodIn wsX0_daysUntilClear (wsV RX0 111 RX0 yX0_beginTrial wsX0_beginTrial) := goodIn_app (goodIn_of _ (by decide +kernel)) ggX0_daysUntilClear_X0_beginTrial
set_option maxRecDepth 20000 in
theorem ggX0_daysUntilClear_X0_passTrialDay : GoodIn wsX0_daysUntilClear wsX0_passTrialDay := goodIn_r _ [29, 17, 18, 30, 31, 5, 32, 33, 34, 35, 36, 1, 37, 38, 39, 40, 41, 42, 43, 44, 15, 14, 45, 46, 47, 48, 49, 50, 51, 52, 53, 54, 55, 56, 57, 58, 59, 60, 61, 62, 63, 64, 65, 66, 67, 68, 69] (by decide +kernel) (by decide +kernel)
set_option maxRecDepth 20000 in
theorem gX0_daysUntilClear_X0_passTrialDay : GoodIn wsX0_daysUntilClear (wsV RX0 117 RX0 yX0_passTrialDay wsX0_passTrialDay) := goodIn_app (goodIn_of _ (by decide +kernel)) ggX0_daysUntilClear_X0_passTrialDay
theorem dX0_daysUntilClear_0 : decode cX0_daysUntilClear 0 = .ok (.aload_n 0, 1) := by decide +kernel
theorem dX0_daysUntilClear_1 : decode cX0_daysUntilClear 1 = .ok (.iload_n 1, 1) := by decide +kernel
theorem dX0_daysUntilClear_2 : decode cX0_daysUntilClear 2 = .ok (.invokevirtual 55, 3) := by decide +kernel
theorem dX0_daysUntilClear_5 : decode cX0_daysUntilClear 5 = .ok (.aload_n 0, 1) := by decide +kernel
theorem dX0_daysUntilClear_6 : decode cX0_daysUntilClear 6 = .ok (.iload_n 1, 1) := by decide +kernel
theorem dX0_daysUntilClear_7 : decode cX0_daysUntilClear 7 = .ok (.invokevirtual 111, 3) := by decide +kernel
theorem dX0_daysUntilClear_10 : decode cX0_daysUntilClear 10 = .ok (.iconst 0, 1) := by decide +kernel
theorem dX0_daysUntilClear_11 : decode cX0_daysUntilClear 11 = .ok (.istore_n 2, 1) := by decide +kernel
theorem dX0_daysUntilClear_12 : decode cX0_daysUntilClear 12 = .ok (.iload_n 2, 1) := by decide +kernel
theorem dX0_daysUntilClear_13 : decode cX0_daysUntilClear 13 = .ok (.bipush 60, 2) := by decide +kernel
theorem dX0_daysUntilClear_15 : decode cX0_daysUntilClear 15 = .ok (.if_icmp .gt 25, 3) := by decide +kernel
theorem dX0_daysUntilClear_18 : decode cX0_daysUntilClear 18 = .ok (.aload_n 0, 1) := by decide +kernel
theorem dX0_daysUntilClear_19 : decode cX0_daysUntilClear 19 = .ok (.getfield 13, 3) := by decide +kernel
theorem dX0_daysUntilClear_22 : decode cX0_daysUntilClear 22 = .ok (.bipush 8, 2) := by decide +kernel
theorem dX0_daysUntilClear_24 : decode cX0_daysUntilClear 24 = .ok (.iaload, 1) := by decide +kernel
theorem dX0_daysUntilClear_25 : decode cX0_daysUntilClear 25 = .ok (.ifCond .ne 5, 3) := by decide +kernel
theorem dX0_daysUntilClear_28 : decode cX0_daysUntilClear 28 = .ok (.iload_n 2, 1) := by decide +kernel
theorem dX0_daysUntilClear_29 : decode cX0_daysUntilClear 29 = .ok (.ireturn, 1) := by decide +kernel
theorem dX0_daysUntilClear_30 : decode cX0_daysUntilClear 30 = .ok (.aload_n 0, 1) := by decide +kernel
theorem dX0_daysUntilClear_31 : decode cX0_daysUntilClear 31 = .ok (.invokevirtual 117, 3) := by decide +kernel
theorem dX0_daysUntilClear_34 : decode cX0_daysUntilClear 34 = .ok (.iinc 2 1, 3) := by decide +kernel
theorem dX0_daysUntilClear_37 : decode cX0_daysUntilClear 37 = .ok (.goto (-25), 3) := by decide +kernel
theorem dX0_daysUntilClear_40 : decode cX0_daysUntilClear 40 = .ok (.iconst (-1), 1) := by decide +kernel
theorem dX0_daysUntilClear_41 : decode cX0_daysUntilClear 41 = .ok (.ireturn, 1) := by decide +kernel
set_option maxRecDepth 20000 in
theorem ggX0_daysUntilUnlucky_X0_checkMember : GoodIn wsX0_daysUntilUnlucky wsX0_checkMember := goodIn_ca (goodIn_r _ [6, 7, 8, 9, 56, 57, 58, 59, 60, 61, 62, 63, 64, 65, 66, 67, 68, 69] (by decide +kernel) (by decide +kernel)) (goodIn_sub (fun _ h => List.mem_cons_of_mem _ (List.mem_append_right _ h)) (by decide +kernel))
set_option maxRecDepth 20000 in
theorem gX0_daysUntilUnlucky_X0_checkMember : GoodIn wsX0_daysUntilUnlucky (wsV RX0 55 RX0 yX0_checkMember wsX0_checkMember) := goodIn_app (goodIn_of _ (by decide +kernel)) ggX0_daysUntilUnlucky_X0_checkMember
set_option maxRecDepth 20000 in
theorem ggX0_daysUntilUnlucky_X0_beginTrial : GoodIn wsX0_daysUntilUnlucky wsX0_beginTrial := goodIn_r _ [13, 1, 14, 15, 16, 17, 18, 19, 20, 21, 5, 22, 23, 24, 25, 56, 57, 58, 59, 60, 61, 62, 63, 64, 65, 66, 67, 68, 69] (by decide +kernel) (by decide +kernel)
set_option maxRecDepth 20000 in
theorem gX0_daysUntilUnlucky_X0_beginTrial : GoodIn wsX0_daysUntilUnlucky (wsV RX0 111 RX0 yX0_beginTrial wsX0_beginTrial) := goodIn_app (goodIn_of _ (by decide +kernel)) ggX0_daysUntilUnlucky_X0_beginTrial
set_option maxRecDepth 20000 in
theorem ggX0_daysUntilUnlucky_X0_passTrialDay : GoodIn wsX0_daysUntilUnlucky wsX0_passTrialDay := goodIn_r _ [29, 17, 18, 30, 31, 5, 32, 33, 34, 35, 36, 14, 37, 38, 39, 40, 41, 42, 43, 44, 15, 1, 45, 46, 47, 48, 49, 50, 51, 52, 53, 54, 55, 56, 57, 58, 59, 60, 61, 62, 63, 64, 65, 66, 67, 68, 69] (by decide +kernel) (by decide +kernel)
set_option maxRecDepth 20000 in
theorem gX0_daysUntilUnlucky_X0_passTrialDay : GoodIn wsX0_daysUntilUnlucky (wsV RX0 117 RX0 yX0_passTrialDay wsX0_passTrialDay) := goodIn_app (goodIn_of _ (by decide +kernel)) ggX0_daysUntilUnlucky_X0_passTrialDay
theorem dX0_daysUntilUnlucky_0 : decode cX0_daysUntilUnlucky 0 = .ok (.aload_n 0, 1) := by decide +kernel
theorem dX0_daysUntilUnlucky_1 : decode cX0_daysUntilUnlucky 1 = .ok (.iload_n 1, 1) := by decide +kernel
theorem dX0_daysUntilUnlucky_2 : decode cX0_daysUntilUnlucky 2 = .ok (.invokevirtual 55, 3) := by decide +kernel
theorem dX0_daysUntilUnlucky_5 : decode cX0_daysUntilUnlucky 5 = .ok (.aload_n 0, 1) := by decide +kernel
theorem dX0_daysUntilUnlucky_6 : decode cX0_daysUntilUnlucky 6 = .ok (.iload_n 1, 1) := by decide +kernel
theorem dX0_daysUntilUnlucky_7 : decode cX0_daysUntilUnlucky 7 = .ok (.invokevirtual 111, 3) := by decide +kernel
theorem dX0_daysUntilUnlucky_10 : decode cX0_daysUntilUnlucky 10 = .ok (.iconst 0, 1) := by decide +kernel
theorem dX0_daysUntilUnlucky_11 : decode cX0_daysUntilUnlucky 11 = .ok (.istore_n 2, 1) := by decide +kernel
theorem dX0_daysUntilUnlucky_12 : decode cX0_daysUntilUnlucky 12 = .ok (.iload_n 2, 1) := by decide +kernel
theorem dX0_daysUntilUnlucky_13 : decode cX0_daysUntilUnlucky 13 = .ok (.bipush 60, 2) := by decide +kernel
theorem dX0_daysUntilUnlucky_15 : decode cX0_daysUntilUnlucky 15 = .ok (.if_icmp .gt 25, 3) := by decide +kernel
theorem dX0_daysUntilUnlucky_18 : decode cX0_daysUntilUnlucky 18 = .ok (.aload_n 0, 1) := by decide +kernel
theorem dX0_daysUntilUnlucky_19 : decode cX0_daysUntilUnlucky 19 = .ok (.getfield 9, 3) := by decide +kernel
theorem dX0_daysUntilUnlucky_22 : decode cX0_daysUntilUnlucky 22 = .ok (.bipush 8, 2) := by decide +kernel
theorem dX0_daysUntilUnlucky_24 : decode cX0_daysUntilUnlucky 24 = .ok (.iaload, 1) := by decide +kernel
theorem dX0_daysUntilUnlucky_25 : decode cX0_daysUntilUnlucky 25 = .ok (.ifCond .ne 5, 3) := by decide +kernel
theorem dX0_daysUntilUnlucky_28 : decode cX0_daysUntilUnlucky 28 = .ok (.iload_n 2, 1) := by decide +kernel
theorem dX0_daysUntilUnlucky_29 : decode cX0_daysUntilUnlucky 29 = .ok (.ireturn, 1) := by decide +kernel
theorem dX0_daysUntilUnlucky_30 : decode cX0_daysUntilUnlucky 30 = .ok (.aload_n 0, 1) := by decide +kernel
theorem dX0_daysUntilUnlucky_31 : decode cX0_daysUntilUnlucky 31 = .ok (.invokevirtual 117, 3) := by decide +kernel
theorem dX0_daysUntilUnlucky_34 : decode cX0_daysUntilUnlucky 34 = .ok (.iinc 2 1, 3) := by decide +kernel
theorem dX0_daysUntilUnlucky_37 : decode cX0_daysUntilUnlucky 37 = .ok (.goto (-25), 3) := by decide +kernel
theorem dX0_daysUntilUnlucky_40 : decode cX0_daysUntilUnlucky 40 = .ok (.iconst (-1), 1) := by decide +kernel
theorem dX0_daysUntilUnlucky_41 : decode cX0_daysUntilUnlucky 41 = .ok (.ireturn, 1) := by decide +kernel
set_option maxRecDepth 20000 in
theorem ggX0_bestPinch_X0_checkMember : GoodIn wsX0_bestPinch wsX0_checkMember := goodIn_ca (goodIn_r _ [11, 12, 13, 14, 69, 70, 71, 72, 73, 74, 75, 76, 77, 78, 79, 80, 81, 82] (by decide +kernel) (by decide +kernel)) (goodIn_sub (fun _ h => List.mem_cons_of_mem _ (List.mem_append_right _ h)) (by decide +kernel))
set_option maxRecDepth 20000 in
theorem gX0_bestPinch_X0_checkMember : GoodIn wsX0_bestPinch (wsV RX0 55 RX0 yX0_checkMember wsX0_checkMember) := goodIn_app (goodIn_of _ (by decide +kernel)) ggX0_bestPinch_X0_checkMember
set_option maxRecDepth 20000 in
theorem ggX0_bestPinch_X0_beginTrialWithPinch : GoodIn wsX0_bestPinch wsX0_beginTrialWithPinch := goodIn_r _ [18, 19, 20, 21, 22, 10, 23, 24, 25, 26, 27, 28, 29, 30, 31, 32, 1, 33, 34, 35, 36, 37, 38, 39, 40, 5, 41, 42, 43, 44, 45, 69, 70, 71, 72, 73, 74, 75, 76, 77, 78, 79, 80, 81, 82] (by decide +kernel) (by decide +kernel)
set_option maxRecDepth 20000 in
theorem gX0_bestPinch_X0_beginTrialWithPinch : GoodIn wsX0_bestPinch (wsV RX0 120 RX0 yX0_beginTrialWithPinch wsX0_beginTrialWithPinch) := goodIn_app (goodIn_of _ (by decide +kernel)) ggX0_bestPinch_X0_beginTrialWithPinch
set_option maxRecDepth 20000 in
theorem ggX0_bestPinch_X0_trialLuckBehind : GoodIn wsX0_bestPinch wsX0_trialLuckBehind := goodIn_r _ [49, 24, 50, 51, 52, 10, 53, 28, 19, 54, 55, 56, 57, 58, 59, 60, 25, 3, 4, 5, 6, 61, 62, 63, 64, 26, 39, 40, 41, 42, 43, 44, 45, 65, 66, 67, 68, 69, 70, 71, 72, 73, 74, 75, 76, 77, 78, 79, 80, 81, 82] (by decide +kernel) (by decide +kernel)
set_option maxRecDepth 20000 in
theorem gX0_bestPinch_X0_trialLuckBehind : GoodIn wsX0_bestPinch (wsV RX0 114 RX0 yX0_trialLuckBehind wsX0_trialLuckBehind) := goodIn_app (goodIn_of _ (by decide +kernel)) ggX0_bestPinch_X0_trialLuckBehind
theorem dX0_bestPinch_0 : decode cX0_bestPinch 0 = .ok (.aload_n 0, 1) := by decide +kernel
theorem dX0_bestPinch_1 : decode cX0_bestPinch 1 = .ok (.iload_n 1, 1) := by decide +kernel
theorem dX0_bestPinch_2 : decode cX0_bestPinch 2 = .ok (.invokevirtual 55, 3) := by decide +kernel
theorem dX0_bestPinch_5 : decode cX0_bestPinch 5 = .ok (.aload_n 0, 1) := by decide +kernel
theorem dX0_bestPinch_6 : decode cX0_bestPinch 6 = .ok (.getfield 36, 3) := by decide +kernel
theorem dX0_bestPinch_9 : decode cX0_bestPinch 9 = .ok (.bipush 30, 2) := by decide +kernel
theorem dX0_bestPinch_11 : decode cX0_bestPinch 11 = .ok (.if_icmp .lt 5, 3) := by decide +kernel
theorem dX0_bestPinch_14 : decode cX0_bestPinch 14 = .ok (.iconst 0, 1) := by decide +kernel
theorem dX0_bestPinch_15 : decode cX0_bestPinch 15 = .ok (.ireturn, 1) := by decide +kernel
theorem dX0_bestPinch_16 : decode cX0_bestPinch 16 = .ok (.bipush 9, 2) := by decide +kernel
theorem dX0_bestPinch_18 : decode cX0_bestPinch 18 = .ok (.aload_n 0, 1) := by decide +kernel
theorem dX0_bestPinch_19 : decode cX0_bestPinch 19 = .ok (.getfield 39, 3) := by decide +kernel
theorem dX0_bestPinch_22 : decode cX0_bestPinch 22 = .ok (.invokestatic 89, 3) := by decide +kernel
theorem dX0_bestPinch_25 : decode cX0_bestPinch 25 = .ok (.istore_n 2, 1) := by decide +kernel
theorem dX0_bestPinch_26 : decode cX0_bestPinch 26 = .ok (.iconst 0, 1) := by decide +kernel
theorem dX0_bestPinch_27 : decode cX0_bestPinch 27 = .ok (.istore_n 3, 1) := by decide +kernel
theorem dX0_bestPinch_28 : decode cX0_bestPinch 28 = .ok (.iconst (-1), 1) := by decide +kernel
theorem dX0_bestPinch_29 : decode cX0_bestPinch 29 = .ok (.istore 4, 2) := by decide +kernel
theorem dX0_bestPinch_31 : decode cX0_bestPinch 31 = .ok (.iconst 0, 1) := by decide +kernel
theorem dX0_bestPinch_32 : decode cX0_bestPinch 32 = .ok (.istore 5, 2) := by decide +kernel
theorem dX0_bestPinch_34 : decode cX0_bestPinch 34 = .ok (.iload 5, 2) := by decide +kernel
theorem dX0_bestPinch_36 : decode cX0_bestPinch 36 = .ok (.iload_n 2, 1) := by decide +kernel
theorem dX0_bestPinch_37 : decode cX0_bestPinch 37 = .ok (.if_icmp .gt 38, 3) := by decide +kernel
theorem dX0_bestPinch_40 : decode cX0_bestPinch 40 = .ok (.aload_n 0, 1) := by decide +kernel
theorem dX0_bestPinch_41 : decode cX0_bestPinch 41 = .ok (.iload_n 1, 1) := by decide +kernel
theorem dX0_bestPinch_42 : decode cX0_bestPinch 42 = .ok (.iload 5, 2) := by decide +kernel
theorem dX0_bestPinch_44 : decode cX0_bestPinch 44 = .ok (.invokevirtual 120, 3) := by decide +kernel
theorem dX0_bestPinch_47 : decode cX0_bestPinch 47 = .ok (.aload_n 0, 1) := by decide +kernel
theorem dX0_bestPinch_48 : decode cX0_bestPinch 48 = .ok (.bipush 14, 2) := by decide +kernel
theorem dX0_bestPinch_50 : decode cX0_bestPinch 50 = .ok (.invokevirtual 114, 3) := by decide +kernel
theorem dX0_bestPinch_53 : decode cX0_bestPinch 53 = .ok (.istore 6, 2) := by decide +kernel
theorem dX0_bestPinch_55 : decode cX0_bestPinch 55 = .ok (.iload 6, 2) := by decide +kernel
theorem dX0_bestPinch_57 : decode cX0_bestPinch 57 = .ok (.iload 4, 2) := by decide +kernel
theorem dX0_bestPinch_59 : decode cX0_bestPinch 59 = .ok (.if_icmp .le 10, 3) := by decide +kernel
theorem dX0_bestPinch_62 : decode cX0_bestPinch 62 = .ok (.iload 5, 2) := by decide +kernel
theorem dX0_bestPinch_64 : decode cX0_bestPinch 64 = .ok (.istore_n 3, 1) := by decide +kernel
theorem dX0_bestPinch_65 : decode cX0_bestPinch 65 = .ok (.iload 6, 2) := by decide +kernel
theorem dX0_bestPinch_67 : decode cX0_bestPinch 67 = .ok (.istore 4, 2) := by decide +kernel
theorem dX0_bestPinch_69 : decode cX0_bestPinch 69 = .ok (.iinc 5 1, 3) := by decide +kernel
theorem dX0_bestPinch_72 : decode cX0_bestPinch 72 = .ok (.goto (-38), 3) := by decide +kernel
theorem dX0_bestPinch_75 : decode cX0_bestPinch 75 = .ok (.iload_n 3, 1) := by decide +kernel
theorem dX0_bestPinch_76 : decode cX0_bestPinch 76 = .ok (.ireturn, 1) := by decide +kernel
set_option maxRecDepth 20000 in
theorem ggX0_bestPenance_X0_checkMember : GoodIn wsX0_bestPenance wsX0_checkMember := goodIn_ca (goodIn_r _ [5, 6, 7, 8, 68, 69, 70, 71, 72, 73, 74, 75, 76, 77, 78, 79, 80, 81] (by decide +kernel) (by decide +kernel)) (goodIn_sub (fun _ h => List.mem_cons_of_mem _ (List.mem_append_right _ h)) (by decide +kernel))
set_option maxRecDepth 20000 in
theorem gX0_bestPenance_X0_checkMember : GoodIn wsX0_bestPenance (wsV RX0 55 RX0 yX0_checkMember wsX0_checkMember) := goodIn_app (goodIn_of _ (by decide +kernel)) ggX0_bestPenance_X0_checkMember
set_option maxRecDepth 20000 in
theorem ggX0_bestPenance_X0_beginTrialWithPenance : GoodIn wsX0_bestPenance wsX0_beginTrialWithPenance := goodIn_r _ [12, 13, 14, 15, 4, 16, 17, 18, 19, 20, 21, 22, 23, 24, 25, 26, 27, 28, 29, 30, 31, 32, 33, 34, 35, 36, 37, 68, 69, 70, 71, 72, 73, 74, 75, 76, 77, 78, 79, 80, 81] (by decide +kernel) (by decide +kernel)
set_option maxRecDepth 20000 in
theorem gX0_bestPenance_X0_beginTrialWithPenance : GoodIn wsX0_bestPenance (wsV RX0 123 RX0 yX0_beginTrialWithPenance wsX0_beginTrialWithPenance) := goodIn_app (goodIn_of _ (by decide +kernel)) ggX0_bestPenance_X0_beginTrialWithPenance
set_option maxRecDepth 20000 in
theorem ggX0_bestPenance_X0_trialLuckBehind : GoodIn wsX0_bestPenance wsX0_trialLuckBehind := goodIn_r _ [41, 17, 42, 43, 44, 4, 45, 21, 22, 46, 47, 48, 49, 50, 51, 52, 18, 34, 35, 36, 37, 53, 54, 55, 56, 19, 57, 58, 59, 60, 61, 62, 63, 64, 65, 66, 67, 68, 69, 70, 71, 72, 73, 74, 75, 76, 77, 78, 79, 80, 81] (by decide +kernel) (by decide +kernel)
set_option maxRecDepth 20000 in
theorem gX0_bestPenance_X0_trialLuckBehind : GoodIn wsX0_bestPenance (wsV RX0 114 RX0 yX0_trialLuckBehind wsX0_trialLuckBehind) := goodIn_app (goodIn_of _ (by decide +kernel)) ggX0_bestPenance_X0_trialLuckBehind
theorem dX0_bestPenance_0 : decode cX0_bestPenance 0 = .ok (.aload_n 0, 1) := by decide +kernel
theorem dX0_bestPenance_1 : decode cX0_bestPenance 1 = .ok (.iload_n 1, 1) := by decide +kernel
theorem dX0_bestPenance_2 : decode cX0_bestPenance 2 = .ok (.invokevirtual 55, 3) := by decide +kernel
theorem dX0_bestPenance_5 : decode cX0_bestPenance 5 = .ok (.iconst 0, 1) := by decide +kernel
theorem dX0_bestPenance_6 : decode cX0_bestPenance 6 = .ok (.istore_n 2, 1) := by decide +kernel
theorem dX0_bestPenance_7 : decode cX0_bestPenance 7 = .ok (.iconst (-1), 1) := by decide +kernel
theorem dX0_bestPenance_8 : decode cX0_bestPenance 8 = .ok (.istore_n 3, 1) := by decide +kernel
theorem dX0_bestPenance_9 : decode cX0_bestPenance 9 = .ok (.iconst 0, 1) := by decide +kernel
theorem dX0_bestPenance_10 : decode cX0_bestPenance 10 = .ok (.istore 4, 2) := by decide +kernel
theorem dX0_bestPenance_12 : decode cX0_bestPenance 12 = .ok (.iload 4, 2) := by decide +kernel
theorem dX0_bestPenance_14 : decode cX0_bestPenance 14 = .ok (.bipush 9, 2) := by decide +kernel
theorem dX0_bestPenance_16 : decode cX0_bestPenance 16 = .ok (.if_icmp .gt 36, 3) := by decide +kernel
theorem dX0_bestPenance_19 : decode cX0_bestPenance 19 = .ok (.aload_n 0, 1) := by decide +kernel
theorem dX0_bestPenance_20 : decode cX0_bestPenance 20 = .ok (.iload_n 1, 1) := by decide +kernel
theorem dX0_bestPenance_21 : decode cX0_bestPenance 21 = .ok (.iload 4, 2) := by decide +kernel
theorem dX0_bestPenance_23 : decode cX0_bestPenance 23 = .ok (.invokevirtual 123, 3) := by decide +kernel
theorem dX0_bestPenance_26 : decode cX0_bestPenance 26 = .ok (.aload_n 0, 1) := by decide +kernel
theorem dX0_bestPenance_27 : decode cX0_bestPenance 27 = .ok (.bipush 20, 2) := by decide +kernel
theorem dX0_bestPenance_29 : decode cX0_bestPenance 29 = .ok (.invokevirtual 114, 3) := by decide +kernel
theorem dX0_bestPenance_32 : decode cX0_bestPenance 32 = .ok (.istore 5, 2) := by decide +kernel
theorem dX0_bestPenance_34 : decode cX0_bestPenance 34 = .ok (.iload 5, 2) := by decide +kernel
theorem dX0_bestPenance_36 : decode cX0_bestPenance 36 = .ok (.iload_n 3, 1) := by decide +kernel
theorem dX0_bestPenance_37 : decode cX0_bestPenance 37 = .ok (.if_icmp .le 9, 3) := by decide +kernel
theorem dX0_bestPenance_40 : decode cX0_bestPenance 40 = .ok (.iload 4, 2) := by decide +kernel
theorem dX0_bestPenance_42 : decode cX0_bestPenance 42 = .ok (.istore_n 2, 1) := by decide +kernel
theorem dX0_bestPenance_43 : decode cX0_bestPenance 43 = .ok (.iload 5, 2) := by decide +kernel
theorem dX0_bestPenance_45 : decode cX0_bestPenance 45 = .ok (.istore_n 3, 1) := by decide +kernel
theorem dX0_bestPenance_46 : decode cX0_bestPenance 46 = .ok (.iinc 4 1, 3) := by decide +kernel
theorem dX0_bestPenance_49 : decode cX0_bestPenance 49 = .ok (.goto (-37), 3) := by decide +kernel
theorem dX0_bestPenance_52 : decode cX0_bestPenance 52 = .ok (.iload_n 2, 1) := by decide +kernel
theorem dX0_bestPenance_53 : decode cX0_bestPenance 53 = .ok (.ireturn, 1) := by decide +kernel
theorem dX0_meanLuck_0 : decode cX0_meanLuck 0 = .ok (.aload_n 0, 1) := by decide +kernel
theorem dX0_meanLuck_1 : decode cX0_meanLuck 1 = .ok (.getfield 32, 3) := by decide +kernel
theorem dX0_meanLuck_4 : decode cX0_meanLuck 4 = .ok (.ifCond .ne 5, 3) := by decide +kernel
theorem dX0_meanLuck_7 : decode cX0_meanLuck 7 = .ok (.dconst 0, 1) := by decide +kernel
theorem dX0_meanLuck_8 : decode cX0_meanLuck 8 = .ok (.dreturn, 1) := by decide +kernel
theorem dX0_meanLuck_9 : decode cX0_meanLuck 9 = .ok (.iconst 0, 1) := by decide +kernel
theorem dX0_meanLuck_10 : decode cX0_meanLuck 10 = .ok (.istore_n 1, 1) := by decide +kernel
theorem dX0_meanLuck_11 : decode cX0_meanLuck 11 = .ok (.iconst 0, 1) := by decide +kernel
theorem dX0_meanLuck_12 : decode cX0_meanLuck 12 = .ok (.istore_n 2, 1) := by decide +kernel
theorem dX0_meanLuck_13 : decode cX0_meanLuck 13 = .ok (.iload_n 2, 1) := by decide +kernel
theorem dX0_meanLuck_14 : decode cX0_meanLuck 14 = .ok (.aload_n 0, 1) := by decide +kernel
theorem dX0_meanLuck_15 : decode cX0_meanLuck 15 = .ok (.getfield 32, 3) := by decide +kernel
theorem dX0_meanLuck_18 : decode cX0_meanLuck 18 = .ok (.if_icmp .ge 18, 3) := by decide +kernel
theorem dX0_meanLuck_21 : decode cX0_meanLuck 21 = .ok (.iload_n 1, 1) := by decide +kernel
theorem dX0_meanLuck_22 : decode cX0_meanLuck 22 = .ok (.aload_n 0, 1) := by decide +kernel
theorem dX0_meanLuck_23 : decode cX0_meanLuck 23 = .ok (.getfield 9, 3) := by decide +kernel
theorem dX0_meanLuck_26 : decode cX0_meanLuck 26 = .ok (.iload_n 2, 1) := by decide +kernel
theorem dX0_meanLuck_27 : decode cX0_meanLuck 27 = .ok (.iaload, 1) := by decide +kernel
theorem dX0_meanLuck_28 : decode cX0_meanLuck 28 = .ok (.iadd, 1) := by decide +kernel
theorem dX0_meanLuck_29 : decode cX0_meanLuck 29 = .ok (.istore_n 1, 1) := by decide +kernel
theorem dX0_meanLuck_30 : decode cX0_meanLuck 30 = .ok (.iinc 2 1, 3) := by decide +kernel
theorem dX0_meanLuck_33 : decode cX0_meanLuck 33 = .ok (.goto (-20), 3) := by decide +kernel
theorem dX0_meanLuck_36 : decode cX0_meanLuck 36 = .ok (.iload_n 1, 1) := by decide +kernel
theorem dX0_meanLuck_37 : decode cX0_meanLuck 37 = .ok (.i2d, 1) := by decide +kernel
theorem dX0_meanLuck_38 : decode cX0_meanLuck 38 = .ok (.aload_n 0, 1) := by decide +kernel
theorem dX0_meanLuck_39 : decode cX0_meanLuck 39 = .ok (.getfield 32, 3) := by decide +kernel
theorem dX0_meanLuck_42 : decode cX0_meanLuck 42 = .ok (.i2d, 1) := by decide +kernel
theorem dX0_meanLuck_43 : decode cX0_meanLuck 43 = .ok (.ddiv, 1) := by decide +kernel
theorem dX0_meanLuck_44 : decode cX0_meanLuck 44 = .ok (.dreturn, 1) := by decide +kernel
set_option maxRecDepth 20000 in
theorem ggX0_digest_X0_day : GoodIn wsX0_digest wsX0_day := goodIn_r _ [8, 9, 173, 174, 175, 176, 177, 178, 179, 180, 181, 182, 183, 184, 185, 186] (by decide +kernel) (by decide +kernel)
set_option maxRecDepth 20000 in
theorem gX0_digest_X0_day : GoodIn wsX0_digest (wsV RX0 128 RX0 yX0_day wsX0_day) := goodIn_app (goodIn_of _ (by decide +kernel)) ggX0_digest_X0_day
set_option maxRecDepth 20000 in
theorem ggX0_digest_X0_mixed : GoodIn wsX0_digest wsX0_mixed := goodIn_r _ [12, 13] (by decide +kernel) (by decide +kernel)
set_option maxRecDepth 20000 in
theorem gX0_digest_X0_mixed : GoodIn wsX0_digest (va_wsS RX0 131 yX0_mixed wsX0_mixed) := goodIn_app (goodIn_of _ (by decide +kernel)) ggX0_digest_X0_mixed
set_option maxRecDepth 20000 in
theorem ggX0_digest_X0_members : GoodIn wsX0_digest wsX0_members := goodIn_r _ [17, 2, 173, 174, 175, 176, 177, 178, 179, 180, 181, 182, 183, 184, 185, 186] (by decide +kernel) (by decide +kernel)
set_option maxRecDepth 20000 in
theorem gX0_digest_X0_members : GoodIn wsX0_digest (wsV RX0 135 RX0 yX0_members wsX0_members) := goodIn_app (goodIn_of _ (by decide +kernel)) ggX0_digest_X0_members
set_option maxRecDepth 20000 in
theorem ggX0_digest_X0_salt : GoodIn wsX0_digest wsX0_salt := goodIn_r _ [21, 22, 173, 174, 175, 176, 177, 178, 179, 180, 181, 182, 183, 184, 185, 186] (by decide +kernel) (by decide +kernel)
set_option maxRecDepth 20000 in
theorem gX0_digest_X0_salt : GoodIn wsX0_digest (wsV RX0 138 RX0 yX0_salt wsX0_salt) := goodIn_app (goodIn_of _ (by decide +kernel)) ggX0_digest_X0_salt
set_option maxRecDepth 20000 in
theorem ggX0_digest_X0_ledger : GoodIn wsX0_digest wsX0_ledger := goodIn_r _ [26, 3, 173, 174, 175, 176, 177, 178, 179, 180, 181, 182, 183, 184, 185, 186] (by decide +kernel) (by decide +kernel)
set_option maxRecDepth 20000 in
theorem gX0_digest_X0_ledger : GoodIn wsX0_digest (wsV RX0 141 RX0 yX0_ledger wsX0_ledger) := goodIn_app (goodIn_of _ (by decide +kernel)) ggX0_digest_X0_ledger
set_option maxRecDepth 20000 in
theorem ggX0_digest_X0_faults : GoodIn wsX0_digest wsX0_faults := goodIn_r _ [30, 3, 31, 173, 174, 175, 176, 177, 178, 179, 180, 181, 182, 183, 184, 185, 186] (by decide +kernel) (by decide +kernel)
set_option maxRecDepth 20000 in
theorem gX0_digest_X0_faults : GoodIn wsX0_digest (wsV RX0 94 RX0 yX0_faults wsX0_faults) := goodIn_app (goodIn_of _ (by decide +kernel)) ggX0_digest_X0_faults
set_option maxRecDepth 20000 in
theorem ggX0_digest_X0_faultsFound : GoodIn wsX0_digest wsX0_faultsFound := goodIn_r _ [35, 36, 173, 174, 175, 176, 177, 178, 179, 180, 181, 182, 183, 184, 185, 186] (by decide +kernel) (by decide +kernel)
set_option maxRecDepth 20000 in
theorem gX0_digest_X0_faultsFound : GoodIn wsX0_digest (wsV RX0 144 RX0 yX0_faultsFound wsX0_faultsFound) := goodIn_app (goodIn_of _ (by decide +kernel)) ggX0_digest_X0_faultsFound
set_option maxRecDepth 20000 in
theorem ggX0_digest_X0_luckiest : GoodIn wsX0_digest wsX0_luckiest := goodIn_r _ [40, 2, 41, 173, 174, 175, 176, 177, 178, 179, 180, 181, 182, 183, 184, 185, 186] (by decide +kernel) (by decide +kernel)
set_option maxRecDepth 20000 in
theorem gX0_digest_X0_luckiest : GoodIn wsX0_digest (wsV RX0 147 RX0 yX0_luckiest wsX0_luckiest) := goodIn_app (goodIn_of _ (by decide +kernel)) ggX0_digest_X0_luckiest
set_option maxRecDepth 20000 in
theorem ggX0_digest_X0_allArrears : GoodIn wsX0_digest wsX0_allArrears := goodIn_r _ [45, 2, 46, 173, 174, 175, 176, 177, 178, 179, 180, 181, 182, 183, 184, 185, 186] (by decide +kernel) (by decide +kernel)
set_option maxRecDepth 20000 in
theorem gX0_digest_X0_allArrears : GoodIn wsX0_digest (wsV RX0 150 RX0 yX0_allArrears wsX0_allArrears) := goodIn_app (goodIn_of _ (by decide +kernel)) ggX0_digest_X0_allArrears
set_option maxRecDepth 20000 in
theorem ggX0_digest_X0_withMember : GoodIn wsX0_digest wsX0_withMember := goodIn_ca (goodIn_r _ [50, 51, 52, 53, 7, 54, 41, 55, 56, 57, 58, 59, 60, 2, 10, 11, 12, 13, 61, 62, 63, 64, 46, 65, 66, 67, 68, 69, 70, 71, 72, 73, 74, 75, 76, 77, 78, 79, 80, 81, 82, 83, 84, 85, 3, 86, 31, 87, 88, 89, 90, 22, 91, 92, 93, 94, 95, 96, 97, 98, 99, 100, 101, 102, 103, 9, 104, 105, 106, 107, 108, 109, 110, 111, 112, 113, 114, 115, 116, 117, 118, 119, 120, 121, 122, 123, 124, 125, 126, 127, 128, 129, 130, 131, 132, 133, 134, 135, 136, 137, 138, 139, 140, 141, 142, 143, 144, 145, 146, 173, 174, 175, 176, 177, 178, 179, 180, 181, 182, 183, 184, 185, 186] (by decide +kernel) (by decide +kernel)) (goodIn_sub (fun _ h => List.mem_cons_of_mem _ (List.mem_append_right _ h)) (by decide +kernel))
set_option maxRecDepth 20000 in
theorem gX0_digest_X0_withMember : GoodIn wsX0_digest (wsV RX0 153 RX0 yX0_withMember wsX0_withMember) := goodIn_app (goodIn_of _ (by decide +kernel)) ggX0_digest_X0_withMember
set_option maxRecDepth 20000 in
theorem ggX0_digest_X0_withThrow : GoodIn wsX0_digest wsX0_withThrow := goodIn_ca (goodIn_r _ [150, 151, 152, 153, 7, 154, 86, 155, 156, 157, 158, 59, 60, 3, 10, 11, 12, 13, 159, 160, 161, 162, 163, 164, 165, 166, 167, 168, 169, 170, 171, 172, 31, 173, 174, 175, 176, 177, 178, 179, 180, 181, 182, 183, 184, 185, 186] (by decide +kernel) (by decide +kernel)) (goodIn_sub (fun _ h => List.mem_cons_of_mem _ (List.mem_append_right _ h)) (by decide +kernel))
set_option maxRecDepth 20000 in
theorem gX0_digest_X0_withThrow : GoodIn wsX0_digest (wsV RX0 156 RX0 yX0_withThrow wsX0_withThrow) := goodIn_app (goodIn_of _ (by decide +kernel)) ggX0_digest_X0_withThrow
theorem dX0_digest_0 : decode cX0_digest 0 = .ok (.ldc2_w 126, 3) := by decide +kernel
theorem dX0_digest_3 : decode cX0_digest 3 = .ok (.lstore_n 1, 1) := by decide +kernel
theorem dX0_digest_4 : decode cX0_digest 4 = .ok (.lload_n 1, 1) := by decide +kernel
theorem dX0_digest_5 : decode cX0_digest 5 = .ok (.aload_n 0, 1) := by decide +kernel
theorem dX0_digest_6 : decode cX0_digest 6 = .ok (.invokevirtual 128, 3) := by decide +kernel
theorem dX0_digest_9 : decode cX0_digest 9 = .ok (.invokestatic 131, 3) := by decide +kernel
theorem dX0_digest_12 : decode cX0_digest 12 = .ok (.lstore_n 1, 1) := by decide +kernel
theorem dX0_digest_13 : decode cX0_digest 13 = .ok (.lload_n 1, 1) := by decide +kernel
theorem dX0_digest_14 : decode cX0_digest 14 = .ok (.aload_n 0, 1) := by decide +kernel
theorem dX0_digest_15 : decode cX0_digest 15 = .ok (.invokevirtual 135, 3) := by decide +kernel
theorem dX0_digest_18 : decode cX0_digest 18 = .ok (.invokestatic 131, 3) := by decide +kernel
theorem dX0_digest_21 : decode cX0_digest 21 = .ok (.lstore_n 1, 1) := by decide +kernel
theorem dX0_digest_22 : decode cX0_digest 22 = .ok (.lload_n 1, 1) := by decide +kernel
theorem dX0_digest_23 : decode cX0_digest 23 = .ok (.aload_n 0, 1) := by decide +kernel
theorem dX0_digest_24 : decode cX0_digest 24 = .ok (.invokevirtual 138, 3) := by decide +kernel
theorem dX0_digest_27 : decode cX0_digest 27 = .ok (.invokestatic 131, 3) := by decide +kernel
theorem dX0_digest_30 : decode cX0_digest 30 = .ok (.lstore_n 1, 1) := by decide +kernel
theorem dX0_digest_31 : decode cX0_digest 31 = .ok (.lload_n 1, 1) := by decide +kernel
theorem dX0_digest_32 : decode cX0_digest 32 = .ok (.aload_n 0, 1) := by decide +kernel
theorem dX0_digest_33 : decode cX0_digest 33 = .ok (.invokevirtual 141, 3) := by decide +kernel
theorem dX0_digest_36 : decode cX0_digest 36 = .ok (.invokestatic 131, 3) := by decide +kernel
theorem dX0_digest_39 : decode cX0_digest 39 = .ok (.lstore_n 1, 1) := by decide +kernel
theorem dX0_digest_40 : decode cX0_digest 40 = .ok (.lload_n 1, 1) := by decide +kernel
theorem dX0_digest_41 : decode cX0_digest 41 = .ok (.aload_n 0, 1) := by decide +kernel
theorem dX0_digest_42 : decode cX0_digest 42 = .ok (.invokevirtual 94, 3) := by decide +kernel
theorem dX0_digest_45 : decode cX0_digest 45 = .ok (.invokestatic 131, 3) := by decide +kernel
theorem dX0_digest_48 : decode cX0_digest 48 = .ok (.lstore_n 1, 1) := by decide +kernel
theorem dX0_digest_49 : decode cX0_digest 49 = .ok (.lload_n 1, 1) := by decide +kernel
theorem dX0_digest_50 : decode cX0_digest 50 = .ok (.aload_n 0, 1) := by decide +kernel
theorem dX0_digest_51 : decode cX0_digest 51 = .ok (.invokevirtual 144, 3) := by decide +kernel
theorem dX0_digest_54 : decode cX0_digest 54 = .ok (.invokestatic 131, 3) := by decide +kernel
theorem dX0_digest_57 : decode cX0_digest 57 = .ok (.lstore_n 1, 1) := by decide +kernel
theorem dX0_digest_58 : decode cX0_digest 58 = .ok (.lload_n 1, 1) := by decide +kernel
theorem dX0_digest_59 : decode cX0_digest 59 = .ok (.aload_n 0, 1) := by decide +kernel
theorem dX0_digest_60 : decode cX0_digest 60 = .ok (.invokevirtual 147, 3) := by decide +kernel
theorem dX0_digest_63 : decode cX0_digest 63 = .ok (.invokestatic 131, 3) := by decide +kernel
theorem dX0_digest_66 : decode cX0_digest 66 = .ok (.lstore_n 1, 1) := by decide +kernel
theorem dX0_digest_67 : decode cX0_digest 67 = .ok (.lload_n 1, 1) := by decide +kernel
theorem dX0_digest_68 : decode cX0_digest 68 = .ok (.aload_n 0, 1) := by decide +kernel
theorem dX0_digest_69 : decode cX0_digest 69 = .ok (.invokevirtual 150, 3) := by decide +kernel
theorem dX0_digest_72 : decode cX0_digest 72 = .ok (.invokestatic 131, 3) := by decide +kernel
theorem dX0_digest_75 : decode cX0_digest 75 = .ok (.lstore_n 1, 1) := by decide +kernel
theorem dX0_digest_76 : decode cX0_digest 76 = .ok (.iconst 0, 1) := by decide +kernel
theorem dX0_digest_77 : decode cX0_digest 77 = .ok (.istore_n 3, 1) := by decide +kernel
theorem dX0_digest_78 : decode cX0_digest 78 = .ok (.iload_n 3, 1) := by decide +kernel
theorem dX0_digest_79 : decode cX0_digest 79 = .ok (.aload_n 0, 1) := by decide +kernel
theorem dX0_digest_80 : decode cX0_digest 80 = .ok (.getfield 32, 3) := by decide +kernel
theorem dX0_digest_83 : decode cX0_digest 83 = .ok (.if_icmp .ge 16, 3) := by decide +kernel
theorem dX0_digest_86 : decode cX0_digest 86 = .ok (.aload_n 0, 1) := by decide +kernel
theorem dX0_digest_87 : decode cX0_digest 87 = .ok (.lload_n 1, 1) := by decide +kernel
theorem dX0_digest_88 : decode cX0_digest 88 = .ok (.iload_n 3, 1) := by decide +kernel
theorem dX0_digest_89 : decode cX0_digest 89 = .ok (.invokevirtual 153, 3) := by decide +kernel
theorem dX0_digest_92 : decode cX0_digest 92 = .ok (.lstore_n 1, 1) := by decide +kernel
theorem dX0_digest_93 : decode cX0_digest 93 = .ok (.iinc 3 1, 3) := by decide +kernel
theorem dX0_digest_96 : decode cX0_digest 96 = .ok (.goto (-18), 3) := by decide +kernel
theorem dX0_digest_99 : decode cX0_digest 99 = .ok (.iconst 0, 1) := by decide +kernel
theorem dX0_digest_100 : decode cX0_digest 100 = .ok (.istore_n 3, 1) := by decide +kernel
theorem dX0_digest_101 : decode cX0_digest 101 = .ok (.iload_n 3, 1) := by decide +kernel
theorem dX0_digest_102 : decode cX0_digest 102 = .ok (.aload_n 0, 1) := by decide +kernel
theorem dX0_digest_103 : decode cX0_digest 103 = .ok (.getfield 36, 3) := by decide +kernel
theorem dX0_digest_106 : decode cX0_digest 106 = .ok (.if_icmp .ge 16, 3) := by decide +kernel
theorem dX0_digest_109 : decode cX0_digest 109 = .ok (.aload_n 0, 1) := by decide +kernel
theorem dX0_digest_110 : decode cX0_digest 110 = .ok (.lload_n 1, 1) := by decide +kernel
theorem dX0_digest_111 : decode cX0_digest 111 = .ok (.iload_n 3, 1) := by decide +kernel
theorem dX0_digest_112 : decode cX0_digest 112 = .ok (.invokevirtual 156, 3) := by decide +kernel
theorem dX0_digest_115 : decode cX0_digest 115 = .ok (.lstore_n 1, 1) := by decide +kernel
theorem dX0_digest_116 : decode cX0_digest 116 = .ok (.iinc 3 1, 3) := by decide +kernel
theorem dX0_digest_119 : decode cX0_digest 119 = .ok (.goto (-18), 3) := by decide +kernel
theorem dX0_digest_122 : decode cX0_digest 122 = .ok (.lload_n 1, 1) := by decide +kernel
theorem dX0_digest_123 : decode cX0_digest 123 = .ok (.lreturn, 1) := by decide +kernel
set_option maxRecDepth 20000 in
theorem ggX0_withMember_X0_luckOf : GoodIn wsX0_withMember wsX0_luckOf := goodIn_ca (goodIn_r _ [5, 6, 7, 8, 9, 4, 10, 11, 12, 13, 109, 110, 111, 112, 113, 114, 115, 116, 117, 118, 119, 120, 121, 122] (by decide +kernel) (by decide +kernel)) (goodIn_sub (fun _ h => List.mem_cons_of_mem _ (List.mem_append_right _ h)) (by decide +kernel))
set_option maxRecDepth 20000 in
theorem gX0_withMember_X0_luckOf : GoodIn wsX0_withMember (wsV RX0 159 RX0 yX0_luckOf wsX0_luckOf) := goodIn_app (goodIn_of _ (by decide +kernel)) ggX0_withMember_X0_luckOf
set_option maxRecDepth 20000 in
theorem ggX0_withMember_X0_mixed : GoodIn wsX0_withMember wsX0_mixed := goodIn_r _ [16, 17] (by decide +kernel) (by decide +kernel)
set_option maxRecDepth 20000 in
theorem gX0_withMember_X0_mixed : GoodIn wsX0_withMember (va_wsS RX0 131 yX0_mixed wsX0_mixed) := goodIn_app (goodIn_of _ (by decide +kernel)) ggX0_withMember_X0_mixed
set_option maxRecDepth 20000 in
theorem ggX0_withMember_X0_arrearsOf : GoodIn wsX0_withMember wsX0_arrearsOf := goodIn_ca (goodIn_r _ [21, 22, 7, 8, 9, 4, 10, 11, 12, 13, 109, 110, 111, 112, 113, 114, 115, 116, 117, 118, 119, 120, 121, 122] (by decide +kernel) (by decide +kernel)) (goodIn_sub (fun _ h => List.mem_cons_of_mem _ (List.mem_append_right _ h)) (by decide +kernel))
set_option maxRecDepth 20000 in
theorem gX0_withMember_X0_arrearsOf : GoodIn wsX0_withMember (wsV RX0 162 RX0 yX0_arrearsOf wsX0_arrearsOf) := goodIn_app (goodIn_of _ (by decide +kernel)) ggX0_withMember_X0_arrearsOf
set_option maxRecDepth 20000 in
theorem ggX0_withMember_X0_lumpsOf : GoodIn wsX0_withMember wsX0_lumpsOf := goodIn_ca (goodIn_r _ [26, 27, 7, 8, 9, 4, 10, 11, 12, 13, 109, 110, 111, 112, 113, 114, 115, 116, 117, 118, 119, 120, 121, 122] (by decide +kernel) (by decide +kernel)) (goodIn_sub (fun _ h => List.mem_cons_of_mem _ (List.mem_append_right _ h)) (by decide +kernel))
set_option maxRecDepth 20000 in
theorem gX0_withMember_X0_lumpsOf : GoodIn wsX0_withMember (wsV RX0 165 RX0 yX0_lumpsOf wsX0_lumpsOf) := goodIn_app (goodIn_of _ (by decide +kernel)) ggX0_withMember_X0_lumpsOf
set_option maxRecDepth 20000 in
theorem ggX0_withMember_X0_dailyLoss : GoodIn wsX0_withMember wsX0_dailyLoss := goodIn_ca (goodIn_r _ [31, 7, 8, 9, 4, 10, 11, 12, 13, 32, 33, 34, 35, 27, 22, 109, 110, 111, 112, 113, 114, 115, 116, 117, 118, 119, 120, 121, 122] (by decide +kernel) (by decide +kernel)) (goodIn_sub (fun _ h => List.mem_cons_of_mem _ (List.mem_append_right _ h)) (by decide +kernel))
set_option maxRecDepth 20000 in
theorem gX0_withMember_X0_dailyLoss : GoodIn wsX0_withMember (wsV RX0 168 RX0 yX0_dailyLoss wsX0_dailyLoss) := goodIn_app (goodIn_of _ (by decide +kernel)) ggX0_withMember_X0_dailyLoss
set_option maxRecDepth 20000 in
theorem ggX0_withMember_X0_arrearsByAudit : GoodIn wsX0_withMember wsX0_arrearsByAudit := goodIn_ca (goodIn_r _ [39, 7, 8, 9, 4, 10, 11, 12, 13, 40, 41, 42, 43, 44, 45, 46, 109, 110, 111, 112, 113, 114, 115, 116, 117, 118, 119, 120, 121, 122] (by decide +kernel) (by decide +kernel)) (goodIn_sub (fun _ h => List.mem_cons_of_mem _ (List.mem_append_right _ h)) (by decide +kernel))
set_option maxRecDepth 20000 in
theorem gX0_withMember_X0_arrearsByAudit : GoodIn wsX0_withMember (wsV RX0 171 RX0 yX0_arrearsByAudit wsX0_arrearsByAudit) := goodIn_app (goodIn_of _ (by decide +kernel)) ggX0_withMember_X0_arrearsByAudit
set_option maxRecDepth 20000 in
theorem ggX0_withMember_X0_bestPinch : GoodIn wsX0_withMember wsX0_bestPinch := goodIn_ca (goodIn_r _ [50, 44, 51, 52, 53, 54, 55, 7, 8, 9, 4, 10, 11, 12, 13, 56, 57, 58, 59, 60, 61, 62, 63, 64, 6, 22, 27, 65, 66, 40, 41, 42, 43, 45, 46, 67, 68, 69, 70, 71, 72, 73, 74, 75, 76, 77, 78, 79, 80, 81, 82, 83, 84, 85, 86, 87, 88, 89, 90, 91, 92, 93, 94, 95, 96, 32, 33, 34, 35, 109, 110, 111, 112, 113, 114, 115, 116, 117, 118, 119, 120, 121, 122] (by decide +kernel) (by decide +kernel)) (goodIn_sub (fun _ h => List.mem_cons_of_mem _ (List.mem_append_right _ h)) (by decide +kernel))
set_option maxRecDepth 20000 in
theorem gX0_withMember_X0_bestPinch : GoodIn wsX0_withMember (wsV RX0 174 RX0 yX0_bestPinch wsX0_bestPinch) := goodIn_app (goodIn_of _ (by decide +kernel)) ggX0_withMember_X0_bestPinch
set_option maxRecDepth 20000 in
theorem ggX0_withMember_X0_bestPenance : GoodIn wsX0_withMember wsX0_bestPenance := goodIn_ca (goodIn_r _ [100, 7, 8, 9, 4, 10, 11, 12, 13, 101, 102, 103, 104, 61, 62, 63, 64, 6, 22, 27, 65, 66, 60, 40, 41, 42, 43, 44, 45, 46, 105, 106, 107, 108, 52, 53, 54, 55, 78, 79, 80, 81, 82, 83, 84, 85, 86, 87, 88, 89, 90, 91, 92, 93, 94, 95, 96, 71, 72, 73, 74, 75, 76, 77, 32, 33, 34, 35, 109, 110, 111, 112, 113, 114, 115, 116, 117, 118, 119, 120, 121, 122] (by decide +kernel) (by decide +kernel)) (goodIn_sub (fun _ h => List.mem_cons_of_mem _ (List.mem_append_right _ h)) (by decide +kernel))
set_option maxRecDepth 20000 in
theorem gX0_withMember_X0_bestPenance : GoodIn wsX0_withMember (wsV RX0 177 RX0 yX0_bestPenance wsX0_bestPenance) := goodIn_app (goodIn_of _ (by decide +kernel)) ggX0_withMember_X0_bestPenance
theorem dX0_withMember_0 : decode cX0_withMember 0 = .ok (.lload_n 1, 1) := by decide +kernel
theorem dX0_withMember_1 : decode cX0_withMember 1 = .ok (.lstore 4, 2) := by decide +kernel
theorem dX0_withMember_3 : decode cX0_withMember 3 = .ok (.lload 4, 2) := by decide +kernel
theorem dX0_withMember_5 : decode cX0_withMember 5 = .ok (.aload_n 0, 1) := by decide +kernel
theorem dX0_withMember_6 : decode cX0_withMember 6 = .ok (.iload_n 3, 1) := by decide +kernel
theorem dX0_withMember_7 : decode cX0_withMember 7 = .ok (.invokevirtual 159, 3) := by decide +kernel
theorem dX0_withMember_10 : decode cX0_withMember 10 = .ok (.invokestatic 131, 3) := by decide +kernel
theorem dX0_withMember_13 : decode cX0_withMember 13 = .ok (.lstore 4, 2) := by decide +kernel
theorem dX0_withMember_15 : decode cX0_withMember 15 = .ok (.lload 4, 2) := by decide +kernel
theorem dX0_withMember_17 : decode cX0_withMember 17 = .ok (.aload_n 0, 1) := by decide +kernel
theorem dX0_withMember_18 : decode cX0_withMember 18 = .ok (.iload_n 3, 1) := by decide +kernel
theorem dX0_withMember_19 : decode cX0_withMember 19 = .ok (.invokevirtual 162, 3) := by decide +kernel
theorem dX0_withMember_22 : decode cX0_withMember 22 = .ok (.invokestatic 131, 3) := by decide +kernel
theorem dX0_withMember_25 : decode cX0_withMember 25 = .ok (.lstore 4, 2) := by decide +kernel
theorem dX0_withMember_27 : decode cX0_withMember 27 = .ok (.lload 4, 2) := by decide +kernel
theorem dX0_withMember_29 : decode cX0_withMember 29 = .ok (.aload_n 0, 1) := by decide +kernel
theorem dX0_withMember_30 : decode cX0_withMember 30 = .ok (.iload_n 3, 1) := by decide +kernel
theorem dX0_withMember_31 : decode cX0_withMember 31 = .ok (.invokevirtual 165, 3) := by decide +kernel
theorem dX0_withMember_34 : decode cX0_withMember 34 = .ok (.invokestatic 131, 3) := by decide +kernel
theorem dX0_withMember_37 : decode cX0_withMember 37 = .ok (.lstore 4, 2) := by decide +kernel
theorem dX0_withMember_39 : decode cX0_withMember 39 = .ok (.lload 4, 2) := by decide +kernel
theorem dX0_withMember_41 : decode cX0_withMember 41 = .ok (.aload_n 0, 1) := by decide +kernel
theorem dX0_withMember_42 : decode cX0_withMember 42 = .ok (.iload_n 3, 1) := by decide +kernel
theorem dX0_withMember_43 : decode cX0_withMember 43 = .ok (.invokevirtual 168, 3) := by decide +kernel
theorem dX0_withMember_46 : decode cX0_withMember 46 = .ok (.invokestatic 131, 3) := by decide +kernel
theorem dX0_withMember_49 : decode cX0_withMember 49 = .ok (.lstore 4, 2) := by decide +kernel
theorem dX0_withMember_51 : decode cX0_withMember 51 = .ok (.lload 4, 2) := by decide +kernel
theorem dX0_withMember_53 : decode cX0_withMember 53 = .ok (.aload_n 0, 1) := by decide +kernel
theorem dX0_withMember_54 : decode cX0_withMember 54 = .ok (.iload_n 3, 1) := by decide +kernel
theorem dX0_withMember_55 : decode cX0_withMember 55 = .ok (.invokevirtual 171, 3) := by decide +kernel
theorem dX0_withMember_58 : decode cX0_withMember 58 = .ok (.invokestatic 131, 3) := by decide +kernel
theorem dX0_withMember_61 : decode cX0_withMember 61 = .ok (.lstore 4, 2) := by decide +kernel
theorem dX0_withMember_63 : decode cX0_withMember 63 = .ok (.lload 4, 2) := by decide +kernel
theorem dX0_withMember_65 : decode cX0_withMember 65 = .ok (.aload_n 0, 1) := by decide +kernel
theorem dX0_withMember_66 : decode cX0_withMember 66 = .ok (.iload_n 3, 1) := by decide +kernel
theorem dX0_withMember_67 : decode cX0_withMember 67 = .ok (.invokevirtual 174, 3) := by decide +kernel
theorem dX0_withMember_70 : decode cX0_withMember 70 = .ok (.invokestatic 131, 3) := by decide +kernel
theorem dX0_withMember_73 : decode cX0_withMember 73 = .ok (.lstore 4, 2) := by decide +kernel
theorem dX0_withMember_75 : decode cX0_withMember 75 = .ok (.lload 4, 2) := by decide +kernel
theorem dX0_withMember_77 : decode cX0_withMember 77 = .ok (.aload_n 0, 1) := by decide +kernel
theorem dX0_withMember_78 : decode cX0_withMember 78 = .ok (.iload_n 3, 1) := by decide +kernel
theorem dX0_withMember_79 : decode cX0_withMember 79 = .ok (.invokevirtual 177, 3) := by decide +kernel
theorem dX0_withMember_82 : decode cX0_withMember 82 = .ok (.invokestatic 131, 3) := by decide +kernel
theorem dX0_withMember_85 : decode cX0_withMember 85 = .ok (.lstore 4, 2) := by decide +kernel
theorem dX0_withMember_87 : decode cX0_withMember 87 = .ok (.lload 4, 2) := by decide +kernel
theorem dX0_withMember_89 : decode cX0_withMember 89 = .ok (.lreturn, 1) := by decide +kernel
set_option maxRecDepth 20000 in
theorem ggX0_withThrow_X0_memberOf : GoodIn wsX0_withThrow wsX0_memberOf := goodIn_ca (goodIn_r _ [5, 6, 7, 8, 9, 4, 10, 11, 12, 13, 33, 34, 35, 36, 37, 38, 39, 40, 41, 42, 43, 44, 45, 46] (by decide +kernel) (by decide +kernel)) (goodIn_sub (fun _ h => List.mem_cons_of_mem _ (List.mem_append_right _ h)) (by decide +kernel))
set_option maxRecDepth 20000 in
theorem gX0_withThrow_X0_memberOf : GoodIn wsX0_withThrow (wsV RX0 180 RX0 yX0_memberOf wsX0_memberOf) := goodIn_app (goodIn_of _ (by decide +kernel)) ggX0_withThrow_X0_memberOf
end
section
set_option maxRecDepth 20000 in
theorem ggX0_withThrow_X0_mixed : GoodIn wsX0_withThrow wsX0_mixed := goodIn_r _ [16, 17] (by decide +kernel) (by decide +kernel)
set_option maxRecDepth 20000 in
theorem gX0_withThrow_X0_mixed : GoodIn wsX0_withThrow (va_wsS RX0 131 yX0_mixed wsX0_mixed) := goodIn_app (goodIn_of _ (by decide +kernel)) ggX0_withThrow_X0_mixed
set_option maxRecDepth 20000 in
theorem ggX0_withThrow_X0_isLeft : GoodIn wsX0_withThrow wsX0_isLeft := goodIn_ca (goodIn_r _ [21, 22, 7, 8, 9, 4, 10, 11, 12, 13, 33, 34, 35, 36, 37, 38, 39, 40, 41, 42, 43, 44, 45, 46] (by decide +kernel) (by decide +kernel)) (goodIn_sub (fun _ h => List.mem_cons_of_mem _ (List.mem_append_right _ h)) (by decide +kernel))
set_option maxRecDepth 20000 in
theorem gX0_withThrow_X0_isLeft : GoodIn wsX0_withThrow (wsV RX0 183 RX0 yX0_isLeft wsX0_isLeft) := goodIn_app (goodIn_of _ (by decide +kernel)) ggX0_withThrow_X0_isLeft
set_option maxRecDepth 20000 in
theorem ggX0_withThrow_X0_grainsOf : GoodIn wsX0_withThrow wsX0_grainsOf := goodIn_ca (goodIn_r _ [26, 27, 7, 8, 9, 4, 10, 11, 12, 13, 33, 34, 35, 36, 37, 38, 39, 40, 41, 42, 43, 44, 45, 46] (by decide +kernel) (by decide +kernel)) (goodIn_sub (fun _ h => List.mem_cons_of_mem _ (List.mem_append_right _ h)) (by decide +kernel))
set_option maxRecDepth 20000 in
theorem gX0_withThrow_X0_grainsOf : GoodIn wsX0_withThrow (wsV RX0 187 RX0 yX0_grainsOf wsX0_grainsOf) := goodIn_app (goodIn_of _ (by decide +kernel)) ggX0_withThrow_X0_grainsOf
set_option maxRecDepth 20000 in
theorem ggX0_withThrow_X0_excessOf : GoodIn wsX0_withThrow wsX0_excessOf := goodIn_ca (goodIn_r _ [31, 32, 7, 8, 9, 4, 10, 11, 12, 13, 33, 34, 35, 36, 37, 38, 39, 40, 41, 42, 43, 44, 45, 46] (by decide +kernel) (by decide +kernel)) (goodIn_sub (fun _ h => List.mem_cons_of_mem _ (List.mem_append_right _ h)) (by decide +kernel))
set_option maxRecDepth 20000 in
theorem gX0_withThrow_X0_excessOf : GoodIn wsX0_withThrow (wsV RX0 190 RX0 yX0_excessOf wsX0_excessOf) := goodIn_app (goodIn_of _ (by decide +kernel)) ggX0_withThrow_X0_excessOf
theorem dX0_withThrow_0 : decode cX0_withThrow 0 = .ok (.lload_n 1, 1) := by decide +kernel
theorem dX0_withThrow_1 : decode cX0_withThrow 1 = .ok (.lstore 4, 2) := by decide +kernel
theorem dX0_withThrow_3 : decode cX0_withThrow 3 = .ok (.lload 4, 2) := by decide +kernel
theorem dX0_withThrow_5 : decode cX0_withThrow 5 = .ok (.aload_n 0, 1) := by decide +kernel
theorem dX0_withThrow_6 : decode cX0_withThrow 6 = .ok (.iload_n 3, 1) := by decide +kernel
theorem dX0_withThrow_7 : decode cX0_withThrow 7 = .ok (.invokevirtual 180, 3) := by decide +kernel
theorem dX0_withThrow_10 : decode cX0_withThrow 10 = .ok (.invokestatic 131, 3) := by decide +kernel
theorem dX0_withThrow_13 : decode cX0_withThrow 13 = .ok (.lstore 4, 2) := by decide +kernel
theorem dX0_withThrow_15 : decode cX0_withThrow 15 = .ok (.lload 4, 2) := by decide +kernel
theorem dX0_withThrow_17 : decode cX0_withThrow 17 = .ok (.aload_n 0, 1) := by decide +kernel
theorem dX0_withThrow_18 : decode cX0_withThrow 18 = .ok (.iload_n 3, 1) := by decide +kernel
theorem dX0_withThrow_19 : decode cX0_withThrow 19 = .ok (.invokevirtual 183, 3) := by decide +kernel
theorem dX0_withThrow_22 : decode cX0_withThrow 22 = .ok (.ifCond .eq 7, 3) := by decide +kernel
theorem dX0_withThrow_25 : decode cX0_withThrow 25 = .ok (.iconst 1, 1) := by decide +kernel
theorem dX0_withThrow_26 : decode cX0_withThrow 26 = .ok (.goto 4, 3) := by decide +kernel
theorem dX0_withThrow_29 : decode cX0_withThrow 29 = .ok (.iconst 0, 1) := by decide +kernel
theorem dX0_withThrow_30 : decode cX0_withThrow 30 = .ok (.invokestatic 131, 3) := by decide +kernel
theorem dX0_withThrow_33 : decode cX0_withThrow 33 = .ok (.lstore 4, 2) := by decide +kernel
theorem dX0_withThrow_35 : decode cX0_withThrow 35 = .ok (.lload 4, 2) := by decide +kernel
theorem dX0_withThrow_37 : decode cX0_withThrow 37 = .ok (.aload_n 0, 1) := by decide +kernel
theorem dX0_withThrow_38 : decode cX0_withThrow 38 = .ok (.iload_n 3, 1) := by decide +kernel
theorem dX0_withThrow_39 : decode cX0_withThrow 39 = .ok (.invokevirtual 187, 3) := by decide +kernel
theorem dX0_withThrow_42 : decode cX0_withThrow 42 = .ok (.invokestatic 131, 3) := by decide +kernel
theorem dX0_withThrow_45 : decode cX0_withThrow 45 = .ok (.lstore 4, 2) := by decide +kernel
theorem dX0_withThrow_47 : decode cX0_withThrow 47 = .ok (.lload 4, 2) := by decide +kernel
theorem dX0_withThrow_49 : decode cX0_withThrow 49 = .ok (.aload_n 0, 1) := by decide +kernel
theorem dX0_withThrow_50 : decode cX0_withThrow 50 = .ok (.iload_n 3, 1) := by decide +kernel
theorem dX0_withThrow_51 : decode cX0_withThrow 51 = .ok (.invokevirtual 190, 3) := by decide +kernel
theorem dX0_withThrow_54 : decode cX0_withThrow 54 = .ok (.invokestatic 131, 3) := by decide +kernel
theorem dX0_withThrow_57 : decode cX0_withThrow 57 = .ok (.lstore 4, 2) := by decide +kernel
theorem dX0_withThrow_59 : decode cX0_withThrow 59 = .ok (.lload 4, 2) := by decide +kernel
theorem dX0_withThrow_61 : decode cX0_withThrow 61 = .ok (.lreturn, 1) := by decide +kernel
theorem dX0_mixed_0 : decode cX0_mixed 0 = .ok (.lload_n 0, 1) := by decide +kernel
theorem dX0_mixed_1 : decode cX0_mixed 1 = .ok (.ldc2_w 193, 3) := by decide +kernel
theorem dX0_mixed_4 : decode cX0_mixed 4 = .ok (.lmul, 1) := by decide +kernel
theorem dX0_mixed_5 : decode cX0_mixed 5 = .ok (.iload_n 2, 1) := by decide +kernel
theorem dX0_mixed_6 : decode cX0_mixed 6 = .ok (.i2l, 1) := by decide +kernel
theorem dX0_mixed_7 : decode cX0_mixed 7 = .ok (.ladd, 1) := by decide +kernel
theorem dX0_mixed_8 : decode cX0_mixed 8 = .ok (.lreturn, 1) := by decide +kernel
theorem dX0_checkMember_0 : decode cX0_checkMember 0 = .ok (.iload_n 1, 1) := by decide +kernel
theorem dX0_checkMember_1 : decode cX0_checkMember 1 = .ok (.ifCond .lt 11, 3) := by decide +kernel
theorem dX0_checkMember_4 : decode cX0_checkMember 4 = .ok (.iload_n 1, 1) := by decide +kernel
theorem dX0_checkMember_5 : decode cX0_checkMember 5 = .ok (.aload_n 0, 1) := by decide +kernel
theorem dX0_checkMember_6 : decode cX0_checkMember 6 = .ok (.getfield 32, 3) := by decide +kernel
theorem dX0_checkMember_9 : decode cX0_checkMember 9 = .ok (.if_icmp .lt 13, 3) := by decide +kernel
theorem dX0_checkMember_12 : decode cX0_checkMember 12 = .ok (.new 195, 3) := by decide +kernel
theorem dX0_checkMember_15 : decode cX0_checkMember 15 = .ok (.dup, 1) := by decide +kernel
theorem dX0_checkMember_16 : decode cX0_checkMember 16 = .ok (.ldc 197, 2) := by decide +kernel
theorem dX0_checkMember_18 : decode cX0_checkMember 18 = .ok (.invokespecial 199, 3) := by decide +kernel
theorem dX0_checkMember_21 : decode cX0_checkMember 21 = .ok (.athrow, 1) := by decide +kernel
theorem dX0_checkMember_22 : decode cX0_checkMember 22 = .ok (.return_, 1) := by decide +kernel
theorem dX0_checkShoulder_0 : decode cX0_checkShoulder 0 = .ok (.iload_n 0, 1) := by decide +kernel
theorem dX0_checkShoulder_1 : decode cX0_checkShoulder 1 = .ok (.ifCond .eq 18, 3) := by decide +kernel
theorem dX0_checkShoulder_4 : decode cX0_checkShoulder 4 = .ok (.iload_n 0, 1) := by decide +kernel
theorem dX0_checkShoulder_5 : decode cX0_checkShoulder 5 = .ok (.iconst 1, 1) := by decide +kernel
theorem dX0_checkShoulder_6 : decode cX0_checkShoulder 6 = .ok (.if_icmp .eq 13, 3) := by decide +kernel
theorem dX0_checkShoulder_9 : decode cX0_checkShoulder 9 = .ok (.new 195, 3) := by decide +kernel
theorem dX0_checkShoulder_12 : decode cX0_checkShoulder 12 = .ok (.dup, 1) := by decide +kernel
theorem dX0_checkShoulder_13 : decode cX0_checkShoulder 13 = .ok (.ldc 200, 2) := by decide +kernel
theorem dX0_checkShoulder_15 : decode cX0_checkShoulder 15 = .ok (.invokespecial 199, 3) := by decide +kernel
theorem dX0_checkShoulder_18 : decode cX0_checkShoulder 18 = .ok (.athrow, 1) := by decide +kernel
theorem dX0_checkShoulder_19 : decode cX0_checkShoulder 19 = .ok (.return_, 1) := by decide +kernel
theorem dX0_checkEntry_0 : decode cX0_checkEntry 0 = .ok (.iload_n 1, 1) := by decide +kernel
theorem dX0_checkEntry_1 : decode cX0_checkEntry 1 = .ok (.ifCond .lt 11, 3) := by decide +kernel
theorem dX0_checkEntry_4 : decode cX0_checkEntry 4 = .ok (.iload_n 1, 1) := by decide +kernel
theorem dX0_checkEntry_5 : decode cX0_checkEntry 5 = .ok (.aload_n 0, 1) := by decide +kernel
theorem dX0_checkEntry_6 : decode cX0_checkEntry 6 = .ok (.getfield 36, 3) := by decide +kernel
theorem dX0_checkEntry_9 : decode cX0_checkEntry 9 = .ok (.if_icmp .lt 13, 3) := by decide +kernel
theorem dX0_checkEntry_12 : decode cX0_checkEntry 12 = .ok (.new 195, 3) := by decide +kernel
theorem dX0_checkEntry_15 : decode cX0_checkEntry 15 = .ok (.dup, 1) := by decide +kernel
theorem dX0_checkEntry_16 : decode cX0_checkEntry 16 = .ok (.ldc 202, 2) := by decide +kernel
theorem dX0_checkEntry_18 : decode cX0_checkEntry 18 = .ok (.invokespecial 199, 3) := by decide +kernel
theorem dX0_checkEntry_21 : decode cX0_checkEntry 21 = .ok (.athrow, 1) := by decide +kernel
theorem dX0_checkEntry_22 : decode cX0_checkEntry 22 = .ok (.return_, 1) := by decide +kernel
theorem dX0_checkAmount_0 : decode cX0_checkAmount 0 = .ok (.iload_n 0, 1) := by decide +kernel
theorem dX0_checkAmount_1 : decode cX0_checkAmount 1 = .ok (.iconst 1, 1) := by decide +kernel
theorem dX0_checkAmount_2 : decode cX0_checkAmount 2 = .ok (.if_icmp .lt 8, 3) := by decide +kernel
theorem dX0_checkAmount_5 : decode cX0_checkAmount 5 = .ok (.iload_n 0, 1) := by decide +kernel
theorem dX0_checkAmount_6 : decode cX0_checkAmount 6 = .ok (.iload_n 1, 1) := by decide +kernel
theorem dX0_checkAmount_7 : decode cX0_checkAmount 7 = .ok (.if_icmp .le 13, 3) := by decide +kernel
theorem dX0_checkAmount_10 : decode cX0_checkAmount 10 = .ok (.new 204, 3) := by decide +kernel
theorem dX0_checkAmount_13 : decode cX0_checkAmount 13 = .ok (.dup, 1) := by decide +kernel
theorem dX0_checkAmount_14 : decode cX0_checkAmount 14 = .ok (.ldc 206, 2) := by decide +kernel
theorem dX0_checkAmount_16 : decode cX0_checkAmount 16 = .ok (.invokespecial 208, 3) := by decide +kernel
theorem dX0_checkAmount_19 : decode cX0_checkAmount 19 = .ok (.athrow, 1) := by decide +kernel
theorem dX0_checkAmount_20 : decode cX0_checkAmount 20 = .ok (.return_, 1) := by decide +kernel
theorem dX0_checkCellar_0 : decode cX0_checkCellar 0 = .ok (.aload_n 0, 1) := by decide +kernel
theorem dX0_checkCellar_1 : decode cX0_checkCellar 1 = .ok (.getfield 39, 3) := by decide +kernel
theorem dX0_checkCellar_4 : decode cX0_checkCellar 4 = .ok (.iload_n 1, 1) := by decide +kernel
theorem dX0_checkCellar_5 : decode cX0_checkCellar 5 = .ok (.if_icmp .ge 13, 3) := by decide +kernel
theorem dX0_checkCellar_8 : decode cX0_checkCellar 8 = .ok (.new 48, 3) := by decide +kernel
theorem dX0_checkCellar_11 : decode cX0_checkCellar 11 = .ok (.dup, 1) := by decide +kernel
theorem dX0_checkCellar_12 : decode cX0_checkCellar 12 = .ok (.ldc 209, 2) := by decide +kernel
theorem dX0_checkCellar_14 : decode cX0_checkCellar 14 = .ok (.invokespecial 52, 3) := by decide +kernel
theorem dX0_checkCellar_17 : decode cX0_checkCellar 17 = .ok (.athrow, 1) := by decide +kernel
theorem dX0_checkCellar_18 : decode cX0_checkCellar 18 = .ok (.return_, 1) := by decide +kernel
theorem dX0_checkLedgerHasRoom_0 : decode cX0_checkLedgerHasRoom 0 = .ok (.aload_n 0, 1) := by decide +kernel
theorem dX0_checkLedgerHasRoom_1 : decode cX0_checkLedgerHasRoom 1 = .ok (.getfield 36, 3) := by decide +kernel
theorem dX0_checkLedgerHasRoom_4 : decode cX0_checkLedgerHasRoom 4 = .ok (.bipush 30, 2) := by decide +kernel
theorem dX0_checkLedgerHasRoom_6 : decode cX0_checkLedgerHasRoom 6 = .ok (.if_icmp .lt 13, 3) := by decide +kernel
theorem dX0_checkLedgerHasRoom_9 : decode cX0_checkLedgerHasRoom 9 = .ok (.new 48, 3) := by decide +kernel
theorem dX0_checkLedgerHasRoom_12 : decode cX0_checkLedgerHasRoom 12 = .ok (.dup, 1) := by decide +kernel
theorem dX0_checkLedgerHasRoom_13 : decode cX0_checkLedgerHasRoom 13 = .ok (.ldc 211, 2) := by decide +kernel
theorem dX0_checkLedgerHasRoom_15 : decode cX0_checkLedgerHasRoom 15 = .ok (.invokespecial 52, 3) := by decide +kernel
theorem dX0_checkLedgerHasRoom_18 : decode cX0_checkLedgerHasRoom 18 = .ok (.athrow, 1) := by decide +kernel
theorem dX0_checkLedgerHasRoom_19 : decode cX0_checkLedgerHasRoom 19 = .ok (.return_, 1) := by decide +kernel
theorem dX0_addArrears_0 : decode cX0_addArrears 0 = .ok (.aload_n 0, 1) := by decide +kernel
theorem dX0_addArrears_1 : decode cX0_addArrears 1 = .ok (.getfield 13, 3) := by decide +kernel
theorem dX0_addArrears_4 : decode cX0_addArrears 4 = .ok (.iload_n 1, 1) := by decide +kernel
theorem dX0_addArrears_5 : decode cX0_addArrears 5 = .ok (.bipush 99, 2) := by decide +kernel
theorem dX0_addArrears_7 : decode cX0_addArrears 7 = .ok (.aload_n 0, 1) := by decide +kernel
theorem dX0_addArrears_8 : decode cX0_addArrears 8 = .ok (.getfield 13, 3) := by decide +kernel
theorem dX0_addArrears_11 : decode cX0_addArrears 11 = .ok (.iload_n 1, 1) := by decide +kernel
theorem dX0_addArrears_12 : decode cX0_addArrears 12 = .ok (.iaload, 1) := by decide +kernel
theorem dX0_addArrears_13 : decode cX0_addArrears 13 = .ok (.iload_n 2, 1) := by decide +kernel
theorem dX0_addArrears_14 : decode cX0_addArrears 14 = .ok (.iadd, 1) := by decide +kernel
theorem dX0_addArrears_15 : decode cX0_addArrears 15 = .ok (.invokestatic 89, 3) := by decide +kernel
theorem dX0_addArrears_18 : decode cX0_addArrears 18 = .ok (.iastore, 1) := by decide +kernel
theorem dX0_addArrears_19 : decode cX0_addArrears 19 = .ok (.return_, 1) := by decide +kernel
theorem dX0_lessenArrears_0 : decode cX0_lessenArrears 0 = .ok (.aload_n 0, 1) := by decide +kernel
theorem dX0_lessenArrears_1 : decode cX0_lessenArrears 1 = .ok (.getfield 13, 3) := by decide +kernel
theorem dX0_lessenArrears_4 : decode cX0_lessenArrears 4 = .ok (.iload_n 1, 1) := by decide +kernel
theorem dX0_lessenArrears_5 : decode cX0_lessenArrears 5 = .ok (.iconst 0, 1) := by decide +kernel
theorem dX0_lessenArrears_6 : decode cX0_lessenArrears 6 = .ok (.aload_n 0, 1) := by decide +kernel
theorem dX0_lessenArrears_7 : decode cX0_lessenArrears 7 = .ok (.getfield 13, 3) := by decide +kernel
theorem dX0_lessenArrears_10 : decode cX0_lessenArrears 10 = .ok (.iload_n 1, 1) := by decide +kernel
theorem dX0_lessenArrears_11 : decode cX0_lessenArrears 11 = .ok (.iaload, 1) := by decide +kernel
theorem dX0_lessenArrears_12 : decode cX0_lessenArrears 12 = .ok (.iload_n 2, 1) := by decide +kernel
theorem dX0_lessenArrears_13 : decode cX0_lessenArrears 13 = .ok (.isub, 1) := by decide +kernel
theorem dX0_lessenArrears_14 : decode cX0_lessenArrears 14 = .ok (.invokestatic 213, 3) := by decide +kernel
theorem dX0_lessenArrears_17 : decode cX0_lessenArrears 17 = .ok (.iastore, 1) := by decide +kernel
theorem dX0_lessenArrears_18 : decode cX0_lessenArrears 18 = .ok (.return_, 1) := by decide +kernel
theorem dX0_addLumps_0 : decode cX0_addLumps 0 = .ok (.aload_n 0, 1) := by decide +kernel
theorem dX0_addLumps_1 : decode cX0_addLumps 1 = .ok (.getfield 16, 3) := by decide +kernel
theorem dX0_addLumps_4 : decode cX0_addLumps 4 = .ok (.iload_n 1, 1) := by decide +kernel
theorem dX0_addLumps_5 : decode cX0_addLumps 5 = .ok (.bipush 9, 2) := by decide +kernel
theorem dX0_addLumps_7 : decode cX0_addLumps 7 = .ok (.aload_n 0, 1) := by decide +kernel
theorem dX0_addLumps_8 : decode cX0_addLumps 8 = .ok (.getfield 16, 3) := by decide +kernel
theorem dX0_addLumps_11 : decode cX0_addLumps 11 = .ok (.iload_n 1, 1) := by decide +kernel
theorem dX0_addLumps_12 : decode cX0_addLumps 12 = .ok (.iaload, 1) := by decide +kernel
theorem dX0_addLumps_13 : decode cX0_addLumps 13 = .ok (.iload_n 2, 1) := by decide +kernel
theorem dX0_addLumps_14 : decode cX0_addLumps 14 = .ok (.iadd, 1) := by decide +kernel
theorem dX0_addLumps_15 : decode cX0_addLumps 15 = .ok (.invokestatic 89, 3) := by decide +kernel
theorem dX0_addLumps_18 : decode cX0_addLumps 18 = .ok (.iastore, 1) := by decide +kernel
theorem dX0_addLumps_19 : decode cX0_addLumps 19 = .ok (.return_, 1) := by decide +kernel
theorem dX0_leftExcess_0 : decode cX0_leftExcess 0 = .ok (.iconst 0, 1) := by decide +kernel
theorem dX0_leftExcess_1 : decode cX0_leftExcess 1 = .ok (.iload_n 2, 1) := by decide +kernel
theorem dX0_leftExcess_2 : decode cX0_leftExcess 2 = .ok (.aload_n 0, 1) := by decide +kernel
theorem dX0_leftExcess_3 : decode cX0_leftExcess 3 = .ok (.getfield 13, 3) := by decide +kernel
theorem dX0_leftExcess_6 : decode cX0_leftExcess 6 = .ok (.iload_n 1, 1) := by decide +kernel
theorem dX0_leftExcess_7 : decode cX0_leftExcess 7 = .ok (.iaload, 1) := by decide +kernel
theorem dX0_leftExcess_8 : decode cX0_leftExcess 8 = .ok (.isub, 1) := by decide +kernel
theorem dX0_leftExcess_9 : decode cX0_leftExcess 9 = .ok (.invokestatic 213, 3) := by decide +kernel
theorem dX0_leftExcess_12 : decode cX0_leftExcess 12 = .ok (.ireturn, 1) := by decide +kernel
theorem dX0_lossOf_0 : decode cX0_lossOf 0 = .ok (.aload_n 0, 1) := by decide +kernel
theorem dX0_lossOf_1 : decode cX0_lossOf 1 = .ok (.getfield 16, 3) := by decide +kernel
theorem dX0_lossOf_4 : decode cX0_lossOf 4 = .ok (.iload_n 1, 1) := by decide +kernel
theorem dX0_lossOf_5 : decode cX0_lossOf 5 = .ok (.iaload, 1) := by decide +kernel
theorem dX0_lossOf_6 : decode cX0_lossOf 6 = .ok (.ifCond .le 5, 3) := by decide +kernel
theorem dX0_lossOf_9 : decode cX0_lossOf 9 = .ok (.iconst 0, 1) := by decide +kernel
theorem dX0_lossOf_10 : decode cX0_lossOf 10 = .ok (.ireturn, 1) := by decide +kernel
theorem dX0_lossOf_11 : decode cX0_lossOf 11 = .ok (.aload_n 0, 1) := by decide +kernel
theorem dX0_lossOf_12 : decode cX0_lossOf 12 = .ok (.getfield 13, 3) := by decide +kernel
theorem dX0_lossOf_15 : decode cX0_lossOf 15 = .ok (.iload_n 1, 1) := by decide +kernel
theorem dX0_lossOf_16 : decode cX0_lossOf 16 = .ok (.iaload, 1) := by decide +kernel
theorem dX0_lossOf_17 : decode cX0_lossOf 17 = .ok (.bipush 10, 2) := by decide +kernel
theorem dX0_lossOf_19 : decode cX0_lossOf 19 = .ok (.iadd, 1) := by decide +kernel
theorem dX0_lossOf_20 : decode cX0_lossOf 20 = .ok (.iconst 1, 1) := by decide +kernel
theorem dX0_lossOf_21 : decode cX0_lossOf 21 = .ok (.isub, 1) := by decide +kernel
theorem dX0_lossOf_22 : decode cX0_lossOf 22 = .ok (.bipush 10, 2) := by decide +kernel
theorem dX0_lossOf_24 : decode cX0_lossOf 24 = .ok (.idiv, 1) := by decide +kernel
theorem dX0_lossOf_25 : decode cX0_lossOf 25 = .ok (.ireturn, 1) := by decide +kernel
set_option maxRecDepth 20000 in
theorem ggX0_eatOrFeelLuck_X0_lessenArrears : GoodIn wsX0_eatOrFeelLuck wsX0_lessenArrears := goodIn_r _ [15, 2, 4, 5, 6, 7, 20, 21, 22, 23, 24, 25, 26, 27, 28, 29, 30, 31, 32, 33] (by decide +kernel) (by decide +kernel)
set_option maxRecDepth 20000 in
theorem gX0_eatOrFeelLuck_X0_lessenArrears : GoodIn wsX0_eatOrFeelLuck (wsV RX0 79 RX0 yX0_lessenArrears wsX0_lessenArrears) := goodIn_app (goodIn_of _ (by decide +kernel)) ggX0_eatOrFeelLuck_X0_lessenArrears
set_option maxRecDepth 20000 in
theorem ggX0_eatOrFeelLuck_X0_lossOf : GoodIn wsX0_eatOrFeelLuck wsX0_lossOf := goodIn_r _ [19, 1, 2, 20, 21, 22, 23, 24, 25, 26, 27, 28, 29, 30, 31, 32, 33] (by decide +kernel) (by decide +kernel)
set_option maxRecDepth 20000 in
theorem gX0_eatOrFeelLuck_X0_lossOf : GoodIn wsX0_eatOrFeelLuck (wsV RX0 105 RX0 yX0_lossOf wsX0_lossOf) := goodIn_app (goodIn_of _ (by decide +kernel)) ggX0_eatOrFeelLuck_X0_lossOf
theorem dX0_eatOrFeelLuck_0 : decode cX0_eatOrFeelLuck 0 = .ok (.aload_n 0, 1) := by decide +kernel
theorem dX0_eatOrFeelLuck_1 : decode cX0_eatOrFeelLuck 1 = .ok (.getfield 16, 3) := by decide +kernel
theorem dX0_eatOrFeelLuck_4 : decode cX0_eatOrFeelLuck 4 = .ok (.iload_n 1, 1) := by decide +kernel
theorem dX0_eatOrFeelLuck_5 : decode cX0_eatOrFeelLuck 5 = .ok (.iaload, 1) := by decide +kernel
theorem dX0_eatOrFeelLuck_6 : decode cX0_eatOrFeelLuck 6 = .ok (.ifCond .le 22, 3) := by decide +kernel
theorem dX0_eatOrFeelLuck_9 : decode cX0_eatOrFeelLuck 9 = .ok (.aload_n 0, 1) := by decide +kernel
theorem dX0_eatOrFeelLuck_10 : decode cX0_eatOrFeelLuck 10 = .ok (.getfield 16, 3) := by decide +kernel
theorem dX0_eatOrFeelLuck_13 : decode cX0_eatOrFeelLuck 13 = .ok (.iload_n 1, 1) := by decide +kernel
theorem dX0_eatOrFeelLuck_14 : decode cX0_eatOrFeelLuck 14 = .ok (.dup2, 1) := by decide +kernel
theorem dX0_eatOrFeelLuck_15 : decode cX0_eatOrFeelLuck 15 = .ok (.iaload, 1) := by decide +kernel
theorem dX0_eatOrFeelLuck_16 : decode cX0_eatOrFeelLuck 16 = .ok (.iconst 1, 1) := by decide +kernel
theorem dX0_eatOrFeelLuck_17 : decode cX0_eatOrFeelLuck 17 = .ok (.isub, 1) := by decide +kernel
theorem dX0_eatOrFeelLuck_18 : decode cX0_eatOrFeelLuck 18 = .ok (.iastore, 1) := by decide +kernel
theorem dX0_eatOrFeelLuck_19 : decode cX0_eatOrFeelLuck 19 = .ok (.aload_n 0, 1) := by decide +kernel
theorem dX0_eatOrFeelLuck_20 : decode cX0_eatOrFeelLuck 20 = .ok (.iload_n 1, 1) := by decide +kernel
theorem dX0_eatOrFeelLuck_21 : decode cX0_eatOrFeelLuck 21 = .ok (.iconst 3, 1) := by decide +kernel
theorem dX0_eatOrFeelLuck_22 : decode cX0_eatOrFeelLuck 22 = .ok (.invokevirtual 79, 3) := by decide +kernel
theorem dX0_eatOrFeelLuck_25 : decode cX0_eatOrFeelLuck 25 = .ok (.goto 56, 3) := by decide +kernel
theorem dX0_eatOrFeelLuck_28 : decode cX0_eatOrFeelLuck 28 = .ok (.aload_n 0, 1) := by decide +kernel
theorem dX0_eatOrFeelLuck_29 : decode cX0_eatOrFeelLuck 29 = .ok (.getfield 13, 3) := by decide +kernel
theorem dX0_eatOrFeelLuck_32 : decode cX0_eatOrFeelLuck 32 = .ok (.iload_n 1, 1) := by decide +kernel
theorem dX0_eatOrFeelLuck_33 : decode cX0_eatOrFeelLuck 33 = .ok (.iaload, 1) := by decide +kernel
theorem dX0_eatOrFeelLuck_34 : decode cX0_eatOrFeelLuck 34 = .ok (.ifCond .le 28, 3) := by decide +kernel
theorem dX0_eatOrFeelLuck_37 : decode cX0_eatOrFeelLuck 37 = .ok (.aload_n 0, 1) := by decide +kernel
theorem dX0_eatOrFeelLuck_38 : decode cX0_eatOrFeelLuck 38 = .ok (.getfield 9, 3) := by decide +kernel
theorem dX0_eatOrFeelLuck_41 : decode cX0_eatOrFeelLuck 41 = .ok (.iload_n 1, 1) := by decide +kernel
theorem dX0_eatOrFeelLuck_42 : decode cX0_eatOrFeelLuck 42 = .ok (.iconst 0, 1) := by decide +kernel
theorem dX0_eatOrFeelLuck_43 : decode cX0_eatOrFeelLuck 43 = .ok (.aload_n 0, 1) := by decide +kernel
theorem dX0_eatOrFeelLuck_44 : decode cX0_eatOrFeelLuck 44 = .ok (.getfield 9, 3) := by decide +kernel
theorem dX0_eatOrFeelLuck_47 : decode cX0_eatOrFeelLuck 47 = .ok (.iload_n 1, 1) := by decide +kernel
theorem dX0_eatOrFeelLuck_48 : decode cX0_eatOrFeelLuck 48 = .ok (.iaload, 1) := by decide +kernel
theorem dX0_eatOrFeelLuck_49 : decode cX0_eatOrFeelLuck 49 = .ok (.aload_n 0, 1) := by decide +kernel
theorem dX0_eatOrFeelLuck_50 : decode cX0_eatOrFeelLuck 50 = .ok (.iload_n 1, 1) := by decide +kernel
theorem dX0_eatOrFeelLuck_51 : decode cX0_eatOrFeelLuck 51 = .ok (.invokevirtual 105, 3) := by decide +kernel
theorem dX0_eatOrFeelLuck_54 : decode cX0_eatOrFeelLuck 54 = .ok (.isub, 1) := by decide +kernel
theorem dX0_eatOrFeelLuck_55 : decode cX0_eatOrFeelLuck 55 = .ok (.invokestatic 213, 3) := by decide +kernel
theorem dX0_eatOrFeelLuck_58 : decode cX0_eatOrFeelLuck 58 = .ok (.iastore, 1) := by decide +kernel
theorem dX0_eatOrFeelLuck_59 : decode cX0_eatOrFeelLuck 59 = .ok (.goto 22, 3) := by decide +kernel
theorem dX0_eatOrFeelLuck_62 : decode cX0_eatOrFeelLuck 62 = .ok (.aload_n 0, 1) := by decide +kernel
theorem dX0_eatOrFeelLuck_63 : decode cX0_eatOrFeelLuck 63 = .ok (.getfield 9, 3) := by decide +kernel
theorem dX0_eatOrFeelLuck_66 : decode cX0_eatOrFeelLuck 66 = .ok (.iload_n 1, 1) := by decide +kernel
theorem dX0_eatOrFeelLuck_67 : decode cX0_eatOrFeelLuck 67 = .ok (.bipush 100, 2) := by decide +kernel
theorem dX0_eatOrFeelLuck_69 : decode cX0_eatOrFeelLuck 69 = .ok (.aload_n 0, 1) := by decide +kernel
theorem dX0_eatOrFeelLuck_70 : decode cX0_eatOrFeelLuck 70 = .ok (.getfield 9, 3) := by decide +kernel
theorem dX0_eatOrFeelLuck_73 : decode cX0_eatOrFeelLuck 73 = .ok (.iload_n 1, 1) := by decide +kernel
theorem dX0_eatOrFeelLuck_74 : decode cX0_eatOrFeelLuck 74 = .ok (.iaload, 1) := by decide +kernel
theorem dX0_eatOrFeelLuck_75 : decode cX0_eatOrFeelLuck 75 = .ok (.iconst 1, 1) := by decide +kernel
theorem dX0_eatOrFeelLuck_76 : decode cX0_eatOrFeelLuck 76 = .ok (.iadd, 1) := by decide +kernel
theorem dX0_eatOrFeelLuck_77 : decode cX0_eatOrFeelLuck 77 = .ok (.invokestatic 89, 3) := by decide +kernel
theorem dX0_eatOrFeelLuck_80 : decode cX0_eatOrFeelLuck 80 = .ok (.iastore, 1) := by decide +kernel
theorem dX0_eatOrFeelLuck_81 : decode cX0_eatOrFeelLuck 81 = .ok (.return_, 1) := by decide +kernel
set_option maxRecDepth 20000 in
theorem ggX0_passOneDay_X0_isAuditDay : GoodIn wsX0_passOneDay wsX0_isAuditDay := goodIn_r _ [6] (by decide +kernel) (by decide +kernel)
set_option maxRecDepth 20000 in
theorem gX0_passOneDay_X0_isAuditDay : GoodIn wsX0_passOneDay (va_wsS RX0 216 yX0_isAuditDay wsX0_isAuditDay) := goodIn_app (goodIn_of _ (by decide +kernel)) ggX0_passOneDay_X0_isAuditDay
set_option maxRecDepth 20000 in
theorem ggX0_passOneDay_X0_audit : GoodIn wsX0_passOneDay wsX0_audit := goodIn_r _ [10, 2, 11, 12, 13, 14, 15, 5, 16, 17, 18, 19, 20, 21, 22, 23, 24, 25, 26, 27, 28, 29, 30, 31, 49, 50, 51, 52, 53, 54, 55, 56, 57, 58, 59, 60, 61, 62] (by decide +kernel) (by decide +kernel)
set_option maxRecDepth 20000 in
theorem gX0_passOneDay_X0_audit : GoodIn wsX0_passOneDay (wsV RX0 219 RX0 yX0_audit wsX0_audit) := goodIn_app (goodIn_of _ (by decide +kernel)) ggX0_passOneDay_X0_audit
set_option maxRecDepth 20000 in
theorem ggX0_passOneDay_X0_eatOrFeelLuck : GoodIn wsX0_passOneDay wsX0_eatOrFeelLuck := goodIn_r _ [35, 36, 27, 37, 38, 39, 30, 40, 28, 29, 31, 41, 42, 43, 5, 44, 45, 46, 47, 48, 49, 50, 51, 52, 53, 54, 55, 56, 57, 58, 59, 60, 61, 62] (by decide +kernel) (by decide +kernel)
set_option maxRecDepth 20000 in
theorem gX0_passOneDay_X0_eatOrFeelLuck : GoodIn wsX0_passOneDay (wsV RX0 222 RX0 yX0_eatOrFeelLuck wsX0_eatOrFeelLuck) := goodIn_app (goodIn_of _ (by decide +kernel)) ggX0_passOneDay_X0_eatOrFeelLuck
theorem dX0_passOneDay_0 : decode cX0_passOneDay 0 = .ok (.aload_n 0, 1) := by decide +kernel
theorem dX0_passOneDay_1 : decode cX0_passOneDay 1 = .ok (.getfield 42, 3) := by decide +kernel
theorem dX0_passOneDay_4 : decode cX0_passOneDay 4 = .ok (.invokestatic 216, 3) := by decide +kernel
theorem dX0_passOneDay_7 : decode cX0_passOneDay 7 = .ok (.ifCond .eq 10, 3) := by decide +kernel
theorem dX0_passOneDay_10 : decode cX0_passOneDay 10 = .ok (.aload_n 0, 1) := by decide +kernel
theorem dX0_passOneDay_11 : decode cX0_passOneDay 11 = .ok (.invokevirtual 219, 3) := by decide +kernel
theorem dX0_passOneDay_14 : decode cX0_passOneDay 14 = .ok (.goto 4, 3) := by decide +kernel
theorem dX0_passOneDay_17 : decode cX0_passOneDay 17 = .ok (.iconst 0, 1) := by decide +kernel
theorem dX0_passOneDay_18 : decode cX0_passOneDay 18 = .ok (.istore_n 1, 1) := by decide +kernel
theorem dX0_passOneDay_19 : decode cX0_passOneDay 19 = .ok (.iconst 0, 1) := by decide +kernel
theorem dX0_passOneDay_20 : decode cX0_passOneDay 20 = .ok (.istore_n 2, 1) := by decide +kernel
theorem dX0_passOneDay_21 : decode cX0_passOneDay 21 = .ok (.iload_n 2, 1) := by decide +kernel
theorem dX0_passOneDay_22 : decode cX0_passOneDay 22 = .ok (.aload_n 0, 1) := by decide +kernel
theorem dX0_passOneDay_23 : decode cX0_passOneDay 23 = .ok (.getfield 32, 3) := by decide +kernel
theorem dX0_passOneDay_26 : decode cX0_passOneDay 26 = .ok (.if_icmp .ge 14, 3) := by decide +kernel
theorem dX0_passOneDay_29 : decode cX0_passOneDay 29 = .ok (.aload_n 0, 1) := by decide +kernel
theorem dX0_passOneDay_30 : decode cX0_passOneDay 30 = .ok (.iload_n 2, 1) := by decide +kernel
theorem dX0_passOneDay_31 : decode cX0_passOneDay 31 = .ok (.invokevirtual 222, 3) := by decide +kernel
theorem dX0_passOneDay_34 : decode cX0_passOneDay 34 = .ok (.iinc 2 1, 3) := by decide +kernel
theorem dX0_passOneDay_37 : decode cX0_passOneDay 37 = .ok (.goto (-16), 3) := by decide +kernel
theorem dX0_passOneDay_40 : decode cX0_passOneDay 40 = .ok (.aload_n 0, 1) := by decide +kernel
theorem dX0_passOneDay_41 : decode cX0_passOneDay 41 = .ok (.dup, 1) := by decide +kernel
theorem dX0_passOneDay_42 : decode cX0_passOneDay 42 = .ok (.getfield 42, 3) := by decide +kernel
theorem dX0_passOneDay_45 : decode cX0_passOneDay 45 = .ok (.iconst 1, 1) := by decide +kernel
theorem dX0_passOneDay_46 : decode cX0_passOneDay 46 = .ok (.iadd, 1) := by decide +kernel
theorem dX0_passOneDay_47 : decode cX0_passOneDay 47 = .ok (.putfield 42, 3) := by decide +kernel
theorem dX0_passOneDay_50 : decode cX0_passOneDay 50 = .ok (.iload_n 1, 1) := by decide +kernel
theorem dX0_passOneDay_51 : decode cX0_passOneDay 51 = .ok (.ireturn, 1) := by decide +kernel
theorem dX0_isAuditDay_0 : decode cX0_isAuditDay 0 = .ok (.iload_n 0, 1) := by decide +kernel
theorem dX0_isAuditDay_1 : decode cX0_isAuditDay 1 = .ok (.bipush 7, 2) := by decide +kernel
theorem dX0_isAuditDay_3 : decode cX0_isAuditDay 3 = .ok (.irem, 1) := by decide +kernel
theorem dX0_isAuditDay_4 : decode cX0_isAuditDay 4 = .ok (.bipush 6, 2) := by decide +kernel
theorem dX0_isAuditDay_6 : decode cX0_isAuditDay 6 = .ok (.if_icmp .ne 7, 3) := by decide +kernel
theorem dX0_isAuditDay_9 : decode cX0_isAuditDay 9 = .ok (.iconst 1, 1) := by decide +kernel
theorem dX0_isAuditDay_10 : decode cX0_isAuditDay 10 = .ok (.goto 4, 3) := by decide +kernel
theorem dX0_isAuditDay_13 : decode cX0_isAuditDay 13 = .ok (.iconst 0, 1) := by decide +kernel
theorem dX0_isAuditDay_14 : decode cX0_isAuditDay 14 = .ok (.ireturn, 1) := by decide +kernel
theorem dX0_writeThrow_0 : decode cX0_writeThrow 0 = .ok (.aload_n 0, 1) := by decide +kernel
theorem dX0_writeThrow_1 : decode cX0_writeThrow 1 = .ok (.getfield 19, 3) := by decide +kernel
theorem dX0_writeThrow_4 : decode cX0_writeThrow 4 = .ok (.aload_n 0, 1) := by decide +kernel
theorem dX0_writeThrow_5 : decode cX0_writeThrow 5 = .ok (.getfield 36, 3) := by decide +kernel
theorem dX0_writeThrow_8 : decode cX0_writeThrow 8 = .ok (.iload_n 1, 1) := by decide +kernel
theorem dX0_writeThrow_9 : decode cX0_writeThrow 9 = .ok (.iastore, 1) := by decide +kernel
theorem dX0_writeThrow_10 : decode cX0_writeThrow 10 = .ok (.aload_n 0, 1) := by decide +kernel
theorem dX0_writeThrow_11 : decode cX0_writeThrow 11 = .ok (.getfield 22, 3) := by decide +kernel
theorem dX0_writeThrow_14 : decode cX0_writeThrow 14 = .ok (.aload_n 0, 1) := by decide +kernel
theorem dX0_writeThrow_15 : decode cX0_writeThrow 15 = .ok (.getfield 36, 3) := by decide +kernel
theorem dX0_writeThrow_18 : decode cX0_writeThrow 18 = .ok (.iload_n 2, 1) := by decide +kernel
theorem dX0_writeThrow_19 : decode cX0_writeThrow 19 = .ok (.bastore, 1) := by decide +kernel
theorem dX0_writeThrow_20 : decode cX0_writeThrow 20 = .ok (.aload_n 0, 1) := by decide +kernel
theorem dX0_writeThrow_21 : decode cX0_writeThrow 21 = .ok (.getfield 26, 3) := by decide +kernel
theorem dX0_writeThrow_24 : decode cX0_writeThrow 24 = .ok (.aload_n 0, 1) := by decide +kernel
theorem dX0_writeThrow_25 : decode cX0_writeThrow 25 = .ok (.getfield 36, 3) := by decide +kernel
theorem dX0_writeThrow_28 : decode cX0_writeThrow 28 = .ok (.iload_n 3, 1) := by decide +kernel
theorem dX0_writeThrow_29 : decode cX0_writeThrow 29 = .ok (.iastore, 1) := by decide +kernel
theorem dX0_writeThrow_30 : decode cX0_writeThrow 30 = .ok (.aload_n 0, 1) := by decide +kernel
theorem dX0_writeThrow_31 : decode cX0_writeThrow 31 = .ok (.getfield 29, 3) := by decide +kernel
theorem dX0_writeThrow_34 : decode cX0_writeThrow 34 = .ok (.aload_n 0, 1) := by decide +kernel
theorem dX0_writeThrow_35 : decode cX0_writeThrow 35 = .ok (.getfield 36, 3) := by decide +kernel
theorem dX0_writeThrow_38 : decode cX0_writeThrow 38 = .ok (.iload 4, 2) := by decide +kernel
theorem dX0_writeThrow_40 : decode cX0_writeThrow 40 = .ok (.iastore, 1) := by decide +kernel
theorem dX0_writeThrow_41 : decode cX0_writeThrow 41 = .ok (.aload_n 0, 1) := by decide +kernel
theorem dX0_writeThrow_42 : decode cX0_writeThrow 42 = .ok (.dup, 1) := by decide +kernel
theorem dX0_writeThrow_43 : decode cX0_writeThrow 43 = .ok (.getfield 36, 3) := by decide +kernel
theorem dX0_writeThrow_46 : decode cX0_writeThrow 46 = .ok (.iconst 1, 1) := by decide +kernel
theorem dX0_writeThrow_47 : decode cX0_writeThrow 47 = .ok (.iadd, 1) := by decide +kernel
theorem dX0_writeThrow_48 : decode cX0_writeThrow 48 = .ok (.putfield 36, 3) := by decide +kernel
theorem dX0_writeThrow_51 : decode cX0_writeThrow 51 = .ok (.return_, 1) := by decide +kernel
theorem dX0_debtOf_0 : decode cX0_debtOf 0 = .ok (.iconst 0, 1) := by decide +kernel
theorem dX0_debtOf_1 : decode cX0_debtOf 1 = .ok (.istore_n 2, 1) := by decide +kernel
theorem dX0_debtOf_2 : decode cX0_debtOf 2 = .ok (.iconst 0, 1) := by decide +kernel
theorem dX0_debtOf_3 : decode cX0_debtOf 3 = .ok (.istore_n 3, 1) := by decide +kernel
theorem dX0_debtOf_4 : decode cX0_debtOf 4 = .ok (.iload_n 3, 1) := by decide +kernel
theorem dX0_debtOf_5 : decode cX0_debtOf 5 = .ok (.aload_n 0, 1) := by decide +kernel
theorem dX0_debtOf_6 : decode cX0_debtOf 6 = .ok (.getfield 36, 3) := by decide +kernel
theorem dX0_debtOf_9 : decode cX0_debtOf 9 = .ok (.if_icmp .ge 30, 3) := by decide +kernel
theorem dX0_debtOf_12 : decode cX0_debtOf 12 = .ok (.aload_n 0, 1) := by decide +kernel
theorem dX0_debtOf_13 : decode cX0_debtOf 13 = .ok (.getfield 19, 3) := by decide +kernel
theorem dX0_debtOf_16 : decode cX0_debtOf 16 = .ok (.iload_n 3, 1) := by decide +kernel
theorem dX0_debtOf_17 : decode cX0_debtOf 17 = .ok (.iaload, 1) := by decide +kernel
theorem dX0_debtOf_18 : decode cX0_debtOf 18 = .ok (.iload_n 1, 1) := by decide +kernel
theorem dX0_debtOf_19 : decode cX0_debtOf 19 = .ok (.if_icmp .ne 14, 3) := by decide +kernel
theorem dX0_debtOf_22 : decode cX0_debtOf 22 = .ok (.iload_n 2, 1) := by decide +kernel
theorem dX0_debtOf_23 : decode cX0_debtOf 23 = .ok (.iconst 2, 1) := by decide +kernel
theorem dX0_debtOf_24 : decode cX0_debtOf 24 = .ok (.aload_n 0, 1) := by decide +kernel
theorem dX0_debtOf_25 : decode cX0_debtOf 25 = .ok (.getfield 29, 3) := by decide +kernel
theorem dX0_debtOf_28 : decode cX0_debtOf 28 = .ok (.iload_n 3, 1) := by decide +kernel
theorem dX0_debtOf_29 : decode cX0_debtOf 29 = .ok (.iaload, 1) := by decide +kernel
theorem dX0_debtOf_30 : decode cX0_debtOf 30 = .ok (.imul, 1) := by decide +kernel
theorem dX0_debtOf_31 : decode cX0_debtOf 31 = .ok (.iadd, 1) := by decide +kernel
theorem dX0_debtOf_32 : decode cX0_debtOf 32 = .ok (.istore_n 2, 1) := by decide +kernel
theorem dX0_debtOf_33 : decode cX0_debtOf 33 = .ok (.iinc 3 1, 3) := by decide +kernel
theorem dX0_debtOf_36 : decode cX0_debtOf 36 = .ok (.goto (-32), 3) := by decide +kernel
theorem dX0_debtOf_39 : decode cX0_debtOf 39 = .ok (.iload_n 2, 1) := by decide +kernel
theorem dX0_debtOf_40 : decode cX0_debtOf 40 = .ok (.ireturn, 1) := by decide +kernel
set_option maxRecDepth 20000 in
theorem ggX0_beginTrial_X0_debtOf : GoodIn wsX0_beginTrial wsX0_debtOf := goodIn_r _ [11, 12, 13, 14, 15, 16, 17, 18, 19, 20, 21, 22, 23, 24, 25, 26, 27, 28] (by decide +kernel) (by decide +kernel)
set_option maxRecDepth 20000 in
theorem gX0_beginTrial_X0_debtOf : GoodIn wsX0_beginTrial (wsV RX0 98 RX0 yX0_debtOf wsX0_debtOf) := goodIn_app (goodIn_of _ (by decide +kernel)) ggX0_beginTrial_X0_debtOf
theorem dX0_beginTrial_0 : decode cX0_beginTrial 0 = .ok (.aload_n 0, 1) := by decide +kernel
theorem dX0_beginTrial_1 : decode cX0_beginTrial 1 = .ok (.getfield 9, 3) := by decide +kernel
theorem dX0_beginTrial_4 : decode cX0_beginTrial 4 = .ok (.bipush 8, 2) := by decide +kernel
theorem dX0_beginTrial_6 : decode cX0_beginTrial 6 = .ok (.aload_n 0, 1) := by decide +kernel
theorem dX0_beginTrial_7 : decode cX0_beginTrial 7 = .ok (.getfield 9, 3) := by decide +kernel
theorem dX0_beginTrial_10 : decode cX0_beginTrial 10 = .ok (.iload_n 1, 1) := by decide +kernel
theorem dX0_beginTrial_11 : decode cX0_beginTrial 11 = .ok (.iaload, 1) := by decide +kernel
theorem dX0_beginTrial_12 : decode cX0_beginTrial 12 = .ok (.iastore, 1) := by decide +kernel
theorem dX0_beginTrial_13 : decode cX0_beginTrial 13 = .ok (.aload_n 0, 1) := by decide +kernel
theorem dX0_beginTrial_14 : decode cX0_beginTrial 14 = .ok (.getfield 13, 3) := by decide +kernel
theorem dX0_beginTrial_17 : decode cX0_beginTrial 17 = .ok (.bipush 8, 2) := by decide +kernel
theorem dX0_beginTrial_19 : decode cX0_beginTrial 19 = .ok (.aload_n 0, 1) := by decide +kernel
theorem dX0_beginTrial_20 : decode cX0_beginTrial 20 = .ok (.getfield 13, 3) := by decide +kernel
theorem dX0_beginTrial_23 : decode cX0_beginTrial 23 = .ok (.iload_n 1, 1) := by decide +kernel
theorem dX0_beginTrial_24 : decode cX0_beginTrial 24 = .ok (.iaload, 1) := by decide +kernel
theorem dX0_beginTrial_25 : decode cX0_beginTrial 25 = .ok (.iastore, 1) := by decide +kernel
theorem dX0_beginTrial_26 : decode cX0_beginTrial 26 = .ok (.aload_n 0, 1) := by decide +kernel
theorem dX0_beginTrial_27 : decode cX0_beginTrial 27 = .ok (.getfield 16, 3) := by decide +kernel
theorem dX0_beginTrial_30 : decode cX0_beginTrial 30 = .ok (.bipush 8, 2) := by decide +kernel
theorem dX0_beginTrial_32 : decode cX0_beginTrial 32 = .ok (.aload_n 0, 1) := by decide +kernel
theorem dX0_beginTrial_33 : decode cX0_beginTrial 33 = .ok (.getfield 16, 3) := by decide +kernel
theorem dX0_beginTrial_36 : decode cX0_beginTrial 36 = .ok (.iload_n 1, 1) := by decide +kernel
theorem dX0_beginTrial_37 : decode cX0_beginTrial 37 = .ok (.iaload, 1) := by decide +kernel
theorem dX0_beginTrial_38 : decode cX0_beginTrial 38 = .ok (.iastore, 1) := by decide +kernel
theorem dX0_beginTrial_39 : decode cX0_beginTrial 39 = .ok (.aload_n 0, 1) := by decide +kernel
theorem dX0_beginTrial_40 : decode cX0_beginTrial 40 = .ok (.aload_n 0, 1) := by decide +kernel
theorem dX0_beginTrial_41 : decode cX0_beginTrial 41 = .ok (.getfield 42, 3) := by decide +kernel
theorem dX0_beginTrial_44 : decode cX0_beginTrial 44 = .ok (.putfield 225, 3) := by decide +kernel
theorem dX0_beginTrial_47 : decode cX0_beginTrial 47 = .ok (.aload_n 0, 1) := by decide +kernel
theorem dX0_beginTrial_48 : decode cX0_beginTrial 48 = .ok (.aload_n 0, 1) := by decide +kernel
theorem dX0_beginTrial_49 : decode cX0_beginTrial 49 = .ok (.iload_n 1, 1) := by decide +kernel
theorem dX0_beginTrial_50 : decode cX0_beginTrial 50 = .ok (.invokevirtual 98, 3) := by decide +kernel
theorem dX0_beginTrial_53 : decode cX0_beginTrial 53 = .ok (.putfield 228, 3) := by decide +kernel
theorem dX0_beginTrial_56 : decode cX0_beginTrial 56 = .ok (.return_, 1) := by decide +kernel
set_option maxRecDepth 20000 in
theorem ggX0_beginTrialWithPinch_X0_beginTrial : GoodIn wsX0_beginTrialWithPinch wsX0_beginTrial := goodIn_r _ [6, 7, 8, 9, 10, 11, 1, 12, 13, 14, 5, 15, 16, 17, 18, 31, 32, 33, 34, 35, 36, 37, 38, 39, 40, 41, 42, 43, 44] (by decide +kernel) (by decide +kernel)
set_option maxRecDepth 20000 in
theorem gX0_beginTrialWithPinch_X0_beginTrial : GoodIn wsX0_beginTrialWithPinch (wsV RX0 111 RX0 yX0_beginTrial wsX0_beginTrial) := goodIn_app (goodIn_of _ (by decide +kernel)) ggX0_beginTrialWithPinch_X0_beginTrial
set_option maxRecDepth 20000 in
theorem ggX0_beginTrialWithPinch_X0_leftExcess : GoodIn wsX0_beginTrialWithPinch wsX0_leftExcess := goodIn_r _ [22, 8, 23, 24, 25, 26, 31, 32, 33, 34, 35, 36, 37, 38, 39, 40, 41, 42, 43, 44] (by decide +kernel) (by decide +kernel)
set_option maxRecDepth 20000 in
theorem gX0_beginTrialWithPinch_X0_leftExcess : GoodIn wsX0_beginTrialWithPinch (wsV RX0 75 RX0 yX0_leftExcess wsX0_leftExcess) := goodIn_app (goodIn_of _ (by decide +kernel)) ggX0_beginTrialWithPinch_X0_leftExcess
set_option maxRecDepth 20000 in
theorem ggX0_beginTrialWithPinch_X0_lessenArrears : GoodIn wsX0_beginTrialWithPinch wsX0_lessenArrears := goodIn_r _ [30, 8, 23, 24, 25, 26, 31, 32, 33, 34, 35, 36, 37, 38, 39, 40, 41, 42, 43, 44] (by decide +kernel) (by decide +kernel)
set_option maxRecDepth 20000 in
theorem gX0_beginTrialWithPinch_X0_lessenArrears : GoodIn wsX0_beginTrialWithPinch (wsV RX0 79 RX0 yX0_lessenArrears wsX0_lessenArrears) := goodIn_app (goodIn_of _ (by decide +kernel)) ggX0_beginTrialWithPinch_X0_lessenArrears
theorem dX0_beginTrialWithPinch_0 : decode cX0_beginTrialWithPinch 0 = .ok (.aload_n 0, 1) := by decide +kernel
theorem dX0_beginTrialWithPinch_1 : decode cX0_beginTrialWithPinch 1 = .ok (.iload_n 1, 1) := by decide +kernel
theorem dX0_beginTrialWithPinch_2 : decode cX0_beginTrialWithPinch 2 = .ok (.invokevirtual 111, 3) := by decide +kernel
theorem dX0_beginTrialWithPinch_5 : decode cX0_beginTrialWithPinch 5 = .ok (.aload_n 0, 1) := by decide +kernel
theorem dX0_beginTrialWithPinch_6 : decode cX0_beginTrialWithPinch 6 = .ok (.dup, 1) := by decide +kernel
theorem dX0_beginTrialWithPinch_7 : decode cX0_beginTrialWithPinch 7 = .ok (.getfield 228, 3) := by decide +kernel
theorem dX0_beginTrialWithPinch_10 : decode cX0_beginTrialWithPinch 10 = .ok (.iconst 2, 1) := by decide +kernel
theorem dX0_beginTrialWithPinch_11 : decode cX0_beginTrialWithPinch 11 = .ok (.aload_n 0, 1) := by decide +kernel
theorem dX0_beginTrialWithPinch_12 : decode cX0_beginTrialWithPinch 12 = .ok (.bipush 8, 2) := by decide +kernel
theorem dX0_beginTrialWithPinch_14 : decode cX0_beginTrialWithPinch 14 = .ok (.iload_n 2, 1) := by decide +kernel
theorem dX0_beginTrialWithPinch_15 : decode cX0_beginTrialWithPinch 15 = .ok (.invokevirtual 75, 3) := by decide +kernel
theorem dX0_beginTrialWithPinch_18 : decode cX0_beginTrialWithPinch 18 = .ok (.imul, 1) := by decide +kernel
theorem dX0_beginTrialWithPinch_19 : decode cX0_beginTrialWithPinch 19 = .ok (.iadd, 1) := by decide +kernel
theorem dX0_beginTrialWithPinch_20 : decode cX0_beginTrialWithPinch 20 = .ok (.putfield 228, 3) := by decide +kernel
theorem dX0_beginTrialWithPinch_23 : decode cX0_beginTrialWithPinch 23 = .ok (.aload_n 0, 1) := by decide +kernel
theorem dX0_beginTrialWithPinch_24 : decode cX0_beginTrialWithPinch 24 = .ok (.bipush 8, 2) := by decide +kernel
theorem dX0_beginTrialWithPinch_26 : decode cX0_beginTrialWithPinch 26 = .ok (.iload_n 2, 1) := by decide +kernel
theorem dX0_beginTrialWithPinch_27 : decode cX0_beginTrialWithPinch 27 = .ok (.invokevirtual 79, 3) := by decide +kernel
theorem dX0_beginTrialWithPinch_30 : decode cX0_beginTrialWithPinch 30 = .ok (.return_, 1) := by decide +kernel
set_option maxRecDepth 20000 in
theorem ggX0_beginTrialWithPenance_X0_beginTrial : GoodIn wsX0_beginTrialWithPenance wsX0_beginTrial := goodIn_r _ [5, 6, 7, 8, 9, 10, 11, 12, 13, 14, 4, 15, 16, 17, 18, 27, 28, 29, 30, 31, 32, 33, 34, 35, 36, 37, 38, 39, 40] (by decide +kernel) (by decide +kernel)
set_option maxRecDepth 20000 in
theorem gX0_beginTrialWithPenance_X0_beginTrial : GoodIn wsX0_beginTrialWithPenance (wsV RX0 111 RX0 yX0_beginTrial wsX0_beginTrial) := goodIn_app (goodIn_of _ (by decide +kernel)) ggX0_beginTrialWithPenance_X0_beginTrial
set_option maxRecDepth 20000 in
theorem ggX0_beginTrialWithPenance_X0_addLumps : GoodIn wsX0_beginTrialWithPenance wsX0_addLumps := goodIn_r _ [22, 8, 23, 24, 25, 26, 27, 28, 29, 30, 31, 32, 33, 34, 35, 36, 37, 38, 39, 40] (by decide +kernel) (by decide +kernel)
set_option maxRecDepth 20000 in
theorem gX0_beginTrialWithPenance_X0_addLumps : GoodIn wsX0_beginTrialWithPenance (wsV RX0 86 RX0 yX0_addLumps wsX0_addLumps) := goodIn_app (goodIn_of _ (by decide +kernel)) ggX0_beginTrialWithPenance_X0_addLumps
theorem dX0_beginTrialWithPenance_0 : decode cX0_beginTrialWithPenance 0 = .ok (.aload_n 0, 1) := by decide +kernel
theorem dX0_beginTrialWithPenance_1 : decode cX0_beginTrialWithPenance 1 = .ok (.iload_n 1, 1) := by decide +kernel
theorem dX0_beginTrialWithPenance_2 : decode cX0_beginTrialWithPenance 2 = .ok (.invokevirtual 111, 3) := by decide +kernel
theorem dX0_beginTrialWithPenance_5 : decode cX0_beginTrialWithPenance 5 = .ok (.aload_n 0, 1) := by decide +kernel
theorem dX0_beginTrialWithPenance_6 : decode cX0_beginTrialWithPenance 6 = .ok (.bipush 8, 2) := by decide +kernel
theorem dX0_beginTrialWithPenance_8 : decode cX0_beginTrialWithPenance 8 = .ok (.iload_n 2, 1) := by decide +kernel
theorem dX0_beginTrialWithPenance_9 : decode cX0_beginTrialWithPenance 9 = .ok (.invokevirtual 86, 3) := by decide +kernel
theorem dX0_beginTrialWithPenance_12 : decode cX0_beginTrialWithPenance 12 = .ok (.return_, 1) := by decide +kernel
set_option maxRecDepth 20000 in
theorem ggX0_passTrialDay_X0_isAuditDay : GoodIn wsX0_passTrialDay wsX0_isAuditDay := goodIn_r _ [6] (by decide +kernel) (by decide +kernel)
set_option maxRecDepth 20000 in
theorem gX0_passTrialDay_X0_isAuditDay : GoodIn wsX0_passTrialDay (va_wsS RX0 216 yX0_isAuditDay wsX0_isAuditDay) := goodIn_app (goodIn_of _ (by decide +kernel)) ggX0_passTrialDay_X0_isAuditDay
set_option maxRecDepth 20000 in
theorem ggX0_passTrialDay_X0_addArrears : GoodIn wsX0_passTrialDay wsX0_addArrears := goodIn_r _ [10, 11, 12, 13, 14, 15, 33, 34, 35, 36, 37, 38, 39, 40, 41, 42, 43, 44, 45, 46] (by decide +kernel) (by decide +kernel)
set_option maxRecDepth 20000 in
theorem gX0_passTrialDay_X0_addArrears : GoodIn wsX0_passTrialDay (wsV RX0 66 RX0 yX0_addArrears wsX0_addArrears) := goodIn_app (goodIn_of _ (by decide +kernel)) ggX0_passTrialDay_X0_addArrears
set_option maxRecDepth 20000 in
theorem ggX0_passTrialDay_X0_eatOrFeelLuck : GoodIn wsX0_passTrialDay wsX0_eatOrFeelLuck := goodIn_r _ [19, 20, 11, 21, 22, 23, 14, 24, 12, 13, 15, 25, 26, 27, 5, 28, 29, 30, 31, 32, 33, 34, 35, 36, 37, 38, 39, 40, 41, 42, 43, 44, 45, 46] (by decide +kernel) (by decide +kernel)
set_option maxRecDepth 20000 in
theorem gX0_passTrialDay_X0_eatOrFeelLuck : GoodIn wsX0_passTrialDay (wsV RX0 222 RX0 yX0_eatOrFeelLuck wsX0_eatOrFeelLuck) := goodIn_app (goodIn_of _ (by decide +kernel)) ggX0_passTrialDay_X0_eatOrFeelLuck
theorem dX0_passTrialDay_0 : decode cX0_passTrialDay 0 = .ok (.aload_n 0, 1) := by decide +kernel
theorem dX0_passTrialDay_1 : decode cX0_passTrialDay 1 = .ok (.getfield 225, 3) := by decide +kernel
theorem dX0_passTrialDay_4 : decode cX0_passTrialDay 4 = .ok (.invokestatic 216, 3) := by decide +kernel
theorem dX0_passTrialDay_7 : decode cX0_passTrialDay 7 = .ok (.ifCond .eq 18, 3) := by decide +kernel
theorem dX0_passTrialDay_10 : decode cX0_passTrialDay 10 = .ok (.aload_n 0, 1) := by decide +kernel
theorem dX0_passTrialDay_11 : decode cX0_passTrialDay 11 = .ok (.bipush 8, 2) := by decide +kernel
theorem dX0_passTrialDay_13 : decode cX0_passTrialDay 13 = .ok (.aload_n 0, 1) := by decide +kernel
theorem dX0_passTrialDay_14 : decode cX0_passTrialDay 14 = .ok (.getfield 228, 3) := by decide +kernel
theorem dX0_passTrialDay_17 : decode cX0_passTrialDay 17 = .ok (.invokevirtual 66, 3) := by decide +kernel
theorem dX0_passTrialDay_20 : decode cX0_passTrialDay 20 = .ok (.aload_n 0, 1) := by decide +kernel
theorem dX0_passTrialDay_21 : decode cX0_passTrialDay 21 = .ok (.iconst 0, 1) := by decide +kernel
theorem dX0_passTrialDay_22 : decode cX0_passTrialDay 22 = .ok (.putfield 228, 3) := by decide +kernel
theorem dX0_passTrialDay_25 : decode cX0_passTrialDay 25 = .ok (.aload_n 0, 1) := by decide +kernel
theorem dX0_passTrialDay_26 : decode cX0_passTrialDay 26 = .ok (.bipush 8, 2) := by decide +kernel
theorem dX0_passTrialDay_28 : decode cX0_passTrialDay 28 = .ok (.invokevirtual 222, 3) := by decide +kernel
theorem dX0_passTrialDay_31 : decode cX0_passTrialDay 31 = .ok (.aload_n 0, 1) := by decide +kernel
theorem dX0_passTrialDay_32 : decode cX0_passTrialDay 32 = .ok (.dup, 1) := by decide +kernel
theorem dX0_passTrialDay_33 : decode cX0_passTrialDay 33 = .ok (.getfield 225, 3) := by decide +kernel
theorem dX0_passTrialDay_36 : decode cX0_passTrialDay 36 = .ok (.iconst 1, 1) := by decide +kernel
theorem dX0_passTrialDay_37 : decode cX0_passTrialDay 37 = .ok (.iadd, 1) := by decide +kernel
theorem dX0_passTrialDay_38 : decode cX0_passTrialDay 38 = .ok (.putfield 225, 3) := by decide +kernel
theorem dX0_passTrialDay_41 : decode cX0_passTrialDay 41 = .ok (.return_, 1) := by decide +kernel
set_option maxRecDepth 20000 in
theorem ggX0_trialLuckBehind_X0_passTrialDay : GoodIn wsX0_trialLuckBehind wsX0_passTrialDay := goodIn_r _ [6, 7, 8, 9, 10, 5, 11, 12, 13, 14, 15, 16, 17, 18, 19, 20, 21, 22, 23, 24, 25, 1, 26, 27, 28, 29, 30, 31, 32, 33, 34, 35, 36, 37, 38, 39, 40, 41, 42, 43, 44, 45, 46, 47, 48, 49, 50] (by decide +kernel) (by decide +kernel)
set_option maxRecDepth 20000 in
theorem gX0_trialLuckBehind_X0_passTrialDay : GoodIn wsX0_trialLuckBehind (wsV RX0 117 RX0 yX0_passTrialDay wsX0_passTrialDay) := goodIn_app (goodIn_of _ (by decide +kernel)) ggX0_trialLuckBehind_X0_passTrialDay
theorem dX0_trialLuckBehind_0 : decode cX0_trialLuckBehind 0 = .ok (.iconst 0, 1) := by decide +kernel
theorem dX0_trialLuckBehind_1 : decode cX0_trialLuckBehind 1 = .ok (.istore_n 2, 1) := by decide +kernel
theorem dX0_trialLuckBehind_2 : decode cX0_trialLuckBehind 2 = .ok (.iload_n 2, 1) := by decide +kernel
theorem dX0_trialLuckBehind_3 : decode cX0_trialLuckBehind 3 = .ok (.iload_n 1, 1) := by decide +kernel
theorem dX0_trialLuckBehind_4 : decode cX0_trialLuckBehind 4 = .ok (.if_icmp .ge 13, 3) := by decide +kernel
theorem dX0_trialLuckBehind_7 : decode cX0_trialLuckBehind 7 = .ok (.aload_n 0, 1) := by decide +kernel
theorem dX0_trialLuckBehind_8 : decode cX0_trialLuckBehind 8 = .ok (.invokevirtual 117, 3) := by decide +kernel
theorem dX0_trialLuckBehind_11 : decode cX0_trialLuckBehind 11 = .ok (.iinc 2 1, 3) := by decide +kernel
theorem dX0_trialLuckBehind_14 : decode cX0_trialLuckBehind 14 = .ok (.goto (-12), 3) := by decide +kernel
theorem dX0_trialLuckBehind_17 : decode cX0_trialLuckBehind 17 = .ok (.aload_n 0, 1) := by decide +kernel
theorem dX0_trialLuckBehind_18 : decode cX0_trialLuckBehind 18 = .ok (.getfield 9, 3) := by decide +kernel
theorem dX0_trialLuckBehind_21 : decode cX0_trialLuckBehind 21 = .ok (.bipush 8, 2) := by decide +kernel
theorem dX0_trialLuckBehind_23 : decode cX0_trialLuckBehind 23 = .ok (.iaload, 1) := by decide +kernel
theorem dX0_trialLuckBehind_24 : decode cX0_trialLuckBehind 24 = .ok (.ireturn, 1) := by decide +kernel
theorem dX1_init_0 : decode cX1_init 0 = .ok (.aload_n 0, 1) := by decide +kernel
theorem dX1_init_1 : decode cX1_init 1 = .ok (.invokespecial 1, 3) := by decide +kernel
theorem dX1_init_4 : decode cX1_init 4 = .ok (.aload_n 0, 1) := by decide +kernel
theorem dX1_init_5 : decode cX1_init 5 = .ok (.sipush 148, 3) := by decide +kernel
theorem dX1_init_8 : decode cX1_init 8 = .ok (.newarray .int, 2) := by decide +kernel
theorem dX1_init_10 : decode cX1_init 10 = .ok (.putfield 9, 3) := by decide +kernel
theorem dX1_init_13 : decode cX1_init 13 = .ok (.aload_n 0, 1) := by decide +kernel
theorem dX1_init_14 : decode cX1_init 14 = .ok (.sipush 148, 3) := by decide +kernel
theorem dX1_init_17 : decode cX1_init 17 = .ok (.newarray .int, 2) := by decide +kernel
theorem dX1_init_19 : decode cX1_init 19 = .ok (.putfield 13, 3) := by decide +kernel
theorem dX1_init_22 : decode cX1_init 22 = .ok (.aload_n 0, 1) := by decide +kernel
theorem dX1_init_23 : decode cX1_init 23 = .ok (.getfield 9, 3) := by decide +kernel
theorem dX1_init_26 : decode cX1_init 26 = .ok (.iconst 1, 1) := by decide +kernel
theorem dX1_init_27 : decode cX1_init 27 = .ok (.bipush 100, 2) := by decide +kernel
theorem dX1_init_29 : decode cX1_init 29 = .ok (.iastore, 1) := by decide +kernel
theorem dX1_init_30 : decode cX1_init 30 = .ok (.return_, 1) := by decide +kernel
theorem dX1_thrown_0 : decode cX1_thrown 0 = .ok (.aload_n 0, 1) := by decide +kernel
theorem dX1_thrown_1 : decode cX1_thrown 1 = .ok (.getfield 16, 3) := by decide +kernel
theorem dX1_thrown_4 : decode cX1_thrown 4 = .ok (.ireturn, 1) := by decide +kernel
theorem dX1_fail_0 : decode cX1_fail 0 = .ok (.aload_n 0, 1) := by decide +kernel
theorem dX1_fail_1 : decode cX1_fail 1 = .ok (.iload_n 1, 1) := by decide +kernel
theorem dX1_fail_2 : decode cX1_fail 2 = .ok (.putfield 16, 3) := by decide +kernel
theorem dX1_fail_5 : decode cX1_fail 5 = .ok (.iconst 0, 1) := by decide +kernel
theorem dX1_fail_6 : decode cX1_fail 6 = .ok (.ireturn, 1) := by decide +kernel
theorem dX1_told_0 : decode cX1_told 0 = .ok (.aload_n 0, 1) := by decide +kernel
theorem dX1_told_1 : decode cX1_told 1 = .ok (.iconst 0, 1) := by decide +kernel
theorem dX1_told_2 : decode cX1_told 2 = .ok (.putfield 16, 3) := by decide +kernel
theorem dX1_told_5 : decode cX1_told 5 = .ok (.iload_n 1, 1) := by decide +kernel
theorem dX1_told_6 : decode cX1_told 6 = .ok (.ireturn, 1) := by decide +kernel
theorem dX1_isIn_0 : decode cX1_isIn 0 = .ok (.iload_n 0, 1) := by decide +kernel
theorem dX1_isIn_1 : decode cX1_isIn 1 = .ok (.iload_n 1, 1) := by decide +kernel
theorem dX1_isIn_2 : decode cX1_isIn 2 = .ok (.if_icmp .lt 12, 3) := by decide +kernel
theorem dX1_isIn_5 : decode cX1_isIn 5 = .ok (.iload_n 0, 1) := by decide +kernel
theorem dX1_isIn_6 : decode cX1_isIn 6 = .ok (.iload_n 2, 1) := by decide +kernel
theorem dX1_isIn_7 : decode cX1_isIn 7 = .ok (.if_icmp .gt 7, 3) := by decide +kernel
theorem dX1_isIn_10 : decode cX1_isIn 10 = .ok (.iconst 1, 1) := by decide +kernel
theorem dX1_isIn_11 : decode cX1_isIn 11 = .ok (.goto 4, 3) := by decide +kernel
theorem dX1_isIn_14 : decode cX1_isIn 14 = .ok (.iconst 0, 1) := by decide +kernel
theorem dX1_isIn_15 : decode cX1_isIn 15 = .ok (.ireturn, 1) := by decide +kernel
set_option maxRecDepth 20000 in
theorem ggX1_isMember_X1_isIn : GoodIn wsX1_isMember wsX1_isIn := goodIn_r _ [5] (by decide +kernel) (by decide +kernel)
set_option maxRecDepth 20000 in
theorem gX1_isMember_X1_isIn : GoodIn wsX1_isMember (va_wsS RX1 23 yX1_isIn wsX1_isIn) := goodIn_app (goodIn_of _ (by decide +kernel)) ggX1_isMember_X1_isIn
theorem dX1_isMember_0 : decode cX1_isMember 0 = .ok (.iload_n 1, 1) := by decide +kernel
theorem dX1_isMember_1 : decode cX1_isMember 1 = .ok (.iconst 0, 1) := by decide +kernel
theorem dX1_isMember_2 : decode cX1_isMember 2 = .ok (.aload_n 0, 1) := by decide +kernel
theorem dX1_isMember_3 : decode cX1_isMember 3 = .ok (.getfield 20, 3) := by decide +kernel
theorem dX1_isMember_6 : decode cX1_isMember 6 = .ok (.iconst 1, 1) := by decide +kernel
theorem dX1_isMember_7 : decode cX1_isMember 7 = .ok (.isub, 1) := by decide +kernel
theorem dX1_isMember_8 : decode cX1_isMember 8 = .ok (.invokestatic 23, 3) := by decide +kernel
theorem dX1_isMember_11 : decode cX1_isMember 11 = .ok (.ireturn, 1) := by decide +kernel
set_option maxRecDepth 20000 in
theorem ggX1_isThrow_X1_isIn : GoodIn wsX1_isThrow wsX1_isIn := goodIn_r _ [5] (by decide +kernel) (by decide +kernel)
set_option maxRecDepth 20000 in
theorem gX1_isThrow_X1_isIn : GoodIn wsX1_isThrow (va_wsS RX1 23 yX1_isIn wsX1_isIn) := goodIn_app (goodIn_of _ (by decide +kernel)) ggX1_isThrow_X1_isIn
theorem dX1_isThrow_0 : decode cX1_isThrow 0 = .ok (.iload_n 1, 1) := by decide +kernel
theorem dX1_isThrow_1 : decode cX1_isThrow 1 = .ok (.iconst 0, 1) := by decide +kernel
theorem dX1_isThrow_2 : decode cX1_isThrow 2 = .ok (.aload_n 0, 1) := by decide +kernel
theorem dX1_isThrow_3 : decode cX1_isThrow 3 = .ok (.getfield 9, 3) := by decide +kernel
theorem dX1_isThrow_6 : decode cX1_isThrow 6 = .ok (.iconst 3, 1) := by decide +kernel
theorem dX1_isThrow_7 : decode cX1_isThrow 7 = .ok (.iaload, 1) := by decide +kernel
theorem dX1_isThrow_8 : decode cX1_isThrow 8 = .ok (.iconst 1, 1) := by decide +kernel
theorem dX1_isThrow_9 : decode cX1_isThrow 9 = .ok (.isub, 1) := by decide +kernel
theorem dX1_isThrow_10 : decode cX1_isThrow 10 = .ok (.invokestatic 23, 3) := by decide +kernel
theorem dX1_isThrow_13 : decode cX1_isThrow 13 = .ok (.ireturn, 1) := by decide +kernel
theorem dX1_me_0 : decode cX1_me 0 = .ok (.aload_n 0, 1) := by decide +kernel
theorem dX1_me_1 : decode cX1_me 1 = .ok (.getfield 9, 3) := by decide +kernel
theorem dX1_me_4 : decode cX1_me 4 = .ok (.iconst 4, 1) := by decide +kernel
theorem dX1_me_5 : decode cX1_me 5 = .ok (.iconst 3, 1) := by decide +kernel
theorem dX1_me_6 : decode cX1_me 6 = .ok (.iload_n 1, 1) := by decide +kernel
theorem dX1_me_7 : decode cX1_me 7 = .ok (.imul, 1) := by decide +kernel
theorem dX1_me_8 : decode cX1_me 8 = .ok (.iadd, 1) := by decide +kernel
theorem dX1_me_9 : decode cX1_me 9 = .ok (.iload_n 2, 1) := by decide +kernel
theorem dX1_me_10 : decode cX1_me 10 = .ok (.iadd, 1) := by decide +kernel
theorem dX1_me_11 : decode cX1_me 11 = .ok (.iaload, 1) := by decide +kernel
theorem dX1_me_12 : decode cX1_me 12 = .ok (.ireturn, 1) := by decide +kernel
theorem dX1_let_0 : decode cX1_let 0 = .ok (.aload_n 0, 1) := by decide +kernel
theorem dX1_let_1 : decode cX1_let 1 = .ok (.getfield 9, 3) := by decide +kernel
theorem dX1_let_4 : decode cX1_let 4 = .ok (.iconst 4, 1) := by decide +kernel
theorem dX1_let_5 : decode cX1_let 5 = .ok (.iconst 3, 1) := by decide +kernel
theorem dX1_let_6 : decode cX1_let 6 = .ok (.iload_n 1, 1) := by decide +kernel
theorem dX1_let_7 : decode cX1_let 7 = .ok (.imul, 1) := by decide +kernel
theorem dX1_let_8 : decode cX1_let 8 = .ok (.iadd, 1) := by decide +kernel
theorem dX1_let_9 : decode cX1_let 9 = .ok (.iload_n 2, 1) := by decide +kernel
theorem dX1_let_10 : decode cX1_let 10 = .ok (.iadd, 1) := by decide +kernel
theorem dX1_let_11 : decode cX1_let 11 = .ok (.iload_n 3, 1) := by decide +kernel
theorem dX1_let_12 : decode cX1_let 12 = .ok (.iastore, 1) := by decide +kernel
theorem dX1_let_13 : decode cX1_let 13 = .ok (.return_, 1) := by decide +kernel
theorem dX1_th_0 : decode cX1_th 0 = .ok (.aload_n 0, 1) := by decide +kernel
theorem dX1_th_1 : decode cX1_th 1 = .ok (.getfield 9, 3) := by decide +kernel
theorem dX1_th_4 : decode cX1_th 4 = .ok (.bipush 28, 2) := by decide +kernel
theorem dX1_th_6 : decode cX1_th 6 = .ok (.iconst 4, 1) := by decide +kernel
theorem dX1_th_7 : decode cX1_th 7 = .ok (.iload_n 1, 1) := by decide +kernel
theorem dX1_th_8 : decode cX1_th 8 = .ok (.imul, 1) := by decide +kernel
theorem dX1_th_9 : decode cX1_th 9 = .ok (.iadd, 1) := by decide +kernel
theorem dX1_th_10 : decode cX1_th 10 = .ok (.iload_n 2, 1) := by decide +kernel
theorem dX1_th_11 : decode cX1_th 11 = .ok (.iadd, 1) := by decide +kernel
theorem dX1_th_12 : decode cX1_th 12 = .ok (.iaload, 1) := by decide +kernel
theorem dX1_th_13 : decode cX1_th 13 = .ok (.ireturn, 1) := by decide +kernel
theorem dX1_write_0 : decode cX1_write 0 = .ok (.aload_n 0, 1) := by decide +kernel
theorem dX1_write_1 : decode cX1_write 1 = .ok (.getfield 9, 3) := by decide +kernel
theorem dX1_write_4 : decode cX1_write 4 = .ok (.bipush 28, 2) := by decide +kernel
theorem dX1_write_6 : decode cX1_write 6 = .ok (.iconst 4, 1) := by decide +kernel
theorem dX1_write_7 : decode cX1_write 7 = .ok (.aload_n 0, 1) := by decide +kernel
theorem dX1_write_8 : decode cX1_write 8 = .ok (.getfield 9, 3) := by decide +kernel
theorem dX1_write_11 : decode cX1_write 11 = .ok (.iconst 3, 1) := by decide +kernel
theorem dX1_write_12 : decode cX1_write 12 = .ok (.iaload, 1) := by decide +kernel
theorem dX1_write_13 : decode cX1_write 13 = .ok (.imul, 1) := by decide +kernel
theorem dX1_write_14 : decode cX1_write 14 = .ok (.iadd, 1) := by decide +kernel
theorem dX1_write_15 : decode cX1_write 15 = .ok (.iload_n 1, 1) := by decide +kernel
theorem dX1_write_16 : decode cX1_write 16 = .ok (.iadd, 1) := by decide +kernel
theorem dX1_write_17 : decode cX1_write 17 = .ok (.iload_n 2, 1) := by decide +kernel
theorem dX1_write_18 : decode cX1_write 18 = .ok (.iastore, 1) := by decide +kernel
theorem dX1_write_19 : decode cX1_write 19 = .ok (.return_, 1) := by decide +kernel
theorem dX1_keep_0 : decode cX1_keep 0 = .ok (.aload_n 0, 1) := by decide +kernel
theorem dX1_keep_1 : decode cX1_keep 1 = .ok (.getfield 9, 3) := by decide +kernel
theorem dX1_keep_4 : decode cX1_keep 4 = .ok (.iconst 0, 1) := by decide +kernel
theorem dX1_keep_5 : decode cX1_keep 5 = .ok (.aload_n 0, 1) := by decide +kernel
theorem dX1_keep_6 : decode cX1_keep 6 = .ok (.getfield 13, 3) := by decide +kernel
theorem dX1_keep_9 : decode cX1_keep 9 = .ok (.iconst 0, 1) := by decide +kernel
theorem dX1_keep_10 : decode cX1_keep 10 = .ok (.sipush 148, 3) := by decide +kernel
theorem dX1_keep_13 : decode cX1_keep 13 = .ok (.invokestatic 27, 3) := by decide +kernel
theorem dX1_keep_16 : decode cX1_keep 16 = .ok (.return_, 1) := by decide +kernel
theorem dX1_bringBack_0 : decode cX1_bringBack 0 = .ok (.aload_n 0, 1) := by decide +kernel
theorem dX1_bringBack_1 : decode cX1_bringBack 1 = .ok (.getfield 13, 3) := by decide +kernel
theorem dX1_bringBack_4 : decode cX1_bringBack 4 = .ok (.iconst 0, 1) := by decide +kernel
theorem dX1_bringBack_5 : decode cX1_bringBack 5 = .ok (.aload_n 0, 1) := by decide +kernel
theorem dX1_bringBack_6 : decode cX1_bringBack 6 = .ok (.getfield 9, 3) := by decide +kernel
theorem dX1_bringBack_9 : decode cX1_bringBack 9 = .ok (.iconst 0, 1) := by decide +kernel
theorem dX1_bringBack_10 : decode cX1_bringBack 10 = .ok (.sipush 148, 3) := by decide +kernel
theorem dX1_bringBack_13 : decode cX1_bringBack 13 = .ok (.invokestatic 27, 3) := by decide +kernel
theorem dX1_bringBack_16 : decode cX1_bringBack 16 = .ok (.return_, 1) := by decide +kernel
set_option maxRecDepth 20000 in
theorem ggX1_cast_X1_me : GoodIn wsX1_cast wsX1_me := goodIn_r _ [10, 5, 19, 20, 21, 22] (by decide +kernel) (by decide +kernel)
set_option maxRecDepth 20000 in
theorem gX1_cast_X1_me : GoodIn wsX1_cast (wsV RX1 33 RX1 yX1_me wsX1_me) := goodIn_app (goodIn_of _ (by decide +kernel)) ggX1_cast_X1_me
set_option maxRecDepth 20000 in
theorem ggX1_cast_X1_let : GoodIn wsX1_cast wsX1_let := goodIn_r _ [14, 5, 19, 20, 21, 22] (by decide +kernel) (by decide +kernel)
set_option maxRecDepth 20000 in
theorem gX1_cast_X1_let : GoodIn wsX1_cast (wsV RX1 42 RX1 yX1_let wsX1_let) := goodIn_app (goodIn_of _ (by decide +kernel)) ggX1_cast_X1_let
set_option maxRecDepth 20000 in
theorem ggX1_cast_X1_write : GoodIn wsX1_cast wsX1_write := goodIn_r _ [18, 5, 19, 20, 21, 22] (by decide +kernel) (by decide +kernel)
set_option maxRecDepth 20000 in
theorem gX1_cast_X1_write : GoodIn wsX1_cast (wsV RX1 46 RX1 yX1_write wsX1_write) := goodIn_app (goodIn_of _ (by decide +kernel)) ggX1_cast_X1_write
theorem dX1_cast_0 : decode cX1_cast 0 = .ok (.iload_n 2, 1) := by decide +kernel
theorem dX1_cast_1 : decode cX1_cast 1 = .ok (.ifCond .eq 18, 3) := by decide +kernel
theorem dX1_cast_4 : decode cX1_cast 4 = .ok (.iconst 0, 1) := by decide +kernel
theorem dX1_cast_5 : decode cX1_cast 5 = .ok (.iload_n 3, 1) := by decide +kernel
theorem dX1_cast_6 : decode cX1_cast 6 = .ok (.aload_n 0, 1) := by decide +kernel
theorem dX1_cast_7 : decode cX1_cast 7 = .ok (.iload_n 1, 1) := by decide +kernel
theorem dX1_cast_8 : decode cX1_cast 8 = .ok (.iconst 1, 1) := by decide +kernel
theorem dX1_cast_9 : decode cX1_cast 9 = .ok (.invokevirtual 33, 3) := by decide +kernel
theorem dX1_cast_12 : decode cX1_cast 12 = .ok (.isub, 1) := by decide +kernel
theorem dX1_cast_13 : decode cX1_cast 13 = .ok (.invokestatic 37, 3) := by decide +kernel
theorem dX1_cast_16 : decode cX1_cast 16 = .ok (.goto 4, 3) := by decide +kernel
theorem dX1_cast_19 : decode cX1_cast 19 = .ok (.iload_n 3, 1) := by decide +kernel
theorem dX1_cast_20 : decode cX1_cast 20 = .ok (.istore 4, 2) := by decide +kernel
theorem dX1_cast_22 : decode cX1_cast 22 = .ok (.iload_n 2, 1) := by decide +kernel
theorem dX1_cast_23 : decode cX1_cast 23 = .ok (.ifCond .eq 21, 3) := by decide +kernel
theorem dX1_cast_26 : decode cX1_cast 26 = .ok (.aload_n 0, 1) := by decide +kernel
theorem dX1_cast_27 : decode cX1_cast 27 = .ok (.iload_n 1, 1) := by decide +kernel
theorem dX1_cast_28 : decode cX1_cast 28 = .ok (.iconst 1, 1) := by decide +kernel
theorem dX1_cast_29 : decode cX1_cast 29 = .ok (.iconst 0, 1) := by decide +kernel
theorem dX1_cast_30 : decode cX1_cast 30 = .ok (.aload_n 0, 1) := by decide +kernel
theorem dX1_cast_31 : decode cX1_cast 31 = .ok (.iload_n 1, 1) := by decide +kernel
theorem dX1_cast_32 : decode cX1_cast 32 = .ok (.iconst 1, 1) := by decide +kernel
theorem dX1_cast_33 : decode cX1_cast 33 = .ok (.invokevirtual 33, 3) := by decide +kernel
theorem dX1_cast_36 : decode cX1_cast 36 = .ok (.iload_n 3, 1) := by decide +kernel
theorem dX1_cast_37 : decode cX1_cast 37 = .ok (.isub, 1) := by decide +kernel
theorem dX1_cast_38 : decode cX1_cast 38 = .ok (.invokestatic 37, 3) := by decide +kernel
theorem dX1_cast_41 : decode cX1_cast 41 = .ok (.invokevirtual 42, 3) := by decide +kernel
theorem dX1_cast_44 : decode cX1_cast 44 = .ok (.aload_n 0, 1) := by decide +kernel
theorem dX1_cast_45 : decode cX1_cast 45 = .ok (.getfield 9, 3) := by decide +kernel
theorem dX1_cast_48 : decode cX1_cast 48 = .ok (.iconst 1, 1) := by decide +kernel
theorem dX1_cast_49 : decode cX1_cast 49 = .ok (.dup2, 1) := by decide +kernel
theorem dX1_cast_50 : decode cX1_cast 50 = .ok (.iaload, 1) := by decide +kernel
theorem dX1_cast_51 : decode cX1_cast 51 = .ok (.iload_n 3, 1) := by decide +kernel
theorem dX1_cast_52 : decode cX1_cast 52 = .ok (.isub, 1) := by decide +kernel
theorem dX1_cast_53 : decode cX1_cast 53 = .ok (.iastore, 1) := by decide +kernel
theorem dX1_cast_54 : decode cX1_cast 54 = .ok (.aload_n 0, 1) := by decide +kernel
theorem dX1_cast_55 : decode cX1_cast 55 = .ok (.iconst 0, 1) := by decide +kernel
theorem dX1_cast_56 : decode cX1_cast 56 = .ok (.iload_n 1, 1) := by decide +kernel
theorem dX1_cast_57 : decode cX1_cast 57 = .ok (.invokevirtual 46, 3) := by decide +kernel
theorem dX1_cast_60 : decode cX1_cast 60 = .ok (.aload_n 0, 1) := by decide +kernel
theorem dX1_cast_61 : decode cX1_cast 61 = .ok (.iconst 1, 1) := by decide +kernel
theorem dX1_cast_62 : decode cX1_cast 62 = .ok (.iload_n 2, 1) := by decide +kernel
theorem dX1_cast_63 : decode cX1_cast 63 = .ok (.ifCond .eq 7, 3) := by decide +kernel
theorem dX1_cast_66 : decode cX1_cast 66 = .ok (.iconst 1, 1) := by decide +kernel
theorem dX1_cast_67 : decode cX1_cast 67 = .ok (.goto 4, 3) := by decide +kernel
theorem dX1_cast_70 : decode cX1_cast 70 = .ok (.iconst 0, 1) := by decide +kernel
theorem dX1_cast_71 : decode cX1_cast 71 = .ok (.invokevirtual 46, 3) := by decide +kernel
theorem dX1_cast_74 : decode cX1_cast 74 = .ok (.aload_n 0, 1) := by decide +kernel
theorem dX1_cast_75 : decode cX1_cast 75 = .ok (.iconst 2, 1) := by decide +kernel
theorem dX1_cast_76 : decode cX1_cast 76 = .ok (.iload_n 3, 1) := by decide +kernel
theorem dX1_cast_77 : decode cX1_cast 77 = .ok (.invokevirtual 46, 3) := by decide +kernel
theorem dX1_cast_80 : decode cX1_cast 80 = .ok (.aload_n 0, 1) := by decide +kernel
theorem dX1_cast_81 : decode cX1_cast 81 = .ok (.iconst 3, 1) := by decide +kernel
theorem dX1_cast_82 : decode cX1_cast 82 = .ok (.iload 4, 2) := by decide +kernel
theorem dX1_cast_84 : decode cX1_cast 84 = .ok (.invokevirtual 46, 3) := by decide +kernel
theorem dX1_cast_87 : decode cX1_cast 87 = .ok (.aload_n 0, 1) := by decide +kernel
theorem dX1_cast_88 : decode cX1_cast 88 = .ok (.getfield 9, 3) := by decide +kernel
theorem dX1_cast_91 : decode cX1_cast 91 = .ok (.iconst 3, 1) := by decide +kernel
theorem dX1_cast_92 : decode cX1_cast 92 = .ok (.dup2, 1) := by decide +kernel
theorem dX1_cast_93 : decode cX1_cast 93 = .ok (.iaload, 1) := by decide +kernel
theorem dX1_cast_94 : decode cX1_cast 94 = .ok (.iconst 1, 1) := by decide +kernel
theorem dX1_cast_95 : decode cX1_cast 95 = .ok (.iadd, 1) := by decide +kernel
theorem dX1_cast_96 : decode cX1_cast 96 = .ok (.iastore, 1) := by decide +kernel
theorem dX1_cast_97 : decode cX1_cast 97 = .ok (.iload 4, 2) := by decide +kernel
theorem dX1_cast_99 : decode cX1_cast 99 = .ok (.ireturn, 1) := by decide +kernel
set_option maxRecDepth 20000 in
theorem ggX1_faultsNow_X1_th : GoodIn wsX1_faultsNow wsX1_th := goodIn_r _ [6, 1, 7, 8, 9, 10] (by decide +kernel) (by decide +kernel)
set_option maxRecDepth 20000 in
theorem gX1_faultsNow_X1_th : GoodIn wsX1_faultsNow (wsV RX1 50 RX1 yX1_th wsX1_th) := goodIn_app (goodIn_of _ (by decide +kernel)) ggX1_faultsNow_X1_th
theorem dX1_faultsNow_0 : decode cX1_faultsNow 0 = .ok (.iconst 0, 1) := by decide +kernel
theorem dX1_faultsNow_1 : decode cX1_faultsNow 1 = .ok (.istore_n 1, 1) := by decide +kernel
theorem dX1_faultsNow_2 : decode cX1_faultsNow 2 = .ok (.iconst 0, 1) := by decide +kernel
theorem dX1_faultsNow_3 : decode cX1_faultsNow 3 = .ok (.istore_n 2, 1) := by decide +kernel
theorem dX1_faultsNow_4 : decode cX1_faultsNow 4 = .ok (.iload_n 2, 1) := by decide +kernel
theorem dX1_faultsNow_5 : decode cX1_faultsNow 5 = .ok (.aload_n 0, 1) := by decide +kernel
theorem dX1_faultsNow_6 : decode cX1_faultsNow 6 = .ok (.getfield 9, 3) := by decide +kernel
theorem dX1_faultsNow_9 : decode cX1_faultsNow 9 = .ok (.iconst 3, 1) := by decide +kernel
theorem dX1_faultsNow_10 : decode cX1_faultsNow 10 = .ok (.iaload, 1) := by decide +kernel
theorem dX1_faultsNow_11 : decode cX1_faultsNow 11 = .ok (.if_icmp .ge 26, 3) := by decide +kernel
theorem dX1_faultsNow_14 : decode cX1_faultsNow 14 = .ok (.iload_n 1, 1) := by decide +kernel
theorem dX1_faultsNow_15 : decode cX1_faultsNow 15 = .ok (.aload_n 0, 1) := by decide +kernel
theorem dX1_faultsNow_16 : decode cX1_faultsNow 16 = .ok (.iload_n 2, 1) := by decide +kernel
theorem dX1_faultsNow_17 : decode cX1_faultsNow 17 = .ok (.iconst 3, 1) := by decide +kernel
theorem dX1_faultsNow_18 : decode cX1_faultsNow 18 = .ok (.invokevirtual 50, 3) := by decide +kernel
theorem dX1_faultsNow_21 : decode cX1_faultsNow 21 = .ok (.ifCond .le 7, 3) := by decide +kernel
theorem dX1_faultsNow_24 : decode cX1_faultsNow 24 = .ok (.iconst 1, 1) := by decide +kernel
theorem dX1_faultsNow_25 : decode cX1_faultsNow 25 = .ok (.goto 4, 3) := by decide +kernel
theorem dX1_faultsNow_28 : decode cX1_faultsNow 28 = .ok (.iconst 0, 1) := by decide +kernel
theorem dX1_faultsNow_29 : decode cX1_faultsNow 29 = .ok (.iadd, 1) := by decide +kernel
theorem dX1_faultsNow_30 : decode cX1_faultsNow 30 = .ok (.istore_n 1, 1) := by decide +kernel
theorem dX1_faultsNow_31 : decode cX1_faultsNow 31 = .ok (.iinc 2 1, 3) := by decide +kernel
theorem dX1_faultsNow_34 : decode cX1_faultsNow 34 = .ok (.goto (-30), 3) := by decide +kernel
theorem dX1_faultsNow_37 : decode cX1_faultsNow 37 = .ok (.iload_n 1, 1) := by decide +kernel
theorem dX1_faultsNow_38 : decode cX1_faultsNow 38 = .ok (.ireturn, 1) := by decide +kernel
set_option maxRecDepth 20000 in
theorem ggX1_auditNow_X1_faultsNow : GoodIn wsX1_auditNow wsX1_faultsNow := goodIn_r _ [10, 1, 11, 12, 13, 9, 14, 23, 24, 25, 26] (by decide +kernel) (by decide +kernel)
set_option maxRecDepth 20000 in
theorem gX1_auditNow_X1_faultsNow : GoodIn wsX1_auditNow (wsV RX1 53 RX1 yX1_faultsNow wsX1_faultsNow) := goodIn_app (goodIn_of _ (by decide +kernel)) ggX1_auditNow_X1_faultsNow
set_option maxRecDepth 20000 in
theorem ggX1_auditNow_X1_th : GoodIn wsX1_auditNow wsX1_th := goodIn_r _ [14, 1, 23, 24, 25, 26] (by decide +kernel) (by decide +kernel)
set_option maxRecDepth 20000 in
theorem gX1_auditNow_X1_th : GoodIn wsX1_auditNow (wsV RX1 50 RX1 yX1_th wsX1_th) := goodIn_app (goodIn_of _ (by decide +kernel)) ggX1_auditNow_X1_th
set_option maxRecDepth 20000 in
theorem ggX1_auditNow_X1_me : GoodIn wsX1_auditNow wsX1_me := goodIn_r _ [18, 1, 23, 24, 25, 26] (by decide +kernel) (by decide +kernel)
set_option maxRecDepth 20000 in
theorem gX1_auditNow_X1_me : GoodIn wsX1_auditNow (wsV RX1 33 RX1 yX1_me wsX1_me) := goodIn_app (goodIn_of _ (by decide +kernel)) ggX1_auditNow_X1_me
set_option maxRecDepth 20000 in
theorem ggX1_auditNow_X1_let : GoodIn wsX1_auditNow wsX1_let := goodIn_r _ [22, 1, 23, 24, 25, 26] (by decide +kernel) (by decide +kernel)
set_option maxRecDepth 20000 in
theorem gX1_auditNow_X1_let : GoodIn wsX1_auditNow (wsV RX1 42 RX1 yX1_let wsX1_let) := goodIn_app (goodIn_of _ (by decide +kernel)) ggX1_auditNow_X1_let
theorem dX1_auditNow_0 : decode cX1_auditNow 0 = .ok (.aload_n 0, 1) := by decide +kernel
theorem dX1_auditNow_1 : decode cX1_auditNow 1 = .ok (.invokevirtual 53, 3) := by decide +kernel
theorem dX1_auditNow_4 : decode cX1_auditNow 4 = .ok (.istore_n 1, 1) := by decide +kernel
theorem dX1_auditNow_5 : decode cX1_auditNow 5 = .ok (.iconst 0, 1) := by decide +kernel
theorem dX1_auditNow_6 : decode cX1_auditNow 6 = .ok (.istore_n 2, 1) := by decide +kernel
theorem dX1_auditNow_7 : decode cX1_auditNow 7 = .ok (.iload_n 2, 1) := by decide +kernel
theorem dX1_auditNow_8 : decode cX1_auditNow 8 = .ok (.aload_n 0, 1) := by decide +kernel
theorem dX1_auditNow_9 : decode cX1_auditNow 9 = .ok (.getfield 9, 3) := by decide +kernel
theorem dX1_auditNow_12 : decode cX1_auditNow 12 = .ok (.iconst 3, 1) := by decide +kernel
theorem dX1_auditNow_13 : decode cX1_auditNow 13 = .ok (.iaload, 1) := by decide +kernel
theorem dX1_auditNow_14 : decode cX1_auditNow 14 = .ok (.if_icmp .ge 45, 3) := by decide +kernel
theorem dX1_auditNow_17 : decode cX1_auditNow 17 = .ok (.aload_n 0, 1) := by decide +kernel
theorem dX1_auditNow_18 : decode cX1_auditNow 18 = .ok (.aload_n 0, 1) := by decide +kernel
theorem dX1_auditNow_19 : decode cX1_auditNow 19 = .ok (.iload_n 2, 1) := by decide +kernel
theorem dX1_auditNow_20 : decode cX1_auditNow 20 = .ok (.iconst 0, 1) := by decide +kernel
theorem dX1_auditNow_21 : decode cX1_auditNow 21 = .ok (.invokevirtual 50, 3) := by decide +kernel
theorem dX1_auditNow_24 : decode cX1_auditNow 24 = .ok (.iconst 1, 1) := by decide +kernel
theorem dX1_auditNow_25 : decode cX1_auditNow 25 = .ok (.bipush 99, 2) := by decide +kernel
theorem dX1_auditNow_27 : decode cX1_auditNow 27 = .ok (.aload_n 0, 1) := by decide +kernel
theorem dX1_auditNow_28 : decode cX1_auditNow 28 = .ok (.aload_n 0, 1) := by decide +kernel
theorem dX1_auditNow_29 : decode cX1_auditNow 29 = .ok (.iload_n 2, 1) := by decide +kernel
theorem dX1_auditNow_30 : decode cX1_auditNow 30 = .ok (.iconst 0, 1) := by decide +kernel
theorem dX1_auditNow_31 : decode cX1_auditNow 31 = .ok (.invokevirtual 50, 3) := by decide +kernel
theorem dX1_auditNow_34 : decode cX1_auditNow 34 = .ok (.iconst 1, 1) := by decide +kernel
theorem dX1_auditNow_35 : decode cX1_auditNow 35 = .ok (.invokevirtual 33, 3) := by decide +kernel
theorem dX1_auditNow_38 : decode cX1_auditNow 38 = .ok (.iconst 2, 1) := by decide +kernel
theorem dX1_auditNow_39 : decode cX1_auditNow 39 = .ok (.aload_n 0, 1) := by decide +kernel
theorem dX1_auditNow_40 : decode cX1_auditNow 40 = .ok (.iload_n 2, 1) := by decide +kernel
theorem dX1_auditNow_41 : decode cX1_auditNow 41 = .ok (.iconst 3, 1) := by decide +kernel
theorem dX1_auditNow_42 : decode cX1_auditNow 42 = .ok (.invokevirtual 50, 3) := by decide +kernel
theorem dX1_auditNow_45 : decode cX1_auditNow 45 = .ok (.imul, 1) := by decide +kernel
theorem dX1_auditNow_46 : decode cX1_auditNow 46 = .ok (.iadd, 1) := by decide +kernel
theorem dX1_auditNow_47 : decode cX1_auditNow 47 = .ok (.invokestatic 57, 3) := by decide +kernel
theorem dX1_auditNow_50 : decode cX1_auditNow 50 = .ok (.invokevirtual 42, 3) := by decide +kernel
theorem dX1_auditNow_53 : decode cX1_auditNow 53 = .ok (.iinc 2 1, 3) := by decide +kernel
theorem dX1_auditNow_56 : decode cX1_auditNow 56 = .ok (.goto (-49), 3) := by decide +kernel
theorem dX1_auditNow_59 : decode cX1_auditNow 59 = .ok (.aload_n 0, 1) := by decide +kernel
theorem dX1_auditNow_60 : decode cX1_auditNow 60 = .ok (.getfield 9, 3) := by decide +kernel
theorem dX1_auditNow_63 : decode cX1_auditNow 63 = .ok (.iconst 3, 1) := by decide +kernel
theorem dX1_auditNow_64 : decode cX1_auditNow 64 = .ok (.iconst 0, 1) := by decide +kernel
theorem dX1_auditNow_65 : decode cX1_auditNow 65 = .ok (.iastore, 1) := by decide +kernel
theorem dX1_auditNow_66 : decode cX1_auditNow 66 = .ok (.aload_n 0, 1) := by decide +kernel
theorem dX1_auditNow_67 : decode cX1_auditNow 67 = .ok (.getfield 9, 3) := by decide +kernel
theorem dX1_auditNow_70 : decode cX1_auditNow 70 = .ok (.iconst 2, 1) := by decide +kernel
theorem dX1_auditNow_71 : decode cX1_auditNow 71 = .ok (.dup2, 1) := by decide +kernel
theorem dX1_auditNow_72 : decode cX1_auditNow 72 = .ok (.iaload, 1) := by decide +kernel
theorem dX1_auditNow_73 : decode cX1_auditNow 73 = .ok (.iload_n 1, 1) := by decide +kernel
theorem dX1_auditNow_74 : decode cX1_auditNow 74 = .ok (.iadd, 1) := by decide +kernel
theorem dX1_auditNow_75 : decode cX1_auditNow 75 = .ok (.iastore, 1) := by decide +kernel
theorem dX1_auditNow_76 : decode cX1_auditNow 76 = .ok (.iload_n 1, 1) := by decide +kernel
theorem dX1_auditNow_77 : decode cX1_auditNow 77 = .ok (.ireturn, 1) := by decide +kernel
set_option maxRecDepth 20000 in
theorem ggX1_loss_X1_me : GoodIn wsX1_loss wsX1_me := goodIn_r _ [5, 6, 7, 8, 9, 10] (by decide +kernel) (by decide +kernel)
set_option maxRecDepth 20000 in
theorem gX1_loss_X1_me : GoodIn wsX1_loss (wsV RX1 33 RX1 yX1_me wsX1_me) := goodIn_app (goodIn_of _ (by decide +kernel)) ggX1_loss_X1_me
theorem dX1_loss_0 : decode cX1_loss 0 = .ok (.aload_n 0, 1) := by decide +kernel
theorem dX1_loss_1 : decode cX1_loss 1 = .ok (.iload_n 1, 1) := by decide +kernel
theorem dX1_loss_2 : decode cX1_loss 2 = .ok (.iconst 2, 1) := by decide +kernel
theorem dX1_loss_3 : decode cX1_loss 3 = .ok (.invokevirtual 33, 3) := by decide +kernel
theorem dX1_loss_6 : decode cX1_loss 6 = .ok (.ifCond .le 7, 3) := by decide +kernel
theorem dX1_loss_9 : decode cX1_loss 9 = .ok (.iconst 0, 1) := by decide +kernel
theorem dX1_loss_10 : decode cX1_loss 10 = .ok (.goto 15, 3) := by decide +kernel
theorem dX1_loss_13 : decode cX1_loss 13 = .ok (.aload_n 0, 1) := by decide +kernel
theorem dX1_loss_14 : decode cX1_loss 14 = .ok (.iload_n 1, 1) := by decide +kernel
theorem dX1_loss_15 : decode cX1_loss 15 = .ok (.iconst 1, 1) := by decide +kernel
theorem dX1_loss_16 : decode cX1_loss 16 = .ok (.invokevirtual 33, 3) := by decide +kernel
theorem dX1_loss_19 : decode cX1_loss 19 = .ok (.bipush 9, 2) := by decide +kernel
theorem dX1_loss_21 : decode cX1_loss 21 = .ok (.iadd, 1) := by decide +kernel
theorem dX1_loss_22 : decode cX1_loss 22 = .ok (.bipush 10, 2) := by decide +kernel
theorem dX1_loss_24 : decode cX1_loss 24 = .ok (.idiv, 1) := by decide +kernel
theorem dX1_loss_25 : decode cX1_loss 25 = .ok (.ireturn, 1) := by decide +kernel
set_option maxRecDepth 20000 in
theorem ggX1_dayOn_X1_auditNow : GoodIn wsX1_dayOn wsX1_auditNow := goodIn_r _ [14, 1, 7, 8, 5, 9, 15, 16, 17, 13, 18, 19, 20, 21, 22, 23, 24, 25, 26, 27, 28, 29, 30, 35, 36, 37, 38] (by decide +kernel) (by decide +kernel)
set_option maxRecDepth 20000 in
theorem gX1_dayOn_X1_auditNow : GoodIn wsX1_dayOn (wsV RX1 60 RX1 yX1_auditNow wsX1_auditNow) := goodIn_app (goodIn_of _ (by decide +kernel)) ggX1_dayOn_X1_auditNow
set_option maxRecDepth 20000 in
theorem ggX1_dayOn_X1_me : GoodIn wsX1_dayOn wsX1_me := goodIn_r _ [26, 1, 35, 36, 37, 38] (by decide +kernel) (by decide +kernel)
set_option maxRecDepth 20000 in
theorem gX1_dayOn_X1_me : GoodIn wsX1_dayOn (wsV RX1 33 RX1 yX1_me wsX1_me) := goodIn_app (goodIn_of _ (by decide +kernel)) ggX1_dayOn_X1_me
set_option maxRecDepth 20000 in
theorem ggX1_dayOn_X1_let : GoodIn wsX1_dayOn wsX1_let := goodIn_r _ [30, 1, 35, 36, 37, 38] (by decide +kernel) (by decide +kernel)
set_option maxRecDepth 20000 in
theorem gX1_dayOn_X1_let : GoodIn wsX1_dayOn (wsV RX1 42 RX1 yX1_let wsX1_let) := goodIn_app (goodIn_of _ (by decide +kernel)) ggX1_dayOn_X1_let
set_option maxRecDepth 20000 in
theorem ggX1_dayOn_X1_loss : GoodIn wsX1_dayOn wsX1_loss := goodIn_r _ [34, 23, 24, 25, 13, 26, 1, 35, 36, 37, 38] (by decide +kernel) (by decide +kernel)
set_option maxRecDepth 20000 in
theorem gX1_dayOn_X1_loss : GoodIn wsX1_dayOn (wsV RX1 63 RX1 yX1_loss wsX1_loss) := goodIn_app (goodIn_of _ (by decide +kernel)) ggX1_dayOn_X1_loss
theorem dX1_dayOn_0 : decode cX1_dayOn 0 = .ok (.aload_n 0, 1) := by decide +kernel
theorem dX1_dayOn_1 : decode cX1_dayOn 1 = .ok (.getfield 9, 3) := by decide +kernel
theorem dX1_dayOn_4 : decode cX1_dayOn 4 = .ok (.iconst 0, 1) := by decide +kernel
theorem dX1_dayOn_5 : decode cX1_dayOn 5 = .ok (.iaload, 1) := by decide +kernel
theorem dX1_dayOn_6 : decode cX1_dayOn 6 = .ok (.bipush 7, 2) := by decide +kernel
theorem dX1_dayOn_8 : decode cX1_dayOn 8 = .ok (.irem, 1) := by decide +kernel
theorem dX1_dayOn_9 : decode cX1_dayOn 9 = .ok (.bipush 6, 2) := by decide +kernel
theorem dX1_dayOn_11 : decode cX1_dayOn 11 = .ok (.if_icmp .ne 10, 3) := by decide +kernel
theorem dX1_dayOn_14 : decode cX1_dayOn 14 = .ok (.aload_n 0, 1) := by decide +kernel
theorem dX1_dayOn_15 : decode cX1_dayOn 15 = .ok (.invokevirtual 60, 3) := by decide +kernel
theorem dX1_dayOn_18 : decode cX1_dayOn 18 = .ok (.goto 4, 3) := by decide +kernel
theorem dX1_dayOn_21 : decode cX1_dayOn 21 = .ok (.iconst 0, 1) := by decide +kernel
theorem dX1_dayOn_22 : decode cX1_dayOn 22 = .ok (.istore_n 1, 1) := by decide +kernel
theorem dX1_dayOn_23 : decode cX1_dayOn 23 = .ok (.iconst 0, 1) := by decide +kernel
theorem dX1_dayOn_24 : decode cX1_dayOn 24 = .ok (.istore_n 2, 1) := by decide +kernel
theorem dX1_dayOn_25 : decode cX1_dayOn 25 = .ok (.iload_n 2, 1) := by decide +kernel
theorem dX1_dayOn_26 : decode cX1_dayOn 26 = .ok (.aload_n 0, 1) := by decide +kernel
theorem dX1_dayOn_27 : decode cX1_dayOn 27 = .ok (.getfield 20, 3) := by decide +kernel
theorem dX1_dayOn_30 : decode cX1_dayOn 30 = .ok (.if_icmp .ge 106, 3) := by decide +kernel
theorem dX1_dayOn_33 : decode cX1_dayOn 33 = .ok (.aload_n 0, 1) := by decide +kernel
theorem dX1_dayOn_34 : decode cX1_dayOn 34 = .ok (.iload_n 2, 1) := by decide +kernel
theorem dX1_dayOn_35 : decode cX1_dayOn 35 = .ok (.iconst 2, 1) := by decide +kernel
theorem dX1_dayOn_36 : decode cX1_dayOn 36 = .ok (.invokevirtual 33, 3) := by decide +kernel
theorem dX1_dayOn_39 : decode cX1_dayOn 39 = .ok (.ifCond .le 38, 3) := by decide +kernel
theorem dX1_dayOn_42 : decode cX1_dayOn 42 = .ok (.aload_n 0, 1) := by decide +kernel
theorem dX1_dayOn_43 : decode cX1_dayOn 43 = .ok (.iload_n 2, 1) := by decide +kernel
theorem dX1_dayOn_44 : decode cX1_dayOn 44 = .ok (.iconst 2, 1) := by decide +kernel
theorem dX1_dayOn_45 : decode cX1_dayOn 45 = .ok (.aload_n 0, 1) := by decide +kernel
theorem dX1_dayOn_46 : decode cX1_dayOn 46 = .ok (.iload_n 2, 1) := by decide +kernel
theorem dX1_dayOn_47 : decode cX1_dayOn 47 = .ok (.iconst 2, 1) := by decide +kernel
theorem dX1_dayOn_48 : decode cX1_dayOn 48 = .ok (.invokevirtual 33, 3) := by decide +kernel
theorem dX1_dayOn_51 : decode cX1_dayOn 51 = .ok (.iconst 1, 1) := by decide +kernel
theorem dX1_dayOn_52 : decode cX1_dayOn 52 = .ok (.isub, 1) := by decide +kernel
theorem dX1_dayOn_53 : decode cX1_dayOn 53 = .ok (.invokevirtual 42, 3) := by decide +kernel
theorem dX1_dayOn_56 : decode cX1_dayOn 56 = .ok (.aload_n 0, 1) := by decide +kernel
theorem dX1_dayOn_57 : decode cX1_dayOn 57 = .ok (.iload_n 2, 1) := by decide +kernel
theorem dX1_dayOn_58 : decode cX1_dayOn 58 = .ok (.iconst 1, 1) := by decide +kernel
theorem dX1_dayOn_59 : decode cX1_dayOn 59 = .ok (.iconst 0, 1) := by decide +kernel
theorem dX1_dayOn_60 : decode cX1_dayOn 60 = .ok (.aload_n 0, 1) := by decide +kernel
theorem dX1_dayOn_61 : decode cX1_dayOn 61 = .ok (.iload_n 2, 1) := by decide +kernel
theorem dX1_dayOn_62 : decode cX1_dayOn 62 = .ok (.iconst 1, 1) := by decide +kernel
theorem dX1_dayOn_63 : decode cX1_dayOn 63 = .ok (.invokevirtual 33, 3) := by decide +kernel
theorem dX1_dayOn_66 : decode cX1_dayOn 66 = .ok (.iconst 3, 1) := by decide +kernel
theorem dX1_dayOn_67 : decode cX1_dayOn 67 = .ok (.isub, 1) := by decide +kernel
theorem dX1_dayOn_68 : decode cX1_dayOn 68 = .ok (.invokestatic 37, 3) := by decide +kernel
theorem dX1_dayOn_71 : decode cX1_dayOn 71 = .ok (.invokevirtual 42, 3) := by decide +kernel
theorem dX1_dayOn_74 : decode cX1_dayOn 74 = .ok (.goto 56, 3) := by decide +kernel
theorem dX1_dayOn_77 : decode cX1_dayOn 77 = .ok (.aload_n 0, 1) := by decide +kernel
theorem dX1_dayOn_78 : decode cX1_dayOn 78 = .ok (.iload_n 2, 1) := by decide +kernel
theorem dX1_dayOn_79 : decode cX1_dayOn 79 = .ok (.iconst 1, 1) := by decide +kernel
theorem dX1_dayOn_80 : decode cX1_dayOn 80 = .ok (.invokevirtual 33, 3) := by decide +kernel
theorem dX1_dayOn_83 : decode cX1_dayOn 83 = .ok (.ifCond .le 28, 3) := by decide +kernel
theorem dX1_dayOn_86 : decode cX1_dayOn 86 = .ok (.aload_n 0, 1) := by decide +kernel
theorem dX1_dayOn_87 : decode cX1_dayOn 87 = .ok (.iload_n 2, 1) := by decide +kernel
theorem dX1_dayOn_88 : decode cX1_dayOn 88 = .ok (.iconst 0, 1) := by decide +kernel
theorem dX1_dayOn_89 : decode cX1_dayOn 89 = .ok (.iconst 0, 1) := by decide +kernel
theorem dX1_dayOn_90 : decode cX1_dayOn 90 = .ok (.aload_n 0, 1) := by decide +kernel
theorem dX1_dayOn_91 : decode cX1_dayOn 91 = .ok (.iload_n 2, 1) := by decide +kernel
theorem dX1_dayOn_92 : decode cX1_dayOn 92 = .ok (.iconst 0, 1) := by decide +kernel
theorem dX1_dayOn_93 : decode cX1_dayOn 93 = .ok (.invokevirtual 33, 3) := by decide +kernel
theorem dX1_dayOn_96 : decode cX1_dayOn 96 = .ok (.aload_n 0, 1) := by decide +kernel
theorem dX1_dayOn_97 : decode cX1_dayOn 97 = .ok (.iload_n 2, 1) := by decide +kernel
theorem dX1_dayOn_98 : decode cX1_dayOn 98 = .ok (.invokevirtual 63, 3) := by decide +kernel
theorem dX1_dayOn_101 : decode cX1_dayOn 101 = .ok (.isub, 1) := by decide +kernel
theorem dX1_dayOn_102 : decode cX1_dayOn 102 = .ok (.invokestatic 37, 3) := by decide +kernel
theorem dX1_dayOn_105 : decode cX1_dayOn 105 = .ok (.invokevirtual 42, 3) := by decide +kernel
theorem dX1_dayOn_108 : decode cX1_dayOn 108 = .ok (.goto 22, 3) := by decide +kernel
theorem dX1_dayOn_111 : decode cX1_dayOn 111 = .ok (.aload_n 0, 1) := by decide +kernel
theorem dX1_dayOn_112 : decode cX1_dayOn 112 = .ok (.iload_n 2, 1) := by decide +kernel
theorem dX1_dayOn_113 : decode cX1_dayOn 113 = .ok (.iconst 0, 1) := by decide +kernel
theorem dX1_dayOn_114 : decode cX1_dayOn 114 = .ok (.bipush 100, 2) := by decide +kernel
theorem dX1_dayOn_116 : decode cX1_dayOn 116 = .ok (.aload_n 0, 1) := by decide +kernel
theorem dX1_dayOn_117 : decode cX1_dayOn 117 = .ok (.iload_n 2, 1) := by decide +kernel
theorem dX1_dayOn_118 : decode cX1_dayOn 118 = .ok (.iconst 0, 1) := by decide +kernel
theorem dX1_dayOn_119 : decode cX1_dayOn 119 = .ok (.invokevirtual 33, 3) := by decide +kernel
theorem dX1_dayOn_122 : decode cX1_dayOn 122 = .ok (.iconst 1, 1) := by decide +kernel
theorem dX1_dayOn_123 : decode cX1_dayOn 123 = .ok (.iadd, 1) := by decide +kernel
theorem dX1_dayOn_124 : decode cX1_dayOn 124 = .ok (.invokestatic 57, 3) := by decide +kernel
theorem dX1_dayOn_127 : decode cX1_dayOn 127 = .ok (.invokevirtual 42, 3) := by decide +kernel
theorem dX1_dayOn_130 : decode cX1_dayOn 130 = .ok (.iinc 2 1, 3) := by decide +kernel
theorem dX1_dayOn_133 : decode cX1_dayOn 133 = .ok (.goto (-108), 3) := by decide +kernel
theorem dX1_dayOn_136 : decode cX1_dayOn 136 = .ok (.aload_n 0, 1) := by decide +kernel
theorem dX1_dayOn_137 : decode cX1_dayOn 137 = .ok (.getfield 9, 3) := by decide +kernel
theorem dX1_dayOn_140 : decode cX1_dayOn 140 = .ok (.iconst 0, 1) := by decide +kernel
theorem dX1_dayOn_141 : decode cX1_dayOn 141 = .ok (.dup2, 1) := by decide +kernel
theorem dX1_dayOn_142 : decode cX1_dayOn 142 = .ok (.iaload, 1) := by decide +kernel
theorem dX1_dayOn_143 : decode cX1_dayOn 143 = .ok (.iconst 1, 1) := by decide +kernel
theorem dX1_dayOn_144 : decode cX1_dayOn 144 = .ok (.iadd, 1) := by decide +kernel
theorem dX1_dayOn_145 : decode cX1_dayOn 145 = .ok (.iastore, 1) := by decide +kernel
theorem dX1_dayOn_146 : decode cX1_dayOn 146 = .ok (.iload_n 1, 1) := by decide +kernel
theorem dX1_dayOn_147 : decode cX1_dayOn 147 = .ok (.ireturn, 1) := by decide +kernel
set_option maxRecDepth 20000 in
theorem ggX1_daysOn_X1_dayOn : GoodIn wsX1_daysOn wsX1_dayOn := goodIn_r _ [5, 6, 7, 8, 9, 10, 11, 12, 13, 14, 15, 16, 17, 4, 18, 19, 20, 21, 22, 23, 24, 25, 26, 27, 28, 29, 30, 31, 32, 33, 34, 35, 36, 37, 38, 39, 40, 41, 42] (by decide +kernel) (by decide +kernel)
set_option maxRecDepth 20000 in
theorem gX1_daysOn_X1_dayOn : GoodIn wsX1_daysOn (wsV RX1 67 RX1 yX1_dayOn wsX1_dayOn) := goodIn_app (goodIn_of _ (by decide +kernel)) ggX1_daysOn_X1_dayOn
theorem dX1_daysOn_0 : decode cX1_daysOn 0 = .ok (.iconst 0, 1) := by decide +kernel
theorem dX1_daysOn_1 : decode cX1_daysOn 1 = .ok (.istore_n 2, 1) := by decide +kernel
theorem dX1_daysOn_2 : decode cX1_daysOn 2 = .ok (.iconst 0, 1) := by decide +kernel
theorem dX1_daysOn_3 : decode cX1_daysOn 3 = .ok (.istore_n 3, 1) := by decide +kernel
theorem dX1_daysOn_4 : decode cX1_daysOn 4 = .ok (.iload_n 3, 1) := by decide +kernel
theorem dX1_daysOn_5 : decode cX1_daysOn 5 = .ok (.iload_n 1, 1) := by decide +kernel
theorem dX1_daysOn_6 : decode cX1_daysOn 6 = .ok (.if_icmp .ge 16, 3) := by decide +kernel
theorem dX1_daysOn_9 : decode cX1_daysOn 9 = .ok (.iload_n 2, 1) := by decide +kernel
theorem dX1_daysOn_10 : decode cX1_daysOn 10 = .ok (.aload_n 0, 1) := by decide +kernel
theorem dX1_daysOn_11 : decode cX1_daysOn 11 = .ok (.invokevirtual 67, 3) := by decide +kernel
theorem dX1_daysOn_14 : decode cX1_daysOn 14 = .ok (.iadd, 1) := by decide +kernel
theorem dX1_daysOn_15 : decode cX1_daysOn 15 = .ok (.istore_n 2, 1) := by decide +kernel
theorem dX1_daysOn_16 : decode cX1_daysOn 16 = .ok (.iinc 3 1, 3) := by decide +kernel
theorem dX1_daysOn_19 : decode cX1_daysOn 19 = .ok (.goto (-15), 3) := by decide +kernel
theorem dX1_daysOn_22 : decode cX1_daysOn 22 = .ok (.iload_n 2, 1) := by decide +kernel
theorem dX1_daysOn_23 : decode cX1_daysOn 23 = .ok (.ireturn, 1) := by decide +kernel
set_option maxRecDepth 20000 in
theorem ggX1_join_X1_fail : GoodIn wsX1_join wsX1_fail := goodIn_r _ [7, 1, 13, 14, 15, 16] (by decide +kernel) (by decide +kernel)
set_option maxRecDepth 20000 in
theorem gX1_join_X1_fail : GoodIn wsX1_join (wsV RX1 70 RX1 yX1_fail wsX1_fail) := goodIn_app (goodIn_of _ (by decide +kernel)) ggX1_join_X1_fail
set_option maxRecDepth 20000 in
theorem ggX1_join_X1_let : GoodIn wsX1_join wsX1_let := goodIn_r _ [11, 12, 13, 14, 15, 16] (by decide +kernel) (by decide +kernel)
set_option maxRecDepth 20000 in
theorem gX1_join_X1_let : GoodIn wsX1_join (wsV RX1 42 RX1 yX1_let wsX1_let) := goodIn_app (goodIn_of _ (by decide +kernel)) ggX1_join_X1_let
theorem dX1_join_0 : decode cX1_join 0 = .ok (.aload_n 0, 1) := by decide +kernel
theorem dX1_join_1 : decode cX1_join 1 = .ok (.iconst 0, 1) := by decide +kernel
end
section
theorem dX1_join_2 : decode cX1_join 2 = .ok (.putfield 16, 3) := by decide +kernel
theorem dX1_join_5 : decode cX1_join 5 = .ok (.aload_n 0, 1) := by decide +kernel
theorem dX1_join_6 : decode cX1_join 6 = .ok (.getfield 20, 3) := by decide +kernel
theorem dX1_join_9 : decode cX1_join 9 = .ok (.bipush 8, 2) := by decide +kernel
theorem dX1_join_11 : decode cX1_join 11 = .ok (.if_icmp .ne 9, 3) := by decide +kernel
theorem dX1_join_14 : decode cX1_join 14 = .ok (.aload_n 0, 1) := by decide +kernel
theorem dX1_join_15 : decode cX1_join 15 = .ok (.iconst 1, 1) := by decide +kernel
theorem dX1_join_16 : decode cX1_join 16 = .ok (.invokevirtual 70, 3) := by decide +kernel
theorem dX1_join_19 : decode cX1_join 19 = .ok (.ireturn, 1) := by decide +kernel
theorem dX1_join_20 : decode cX1_join 20 = .ok (.aload_n 0, 1) := by decide +kernel
theorem dX1_join_21 : decode cX1_join 21 = .ok (.aload_n 0, 1) := by decide +kernel
theorem dX1_join_22 : decode cX1_join 22 = .ok (.getfield 20, 3) := by decide +kernel
theorem dX1_join_25 : decode cX1_join 25 = .ok (.iconst 0, 1) := by decide +kernel
theorem dX1_join_26 : decode cX1_join 26 = .ok (.bipush 50, 2) := by decide +kernel
theorem dX1_join_28 : decode cX1_join 28 = .ok (.invokevirtual 42, 3) := by decide +kernel
theorem dX1_join_31 : decode cX1_join 31 = .ok (.aload_n 0, 1) := by decide +kernel
theorem dX1_join_32 : decode cX1_join 32 = .ok (.dup, 1) := by decide +kernel
theorem dX1_join_33 : decode cX1_join 33 = .ok (.getfield 20, 3) := by decide +kernel
theorem dX1_join_36 : decode cX1_join 36 = .ok (.iconst 1, 1) := by decide +kernel
theorem dX1_join_37 : decode cX1_join 37 = .ok (.iadd, 1) := by decide +kernel
theorem dX1_join_38 : decode cX1_join 38 = .ok (.putfield 20, 3) := by decide +kernel
theorem dX1_join_41 : decode cX1_join 41 = .ok (.aload_n 0, 1) := by decide +kernel
theorem dX1_join_42 : decode cX1_join 42 = .ok (.getfield 20, 3) := by decide +kernel
theorem dX1_join_45 : decode cX1_join 45 = .ok (.iconst 1, 1) := by decide +kernel
theorem dX1_join_46 : decode cX1_join 46 = .ok (.isub, 1) := by decide +kernel
theorem dX1_join_47 : decode cX1_join 47 = .ok (.ireturn, 1) := by decide +kernel
set_option maxRecDepth 20000 in
theorem ggX1_spill_X1_isMember : GoodIn wsX1_spill wsX1_isMember := goodIn_r _ [11, 12, 13, 14, 10, 15, 28, 29, 30, 31] (by decide +kernel) (by decide +kernel)
set_option maxRecDepth 20000 in
theorem gX1_spill_X1_isMember : GoodIn wsX1_spill (wsV RX1 73 RX1 yX1_isMember wsX1_isMember) := goodIn_app (goodIn_of _ (by decide +kernel)) ggX1_spill_X1_isMember
set_option maxRecDepth 20000 in
theorem ggX1_spill_X1_fail : GoodIn wsX1_spill wsX1_fail := goodIn_r _ [19, 1, 28, 29, 30, 31] (by decide +kernel) (by decide +kernel)
set_option maxRecDepth 20000 in
theorem gX1_spill_X1_fail : GoodIn wsX1_spill (wsV RX1 70 RX1 yX1_fail wsX1_fail) := goodIn_app (goodIn_of _ (by decide +kernel)) ggX1_spill_X1_fail
set_option maxRecDepth 20000 in
theorem ggX1_spill_X1_isIn : GoodIn wsX1_spill wsX1_isIn := goodIn_r _ [15] (by decide +kernel) (by decide +kernel)
set_option maxRecDepth 20000 in
theorem gX1_spill_X1_isIn : GoodIn wsX1_spill (va_wsS RX1 23 yX1_isIn wsX1_isIn) := goodIn_app (goodIn_of _ (by decide +kernel)) ggX1_spill_X1_isIn
set_option maxRecDepth 20000 in
theorem ggX1_spill_X1_me : GoodIn wsX1_spill wsX1_me := goodIn_r _ [23, 2, 28, 29, 30, 31] (by decide +kernel) (by decide +kernel)
set_option maxRecDepth 20000 in
theorem gX1_spill_X1_me : GoodIn wsX1_spill (wsV RX1 33 RX1 yX1_me wsX1_me) := goodIn_app (goodIn_of _ (by decide +kernel)) ggX1_spill_X1_me
set_option maxRecDepth 20000 in
theorem ggX1_spill_X1_let : GoodIn wsX1_spill wsX1_let := goodIn_r _ [27, 2, 28, 29, 30, 31] (by decide +kernel) (by decide +kernel)
set_option maxRecDepth 20000 in
theorem gX1_spill_X1_let : GoodIn wsX1_spill (wsV RX1 42 RX1 yX1_let wsX1_let) := goodIn_app (goodIn_of _ (by decide +kernel)) ggX1_spill_X1_let
theorem dX1_spill_0 : decode cX1_spill 0 = .ok (.aload_n 0, 1) := by decide +kernel
theorem dX1_spill_1 : decode cX1_spill 1 = .ok (.iconst 0, 1) := by decide +kernel
theorem dX1_spill_2 : decode cX1_spill 2 = .ok (.putfield 16, 3) := by decide +kernel
theorem dX1_spill_5 : decode cX1_spill 5 = .ok (.aload_n 0, 1) := by decide +kernel
theorem dX1_spill_6 : decode cX1_spill 6 = .ok (.iload_n 1, 1) := by decide +kernel
theorem dX1_spill_7 : decode cX1_spill 7 = .ok (.invokevirtual 73, 3) := by decide +kernel
theorem dX1_spill_10 : decode cX1_spill 10 = .ok (.ifCond .ne 9, 3) := by decide +kernel
theorem dX1_spill_13 : decode cX1_spill 13 = .ok (.aload_n 0, 1) := by decide +kernel
theorem dX1_spill_14 : decode cX1_spill 14 = .ok (.iconst 1, 1) := by decide +kernel
theorem dX1_spill_15 : decode cX1_spill 15 = .ok (.invokevirtual 70, 3) := by decide +kernel
theorem dX1_spill_18 : decode cX1_spill 18 = .ok (.ireturn, 1) := by decide +kernel
theorem dX1_spill_19 : decode cX1_spill 19 = .ok (.iload_n 2, 1) := by decide +kernel
theorem dX1_spill_20 : decode cX1_spill 20 = .ok (.iconst 1, 1) := by decide +kernel
theorem dX1_spill_21 : decode cX1_spill 21 = .ok (.bipush 30, 2) := by decide +kernel
theorem dX1_spill_23 : decode cX1_spill 23 = .ok (.invokestatic 23, 3) := by decide +kernel
theorem dX1_spill_26 : decode cX1_spill 26 = .ok (.ifCond .ne 9, 3) := by decide +kernel
theorem dX1_spill_29 : decode cX1_spill 29 = .ok (.aload_n 0, 1) := by decide +kernel
theorem dX1_spill_30 : decode cX1_spill 30 = .ok (.iconst 2, 1) := by decide +kernel
theorem dX1_spill_31 : decode cX1_spill 31 = .ok (.invokevirtual 70, 3) := by decide +kernel
theorem dX1_spill_34 : decode cX1_spill 34 = .ok (.ireturn, 1) := by decide +kernel
theorem dX1_spill_35 : decode cX1_spill 35 = .ok (.aload_n 0, 1) := by decide +kernel
theorem dX1_spill_36 : decode cX1_spill 36 = .ok (.getfield 9, 3) := by decide +kernel
theorem dX1_spill_39 : decode cX1_spill 39 = .ok (.iconst 1, 1) := by decide +kernel
theorem dX1_spill_40 : decode cX1_spill 40 = .ok (.iaload, 1) := by decide +kernel
theorem dX1_spill_41 : decode cX1_spill 41 = .ok (.iload_n 2, 1) := by decide +kernel
theorem dX1_spill_42 : decode cX1_spill 42 = .ok (.if_icmp .ge 9, 3) := by decide +kernel
theorem dX1_spill_45 : decode cX1_spill 45 = .ok (.aload_n 0, 1) := by decide +kernel
theorem dX1_spill_46 : decode cX1_spill 46 = .ok (.iconst 3, 1) := by decide +kernel
theorem dX1_spill_47 : decode cX1_spill 47 = .ok (.invokevirtual 70, 3) := by decide +kernel
theorem dX1_spill_50 : decode cX1_spill 50 = .ok (.ireturn, 1) := by decide +kernel
theorem dX1_spill_51 : decode cX1_spill 51 = .ok (.aload_n 0, 1) := by decide +kernel
theorem dX1_spill_52 : decode cX1_spill 52 = .ok (.getfield 9, 3) := by decide +kernel
theorem dX1_spill_55 : decode cX1_spill 55 = .ok (.iconst 1, 1) := by decide +kernel
theorem dX1_spill_56 : decode cX1_spill 56 = .ok (.dup2, 1) := by decide +kernel
theorem dX1_spill_57 : decode cX1_spill 57 = .ok (.iaload, 1) := by decide +kernel
theorem dX1_spill_58 : decode cX1_spill 58 = .ok (.iload_n 2, 1) := by decide +kernel
theorem dX1_spill_59 : decode cX1_spill 59 = .ok (.isub, 1) := by decide +kernel
theorem dX1_spill_60 : decode cX1_spill 60 = .ok (.iastore, 1) := by decide +kernel
theorem dX1_spill_61 : decode cX1_spill 61 = .ok (.aload_n 0, 1) := by decide +kernel
theorem dX1_spill_62 : decode cX1_spill 62 = .ok (.iload_n 1, 1) := by decide +kernel
theorem dX1_spill_63 : decode cX1_spill 63 = .ok (.iconst 1, 1) := by decide +kernel
theorem dX1_spill_64 : decode cX1_spill 64 = .ok (.bipush 99, 2) := by decide +kernel
theorem dX1_spill_66 : decode cX1_spill 66 = .ok (.aload_n 0, 1) := by decide +kernel
theorem dX1_spill_67 : decode cX1_spill 67 = .ok (.iload_n 1, 1) := by decide +kernel
theorem dX1_spill_68 : decode cX1_spill 68 = .ok (.iconst 1, 1) := by decide +kernel
theorem dX1_spill_69 : decode cX1_spill 69 = .ok (.invokevirtual 33, 3) := by decide +kernel
theorem dX1_spill_72 : decode cX1_spill 72 = .ok (.iload_n 2, 1) := by decide +kernel
theorem dX1_spill_73 : decode cX1_spill 73 = .ok (.iadd, 1) := by decide +kernel
theorem dX1_spill_74 : decode cX1_spill 74 = .ok (.invokestatic 57, 3) := by decide +kernel
theorem dX1_spill_77 : decode cX1_spill 77 = .ok (.invokevirtual 42, 3) := by decide +kernel
theorem dX1_spill_80 : decode cX1_spill 80 = .ok (.aload_n 0, 1) := by decide +kernel
theorem dX1_spill_81 : decode cX1_spill 81 = .ok (.iload_n 1, 1) := by decide +kernel
theorem dX1_spill_82 : decode cX1_spill 82 = .ok (.iconst 1, 1) := by decide +kernel
theorem dX1_spill_83 : decode cX1_spill 83 = .ok (.invokevirtual 33, 3) := by decide +kernel
theorem dX1_spill_86 : decode cX1_spill 86 = .ok (.ireturn, 1) := by decide +kernel
set_option maxRecDepth 20000 in
theorem ggX1_throwSalt_X1_isMember : GoodIn wsX1_throwSalt wsX1_isMember := goodIn_r _ [7, 8, 9, 10, 6, 11, 36, 37, 38, 39] (by decide +kernel) (by decide +kernel)
set_option maxRecDepth 20000 in
theorem gX1_throwSalt_X1_isMember : GoodIn wsX1_throwSalt (wsV RX1 73 RX1 yX1_isMember wsX1_isMember) := goodIn_app (goodIn_of _ (by decide +kernel)) ggX1_throwSalt_X1_isMember
set_option maxRecDepth 20000 in
theorem ggX1_throwSalt_X1_isIn : GoodIn wsX1_throwSalt wsX1_isIn := goodIn_r _ [11] (by decide +kernel) (by decide +kernel)
set_option maxRecDepth 20000 in
theorem gX1_throwSalt_X1_isIn : GoodIn wsX1_throwSalt (va_wsS RX1 23 yX1_isIn wsX1_isIn) := goodIn_app (goodIn_of _ (by decide +kernel)) ggX1_throwSalt_X1_isIn
set_option maxRecDepth 20000 in
theorem ggX1_throwSalt_X1_fail : GoodIn wsX1_throwSalt wsX1_fail := goodIn_r _ [15, 1, 36, 37, 38, 39] (by decide +kernel) (by decide +kernel)
set_option maxRecDepth 20000 in
theorem gX1_throwSalt_X1_fail : GoodIn wsX1_throwSalt (wsV RX1 70 RX1 yX1_fail wsX1_fail) := goodIn_app (goodIn_of _ (by decide +kernel)) ggX1_throwSalt_X1_fail
set_option maxRecDepth 20000 in
theorem ggX1_throwSalt_X1_cast : GoodIn wsX1_throwSalt wsX1_cast := goodIn_r _ [19, 20, 21, 22, 23, 2, 24, 25, 26, 6, 27, 28, 29, 30, 31, 32, 33, 34, 35, 36, 37, 38, 39] (by decide +kernel) (by decide +kernel)
set_option maxRecDepth 20000 in
theorem gX1_throwSalt_X1_cast : GoodIn wsX1_throwSalt (wsV RX1 77 RX1 yX1_cast wsX1_cast) := goodIn_app (goodIn_of _ (by decide +kernel)) ggX1_throwSalt_X1_cast
theorem dX1_throwSalt_0 : decode cX1_throwSalt 0 = .ok (.aload_n 0, 1) := by decide +kernel
theorem dX1_throwSalt_1 : decode cX1_throwSalt 1 = .ok (.iconst 0, 1) := by decide +kernel
theorem dX1_throwSalt_2 : decode cX1_throwSalt 2 = .ok (.putfield 16, 3) := by decide +kernel
theorem dX1_throwSalt_5 : decode cX1_throwSalt 5 = .ok (.aload_n 0, 1) := by decide +kernel
theorem dX1_throwSalt_6 : decode cX1_throwSalt 6 = .ok (.iload_n 1, 1) := by decide +kernel
theorem dX1_throwSalt_7 : decode cX1_throwSalt 7 = .ok (.invokevirtual 73, 3) := by decide +kernel
theorem dX1_throwSalt_10 : decode cX1_throwSalt 10 = .ok (.ifCond .eq 12, 3) := by decide +kernel
theorem dX1_throwSalt_13 : decode cX1_throwSalt 13 = .ok (.iload_n 2, 1) := by decide +kernel
theorem dX1_throwSalt_14 : decode cX1_throwSalt 14 = .ok (.iconst 0, 1) := by decide +kernel
theorem dX1_throwSalt_15 : decode cX1_throwSalt 15 = .ok (.iconst 1, 1) := by decide +kernel
theorem dX1_throwSalt_16 : decode cX1_throwSalt 16 = .ok (.invokestatic 23, 3) := by decide +kernel
theorem dX1_throwSalt_19 : decode cX1_throwSalt 19 = .ok (.ifCond .ne 9, 3) := by decide +kernel
theorem dX1_throwSalt_22 : decode cX1_throwSalt 22 = .ok (.aload_n 0, 1) := by decide +kernel
theorem dX1_throwSalt_23 : decode cX1_throwSalt 23 = .ok (.iconst 1, 1) := by decide +kernel
theorem dX1_throwSalt_24 : decode cX1_throwSalt 24 = .ok (.invokevirtual 70, 3) := by decide +kernel
theorem dX1_throwSalt_27 : decode cX1_throwSalt 27 = .ok (.ireturn, 1) := by decide +kernel
theorem dX1_throwSalt_28 : decode cX1_throwSalt 28 = .ok (.iload_n 3, 1) := by decide +kernel
theorem dX1_throwSalt_29 : decode cX1_throwSalt 29 = .ok (.iconst 1, 1) := by decide +kernel
theorem dX1_throwSalt_30 : decode cX1_throwSalt 30 = .ok (.bipush 9, 2) := by decide +kernel
theorem dX1_throwSalt_32 : decode cX1_throwSalt 32 = .ok (.invokestatic 23, 3) := by decide +kernel
theorem dX1_throwSalt_35 : decode cX1_throwSalt 35 = .ok (.ifCond .ne 9, 3) := by decide +kernel
theorem dX1_throwSalt_38 : decode cX1_throwSalt 38 = .ok (.aload_n 0, 1) := by decide +kernel
theorem dX1_throwSalt_39 : decode cX1_throwSalt 39 = .ok (.iconst 2, 1) := by decide +kernel
theorem dX1_throwSalt_40 : decode cX1_throwSalt 40 = .ok (.invokevirtual 70, 3) := by decide +kernel
theorem dX1_throwSalt_43 : decode cX1_throwSalt 43 = .ok (.ireturn, 1) := by decide +kernel
theorem dX1_throwSalt_44 : decode cX1_throwSalt 44 = .ok (.aload_n 0, 1) := by decide +kernel
theorem dX1_throwSalt_45 : decode cX1_throwSalt 45 = .ok (.getfield 9, 3) := by decide +kernel
theorem dX1_throwSalt_48 : decode cX1_throwSalt 48 = .ok (.iconst 1, 1) := by decide +kernel
theorem dX1_throwSalt_49 : decode cX1_throwSalt 49 = .ok (.iaload, 1) := by decide +kernel
theorem dX1_throwSalt_50 : decode cX1_throwSalt 50 = .ok (.iload_n 3, 1) := by decide +kernel
theorem dX1_throwSalt_51 : decode cX1_throwSalt 51 = .ok (.if_icmp .lt 14, 3) := by decide +kernel
theorem dX1_throwSalt_54 : decode cX1_throwSalt 54 = .ok (.aload_n 0, 1) := by decide +kernel
theorem dX1_throwSalt_55 : decode cX1_throwSalt 55 = .ok (.getfield 9, 3) := by decide +kernel
theorem dX1_throwSalt_58 : decode cX1_throwSalt 58 = .ok (.iconst 3, 1) := by decide +kernel
theorem dX1_throwSalt_59 : decode cX1_throwSalt 59 = .ok (.iaload, 1) := by decide +kernel
theorem dX1_throwSalt_60 : decode cX1_throwSalt 60 = .ok (.bipush 30, 2) := by decide +kernel
theorem dX1_throwSalt_62 : decode cX1_throwSalt 62 = .ok (.if_icmp .ne 9, 3) := by decide +kernel
theorem dX1_throwSalt_65 : decode cX1_throwSalt 65 = .ok (.aload_n 0, 1) := by decide +kernel
theorem dX1_throwSalt_66 : decode cX1_throwSalt 66 = .ok (.iconst 3, 1) := by decide +kernel
theorem dX1_throwSalt_67 : decode cX1_throwSalt 67 = .ok (.invokevirtual 70, 3) := by decide +kernel
theorem dX1_throwSalt_70 : decode cX1_throwSalt 70 = .ok (.ireturn, 1) := by decide +kernel
theorem dX1_throwSalt_71 : decode cX1_throwSalt 71 = .ok (.aload_n 0, 1) := by decide +kernel
theorem dX1_throwSalt_72 : decode cX1_throwSalt 72 = .ok (.iload_n 1, 1) := by decide +kernel
theorem dX1_throwSalt_73 : decode cX1_throwSalt 73 = .ok (.iload_n 2, 1) := by decide +kernel
theorem dX1_throwSalt_74 : decode cX1_throwSalt 74 = .ok (.ifCond .ne 7, 3) := by decide +kernel
theorem dX1_throwSalt_77 : decode cX1_throwSalt 77 = .ok (.iconst 1, 1) := by decide +kernel
theorem dX1_throwSalt_78 : decode cX1_throwSalt 78 = .ok (.goto 4, 3) := by decide +kernel
theorem dX1_throwSalt_81 : decode cX1_throwSalt 81 = .ok (.iconst 0, 1) := by decide +kernel
theorem dX1_throwSalt_82 : decode cX1_throwSalt 82 = .ok (.iload_n 3, 1) := by decide +kernel
theorem dX1_throwSalt_83 : decode cX1_throwSalt 83 = .ok (.invokevirtual 77, 3) := by decide +kernel
theorem dX1_throwSalt_86 : decode cX1_throwSalt 86 = .ok (.ireturn, 1) := by decide +kernel
set_option maxRecDepth 20000 in
theorem ggX1_doPenance_X1_isMember : GoodIn wsX1_doPenance wsX1_isMember := goodIn_r _ [10, 11, 12, 13, 9, 14, 28, 29, 30, 31] (by decide +kernel) (by decide +kernel)
set_option maxRecDepth 20000 in
theorem gX1_doPenance_X1_isMember : GoodIn wsX1_doPenance (wsV RX1 73 RX1 yX1_isMember wsX1_isMember) := goodIn_app (goodIn_of _ (by decide +kernel)) ggX1_doPenance_X1_isMember
set_option maxRecDepth 20000 in
theorem ggX1_doPenance_X1_fail : GoodIn wsX1_doPenance wsX1_fail := goodIn_r _ [18, 1, 28, 29, 30, 31] (by decide +kernel) (by decide +kernel)
set_option maxRecDepth 20000 in
theorem gX1_doPenance_X1_fail : GoodIn wsX1_doPenance (wsV RX1 70 RX1 yX1_fail wsX1_fail) := goodIn_app (goodIn_of _ (by decide +kernel)) ggX1_doPenance_X1_fail
set_option maxRecDepth 20000 in
theorem ggX1_doPenance_X1_isIn : GoodIn wsX1_doPenance wsX1_isIn := goodIn_r _ [14] (by decide +kernel) (by decide +kernel)
set_option maxRecDepth 20000 in
theorem gX1_doPenance_X1_isIn : GoodIn wsX1_doPenance (va_wsS RX1 23 yX1_isIn wsX1_isIn) := goodIn_app (goodIn_of _ (by decide +kernel)) ggX1_doPenance_X1_isIn
set_option maxRecDepth 20000 in
theorem ggX1_doPenance_X1_me : GoodIn wsX1_doPenance wsX1_me := goodIn_r _ [22, 23, 28, 29, 30, 31] (by decide +kernel) (by decide +kernel)
set_option maxRecDepth 20000 in
theorem gX1_doPenance_X1_me : GoodIn wsX1_doPenance (wsV RX1 33 RX1 yX1_me wsX1_me) := goodIn_app (goodIn_of _ (by decide +kernel)) ggX1_doPenance_X1_me
set_option maxRecDepth 20000 in
theorem ggX1_doPenance_X1_let : GoodIn wsX1_doPenance wsX1_let := goodIn_r _ [27, 23, 28, 29, 30, 31] (by decide +kernel) (by decide +kernel)
set_option maxRecDepth 20000 in
theorem gX1_doPenance_X1_let : GoodIn wsX1_doPenance (wsV RX1 42 RX1 yX1_let wsX1_let) := goodIn_app (goodIn_of _ (by decide +kernel)) ggX1_doPenance_X1_let
theorem dX1_doPenance_0 : decode cX1_doPenance 0 = .ok (.aload_n 0, 1) := by decide +kernel
theorem dX1_doPenance_1 : decode cX1_doPenance 1 = .ok (.iconst 0, 1) := by decide +kernel
theorem dX1_doPenance_2 : decode cX1_doPenance 2 = .ok (.putfield 16, 3) := by decide +kernel
theorem dX1_doPenance_5 : decode cX1_doPenance 5 = .ok (.aload_n 0, 1) := by decide +kernel
theorem dX1_doPenance_6 : decode cX1_doPenance 6 = .ok (.iload_n 1, 1) := by decide +kernel
theorem dX1_doPenance_7 : decode cX1_doPenance 7 = .ok (.invokevirtual 73, 3) := by decide +kernel
theorem dX1_doPenance_10 : decode cX1_doPenance 10 = .ok (.ifCond .ne 9, 3) := by decide +kernel
theorem dX1_doPenance_13 : decode cX1_doPenance 13 = .ok (.aload_n 0, 1) := by decide +kernel
theorem dX1_doPenance_14 : decode cX1_doPenance 14 = .ok (.iconst 1, 1) := by decide +kernel
theorem dX1_doPenance_15 : decode cX1_doPenance 15 = .ok (.invokevirtual 70, 3) := by decide +kernel
theorem dX1_doPenance_18 : decode cX1_doPenance 18 = .ok (.ireturn, 1) := by decide +kernel
theorem dX1_doPenance_19 : decode cX1_doPenance 19 = .ok (.iload_n 2, 1) := by decide +kernel
theorem dX1_doPenance_20 : decode cX1_doPenance 20 = .ok (.iconst 1, 1) := by decide +kernel
theorem dX1_doPenance_21 : decode cX1_doPenance 21 = .ok (.bipush 9, 2) := by decide +kernel
theorem dX1_doPenance_23 : decode cX1_doPenance 23 = .ok (.invokestatic 23, 3) := by decide +kernel
theorem dX1_doPenance_26 : decode cX1_doPenance 26 = .ok (.ifCond .ne 9, 3) := by decide +kernel
theorem dX1_doPenance_29 : decode cX1_doPenance 29 = .ok (.aload_n 0, 1) := by decide +kernel
theorem dX1_doPenance_30 : decode cX1_doPenance 30 = .ok (.iconst 2, 1) := by decide +kernel
theorem dX1_doPenance_31 : decode cX1_doPenance 31 = .ok (.invokevirtual 70, 3) := by decide +kernel
theorem dX1_doPenance_34 : decode cX1_doPenance 34 = .ok (.ireturn, 1) := by decide +kernel
theorem dX1_doPenance_35 : decode cX1_doPenance 35 = .ok (.aload_n 0, 1) := by decide +kernel
theorem dX1_doPenance_36 : decode cX1_doPenance 36 = .ok (.iload_n 1, 1) := by decide +kernel
theorem dX1_doPenance_37 : decode cX1_doPenance 37 = .ok (.iconst 2, 1) := by decide +kernel
theorem dX1_doPenance_38 : decode cX1_doPenance 38 = .ok (.bipush 9, 2) := by decide +kernel
theorem dX1_doPenance_40 : decode cX1_doPenance 40 = .ok (.aload_n 0, 1) := by decide +kernel
theorem dX1_doPenance_41 : decode cX1_doPenance 41 = .ok (.iload_n 1, 1) := by decide +kernel
theorem dX1_doPenance_42 : decode cX1_doPenance 42 = .ok (.iconst 2, 1) := by decide +kernel
theorem dX1_doPenance_43 : decode cX1_doPenance 43 = .ok (.invokevirtual 33, 3) := by decide +kernel
theorem dX1_doPenance_46 : decode cX1_doPenance 46 = .ok (.iload_n 2, 1) := by decide +kernel
theorem dX1_doPenance_47 : decode cX1_doPenance 47 = .ok (.iadd, 1) := by decide +kernel
theorem dX1_doPenance_48 : decode cX1_doPenance 48 = .ok (.invokestatic 57, 3) := by decide +kernel
theorem dX1_doPenance_51 : decode cX1_doPenance 51 = .ok (.invokevirtual 42, 3) := by decide +kernel
theorem dX1_doPenance_54 : decode cX1_doPenance 54 = .ok (.aload_n 0, 1) := by decide +kernel
theorem dX1_doPenance_55 : decode cX1_doPenance 55 = .ok (.iload_n 1, 1) := by decide +kernel
theorem dX1_doPenance_56 : decode cX1_doPenance 56 = .ok (.iconst 2, 1) := by decide +kernel
theorem dX1_doPenance_57 : decode cX1_doPenance 57 = .ok (.invokevirtual 33, 3) := by decide +kernel
theorem dX1_doPenance_60 : decode cX1_doPenance 60 = .ok (.ireturn, 1) := by decide +kernel
set_option maxRecDepth 20000 in
theorem ggX1_bringSalt_X1_isIn : GoodIn wsX1_bringSalt wsX1_isIn := goodIn_r _ [10] (by decide +kernel) (by decide +kernel)
set_option maxRecDepth 20000 in
theorem gX1_bringSalt_X1_isIn : GoodIn wsX1_bringSalt (va_wsS RX1 23 yX1_isIn wsX1_isIn) := goodIn_app (goodIn_of _ (by decide +kernel)) ggX1_bringSalt_X1_isIn
set_option maxRecDepth 20000 in
theorem ggX1_bringSalt_X1_fail : GoodIn wsX1_bringSalt wsX1_fail := goodIn_r _ [14, 1, 15, 16, 17, 18] (by decide +kernel) (by decide +kernel)
set_option maxRecDepth 20000 in
theorem gX1_bringSalt_X1_fail : GoodIn wsX1_bringSalt (wsV RX1 70 RX1 yX1_fail wsX1_fail) := goodIn_app (goodIn_of _ (by decide +kernel)) ggX1_bringSalt_X1_fail
theorem dX1_bringSalt_0 : decode cX1_bringSalt 0 = .ok (.aload_n 0, 1) := by decide +kernel
theorem dX1_bringSalt_1 : decode cX1_bringSalt 1 = .ok (.iconst 0, 1) := by decide +kernel
theorem dX1_bringSalt_2 : decode cX1_bringSalt 2 = .ok (.putfield 16, 3) := by decide +kernel
theorem dX1_bringSalt_5 : decode cX1_bringSalt 5 = .ok (.iload_n 1, 1) := by decide +kernel
theorem dX1_bringSalt_6 : decode cX1_bringSalt 6 = .ok (.iconst 1, 1) := by decide +kernel
theorem dX1_bringSalt_7 : decode cX1_bringSalt 7 = .ok (.sipush 500, 3) := by decide +kernel
theorem dX1_bringSalt_10 : decode cX1_bringSalt 10 = .ok (.invokestatic 23, 3) := by decide +kernel
theorem dX1_bringSalt_13 : decode cX1_bringSalt 13 = .ok (.ifCond .ne 9, 3) := by decide +kernel
theorem dX1_bringSalt_16 : decode cX1_bringSalt 16 = .ok (.aload_n 0, 1) := by decide +kernel
theorem dX1_bringSalt_17 : decode cX1_bringSalt 17 = .ok (.iconst 1, 1) := by decide +kernel
theorem dX1_bringSalt_18 : decode cX1_bringSalt 18 = .ok (.invokevirtual 70, 3) := by decide +kernel
theorem dX1_bringSalt_21 : decode cX1_bringSalt 21 = .ok (.ireturn, 1) := by decide +kernel
theorem dX1_bringSalt_22 : decode cX1_bringSalt 22 = .ok (.aload_n 0, 1) := by decide +kernel
theorem dX1_bringSalt_23 : decode cX1_bringSalt 23 = .ok (.getfield 9, 3) := by decide +kernel
theorem dX1_bringSalt_26 : decode cX1_bringSalt 26 = .ok (.iconst 1, 1) := by decide +kernel
theorem dX1_bringSalt_27 : decode cX1_bringSalt 27 = .ok (.sipush 500, 3) := by decide +kernel
theorem dX1_bringSalt_30 : decode cX1_bringSalt 30 = .ok (.aload_n 0, 1) := by decide +kernel
theorem dX1_bringSalt_31 : decode cX1_bringSalt 31 = .ok (.getfield 9, 3) := by decide +kernel
theorem dX1_bringSalt_34 : decode cX1_bringSalt 34 = .ok (.iconst 1, 1) := by decide +kernel
theorem dX1_bringSalt_35 : decode cX1_bringSalt 35 = .ok (.iaload, 1) := by decide +kernel
theorem dX1_bringSalt_36 : decode cX1_bringSalt 36 = .ok (.iload_n 1, 1) := by decide +kernel
theorem dX1_bringSalt_37 : decode cX1_bringSalt 37 = .ok (.iadd, 1) := by decide +kernel
theorem dX1_bringSalt_38 : decode cX1_bringSalt 38 = .ok (.invokestatic 57, 3) := by decide +kernel
theorem dX1_bringSalt_41 : decode cX1_bringSalt 41 = .ok (.iastore, 1) := by decide +kernel
theorem dX1_bringSalt_42 : decode cX1_bringSalt 42 = .ok (.aload_n 0, 1) := by decide +kernel
theorem dX1_bringSalt_43 : decode cX1_bringSalt 43 = .ok (.getfield 9, 3) := by decide +kernel
theorem dX1_bringSalt_46 : decode cX1_bringSalt 46 = .ok (.iconst 1, 1) := by decide +kernel
theorem dX1_bringSalt_47 : decode cX1_bringSalt 47 = .ok (.iaload, 1) := by decide +kernel
theorem dX1_bringSalt_48 : decode cX1_bringSalt 48 = .ok (.ireturn, 1) := by decide +kernel
set_option maxRecDepth 20000 in
theorem ggX1_audit_X1_auditNow : GoodIn wsX1_audit wsX1_auditNow := goodIn_r _ [5, 6, 7, 8, 9, 10, 11, 12, 13, 4, 14, 15, 16, 17, 18, 19, 20, 21, 22, 23, 24, 25, 26, 32, 33, 34, 35] (by decide +kernel) (by decide +kernel)
set_option maxRecDepth 20000 in
theorem gX1_audit_X1_auditNow : GoodIn wsX1_audit (wsV RX1 60 RX1 yX1_auditNow wsX1_auditNow) := goodIn_app (goodIn_of _ (by decide +kernel)) ggX1_audit_X1_auditNow
set_option maxRecDepth 20000 in
theorem ggX1_audit_X1_told : GoodIn wsX1_audit wsX1_told := goodIn_r _ [30, 31, 32, 33, 34, 35] (by decide +kernel) (by decide +kernel)
set_option maxRecDepth 20000 in
theorem gX1_audit_X1_told : GoodIn wsX1_audit (wsV RX1 81 RX1 yX1_told wsX1_told) := goodIn_app (goodIn_of _ (by decide +kernel)) ggX1_audit_X1_told
theorem dX1_audit_0 : decode cX1_audit 0 = .ok (.aload_n 0, 1) := by decide +kernel
theorem dX1_audit_1 : decode cX1_audit 1 = .ok (.aload_n 0, 1) := by decide +kernel
theorem dX1_audit_2 : decode cX1_audit 2 = .ok (.invokevirtual 60, 3) := by decide +kernel
theorem dX1_audit_5 : decode cX1_audit 5 = .ok (.invokevirtual 81, 3) := by decide +kernel
theorem dX1_audit_8 : decode cX1_audit 8 = .ok (.ireturn, 1) := by decide +kernel
set_option maxRecDepth 20000 in
theorem ggX1_pass_X1_isIn : GoodIn wsX1_pass wsX1_isIn := goodIn_r _ [5] (by decide +kernel) (by decide +kernel)
set_option maxRecDepth 20000 in
theorem gX1_pass_X1_isIn : GoodIn wsX1_pass (va_wsS RX1 23 yX1_isIn wsX1_isIn) := goodIn_app (goodIn_of _ (by decide +kernel)) ggX1_pass_X1_isIn
set_option maxRecDepth 20000 in
theorem ggX1_pass_X1_daysOn : GoodIn wsX1_pass wsX1_daysOn := goodIn_r _ [9, 10, 11, 12, 4, 13, 14, 15, 16, 17, 18, 19, 20, 21, 22, 23, 24, 25, 26, 27, 28, 29, 30, 31, 32, 33, 34, 35, 36, 37, 38, 39, 40, 41, 42, 43, 44, 45, 46, 51, 52, 53, 54] (by decide +kernel) (by decide +kernel)
set_option maxRecDepth 20000 in
theorem gX1_pass_X1_daysOn : GoodIn wsX1_pass (wsV RX1 84 RX1 yX1_daysOn wsX1_daysOn) := goodIn_app (goodIn_of _ (by decide +kernel)) ggX1_pass_X1_daysOn
set_option maxRecDepth 20000 in
theorem ggX1_pass_X1_fail : GoodIn wsX1_pass wsX1_fail := goodIn_r _ [50, 1, 51, 52, 53, 54] (by decide +kernel) (by decide +kernel)
set_option maxRecDepth 20000 in
theorem gX1_pass_X1_fail : GoodIn wsX1_pass (wsV RX1 70 RX1 yX1_fail wsX1_fail) := goodIn_app (goodIn_of _ (by decide +kernel)) ggX1_pass_X1_fail
theorem dX1_pass_0 : decode cX1_pass 0 = .ok (.aload_n 0, 1) := by decide +kernel
theorem dX1_pass_1 : decode cX1_pass 1 = .ok (.iconst 0, 1) := by decide +kernel
theorem dX1_pass_2 : decode cX1_pass 2 = .ok (.putfield 16, 3) := by decide +kernel
theorem dX1_pass_5 : decode cX1_pass 5 = .ok (.iload_n 1, 1) := by decide +kernel
theorem dX1_pass_6 : decode cX1_pass 6 = .ok (.iconst 1, 1) := by decide +kernel
theorem dX1_pass_7 : decode cX1_pass 7 = .ok (.bipush 60, 2) := by decide +kernel
theorem dX1_pass_9 : decode cX1_pass 9 = .ok (.invokestatic 23, 3) := by decide +kernel
theorem dX1_pass_12 : decode cX1_pass 12 = .ok (.ifCond .eq 11, 3) := by decide +kernel
theorem dX1_pass_15 : decode cX1_pass 15 = .ok (.aload_n 0, 1) := by decide +kernel
theorem dX1_pass_16 : decode cX1_pass 16 = .ok (.iload_n 1, 1) := by decide +kernel
theorem dX1_pass_17 : decode cX1_pass 17 = .ok (.invokevirtual 84, 3) := by decide +kernel
theorem dX1_pass_20 : decode cX1_pass 20 = .ok (.goto 8, 3) := by decide +kernel
theorem dX1_pass_23 : decode cX1_pass 23 = .ok (.aload_n 0, 1) := by decide +kernel
theorem dX1_pass_24 : decode cX1_pass 24 = .ok (.iconst 1, 1) := by decide +kernel
theorem dX1_pass_25 : decode cX1_pass 25 = .ok (.invokevirtual 70, 3) := by decide +kernel
theorem dX1_pass_28 : decode cX1_pass 28 = .ok (.ireturn, 1) := by decide +kernel
set_option maxRecDepth 20000 in
theorem ggX1_day_X1_told : GoodIn wsX1_day wsX1_told := goodIn_r _ [6, 7, 8, 9, 10, 11] (by decide +kernel) (by decide +kernel)
set_option maxRecDepth 20000 in
theorem gX1_day_X1_told : GoodIn wsX1_day (wsV RX1 81 RX1 yX1_told wsX1_told) := goodIn_app (goodIn_of _ (by decide +kernel)) ggX1_day_X1_told
theorem dX1_day_0 : decode cX1_day 0 = .ok (.aload_n 0, 1) := by decide +kernel
theorem dX1_day_1 : decode cX1_day 1 = .ok (.aload_n 0, 1) := by decide +kernel
theorem dX1_day_2 : decode cX1_day 2 = .ok (.getfield 9, 3) := by decide +kernel
theorem dX1_day_5 : decode cX1_day 5 = .ok (.iconst 0, 1) := by decide +kernel
theorem dX1_day_6 : decode cX1_day 6 = .ok (.iaload, 1) := by decide +kernel
theorem dX1_day_7 : decode cX1_day 7 = .ok (.invokevirtual 81, 3) := by decide +kernel
theorem dX1_day_10 : decode cX1_day 10 = .ok (.ireturn, 1) := by decide +kernel
set_option maxRecDepth 20000 in
theorem ggX1_members_X1_told : GoodIn wsX1_members wsX1_told := goodIn_r _ [6, 7, 8, 9, 10, 11] (by decide +kernel) (by decide +kernel)
set_option maxRecDepth 20000 in
theorem gX1_members_X1_told : GoodIn wsX1_members (wsV RX1 81 RX1 yX1_told wsX1_told) := goodIn_app (goodIn_of _ (by decide +kernel)) ggX1_members_X1_told
theorem dX1_members_0 : decode cX1_members 0 = .ok (.aload_n 0, 1) := by decide +kernel
theorem dX1_members_1 : decode cX1_members 1 = .ok (.aload_n 0, 1) := by decide +kernel
theorem dX1_members_2 : decode cX1_members 2 = .ok (.getfield 20, 3) := by decide +kernel
theorem dX1_members_5 : decode cX1_members 5 = .ok (.invokevirtual 81, 3) := by decide +kernel
theorem dX1_members_8 : decode cX1_members 8 = .ok (.ireturn, 1) := by decide +kernel
set_option maxRecDepth 20000 in
theorem ggX1_member_X1_isMember : GoodIn wsX1_member wsX1_isMember := goodIn_r _ [6, 7, 8, 9, 5, 10, 20, 21, 22, 23] (by decide +kernel) (by decide +kernel)
set_option maxRecDepth 20000 in
theorem gX1_member_X1_isMember : GoodIn wsX1_member (wsV RX1 73 RX1 yX1_isMember wsX1_isMember) := goodIn_app (goodIn_of _ (by decide +kernel)) ggX1_member_X1_isMember
set_option maxRecDepth 20000 in
theorem ggX1_member_X1_me : GoodIn wsX1_member wsX1_me := goodIn_r _ [14, 15, 20, 21, 22, 23] (by decide +kernel) (by decide +kernel)
set_option maxRecDepth 20000 in
theorem gX1_member_X1_me : GoodIn wsX1_member (wsV RX1 33 RX1 yX1_me wsX1_me) := goodIn_app (goodIn_of _ (by decide +kernel)) ggX1_member_X1_me
set_option maxRecDepth 20000 in
theorem ggX1_member_X1_fail : GoodIn wsX1_member wsX1_fail := goodIn_r _ [19, 1, 20, 21, 22, 23] (by decide +kernel) (by decide +kernel)
set_option maxRecDepth 20000 in
theorem gX1_member_X1_fail : GoodIn wsX1_member (wsV RX1 70 RX1 yX1_fail wsX1_fail) := goodIn_app (goodIn_of _ (by decide +kernel)) ggX1_member_X1_fail
theorem dX1_member_0 : decode cX1_member 0 = .ok (.aload_n 0, 1) := by decide +kernel
theorem dX1_member_1 : decode cX1_member 1 = .ok (.iconst 0, 1) := by decide +kernel
theorem dX1_member_2 : decode cX1_member 2 = .ok (.putfield 16, 3) := by decide +kernel
theorem dX1_member_5 : decode cX1_member 5 = .ok (.aload_n 0, 1) := by decide +kernel
theorem dX1_member_6 : decode cX1_member 6 = .ok (.iload_n 1, 1) := by decide +kernel
theorem dX1_member_7 : decode cX1_member 7 = .ok (.invokevirtual 73, 3) := by decide +kernel
theorem dX1_member_10 : decode cX1_member 10 = .ok (.ifCond .eq 12, 3) := by decide +kernel
theorem dX1_member_13 : decode cX1_member 13 = .ok (.aload_n 0, 1) := by decide +kernel
theorem dX1_member_14 : decode cX1_member 14 = .ok (.iload_n 1, 1) := by decide +kernel
theorem dX1_member_15 : decode cX1_member 15 = .ok (.iload_n 2, 1) := by decide +kernel
theorem dX1_member_16 : decode cX1_member 16 = .ok (.invokevirtual 33, 3) := by decide +kernel
theorem dX1_member_19 : decode cX1_member 19 = .ok (.goto 8, 3) := by decide +kernel
theorem dX1_member_22 : decode cX1_member 22 = .ok (.aload_n 0, 1) := by decide +kernel
theorem dX1_member_23 : decode cX1_member 23 = .ok (.iconst 1, 1) := by decide +kernel
theorem dX1_member_24 : decode cX1_member 24 = .ok (.invokevirtual 70, 3) := by decide +kernel
theorem dX1_member_27 : decode cX1_member 27 = .ok (.ireturn, 1) := by decide +kernel
set_option maxRecDepth 20000 in
theorem ggX1_luckOf_X1_member : GoodIn wsX1_luckOf wsX1_member := goodIn_r _ [5, 6, 7, 8, 9, 4, 10, 11, 12, 13, 14, 15, 16, 17, 18, 19, 20, 21, 22, 23, 24, 25, 26, 27] (by decide +kernel) (by decide +kernel)
set_option maxRecDepth 20000 in
theorem gX1_luckOf_X1_member : GoodIn wsX1_luckOf (wsV RX1 87 RX1 yX1_member wsX1_member) := goodIn_app (goodIn_of _ (by decide +kernel)) ggX1_luckOf_X1_member
theorem dX1_luckOf_0 : decode cX1_luckOf 0 = .ok (.aload_n 0, 1) := by decide +kernel
theorem dX1_luckOf_1 : decode cX1_luckOf 1 = .ok (.iload_n 1, 1) := by decide +kernel
theorem dX1_luckOf_2 : decode cX1_luckOf 2 = .ok (.iconst 0, 1) := by decide +kernel
theorem dX1_luckOf_3 : decode cX1_luckOf 3 = .ok (.invokevirtual 87, 3) := by decide +kernel
theorem dX1_luckOf_6 : decode cX1_luckOf 6 = .ok (.ireturn, 1) := by decide +kernel
set_option maxRecDepth 20000 in
theorem ggX1_arrearsOf_X1_member : GoodIn wsX1_arrearsOf wsX1_member := goodIn_r _ [5, 6, 7, 8, 9, 4, 10, 11, 12, 13, 14, 15, 16, 17, 18, 19, 20, 21, 22, 23, 24, 25, 26, 27] (by decide +kernel) (by decide +kernel)
set_option maxRecDepth 20000 in
theorem gX1_arrearsOf_X1_member : GoodIn wsX1_arrearsOf (wsV RX1 87 RX1 yX1_member wsX1_member) := goodIn_app (goodIn_of _ (by decide +kernel)) ggX1_arrearsOf_X1_member
theorem dX1_arrearsOf_0 : decode cX1_arrearsOf 0 = .ok (.aload_n 0, 1) := by decide +kernel
theorem dX1_arrearsOf_1 : decode cX1_arrearsOf 1 = .ok (.iload_n 1, 1) := by decide +kernel
theorem dX1_arrearsOf_2 : decode cX1_arrearsOf 2 = .ok (.iconst 1, 1) := by decide +kernel
theorem dX1_arrearsOf_3 : decode cX1_arrearsOf 3 = .ok (.invokevirtual 87, 3) := by decide +kernel
theorem dX1_arrearsOf_6 : decode cX1_arrearsOf 6 = .ok (.ireturn, 1) := by decide +kernel
set_option maxRecDepth 20000 in
theorem ggX1_lumpsOf_X1_member : GoodIn wsX1_lumpsOf wsX1_member := goodIn_r _ [5, 6, 7, 8, 9, 4, 10, 11, 12, 13, 14, 15, 16, 17, 18, 19, 20, 21, 22, 23, 24, 25, 26, 27] (by decide +kernel) (by decide +kernel)
set_option maxRecDepth 20000 in
theorem gX1_lumpsOf_X1_member : GoodIn wsX1_lumpsOf (wsV RX1 87 RX1 yX1_member wsX1_member) := goodIn_app (goodIn_of _ (by decide +kernel)) ggX1_lumpsOf_X1_member
theorem dX1_lumpsOf_0 : decode cX1_lumpsOf 0 = .ok (.aload_n 0, 1) := by decide +kernel
theorem dX1_lumpsOf_1 : decode cX1_lumpsOf 1 = .ok (.iload_n 1, 1) := by decide +kernel
theorem dX1_lumpsOf_2 : decode cX1_lumpsOf 2 = .ok (.iconst 2, 1) := by decide +kernel
theorem dX1_lumpsOf_3 : decode cX1_lumpsOf 3 = .ok (.invokevirtual 87, 3) := by decide +kernel
theorem dX1_lumpsOf_6 : decode cX1_lumpsOf 6 = .ok (.ireturn, 1) := by decide +kernel
set_option maxRecDepth 20000 in
theorem ggX1_dailyLoss_X1_isMember : GoodIn wsX1_dailyLoss wsX1_isMember := goodIn_r _ [6, 7, 8, 9, 5, 10, 24, 25, 26, 27] (by decide +kernel) (by decide +kernel)
set_option maxRecDepth 20000 in
theorem gX1_dailyLoss_X1_isMember : GoodIn wsX1_dailyLoss (wsV RX1 73 RX1 yX1_isMember wsX1_isMember) := goodIn_app (goodIn_of _ (by decide +kernel)) ggX1_dailyLoss_X1_isMember
set_option maxRecDepth 20000 in
theorem ggX1_dailyLoss_X1_loss : GoodIn wsX1_dailyLoss wsX1_loss := goodIn_r _ [14, 15, 16, 17, 5, 18, 19, 24, 25, 26, 27] (by decide +kernel) (by decide +kernel)
set_option maxRecDepth 20000 in
theorem gX1_dailyLoss_X1_loss : GoodIn wsX1_dailyLoss (wsV RX1 63 RX1 yX1_loss wsX1_loss) := goodIn_app (goodIn_of _ (by decide +kernel)) ggX1_dailyLoss_X1_loss
set_option maxRecDepth 20000 in
theorem ggX1_dailyLoss_X1_fail : GoodIn wsX1_dailyLoss wsX1_fail := goodIn_r _ [23, 1, 24, 25, 26, 27] (by decide +kernel) (by decide +kernel)
set_option maxRecDepth 20000 in
theorem gX1_dailyLoss_X1_fail : GoodIn wsX1_dailyLoss (wsV RX1 70 RX1 yX1_fail wsX1_fail) := goodIn_app (goodIn_of _ (by decide +kernel)) ggX1_dailyLoss_X1_fail
theorem dX1_dailyLoss_0 : decode cX1_dailyLoss 0 = .ok (.aload_n 0, 1) := by decide +kernel
theorem dX1_dailyLoss_1 : decode cX1_dailyLoss 1 = .ok (.iconst 0, 1) := by decide +kernel
theorem dX1_dailyLoss_2 : decode cX1_dailyLoss 2 = .ok (.putfield 16, 3) := by decide +kernel
theorem dX1_dailyLoss_5 : decode cX1_dailyLoss 5 = .ok (.aload_n 0, 1) := by decide +kernel
theorem dX1_dailyLoss_6 : decode cX1_dailyLoss 6 = .ok (.iload_n 1, 1) := by decide +kernel
theorem dX1_dailyLoss_7 : decode cX1_dailyLoss 7 = .ok (.invokevirtual 73, 3) := by decide +kernel
theorem dX1_dailyLoss_10 : decode cX1_dailyLoss 10 = .ok (.ifCond .eq 11, 3) := by decide +kernel
theorem dX1_dailyLoss_13 : decode cX1_dailyLoss 13 = .ok (.aload_n 0, 1) := by decide +kernel
theorem dX1_dailyLoss_14 : decode cX1_dailyLoss 14 = .ok (.iload_n 1, 1) := by decide +kernel
theorem dX1_dailyLoss_15 : decode cX1_dailyLoss 15 = .ok (.invokevirtual 63, 3) := by decide +kernel
theorem dX1_dailyLoss_18 : decode cX1_dailyLoss 18 = .ok (.goto 8, 3) := by decide +kernel
theorem dX1_dailyLoss_21 : decode cX1_dailyLoss 21 = .ok (.aload_n 0, 1) := by decide +kernel
theorem dX1_dailyLoss_22 : decode cX1_dailyLoss 22 = .ok (.iconst 1, 1) := by decide +kernel
theorem dX1_dailyLoss_23 : decode cX1_dailyLoss 23 = .ok (.invokevirtual 70, 3) := by decide +kernel
theorem dX1_dailyLoss_26 : decode cX1_dailyLoss 26 = .ok (.ireturn, 1) := by decide +kernel
set_option maxRecDepth 20000 in
theorem ggX1_best_X1_me : GoodIn wsX1_best wsX1_me := goodIn_r _ [6, 7, 8, 9, 10, 11] (by decide +kernel) (by decide +kernel)
set_option maxRecDepth 20000 in
theorem gX1_best_X1_me : GoodIn wsX1_best (wsV RX1 33 RX1 yX1_me wsX1_me) := goodIn_app (goodIn_of _ (by decide +kernel)) ggX1_best_X1_me
theorem dX1_best_0 : decode cX1_best 0 = .ok (.iconst (-1), 1) := by decide +kernel
theorem dX1_best_1 : decode cX1_best 1 = .ok (.istore_n 1, 1) := by decide +kernel
theorem dX1_best_2 : decode cX1_best 2 = .ok (.iconst 0, 1) := by decide +kernel
theorem dX1_best_3 : decode cX1_best 3 = .ok (.istore_n 2, 1) := by decide +kernel
theorem dX1_best_4 : decode cX1_best 4 = .ok (.iload_n 2, 1) := by decide +kernel
theorem dX1_best_5 : decode cX1_best 5 = .ok (.aload_n 0, 1) := by decide +kernel
theorem dX1_best_6 : decode cX1_best 6 = .ok (.getfield 20, 3) := by decide +kernel
theorem dX1_best_9 : decode cX1_best 9 = .ok (.if_icmp .ge 31, 3) := by decide +kernel
theorem dX1_best_12 : decode cX1_best 12 = .ok (.iload_n 1, 1) := by decide +kernel
theorem dX1_best_13 : decode cX1_best 13 = .ok (.iconst (-1), 1) := by decide +kernel
theorem dX1_best_14 : decode cX1_best 14 = .ok (.if_icmp .eq 18, 3) := by decide +kernel
theorem dX1_best_17 : decode cX1_best 17 = .ok (.aload_n 0, 1) := by decide +kernel
theorem dX1_best_18 : decode cX1_best 18 = .ok (.iload_n 2, 1) := by decide +kernel
theorem dX1_best_19 : decode cX1_best 19 = .ok (.iconst 0, 1) := by decide +kernel
theorem dX1_best_20 : decode cX1_best 20 = .ok (.invokevirtual 33, 3) := by decide +kernel
theorem dX1_best_23 : decode cX1_best 23 = .ok (.aload_n 0, 1) := by decide +kernel
theorem dX1_best_24 : decode cX1_best 24 = .ok (.iload_n 1, 1) := by decide +kernel
theorem dX1_best_25 : decode cX1_best 25 = .ok (.iconst 0, 1) := by decide +kernel
theorem dX1_best_26 : decode cX1_best 26 = .ok (.invokevirtual 33, 3) := by decide +kernel
theorem dX1_best_29 : decode cX1_best 29 = .ok (.if_icmp .le 5, 3) := by decide +kernel
theorem dX1_best_32 : decode cX1_best 32 = .ok (.iload_n 2, 1) := by decide +kernel
theorem dX1_best_33 : decode cX1_best 33 = .ok (.istore_n 1, 1) := by decide +kernel
theorem dX1_best_34 : decode cX1_best 34 = .ok (.iinc 2 1, 3) := by decide +kernel
theorem dX1_best_37 : decode cX1_best 37 = .ok (.goto (-33), 3) := by decide +kernel
theorem dX1_best_40 : decode cX1_best 40 = .ok (.iload_n 1, 1) := by decide +kernel
theorem dX1_best_41 : decode cX1_best 41 = .ok (.ireturn, 1) := by decide +kernel
set_option maxRecDepth 20000 in
theorem ggX1_owed_X1_me : GoodIn wsX1_owed wsX1_me := goodIn_r _ [6, 7, 8, 9, 10, 11] (by decide +kernel) (by decide +kernel)
set_option maxRecDepth 20000 in
theorem gX1_owed_X1_me : GoodIn wsX1_owed (wsV RX1 33 RX1 yX1_me wsX1_me) := goodIn_app (goodIn_of _ (by decide +kernel)) ggX1_owed_X1_me
theorem dX1_owed_0 : decode cX1_owed 0 = .ok (.iconst 0, 1) := by decide +kernel
theorem dX1_owed_1 : decode cX1_owed 1 = .ok (.istore_n 1, 1) := by decide +kernel
theorem dX1_owed_2 : decode cX1_owed 2 = .ok (.iconst 0, 1) := by decide +kernel
theorem dX1_owed_3 : decode cX1_owed 3 = .ok (.istore_n 2, 1) := by decide +kernel
theorem dX1_owed_4 : decode cX1_owed 4 = .ok (.iload_n 2, 1) := by decide +kernel
theorem dX1_owed_5 : decode cX1_owed 5 = .ok (.aload_n 0, 1) := by decide +kernel
theorem dX1_owed_6 : decode cX1_owed 6 = .ok (.getfield 20, 3) := by decide +kernel
theorem dX1_owed_9 : decode cX1_owed 9 = .ok (.if_icmp .ge 18, 3) := by decide +kernel
theorem dX1_owed_12 : decode cX1_owed 12 = .ok (.iload_n 1, 1) := by decide +kernel
theorem dX1_owed_13 : decode cX1_owed 13 = .ok (.aload_n 0, 1) := by decide +kernel
theorem dX1_owed_14 : decode cX1_owed 14 = .ok (.iload_n 2, 1) := by decide +kernel
theorem dX1_owed_15 : decode cX1_owed 15 = .ok (.iconst 1, 1) := by decide +kernel
theorem dX1_owed_16 : decode cX1_owed 16 = .ok (.invokevirtual 33, 3) := by decide +kernel
theorem dX1_owed_19 : decode cX1_owed 19 = .ok (.iadd, 1) := by decide +kernel
theorem dX1_owed_20 : decode cX1_owed 20 = .ok (.istore_n 1, 1) := by decide +kernel
theorem dX1_owed_21 : decode cX1_owed 21 = .ok (.iinc 2 1, 3) := by decide +kernel
theorem dX1_owed_24 : decode cX1_owed 24 = .ok (.goto (-20), 3) := by decide +kernel
theorem dX1_owed_27 : decode cX1_owed 27 = .ok (.iload_n 1, 1) := by decide +kernel
theorem dX1_owed_28 : decode cX1_owed 28 = .ok (.ireturn, 1) := by decide +kernel
set_option maxRecDepth 20000 in
theorem ggX1_luckiest_X1_best : GoodIn wsX1_luckiest wsX1_best := goodIn_r _ [5, 6, 7, 8, 9, 4, 10, 11, 17, 18, 19, 20] (by decide +kernel) (by decide +kernel)
set_option maxRecDepth 20000 in
theorem gX1_luckiest_X1_best : GoodIn wsX1_luckiest (wsV RX1 90 RX1 yX1_best wsX1_best) := goodIn_app (goodIn_of _ (by decide +kernel)) ggX1_luckiest_X1_best
set_option maxRecDepth 20000 in
theorem ggX1_luckiest_X1_told : GoodIn wsX1_luckiest wsX1_told := goodIn_r _ [15, 16, 17, 18, 19, 20] (by decide +kernel) (by decide +kernel)
set_option maxRecDepth 20000 in
theorem gX1_luckiest_X1_told : GoodIn wsX1_luckiest (wsV RX1 81 RX1 yX1_told wsX1_told) := goodIn_app (goodIn_of _ (by decide +kernel)) ggX1_luckiest_X1_told
theorem dX1_luckiest_0 : decode cX1_luckiest 0 = .ok (.aload_n 0, 1) := by decide +kernel
theorem dX1_luckiest_1 : decode cX1_luckiest 1 = .ok (.aload_n 0, 1) := by decide +kernel
theorem dX1_luckiest_2 : decode cX1_luckiest 2 = .ok (.invokevirtual 90, 3) := by decide +kernel
theorem dX1_luckiest_5 : decode cX1_luckiest 5 = .ok (.invokevirtual 81, 3) := by decide +kernel
theorem dX1_luckiest_8 : decode cX1_luckiest 8 = .ok (.ireturn, 1) := by decide +kernel
set_option maxRecDepth 20000 in
theorem ggX1_allArrears_X1_owed : GoodIn wsX1_allArrears wsX1_owed := goodIn_r _ [5, 6, 7, 8, 9, 4, 10, 11, 17, 18, 19, 20] (by decide +kernel) (by decide +kernel)
set_option maxRecDepth 20000 in
theorem gX1_allArrears_X1_owed : GoodIn wsX1_allArrears (wsV RX1 93 RX1 yX1_owed wsX1_owed) := goodIn_app (goodIn_of _ (by decide +kernel)) ggX1_allArrears_X1_owed
set_option maxRecDepth 20000 in
theorem ggX1_allArrears_X1_told : GoodIn wsX1_allArrears wsX1_told := goodIn_r _ [15, 16, 17, 18, 19, 20] (by decide +kernel) (by decide +kernel)
set_option maxRecDepth 20000 in
theorem gX1_allArrears_X1_told : GoodIn wsX1_allArrears (wsV RX1 81 RX1 yX1_told wsX1_told) := goodIn_app (goodIn_of _ (by decide +kernel)) ggX1_allArrears_X1_told
theorem dX1_allArrears_0 : decode cX1_allArrears 0 = .ok (.aload_n 0, 1) := by decide +kernel
theorem dX1_allArrears_1 : decode cX1_allArrears 1 = .ok (.aload_n 0, 1) := by decide +kernel
theorem dX1_allArrears_2 : decode cX1_allArrears 2 = .ok (.invokevirtual 93, 3) := by decide +kernel
theorem dX1_allArrears_5 : decode cX1_allArrears 5 = .ok (.invokevirtual 81, 3) := by decide +kernel
theorem dX1_allArrears_8 : decode cX1_allArrears 8 = .ok (.ireturn, 1) := by decide +kernel
set_option maxRecDepth 20000 in
theorem ggX1_clearMembers_X1_me : GoodIn wsX1_clearMembers wsX1_me := goodIn_r _ [7, 8, 9, 10, 11, 12] (by decide +kernel) (by decide +kernel)
set_option maxRecDepth 20000 in
theorem gX1_clearMembers_X1_me : GoodIn wsX1_clearMembers (wsV RX1 33 RX1 yX1_me wsX1_me) := goodIn_app (goodIn_of _ (by decide +kernel)) ggX1_clearMembers_X1_me
theorem dX1_clearMembers_0 : decode cX1_clearMembers 0 = .ok (.aload_n 0, 1) := by decide +kernel
theorem dX1_clearMembers_1 : decode cX1_clearMembers 1 = .ok (.iconst 0, 1) := by decide +kernel
theorem dX1_clearMembers_2 : decode cX1_clearMembers 2 = .ok (.putfield 16, 3) := by decide +kernel
theorem dX1_clearMembers_5 : decode cX1_clearMembers 5 = .ok (.iconst 0, 1) := by decide +kernel
theorem dX1_clearMembers_6 : decode cX1_clearMembers 6 = .ok (.istore_n 1, 1) := by decide +kernel
theorem dX1_clearMembers_7 : decode cX1_clearMembers 7 = .ok (.iconst 0, 1) := by decide +kernel
theorem dX1_clearMembers_8 : decode cX1_clearMembers 8 = .ok (.istore_n 2, 1) := by decide +kernel
theorem dX1_clearMembers_9 : decode cX1_clearMembers 9 = .ok (.iload_n 2, 1) := by decide +kernel
theorem dX1_clearMembers_10 : decode cX1_clearMembers 10 = .ok (.aload_n 0, 1) := by decide +kernel
theorem dX1_clearMembers_11 : decode cX1_clearMembers 11 = .ok (.getfield 20, 3) := by decide +kernel
theorem dX1_clearMembers_14 : decode cX1_clearMembers 14 = .ok (.if_icmp .ge 26, 3) := by decide +kernel
theorem dX1_clearMembers_17 : decode cX1_clearMembers 17 = .ok (.iload_n 1, 1) := by decide +kernel
theorem dX1_clearMembers_18 : decode cX1_clearMembers 18 = .ok (.aload_n 0, 1) := by decide +kernel
theorem dX1_clearMembers_19 : decode cX1_clearMembers 19 = .ok (.iload_n 2, 1) := by decide +kernel
theorem dX1_clearMembers_20 : decode cX1_clearMembers 20 = .ok (.iconst 1, 1) := by decide +kernel
theorem dX1_clearMembers_21 : decode cX1_clearMembers 21 = .ok (.invokevirtual 33, 3) := by decide +kernel
theorem dX1_clearMembers_24 : decode cX1_clearMembers 24 = .ok (.ifCond .ne 7, 3) := by decide +kernel
theorem dX1_clearMembers_27 : decode cX1_clearMembers 27 = .ok (.iconst 1, 1) := by decide +kernel
theorem dX1_clearMembers_28 : decode cX1_clearMembers 28 = .ok (.goto 4, 3) := by decide +kernel
theorem dX1_clearMembers_31 : decode cX1_clearMembers 31 = .ok (.iconst 0, 1) := by decide +kernel
theorem dX1_clearMembers_32 : decode cX1_clearMembers 32 = .ok (.iadd, 1) := by decide +kernel
theorem dX1_clearMembers_33 : decode cX1_clearMembers 33 = .ok (.istore_n 1, 1) := by decide +kernel
theorem dX1_clearMembers_34 : decode cX1_clearMembers 34 = .ok (.iinc 2 1, 3) := by decide +kernel
theorem dX1_clearMembers_37 : decode cX1_clearMembers 37 = .ok (.goto (-28), 3) := by decide +kernel
theorem dX1_clearMembers_40 : decode cX1_clearMembers 40 = .ok (.iload_n 1, 1) := by decide +kernel
theorem dX1_clearMembers_41 : decode cX1_clearMembers 41 = .ok (.ireturn, 1) := by decide +kernel
set_option maxRecDepth 20000 in
theorem ggX1_salt_X1_told : GoodIn wsX1_salt wsX1_told := goodIn_r _ [6, 7, 8, 9, 10, 11] (by decide +kernel) (by decide +kernel)
set_option maxRecDepth 20000 in
theorem gX1_salt_X1_told : GoodIn wsX1_salt (wsV RX1 81 RX1 yX1_told wsX1_told) := goodIn_app (goodIn_of _ (by decide +kernel)) ggX1_salt_X1_told
theorem dX1_salt_0 : decode cX1_salt 0 = .ok (.aload_n 0, 1) := by decide +kernel
theorem dX1_salt_1 : decode cX1_salt 1 = .ok (.aload_n 0, 1) := by decide +kernel
theorem dX1_salt_2 : decode cX1_salt 2 = .ok (.getfield 9, 3) := by decide +kernel
theorem dX1_salt_5 : decode cX1_salt 5 = .ok (.iconst 1, 1) := by decide +kernel
theorem dX1_salt_6 : decode cX1_salt 6 = .ok (.iaload, 1) := by decide +kernel
theorem dX1_salt_7 : decode cX1_salt 7 = .ok (.invokevirtual 81, 3) := by decide +kernel
theorem dX1_salt_10 : decode cX1_salt 10 = .ok (.ireturn, 1) := by decide +kernel
set_option maxRecDepth 20000 in
theorem ggX1_ledger_X1_told : GoodIn wsX1_ledger wsX1_told := goodIn_r _ [6, 7, 8, 9, 10, 11] (by decide +kernel) (by decide +kernel)
set_option maxRecDepth 20000 in
theorem gX1_ledger_X1_told : GoodIn wsX1_ledger (wsV RX1 81 RX1 yX1_told wsX1_told) := goodIn_app (goodIn_of _ (by decide +kernel)) ggX1_ledger_X1_told
theorem dX1_ledger_0 : decode cX1_ledger 0 = .ok (.aload_n 0, 1) := by decide +kernel
theorem dX1_ledger_1 : decode cX1_ledger 1 = .ok (.aload_n 0, 1) := by decide +kernel
theorem dX1_ledger_2 : decode cX1_ledger 2 = .ok (.getfield 9, 3) := by decide +kernel
theorem dX1_ledger_5 : decode cX1_ledger 5 = .ok (.iconst 3, 1) := by decide +kernel
theorem dX1_ledger_6 : decode cX1_ledger 6 = .ok (.iaload, 1) := by decide +kernel
theorem dX1_ledger_7 : decode cX1_ledger 7 = .ok (.invokevirtual 81, 3) := by decide +kernel
theorem dX1_ledger_10 : decode cX1_ledger 10 = .ok (.ireturn, 1) := by decide +kernel
set_option maxRecDepth 20000 in
theorem ggX1_entry_X1_isThrow : GoodIn wsX1_entry wsX1_isThrow := goodIn_r _ [6, 7, 8, 9, 5, 10, 19, 20, 21, 22] (by decide +kernel) (by decide +kernel)
set_option maxRecDepth 20000 in
theorem gX1_entry_X1_isThrow : GoodIn wsX1_entry (wsV RX1 96 RX1 yX1_isThrow wsX1_isThrow) := goodIn_app (goodIn_of _ (by decide +kernel)) ggX1_entry_X1_isThrow
set_option maxRecDepth 20000 in
theorem ggX1_entry_X1_th : GoodIn wsX1_entry wsX1_th := goodIn_r _ [14, 7, 19, 20, 21, 22] (by decide +kernel) (by decide +kernel)
set_option maxRecDepth 20000 in
theorem gX1_entry_X1_th : GoodIn wsX1_entry (wsV RX1 50 RX1 yX1_th wsX1_th) := goodIn_app (goodIn_of _ (by decide +kernel)) ggX1_entry_X1_th
set_option maxRecDepth 20000 in
theorem ggX1_entry_X1_fail : GoodIn wsX1_entry wsX1_fail := goodIn_r _ [18, 1, 19, 20, 21, 22] (by decide +kernel) (by decide +kernel)
set_option maxRecDepth 20000 in
theorem gX1_entry_X1_fail : GoodIn wsX1_entry (wsV RX1 70 RX1 yX1_fail wsX1_fail) := goodIn_app (goodIn_of _ (by decide +kernel)) ggX1_entry_X1_fail
theorem dX1_entry_0 : decode cX1_entry 0 = .ok (.aload_n 0, 1) := by decide +kernel
theorem dX1_entry_1 : decode cX1_entry 1 = .ok (.iconst 0, 1) := by decide +kernel
theorem dX1_entry_2 : decode cX1_entry 2 = .ok (.putfield 16, 3) := by decide +kernel
theorem dX1_entry_5 : decode cX1_entry 5 = .ok (.aload_n 0, 1) := by decide +kernel
theorem dX1_entry_6 : decode cX1_entry 6 = .ok (.iload_n 1, 1) := by decide +kernel
theorem dX1_entry_7 : decode cX1_entry 7 = .ok (.invokevirtual 96, 3) := by decide +kernel
theorem dX1_entry_10 : decode cX1_entry 10 = .ok (.ifCond .eq 12, 3) := by decide +kernel
theorem dX1_entry_13 : decode cX1_entry 13 = .ok (.aload_n 0, 1) := by decide +kernel
theorem dX1_entry_14 : decode cX1_entry 14 = .ok (.iload_n 1, 1) := by decide +kernel
theorem dX1_entry_15 : decode cX1_entry 15 = .ok (.iload_n 2, 1) := by decide +kernel
theorem dX1_entry_16 : decode cX1_entry 16 = .ok (.invokevirtual 50, 3) := by decide +kernel
theorem dX1_entry_19 : decode cX1_entry 19 = .ok (.goto 8, 3) := by decide +kernel
theorem dX1_entry_22 : decode cX1_entry 22 = .ok (.aload_n 0, 1) := by decide +kernel
theorem dX1_entry_23 : decode cX1_entry 23 = .ok (.iconst 1, 1) := by decide +kernel
theorem dX1_entry_24 : decode cX1_entry 24 = .ok (.invokevirtual 70, 3) := by decide +kernel
theorem dX1_entry_27 : decode cX1_entry 27 = .ok (.ireturn, 1) := by decide +kernel
set_option maxRecDepth 20000 in
theorem ggX1_memberOf_X1_entry : GoodIn wsX1_memberOf wsX1_entry := goodIn_r _ [5, 6, 7, 8, 9, 4, 10, 11, 12, 13, 14, 15, 16, 17, 18, 19, 20, 21, 22, 23, 24, 25, 26] (by decide +kernel) (by decide +kernel)
set_option maxRecDepth 20000 in
theorem gX1_memberOf_X1_entry : GoodIn wsX1_memberOf (wsV RX1 99 RX1 yX1_entry wsX1_entry) := goodIn_app (goodIn_of _ (by decide +kernel)) ggX1_memberOf_X1_entry
theorem dX1_memberOf_0 : decode cX1_memberOf 0 = .ok (.aload_n 0, 1) := by decide +kernel
theorem dX1_memberOf_1 : decode cX1_memberOf 1 = .ok (.iload_n 1, 1) := by decide +kernel
theorem dX1_memberOf_2 : decode cX1_memberOf 2 = .ok (.iconst 0, 1) := by decide +kernel
theorem dX1_memberOf_3 : decode cX1_memberOf 3 = .ok (.invokevirtual 99, 3) := by decide +kernel
theorem dX1_memberOf_6 : decode cX1_memberOf 6 = .ok (.ireturn, 1) := by decide +kernel
set_option maxRecDepth 20000 in
theorem ggX1_isLeft_X1_entry : GoodIn wsX1_isLeft wsX1_entry := goodIn_r _ [5, 6, 7, 8, 9, 4, 10, 11, 12, 13, 14, 15, 16, 17, 18, 19, 20, 21, 22, 23, 24, 25, 26] (by decide +kernel) (by decide +kernel)
set_option maxRecDepth 20000 in
theorem gX1_isLeft_X1_entry : GoodIn wsX1_isLeft (wsV RX1 99 RX1 yX1_entry wsX1_entry) := goodIn_app (goodIn_of _ (by decide +kernel)) ggX1_isLeft_X1_entry
theorem dX1_isLeft_0 : decode cX1_isLeft 0 = .ok (.aload_n 0, 1) := by decide +kernel
theorem dX1_isLeft_1 : decode cX1_isLeft 1 = .ok (.iload_n 1, 1) := by decide +kernel
theorem dX1_isLeft_2 : decode cX1_isLeft 2 = .ok (.iconst 1, 1) := by decide +kernel
theorem dX1_isLeft_3 : decode cX1_isLeft 3 = .ok (.invokevirtual 99, 3) := by decide +kernel
theorem dX1_isLeft_6 : decode cX1_isLeft 6 = .ok (.iconst 1, 1) := by decide +kernel
theorem dX1_isLeft_7 : decode cX1_isLeft 7 = .ok (.if_icmp .ne 7, 3) := by decide +kernel
theorem dX1_isLeft_10 : decode cX1_isLeft 10 = .ok (.iconst 1, 1) := by decide +kernel
theorem dX1_isLeft_11 : decode cX1_isLeft 11 = .ok (.goto 4, 3) := by decide +kernel
theorem dX1_isLeft_14 : decode cX1_isLeft 14 = .ok (.iconst 0, 1) := by decide +kernel
theorem dX1_isLeft_15 : decode cX1_isLeft 15 = .ok (.ireturn, 1) := by decide +kernel
set_option maxRecDepth 20000 in
theorem ggX1_grainsOf_X1_entry : GoodIn wsX1_grainsOf wsX1_entry := goodIn_r _ [5, 6, 7, 8, 9, 4, 10, 11, 12, 13, 14, 15, 16, 17, 18, 19, 20, 21, 22, 23, 24, 25, 26] (by decide +kernel) (by decide +kernel)
set_option maxRecDepth 20000 in
theorem gX1_grainsOf_X1_entry : GoodIn wsX1_grainsOf (wsV RX1 99 RX1 yX1_entry wsX1_entry) := goodIn_app (goodIn_of _ (by decide +kernel)) ggX1_grainsOf_X1_entry
theorem dX1_grainsOf_0 : decode cX1_grainsOf 0 = .ok (.aload_n 0, 1) := by decide +kernel
theorem dX1_grainsOf_1 : decode cX1_grainsOf 1 = .ok (.iload_n 1, 1) := by decide +kernel
theorem dX1_grainsOf_2 : decode cX1_grainsOf 2 = .ok (.iconst 2, 1) := by decide +kernel
theorem dX1_grainsOf_3 : decode cX1_grainsOf 3 = .ok (.invokevirtual 99, 3) := by decide +kernel
theorem dX1_grainsOf_6 : decode cX1_grainsOf 6 = .ok (.ireturn, 1) := by decide +kernel
set_option maxRecDepth 20000 in
theorem ggX1_excessOf_X1_entry : GoodIn wsX1_excessOf wsX1_entry := goodIn_r _ [5, 6, 7, 8, 9, 4, 10, 11, 12, 13, 14, 15, 16, 17, 18, 19, 20, 21, 22, 23, 24, 25, 26] (by decide +kernel) (by decide +kernel)
set_option maxRecDepth 20000 in
theorem gX1_excessOf_X1_entry : GoodIn wsX1_excessOf (wsV RX1 99 RX1 yX1_entry wsX1_entry) := goodIn_app (goodIn_of _ (by decide +kernel)) ggX1_excessOf_X1_entry
theorem dX1_excessOf_0 : decode cX1_excessOf 0 = .ok (.aload_n 0, 1) := by decide +kernel
theorem dX1_excessOf_1 : decode cX1_excessOf 1 = .ok (.iload_n 1, 1) := by decide +kernel
theorem dX1_excessOf_2 : decode cX1_excessOf 2 = .ok (.iconst 3, 1) := by decide +kernel
theorem dX1_excessOf_3 : decode cX1_excessOf 3 = .ok (.invokevirtual 99, 3) := by decide +kernel
theorem dX1_excessOf_6 : decode cX1_excessOf 6 = .ok (.ireturn, 1) := by decide +kernel
set_option maxRecDepth 20000 in
theorem ggX1_faults_X1_faultsNow : GoodIn wsX1_faults wsX1_faultsNow := goodIn_r _ [5, 6, 7, 8, 9, 4, 10, 16, 17, 18, 19] (by decide +kernel) (by decide +kernel)
set_option maxRecDepth 20000 in
theorem gX1_faults_X1_faultsNow : GoodIn wsX1_faults (wsV RX1 53 RX1 yX1_faultsNow wsX1_faultsNow) := goodIn_app (goodIn_of _ (by decide +kernel)) ggX1_faults_X1_faultsNow
set_option maxRecDepth 20000 in
theorem ggX1_faults_X1_told : GoodIn wsX1_faults wsX1_told := goodIn_r _ [14, 15, 16, 17, 18, 19] (by decide +kernel) (by decide +kernel)
set_option maxRecDepth 20000 in
theorem gX1_faults_X1_told : GoodIn wsX1_faults (wsV RX1 81 RX1 yX1_told wsX1_told) := goodIn_app (goodIn_of _ (by decide +kernel)) ggX1_faults_X1_told
theorem dX1_faults_0 : decode cX1_faults 0 = .ok (.aload_n 0, 1) := by decide +kernel
theorem dX1_faults_1 : decode cX1_faults 1 = .ok (.aload_n 0, 1) := by decide +kernel
theorem dX1_faults_2 : decode cX1_faults 2 = .ok (.invokevirtual 53, 3) := by decide +kernel
theorem dX1_faults_5 : decode cX1_faults 5 = .ok (.invokevirtual 81, 3) := by decide +kernel
theorem dX1_faults_8 : decode cX1_faults 8 = .ok (.ireturn, 1) := by decide +kernel
set_option maxRecDepth 20000 in
theorem ggX1_adds_X1_th : GoodIn wsX1_adds wsX1_th := goodIn_r _ [6, 1, 7, 8, 9, 10] (by decide +kernel) (by decide +kernel)
set_option maxRecDepth 20000 in
theorem gX1_adds_X1_th : GoodIn wsX1_adds (wsV RX1 50 RX1 yX1_th wsX1_th) := goodIn_app (goodIn_of _ (by decide +kernel)) ggX1_adds_X1_th
theorem dX1_adds_0 : decode cX1_adds 0 = .ok (.iconst 0, 1) := by decide +kernel
theorem dX1_adds_1 : decode cX1_adds 1 = .ok (.istore_n 2, 1) := by decide +kernel
theorem dX1_adds_2 : decode cX1_adds 2 = .ok (.iconst 0, 1) := by decide +kernel
theorem dX1_adds_3 : decode cX1_adds 3 = .ok (.istore_n 3, 1) := by decide +kernel
theorem dX1_adds_4 : decode cX1_adds 4 = .ok (.iload_n 3, 1) := by decide +kernel
theorem dX1_adds_5 : decode cX1_adds 5 = .ok (.aload_n 0, 1) := by decide +kernel
theorem dX1_adds_6 : decode cX1_adds 6 = .ok (.getfield 9, 3) := by decide +kernel
theorem dX1_adds_9 : decode cX1_adds 9 = .ok (.iconst 3, 1) := by decide +kernel
theorem dX1_adds_10 : decode cX1_adds 10 = .ok (.iaload, 1) := by decide +kernel
theorem dX1_adds_11 : decode cX1_adds 11 = .ok (.if_icmp .ge 34, 3) := by decide +kernel
theorem dX1_adds_14 : decode cX1_adds 14 = .ok (.iload_n 2, 1) := by decide +kernel
theorem dX1_adds_15 : decode cX1_adds 15 = .ok (.aload_n 0, 1) := by decide +kernel
theorem dX1_adds_16 : decode cX1_adds 16 = .ok (.iload_n 3, 1) := by decide +kernel
theorem dX1_adds_17 : decode cX1_adds 17 = .ok (.iconst 0, 1) := by decide +kernel
theorem dX1_adds_18 : decode cX1_adds 18 = .ok (.invokevirtual 50, 3) := by decide +kernel
theorem dX1_adds_21 : decode cX1_adds 21 = .ok (.iload_n 1, 1) := by decide +kernel
theorem dX1_adds_22 : decode cX1_adds 22 = .ok (.if_icmp .ne 14, 3) := by decide +kernel
theorem dX1_adds_25 : decode cX1_adds 25 = .ok (.iconst 2, 1) := by decide +kernel
theorem dX1_adds_26 : decode cX1_adds 26 = .ok (.aload_n 0, 1) := by decide +kernel
theorem dX1_adds_27 : decode cX1_adds 27 = .ok (.iload_n 3, 1) := by decide +kernel
theorem dX1_adds_28 : decode cX1_adds 28 = .ok (.iconst 3, 1) := by decide +kernel
theorem dX1_adds_29 : decode cX1_adds 29 = .ok (.invokevirtual 50, 3) := by decide +kernel
theorem dX1_adds_32 : decode cX1_adds 32 = .ok (.imul, 1) := by decide +kernel
theorem dX1_adds_33 : decode cX1_adds 33 = .ok (.goto 4, 3) := by decide +kernel
theorem dX1_adds_36 : decode cX1_adds 36 = .ok (.iconst 0, 1) := by decide +kernel
theorem dX1_adds_37 : decode cX1_adds 37 = .ok (.iadd, 1) := by decide +kernel
theorem dX1_adds_38 : decode cX1_adds 38 = .ok (.istore_n 2, 1) := by decide +kernel
theorem dX1_adds_39 : decode cX1_adds 39 = .ok (.iinc 3 1, 3) := by decide +kernel
theorem dX1_adds_42 : decode cX1_adds 42 = .ok (.goto (-38), 3) := by decide +kernel
theorem dX1_adds_45 : decode cX1_adds 45 = .ok (.iload_n 2, 1) := by decide +kernel
theorem dX1_adds_46 : decode cX1_adds 46 = .ok (.ireturn, 1) := by decide +kernel
set_option maxRecDepth 20000 in
theorem ggX1_arrearsByAudit_X1_isMember : GoodIn wsX1_arrearsByAudit wsX1_isMember := goodIn_r _ [6, 7, 8, 9, 5, 10, 24, 25, 26, 27] (by decide +kernel) (by decide +kernel)
set_option maxRecDepth 20000 in
theorem gX1_arrearsByAudit_X1_isMember : GoodIn wsX1_arrearsByAudit (wsV RX1 73 RX1 yX1_isMember wsX1_isMember) := goodIn_app (goodIn_of _ (by decide +kernel)) ggX1_arrearsByAudit_X1_isMember
set_option maxRecDepth 20000 in
theorem ggX1_arrearsByAudit_X1_adds : GoodIn wsX1_arrearsByAudit wsX1_adds := goodIn_r _ [14, 15, 16, 17, 18, 5, 19, 24, 25, 26, 27] (by decide +kernel) (by decide +kernel)
set_option maxRecDepth 20000 in
theorem gX1_arrearsByAudit_X1_adds : GoodIn wsX1_arrearsByAudit (wsV RX1 102 RX1 yX1_adds wsX1_adds) := goodIn_app (goodIn_of _ (by decide +kernel)) ggX1_arrearsByAudit_X1_adds
set_option maxRecDepth 20000 in
theorem ggX1_arrearsByAudit_X1_fail : GoodIn wsX1_arrearsByAudit wsX1_fail := goodIn_r _ [23, 1, 24, 25, 26, 27] (by decide +kernel) (by decide +kernel)
set_option maxRecDepth 20000 in
theorem gX1_arrearsByAudit_X1_fail : GoodIn wsX1_arrearsByAudit (wsV RX1 70 RX1 yX1_fail wsX1_fail) := goodIn_app (goodIn_of _ (by decide +kernel)) ggX1_arrearsByAudit_X1_fail
theorem dX1_arrearsByAudit_0 : decode cX1_arrearsByAudit 0 = .ok (.aload_n 0, 1) := by decide +kernel
theorem dX1_arrearsByAudit_1 : decode cX1_arrearsByAudit 1 = .ok (.iconst 0, 1) := by decide +kernel
theorem dX1_arrearsByAudit_2 : decode cX1_arrearsByAudit 2 = .ok (.putfield 16, 3) := by decide +kernel
theorem dX1_arrearsByAudit_5 : decode cX1_arrearsByAudit 5 = .ok (.aload_n 0, 1) := by decide +kernel
theorem dX1_arrearsByAudit_6 : decode cX1_arrearsByAudit 6 = .ok (.iload_n 1, 1) := by decide +kernel
theorem dX1_arrearsByAudit_7 : decode cX1_arrearsByAudit 7 = .ok (.invokevirtual 73, 3) := by decide +kernel
theorem dX1_arrearsByAudit_10 : decode cX1_arrearsByAudit 10 = .ok (.ifCond .eq 11, 3) := by decide +kernel
theorem dX1_arrearsByAudit_13 : decode cX1_arrearsByAudit 13 = .ok (.aload_n 0, 1) := by decide +kernel
theorem dX1_arrearsByAudit_14 : decode cX1_arrearsByAudit 14 = .ok (.iload_n 1, 1) := by decide +kernel
theorem dX1_arrearsByAudit_15 : decode cX1_arrearsByAudit 15 = .ok (.invokevirtual 102, 3) := by decide +kernel
theorem dX1_arrearsByAudit_18 : decode cX1_arrearsByAudit 18 = .ok (.goto 8, 3) := by decide +kernel
theorem dX1_arrearsByAudit_21 : decode cX1_arrearsByAudit 21 = .ok (.aload_n 0, 1) := by decide +kernel
theorem dX1_arrearsByAudit_22 : decode cX1_arrearsByAudit 22 = .ok (.iconst 1, 1) := by decide +kernel
theorem dX1_arrearsByAudit_23 : decode cX1_arrearsByAudit 23 = .ok (.invokevirtual 70, 3) := by decide +kernel
theorem dX1_arrearsByAudit_26 : decode cX1_arrearsByAudit 26 = .ok (.ireturn, 1) := by decide +kernel
set_option maxRecDepth 20000 in
theorem ggX1_daysUntilAudit_X1_told : GoodIn wsX1_daysUntilAudit wsX1_told := goodIn_r _ [6, 7, 8, 9, 10, 11] (by decide +kernel) (by decide +kernel)
set_option maxRecDepth 20000 in
theorem gX1_daysUntilAudit_X1_told : GoodIn wsX1_daysUntilAudit (wsV RX1 81 RX1 yX1_told wsX1_told) := goodIn_app (goodIn_of _ (by decide +kernel)) ggX1_daysUntilAudit_X1_told
theorem dX1_daysUntilAudit_0 : decode cX1_daysUntilAudit 0 = .ok (.aload_n 0, 1) := by decide +kernel
theorem dX1_daysUntilAudit_1 : decode cX1_daysUntilAudit 1 = .ok (.bipush 6, 2) := by decide +kernel
theorem dX1_daysUntilAudit_3 : decode cX1_daysUntilAudit 3 = .ok (.aload_n 0, 1) := by decide +kernel
theorem dX1_daysUntilAudit_4 : decode cX1_daysUntilAudit 4 = .ok (.getfield 9, 3) := by decide +kernel
theorem dX1_daysUntilAudit_7 : decode cX1_daysUntilAudit 7 = .ok (.iconst 0, 1) := by decide +kernel
theorem dX1_daysUntilAudit_8 : decode cX1_daysUntilAudit 8 = .ok (.iaload, 1) := by decide +kernel
theorem dX1_daysUntilAudit_9 : decode cX1_daysUntilAudit 9 = .ok (.bipush 7, 2) := by decide +kernel
theorem dX1_daysUntilAudit_11 : decode cX1_daysUntilAudit 11 = .ok (.irem, 1) := by decide +kernel
theorem dX1_daysUntilAudit_12 : decode cX1_daysUntilAudit 12 = .ok (.isub, 1) := by decide +kernel
theorem dX1_daysUntilAudit_13 : decode cX1_daysUntilAudit 13 = .ok (.invokevirtual 81, 3) := by decide +kernel
theorem dX1_daysUntilAudit_16 : decode cX1_daysUntilAudit 16 = .ok (.ireturn, 1) := by decide +kernel
set_option maxRecDepth 20000 in
theorem ggX1_faultsFound_X1_told : GoodIn wsX1_faultsFound wsX1_told := goodIn_r _ [6, 7, 8, 9, 10, 11] (by decide +kernel) (by decide +kernel)
set_option maxRecDepth 20000 in
theorem gX1_faultsFound_X1_told : GoodIn wsX1_faultsFound (wsV RX1 81 RX1 yX1_told wsX1_told) := goodIn_app (goodIn_of _ (by decide +kernel)) ggX1_faultsFound_X1_told
theorem dX1_faultsFound_0 : decode cX1_faultsFound 0 = .ok (.aload_n 0, 1) := by decide +kernel
theorem dX1_faultsFound_1 : decode cX1_faultsFound 1 = .ok (.aload_n 0, 1) := by decide +kernel
theorem dX1_faultsFound_2 : decode cX1_faultsFound 2 = .ok (.getfield 9, 3) := by decide +kernel
theorem dX1_faultsFound_5 : decode cX1_faultsFound 5 = .ok (.iconst 2, 1) := by decide +kernel
theorem dX1_faultsFound_6 : decode cX1_faultsFound 6 = .ok (.iaload, 1) := by decide +kernel
theorem dX1_faultsFound_7 : decode cX1_faultsFound 7 = .ok (.invokevirtual 81, 3) := by decide +kernel
theorem dX1_faultsFound_10 : decode cX1_faultsFound 10 = .ok (.ireturn, 1) := by decide +kernel
set_option maxRecDepth 20000 in
theorem ggX1_luckIn_X1_isMember : GoodIn wsX1_luckIn wsX1_isMember := goodIn_r _ [6, 7, 8, 9, 5, 10, 68, 69, 70, 71] (by decide +kernel) (by decide +kernel)
set_option maxRecDepth 20000 in
theorem gX1_luckIn_X1_isMember : GoodIn wsX1_luckIn (wsV RX1 73 RX1 yX1_isMember wsX1_isMember) := goodIn_app (goodIn_of _ (by decide +kernel)) ggX1_luckIn_X1_isMember
set_option maxRecDepth 20000 in
theorem ggX1_luckIn_X1_fail : GoodIn wsX1_luckIn wsX1_fail := goodIn_r _ [14, 1, 68, 69, 70, 71] (by decide +kernel) (by decide +kernel)
set_option maxRecDepth 20000 in
theorem gX1_luckIn_X1_fail : GoodIn wsX1_luckIn (wsV RX1 70 RX1 yX1_fail wsX1_fail) := goodIn_app (goodIn_of _ (by decide +kernel)) ggX1_luckIn_X1_fail
set_option maxRecDepth 20000 in
theorem ggX1_luckIn_X1_isIn : GoodIn wsX1_luckIn wsX1_isIn := goodIn_r _ [10] (by decide +kernel) (by decide +kernel)
set_option maxRecDepth 20000 in
theorem gX1_luckIn_X1_isIn : GoodIn wsX1_luckIn (va_wsS RX1 23 yX1_isIn wsX1_isIn) := goodIn_app (goodIn_of _ (by decide +kernel)) ggX1_luckIn_X1_isIn
set_option maxRecDepth 20000 in
theorem ggX1_luckIn_X1_keep : GoodIn wsX1_luckIn wsX1_keep := goodIn_r _ [18, 19, 20, 21, 22, 23, 24, 68, 69, 70, 71] (by decide +kernel) (by decide +kernel)
set_option maxRecDepth 20000 in
theorem gX1_luckIn_X1_keep : GoodIn wsX1_luckIn (wsV RX1 105 RX1 yX1_keep wsX1_keep) := goodIn_app (goodIn_of _ (by decide +kernel)) ggX1_luckIn_X1_keep
set_option maxRecDepth 20000 in
theorem ggX1_luckIn_X1_daysOn : GoodIn wsX1_luckIn wsX1_daysOn := goodIn_r _ [28, 29, 30, 31, 5, 32, 19, 7, 33, 34, 35, 36, 37, 38, 39, 40, 41, 42, 43, 44, 45, 46, 47, 48, 49, 50, 51, 52, 53, 54, 55, 56, 57, 58, 59, 60, 61, 62, 63, 68, 69, 70, 71] (by decide +kernel) (by decide +kernel)
set_option maxRecDepth 20000 in
theorem gX1_luckIn_X1_daysOn : GoodIn wsX1_luckIn (wsV RX1 84 RX1 yX1_daysOn wsX1_daysOn) := goodIn_app (goodIn_of _ (by decide +kernel)) ggX1_luckIn_X1_daysOn
set_option maxRecDepth 20000 in
theorem ggX1_luckIn_X1_me : GoodIn wsX1_luckIn wsX1_me := goodIn_r _ [55, 19, 68, 69, 70, 71] (by decide +kernel) (by decide +kernel)
set_option maxRecDepth 20000 in
theorem gX1_luckIn_X1_me : GoodIn wsX1_luckIn (wsV RX1 33 RX1 yX1_me wsX1_me) := goodIn_app (goodIn_of _ (by decide +kernel)) ggX1_luckIn_X1_me
set_option maxRecDepth 20000 in
theorem ggX1_luckIn_X1_bringBack : GoodIn wsX1_luckIn wsX1_bringBack := goodIn_r _ [67, 20, 19, 21, 22, 23, 24, 68, 69, 70, 71] (by decide +kernel) (by decide +kernel)
set_option maxRecDepth 20000 in
theorem gX1_luckIn_X1_bringBack : GoodIn wsX1_luckIn (wsV RX1 108 RX1 yX1_bringBack wsX1_bringBack) := goodIn_app (goodIn_of _ (by decide +kernel)) ggX1_luckIn_X1_bringBack
theorem dX1_luckIn_0 : decode cX1_luckIn 0 = .ok (.aload_n 0, 1) := by decide +kernel
theorem dX1_luckIn_1 : decode cX1_luckIn 1 = .ok (.iconst 0, 1) := by decide +kernel
theorem dX1_luckIn_2 : decode cX1_luckIn 2 = .ok (.putfield 16, 3) := by decide +kernel
theorem dX1_luckIn_5 : decode cX1_luckIn 5 = .ok (.aload_n 0, 1) := by decide +kernel
theorem dX1_luckIn_6 : decode cX1_luckIn 6 = .ok (.iload_n 1, 1) := by decide +kernel
theorem dX1_luckIn_7 : decode cX1_luckIn 7 = .ok (.invokevirtual 73, 3) := by decide +kernel
theorem dX1_luckIn_10 : decode cX1_luckIn 10 = .ok (.ifCond .ne 9, 3) := by decide +kernel
theorem dX1_luckIn_13 : decode cX1_luckIn 13 = .ok (.aload_n 0, 1) := by decide +kernel
theorem dX1_luckIn_14 : decode cX1_luckIn 14 = .ok (.iconst 1, 1) := by decide +kernel
theorem dX1_luckIn_15 : decode cX1_luckIn 15 = .ok (.invokevirtual 70, 3) := by decide +kernel
theorem dX1_luckIn_18 : decode cX1_luckIn 18 = .ok (.ireturn, 1) := by decide +kernel
theorem dX1_luckIn_19 : decode cX1_luckIn 19 = .ok (.iload_n 2, 1) := by decide +kernel
theorem dX1_luckIn_20 : decode cX1_luckIn 20 = .ok (.iconst 1, 1) := by decide +kernel
theorem dX1_luckIn_21 : decode cX1_luckIn 21 = .ok (.bipush 60, 2) := by decide +kernel
theorem dX1_luckIn_23 : decode cX1_luckIn 23 = .ok (.invokestatic 23, 3) := by decide +kernel
theorem dX1_luckIn_26 : decode cX1_luckIn 26 = .ok (.ifCond .ne 9, 3) := by decide +kernel
theorem dX1_luckIn_29 : decode cX1_luckIn 29 = .ok (.aload_n 0, 1) := by decide +kernel
theorem dX1_luckIn_30 : decode cX1_luckIn 30 = .ok (.iconst 2, 1) := by decide +kernel
theorem dX1_luckIn_31 : decode cX1_luckIn 31 = .ok (.invokevirtual 70, 3) := by decide +kernel
theorem dX1_luckIn_34 : decode cX1_luckIn 34 = .ok (.ireturn, 1) := by decide +kernel
theorem dX1_luckIn_35 : decode cX1_luckIn 35 = .ok (.aload_n 0, 1) := by decide +kernel
theorem dX1_luckIn_36 : decode cX1_luckIn 36 = .ok (.invokevirtual 105, 3) := by decide +kernel
theorem dX1_luckIn_39 : decode cX1_luckIn 39 = .ok (.aload_n 0, 1) := by decide +kernel
theorem dX1_luckIn_40 : decode cX1_luckIn 40 = .ok (.iload_n 2, 1) := by decide +kernel
theorem dX1_luckIn_41 : decode cX1_luckIn 41 = .ok (.invokevirtual 84, 3) := by decide +kernel
theorem dX1_luckIn_44 : decode cX1_luckIn 44 = .ok (.pop, 1) := by decide +kernel
theorem dX1_luckIn_45 : decode cX1_luckIn 45 = .ok (.aload_n 0, 1) := by decide +kernel
theorem dX1_luckIn_46 : decode cX1_luckIn 46 = .ok (.iload_n 1, 1) := by decide +kernel
theorem dX1_luckIn_47 : decode cX1_luckIn 47 = .ok (.iconst 0, 1) := by decide +kernel
theorem dX1_luckIn_48 : decode cX1_luckIn 48 = .ok (.invokevirtual 33, 3) := by decide +kernel
theorem dX1_luckIn_51 : decode cX1_luckIn 51 = .ok (.istore_n 3, 1) := by decide +kernel
theorem dX1_luckIn_52 : decode cX1_luckIn 52 = .ok (.aload_n 0, 1) := by decide +kernel
theorem dX1_luckIn_53 : decode cX1_luckIn 53 = .ok (.invokevirtual 108, 3) := by decide +kernel
theorem dX1_luckIn_56 : decode cX1_luckIn 56 = .ok (.iload_n 3, 1) := by decide +kernel
theorem dX1_luckIn_57 : decode cX1_luckIn 57 = .ok (.ireturn, 1) := by decide +kernel
set_option maxRecDepth 20000 in
theorem ggX1_until_X1_keep : GoodIn wsX1_until wsX1_keep := goodIn_r _ [5, 6, 7, 8, 9, 10, 11, 52, 53, 54, 55] (by decide +kernel) (by decide +kernel)
set_option maxRecDepth 20000 in
theorem gX1_until_X1_keep : GoodIn wsX1_until (wsV RX1 105 RX1 yX1_keep wsX1_keep) := goodIn_app (goodIn_of _ (by decide +kernel)) ggX1_until_X1_keep
set_option maxRecDepth 20000 in
theorem ggX1_until_X1_me : GoodIn wsX1_until wsX1_me := goodIn_r _ [15, 6, 52, 53, 54, 55] (by decide +kernel) (by decide +kernel)
set_option maxRecDepth 20000 in
theorem gX1_until_X1_me : GoodIn wsX1_until (wsV RX1 33 RX1 yX1_me wsX1_me) := goodIn_app (goodIn_of _ (by decide +kernel)) ggX1_until_X1_me
set_option maxRecDepth 20000 in
theorem ggX1_until_X1_dayOn : GoodIn wsX1_until wsX1_dayOn := goodIn_r _ [19, 6, 20, 21, 22, 23, 24, 25, 26, 27, 28, 29, 30, 4, 31, 32, 33, 34, 35, 36, 37, 38, 39, 12, 13, 14, 15, 40, 41, 42, 43, 44, 45, 46, 47, 52, 53, 54, 55] (by decide +kernel) (by decide +kernel)
set_option maxRecDepth 20000 in
theorem gX1_until_X1_dayOn : GoodIn wsX1_until (wsV RX1 67 RX1 yX1_dayOn wsX1_dayOn) := goodIn_app (goodIn_of _ (by decide +kernel)) ggX1_until_X1_dayOn
set_option maxRecDepth 20000 in
theorem ggX1_until_X1_bringBack : GoodIn wsX1_until wsX1_bringBack := goodIn_r _ [51, 7, 6, 8, 9, 10, 11, 52, 53, 54, 55] (by decide +kernel) (by decide +kernel)
set_option maxRecDepth 20000 in
theorem gX1_until_X1_bringBack : GoodIn wsX1_until (wsV RX1 108 RX1 yX1_bringBack wsX1_bringBack) := goodIn_app (goodIn_of _ (by decide +kernel)) ggX1_until_X1_bringBack
theorem dX1_until_0 : decode cX1_until 0 = .ok (.aload_n 0, 1) := by decide +kernel
theorem dX1_until_1 : decode cX1_until 1 = .ok (.invokevirtual 105, 3) := by decide +kernel
theorem dX1_until_4 : decode cX1_until 4 = .ok (.iconst 0, 1) := by decide +kernel
theorem dX1_until_5 : decode cX1_until 5 = .ok (.istore_n 3, 1) := by decide +kernel
theorem dX1_until_6 : decode cX1_until 6 = .ok (.iload_n 3, 1) := by decide +kernel
theorem dX1_until_7 : decode cX1_until 7 = .ok (.bipush 60, 2) := by decide +kernel
theorem dX1_until_9 : decode cX1_until 9 = .ok (.if_icmp .gt 23, 3) := by decide +kernel
theorem dX1_until_12 : decode cX1_until 12 = .ok (.aload_n 0, 1) := by decide +kernel
theorem dX1_until_13 : decode cX1_until 13 = .ok (.iload_n 1, 1) := by decide +kernel
theorem dX1_until_14 : decode cX1_until 14 = .ok (.iload_n 2, 1) := by decide +kernel
theorem dX1_until_15 : decode cX1_until 15 = .ok (.invokevirtual 33, 3) := by decide +kernel
theorem dX1_until_18 : decode cX1_until 18 = .ok (.ifCond .le 14, 3) := by decide +kernel
theorem dX1_until_21 : decode cX1_until 21 = .ok (.aload_n 0, 1) := by decide +kernel
theorem dX1_until_22 : decode cX1_until 22 = .ok (.invokevirtual 67, 3) := by decide +kernel
theorem dX1_until_25 : decode cX1_until 25 = .ok (.pop, 1) := by decide +kernel
theorem dX1_until_26 : decode cX1_until 26 = .ok (.iinc 3 1, 3) := by decide +kernel
theorem dX1_until_29 : decode cX1_until 29 = .ok (.goto (-23), 3) := by decide +kernel
theorem dX1_until_32 : decode cX1_until 32 = .ok (.aload_n 0, 1) := by decide +kernel
theorem dX1_until_33 : decode cX1_until 33 = .ok (.invokevirtual 108, 3) := by decide +kernel
theorem dX1_until_36 : decode cX1_until 36 = .ok (.iload_n 3, 1) := by decide +kernel
theorem dX1_until_37 : decode cX1_until 37 = .ok (.bipush 60, 2) := by decide +kernel
theorem dX1_until_39 : decode cX1_until 39 = .ok (.if_icmp .le 7, 3) := by decide +kernel
theorem dX1_until_42 : decode cX1_until 42 = .ok (.iconst (-1), 1) := by decide +kernel
theorem dX1_until_43 : decode cX1_until 43 = .ok (.goto 4, 3) := by decide +kernel
theorem dX1_until_46 : decode cX1_until 46 = .ok (.iload_n 3, 1) := by decide +kernel
theorem dX1_until_47 : decode cX1_until 47 = .ok (.ireturn, 1) := by decide +kernel
set_option maxRecDepth 20000 in
theorem ggX1_daysUntilClear_X1_isMember : GoodIn wsX1_daysUntilClear wsX1_isMember := goodIn_r _ [6, 7, 8, 9, 5, 10, 68, 69, 70, 71] (by decide +kernel) (by decide +kernel)
set_option maxRecDepth 20000 in
theorem gX1_daysUntilClear_X1_isMember : GoodIn wsX1_daysUntilClear (wsV RX1 73 RX1 yX1_isMember wsX1_isMember) := goodIn_app (goodIn_of _ (by decide +kernel)) ggX1_daysUntilClear_X1_isMember
set_option maxRecDepth 20000 in
theorem ggX1_daysUntilClear_X1_until : GoodIn wsX1_daysUntilClear wsX1_until := goodIn_r _ [14, 15, 16, 17, 5, 18, 19, 20, 21, 22, 23, 24, 25, 26, 27, 28, 29, 30, 31, 32, 7, 33, 34, 35, 36, 37, 38, 39, 40, 41, 42, 43, 44, 45, 46, 47, 48, 49, 50, 51, 52, 53, 54, 55, 56, 57, 58, 59, 60, 61, 62, 63, 68, 69, 70, 71] (by decide +kernel) (by decide +kernel)
set_option maxRecDepth 20000 in
theorem gX1_daysUntilClear_X1_until : GoodIn wsX1_daysUntilClear (wsV RX1 111 RX1 yX1_until wsX1_until) := goodIn_app (goodIn_of _ (by decide +kernel)) ggX1_daysUntilClear_X1_until
set_option maxRecDepth 20000 in
theorem ggX1_daysUntilClear_X1_fail : GoodIn wsX1_daysUntilClear wsX1_fail := goodIn_r _ [67, 1, 68, 69, 70, 71] (by decide +kernel) (by decide +kernel)
set_option maxRecDepth 20000 in
theorem gX1_daysUntilClear_X1_fail : GoodIn wsX1_daysUntilClear (wsV RX1 70 RX1 yX1_fail wsX1_fail) := goodIn_app (goodIn_of _ (by decide +kernel)) ggX1_daysUntilClear_X1_fail
theorem dX1_daysUntilClear_0 : decode cX1_daysUntilClear 0 = .ok (.aload_n 0, 1) := by decide +kernel
theorem dX1_daysUntilClear_1 : decode cX1_daysUntilClear 1 = .ok (.iconst 0, 1) := by decide +kernel
theorem dX1_daysUntilClear_2 : decode cX1_daysUntilClear 2 = .ok (.putfield 16, 3) := by decide +kernel
theorem dX1_daysUntilClear_5 : decode cX1_daysUntilClear 5 = .ok (.aload_n 0, 1) := by decide +kernel
theorem dX1_daysUntilClear_6 : decode cX1_daysUntilClear 6 = .ok (.iload_n 1, 1) := by decide +kernel
theorem dX1_daysUntilClear_7 : decode cX1_daysUntilClear 7 = .ok (.invokevirtual 73, 3) := by decide +kernel
theorem dX1_daysUntilClear_10 : decode cX1_daysUntilClear 10 = .ok (.ifCond .eq 12, 3) := by decide +kernel
theorem dX1_daysUntilClear_13 : decode cX1_daysUntilClear 13 = .ok (.aload_n 0, 1) := by decide +kernel
theorem dX1_daysUntilClear_14 : decode cX1_daysUntilClear 14 = .ok (.iload_n 1, 1) := by decide +kernel
theorem dX1_daysUntilClear_15 : decode cX1_daysUntilClear 15 = .ok (.iconst 1, 1) := by decide +kernel
theorem dX1_daysUntilClear_16 : decode cX1_daysUntilClear 16 = .ok (.invokevirtual 111, 3) := by decide +kernel
theorem dX1_daysUntilClear_19 : decode cX1_daysUntilClear 19 = .ok (.goto 8, 3) := by decide +kernel
theorem dX1_daysUntilClear_22 : decode cX1_daysUntilClear 22 = .ok (.aload_n 0, 1) := by decide +kernel
theorem dX1_daysUntilClear_23 : decode cX1_daysUntilClear 23 = .ok (.iconst 1, 1) := by decide +kernel
theorem dX1_daysUntilClear_24 : decode cX1_daysUntilClear 24 = .ok (.invokevirtual 70, 3) := by decide +kernel
theorem dX1_daysUntilClear_27 : decode cX1_daysUntilClear 27 = .ok (.ireturn, 1) := by decide +kernel
set_option maxRecDepth 20000 in
theorem ggX1_daysUntilUnlucky_X1_isMember : GoodIn wsX1_daysUntilUnlucky wsX1_isMember := goodIn_r _ [6, 7, 8, 9, 5, 10, 68, 69, 70, 71] (by decide +kernel) (by decide +kernel)
set_option maxRecDepth 20000 in
theorem gX1_daysUntilUnlucky_X1_isMember : GoodIn wsX1_daysUntilUnlucky (wsV RX1 73 RX1 yX1_isMember wsX1_isMember) := goodIn_app (goodIn_of _ (by decide +kernel)) ggX1_daysUntilUnlucky_X1_isMember
set_option maxRecDepth 20000 in
theorem ggX1_daysUntilUnlucky_X1_until : GoodIn wsX1_daysUntilUnlucky wsX1_until := goodIn_r _ [14, 15, 16, 17, 5, 18, 19, 20, 21, 22, 23, 24, 25, 26, 27, 28, 29, 30, 31, 32, 7, 33, 34, 35, 36, 37, 38, 39, 40, 41, 42, 43, 44, 45, 46, 47, 48, 49, 50, 51, 52, 53, 54, 55, 56, 57, 58, 59, 60, 61, 62, 63, 68, 69, 70, 71] (by decide +kernel) (by decide +kernel)
set_option maxRecDepth 20000 in
theorem gX1_daysUntilUnlucky_X1_until : GoodIn wsX1_daysUntilUnlucky (wsV RX1 111 RX1 yX1_until wsX1_until) := goodIn_app (goodIn_of _ (by decide +kernel)) ggX1_daysUntilUnlucky_X1_until
set_option maxRecDepth 20000 in
theorem ggX1_daysUntilUnlucky_X1_fail : GoodIn wsX1_daysUntilUnlucky wsX1_fail := goodIn_r _ [67, 1, 68, 69, 70, 71] (by decide +kernel) (by decide +kernel)
set_option maxRecDepth 20000 in
theorem gX1_daysUntilUnlucky_X1_fail : GoodIn wsX1_daysUntilUnlucky (wsV RX1 70 RX1 yX1_fail wsX1_fail) := goodIn_app (goodIn_of _ (by decide +kernel)) ggX1_daysUntilUnlucky_X1_fail
theorem dX1_daysUntilUnlucky_0 : decode cX1_daysUntilUnlucky 0 = .ok (.aload_n 0, 1) := by decide +kernel
theorem dX1_daysUntilUnlucky_1 : decode cX1_daysUntilUnlucky 1 = .ok (.iconst 0, 1) := by decide +kernel
theorem dX1_daysUntilUnlucky_2 : decode cX1_daysUntilUnlucky 2 = .ok (.putfield 16, 3) := by decide +kernel
theorem dX1_daysUntilUnlucky_5 : decode cX1_daysUntilUnlucky 5 = .ok (.aload_n 0, 1) := by decide +kernel
theorem dX1_daysUntilUnlucky_6 : decode cX1_daysUntilUnlucky 6 = .ok (.iload_n 1, 1) := by decide +kernel
theorem dX1_daysUntilUnlucky_7 : decode cX1_daysUntilUnlucky 7 = .ok (.invokevirtual 73, 3) := by decide +kernel
theorem dX1_daysUntilUnlucky_10 : decode cX1_daysUntilUnlucky 10 = .ok (.ifCond .eq 12, 3) := by decide +kernel
theorem dX1_daysUntilUnlucky_13 : decode cX1_daysUntilUnlucky 13 = .ok (.aload_n 0, 1) := by decide +kernel
theorem dX1_daysUntilUnlucky_14 : decode cX1_daysUntilUnlucky 14 = .ok (.iload_n 1, 1) := by decide +kernel
theorem dX1_daysUntilUnlucky_15 : decode cX1_daysUntilUnlucky 15 = .ok (.iconst 0, 1) := by decide +kernel
theorem dX1_daysUntilUnlucky_16 : decode cX1_daysUntilUnlucky 16 = .ok (.invokevirtual 111, 3) := by decide +kernel
theorem dX1_daysUntilUnlucky_19 : decode cX1_daysUntilUnlucky 19 = .ok (.goto 8, 3) := by decide +kernel
theorem dX1_daysUntilUnlucky_22 : decode cX1_daysUntilUnlucky 22 = .ok (.aload_n 0, 1) := by decide +kernel
theorem dX1_daysUntilUnlucky_23 : decode cX1_daysUntilUnlucky 23 = .ok (.iconst 1, 1) := by decide +kernel
theorem dX1_daysUntilUnlucky_24 : decode cX1_daysUntilUnlucky 24 = .ok (.invokevirtual 70, 3) := by decide +kernel
theorem dX1_daysUntilUnlucky_27 : decode cX1_daysUntilUnlucky 27 = .ok (.ireturn, 1) := by decide +kernel
set_option maxRecDepth 20000 in
theorem ggX1_pinch_X1_keep : GoodIn wsX1_pinch wsX1_keep := goodIn_r _ [10, 1, 11, 12, 13, 14, 15, 64, 65, 66, 67] (by decide +kernel) (by decide +kernel)
set_option maxRecDepth 20000 in
theorem gX1_pinch_X1_keep : GoodIn wsX1_pinch (wsV RX1 105 RX1 yX1_keep wsX1_keep) := goodIn_app (goodIn_of _ (by decide +kernel)) ggX1_pinch_X1_keep
set_option maxRecDepth 20000 in
theorem ggX1_pinch_X1_cast : GoodIn wsX1_pinch wsX1_cast := goodIn_r _ [19, 20, 21, 4, 22, 1, 23, 24, 25, 9, 26, 27, 28, 29, 30, 31, 32, 33, 34, 64, 65, 66, 67] (by decide +kernel) (by decide +kernel)
set_option maxRecDepth 20000 in
theorem gX1_pinch_X1_cast : GoodIn wsX1_pinch (wsV RX1 77 RX1 yX1_cast wsX1_cast) := goodIn_app (goodIn_of _ (by decide +kernel)) ggX1_pinch_X1_cast
set_option maxRecDepth 20000 in
theorem ggX1_pinch_X1_daysOn : GoodIn wsX1_pinch wsX1_daysOn := goodIn_r _ [38, 39, 40, 41, 9, 42, 1, 43, 20, 21, 4, 22, 2, 3, 5, 44, 45, 46, 47, 48, 49, 50, 51, 52, 53, 54, 55, 23, 24, 25, 26, 27, 28, 29, 30, 56, 57, 58, 59, 64, 65, 66, 67] (by decide +kernel) (by decide +kernel)
set_option maxRecDepth 20000 in
theorem gX1_pinch_X1_daysOn : GoodIn wsX1_pinch (wsV RX1 84 RX1 yX1_daysOn wsX1_daysOn) := goodIn_app (goodIn_of _ (by decide +kernel)) ggX1_pinch_X1_daysOn
set_option maxRecDepth 20000 in
theorem ggX1_pinch_X1_me : GoodIn wsX1_pinch wsX1_me := goodIn_r _ [26, 1, 64, 65, 66, 67] (by decide +kernel) (by decide +kernel)
set_option maxRecDepth 20000 in
theorem gX1_pinch_X1_me : GoodIn wsX1_pinch (wsV RX1 33 RX1 yX1_me wsX1_me) := goodIn_app (goodIn_of _ (by decide +kernel)) ggX1_pinch_X1_me
set_option maxRecDepth 20000 in
theorem ggX1_pinch_X1_bringBack : GoodIn wsX1_pinch wsX1_bringBack := goodIn_r _ [63, 11, 1, 12, 13, 14, 15, 64, 65, 66, 67] (by decide +kernel) (by decide +kernel)
set_option maxRecDepth 20000 in
theorem gX1_pinch_X1_bringBack : GoodIn wsX1_pinch (wsV RX1 108 RX1 yX1_bringBack wsX1_bringBack) := goodIn_app (goodIn_of _ (by decide +kernel)) ggX1_pinch_X1_bringBack
theorem dX1_pinch_0 : decode cX1_pinch 0 = .ok (.aload_n 0, 1) := by decide +kernel
theorem dX1_pinch_1 : decode cX1_pinch 1 = .ok (.getfield 9, 3) := by decide +kernel
theorem dX1_pinch_4 : decode cX1_pinch 4 = .ok (.iconst 3, 1) := by decide +kernel
theorem dX1_pinch_5 : decode cX1_pinch 5 = .ok (.iaload, 1) := by decide +kernel
theorem dX1_pinch_6 : decode cX1_pinch 6 = .ok (.bipush 30, 2) := by decide +kernel
theorem dX1_pinch_8 : decode cX1_pinch 8 = .ok (.if_icmp .ne 5, 3) := by decide +kernel
theorem dX1_pinch_11 : decode cX1_pinch 11 = .ok (.iconst 0, 1) := by decide +kernel
theorem dX1_pinch_12 : decode cX1_pinch 12 = .ok (.ireturn, 1) := by decide +kernel
theorem dX1_pinch_13 : decode cX1_pinch 13 = .ok (.iconst 0, 1) := by decide +kernel
theorem dX1_pinch_14 : decode cX1_pinch 14 = .ok (.istore_n 2, 1) := by decide +kernel
theorem dX1_pinch_15 : decode cX1_pinch 15 = .ok (.iconst (-1), 1) := by decide +kernel
theorem dX1_pinch_16 : decode cX1_pinch 16 = .ok (.istore_n 3, 1) := by decide +kernel
theorem dX1_pinch_17 : decode cX1_pinch 17 = .ok (.bipush 9, 2) := by decide +kernel
theorem dX1_pinch_19 : decode cX1_pinch 19 = .ok (.aload_n 0, 1) := by decide +kernel
theorem dX1_pinch_20 : decode cX1_pinch 20 = .ok (.getfield 9, 3) := by decide +kernel
theorem dX1_pinch_23 : decode cX1_pinch 23 = .ok (.iconst 1, 1) := by decide +kernel
theorem dX1_pinch_24 : decode cX1_pinch 24 = .ok (.iaload, 1) := by decide +kernel
theorem dX1_pinch_25 : decode cX1_pinch 25 = .ok (.invokestatic 57, 3) := by decide +kernel
theorem dX1_pinch_28 : decode cX1_pinch 28 = .ok (.istore 4, 2) := by decide +kernel
theorem dX1_pinch_30 : decode cX1_pinch 30 = .ok (.aload_n 0, 1) := by decide +kernel
theorem dX1_pinch_31 : decode cX1_pinch 31 = .ok (.invokevirtual 105, 3) := by decide +kernel
theorem dX1_pinch_34 : decode cX1_pinch 34 = .ok (.iconst 0, 1) := by decide +kernel
theorem dX1_pinch_35 : decode cX1_pinch 35 = .ok (.istore 5, 2) := by decide +kernel
theorem dX1_pinch_37 : decode cX1_pinch 37 = .ok (.iload 5, 2) := by decide +kernel
theorem dX1_pinch_39 : decode cX1_pinch 39 = .ok (.iload 4, 2) := by decide +kernel
theorem dX1_pinch_41 : decode cX1_pinch 41 = .ok (.if_icmp .gt 57, 3) := by decide +kernel
theorem dX1_pinch_44 : decode cX1_pinch 44 = .ok (.iload 5, 2) := by decide +kernel
theorem dX1_pinch_46 : decode cX1_pinch 46 = .ok (.ifCond .le 12, 3) := by decide +kernel
theorem dX1_pinch_49 : decode cX1_pinch 49 = .ok (.aload_n 0, 1) := by decide +kernel
theorem dX1_pinch_50 : decode cX1_pinch 50 = .ok (.iload_n 1, 1) := by decide +kernel
theorem dX1_pinch_51 : decode cX1_pinch 51 = .ok (.iconst 1, 1) := by decide +kernel
theorem dX1_pinch_52 : decode cX1_pinch 52 = .ok (.iload 5, 2) := by decide +kernel
theorem dX1_pinch_54 : decode cX1_pinch 54 = .ok (.invokevirtual 77, 3) := by decide +kernel
theorem dX1_pinch_57 : decode cX1_pinch 57 = .ok (.pop, 1) := by decide +kernel
theorem dX1_pinch_58 : decode cX1_pinch 58 = .ok (.aload_n 0, 1) := by decide +kernel
theorem dX1_pinch_59 : decode cX1_pinch 59 = .ok (.bipush 14, 2) := by decide +kernel
theorem dX1_pinch_61 : decode cX1_pinch 61 = .ok (.invokevirtual 84, 3) := by decide +kernel
theorem dX1_pinch_64 : decode cX1_pinch 64 = .ok (.pop, 1) := by decide +kernel
theorem dX1_pinch_65 : decode cX1_pinch 65 = .ok (.aload_n 0, 1) := by decide +kernel
theorem dX1_pinch_66 : decode cX1_pinch 66 = .ok (.iload_n 1, 1) := by decide +kernel
theorem dX1_pinch_67 : decode cX1_pinch 67 = .ok (.iconst 0, 1) := by decide +kernel
theorem dX1_pinch_68 : decode cX1_pinch 68 = .ok (.invokevirtual 33, 3) := by decide +kernel
theorem dX1_pinch_71 : decode cX1_pinch 71 = .ok (.istore 6, 2) := by decide +kernel
theorem dX1_pinch_73 : decode cX1_pinch 73 = .ok (.aload_n 0, 1) := by decide +kernel
theorem dX1_pinch_74 : decode cX1_pinch 74 = .ok (.invokevirtual 108, 3) := by decide +kernel
theorem dX1_pinch_77 : decode cX1_pinch 77 = .ok (.iload 6, 2) := by decide +kernel
theorem dX1_pinch_79 : decode cX1_pinch 79 = .ok (.iload_n 3, 1) := by decide +kernel
theorem dX1_pinch_80 : decode cX1_pinch 80 = .ok (.if_icmp .gt 6, 3) := by decide +kernel
theorem dX1_pinch_83 : decode cX1_pinch 83 = .ok (.goto 9, 3) := by decide +kernel
theorem dX1_pinch_86 : decode cX1_pinch 86 = .ok (.iload 5, 2) := by decide +kernel
theorem dX1_pinch_88 : decode cX1_pinch 88 = .ok (.istore_n 2, 1) := by decide +kernel
theorem dX1_pinch_89 : decode cX1_pinch 89 = .ok (.iload 6, 2) := by decide +kernel
theorem dX1_pinch_91 : decode cX1_pinch 91 = .ok (.istore_n 3, 1) := by decide +kernel
theorem dX1_pinch_92 : decode cX1_pinch 92 = .ok (.iinc 5 1, 3) := by decide +kernel
theorem dX1_pinch_95 : decode cX1_pinch 95 = .ok (.goto (-58), 3) := by decide +kernel
theorem dX1_pinch_98 : decode cX1_pinch 98 = .ok (.iload_n 2, 1) := by decide +kernel
theorem dX1_pinch_99 : decode cX1_pinch 99 = .ok (.ireturn, 1) := by decide +kernel
set_option maxRecDepth 20000 in
theorem ggX1_penance_X1_keep : GoodIn wsX1_penance wsX1_keep := goodIn_r _ [9, 10, 11, 12, 13, 14, 15, 56, 57, 58, 59] (by decide +kernel) (by decide +kernel)
set_option maxRecDepth 20000 in
theorem gX1_penance_X1_keep : GoodIn wsX1_penance (wsV RX1 105 RX1 yX1_keep wsX1_keep) := goodIn_app (goodIn_of _ (by decide +kernel)) ggX1_penance_X1_keep
set_option maxRecDepth 20000 in
theorem ggX1_penance_X1_me : GoodIn wsX1_penance wsX1_me := goodIn_r _ [19, 10, 56, 57, 58, 59] (by decide +kernel) (by decide +kernel)
set_option maxRecDepth 20000 in
theorem gX1_penance_X1_me : GoodIn wsX1_penance (wsV RX1 33 RX1 yX1_me wsX1_me) := goodIn_app (goodIn_of _ (by decide +kernel)) ggX1_penance_X1_me
set_option maxRecDepth 20000 in
theorem ggX1_penance_X1_let : GoodIn wsX1_penance wsX1_let := goodIn_r _ [23, 10, 56, 57, 58, 59] (by decide +kernel) (by decide +kernel)
end
section
set_option maxRecDepth 20000 in
theorem gX1_penance_X1_let : GoodIn wsX1_penance (wsV RX1 42 RX1 yX1_let wsX1_let) := goodIn_app (goodIn_of _ (by decide +kernel)) ggX1_penance_X1_let
set_option maxRecDepth 20000 in
theorem ggX1_penance_X1_daysOn : GoodIn wsX1_penance wsX1_daysOn := goodIn_r _ [27, 28, 29, 30, 8, 31, 10, 32, 33, 34, 3, 35, 1, 2, 4, 36, 37, 38, 39, 40, 41, 42, 43, 44, 45, 46, 47, 16, 17, 18, 19, 20, 21, 22, 23, 48, 49, 50, 51, 56, 57, 58, 59] (by decide +kernel) (by decide +kernel)
set_option maxRecDepth 20000 in
theorem gX1_penance_X1_daysOn : GoodIn wsX1_penance (wsV RX1 84 RX1 yX1_daysOn wsX1_daysOn) := goodIn_app (goodIn_of _ (by decide +kernel)) ggX1_penance_X1_daysOn
set_option maxRecDepth 20000 in
theorem ggX1_penance_X1_bringBack : GoodIn wsX1_penance wsX1_bringBack := goodIn_r _ [55, 11, 10, 12, 13, 14, 15, 56, 57, 58, 59] (by decide +kernel) (by decide +kernel)
set_option maxRecDepth 20000 in
theorem gX1_penance_X1_bringBack : GoodIn wsX1_penance (wsV RX1 108 RX1 yX1_bringBack wsX1_bringBack) := goodIn_app (goodIn_of _ (by decide +kernel)) ggX1_penance_X1_bringBack
theorem dX1_penance_0 : decode cX1_penance 0 = .ok (.iconst 0, 1) := by decide +kernel
theorem dX1_penance_1 : decode cX1_penance 1 = .ok (.istore_n 2, 1) := by decide +kernel
theorem dX1_penance_2 : decode cX1_penance 2 = .ok (.iconst (-1), 1) := by decide +kernel
theorem dX1_penance_3 : decode cX1_penance 3 = .ok (.istore_n 3, 1) := by decide +kernel
theorem dX1_penance_4 : decode cX1_penance 4 = .ok (.aload_n 0, 1) := by decide +kernel
theorem dX1_penance_5 : decode cX1_penance 5 = .ok (.invokevirtual 105, 3) := by decide +kernel
theorem dX1_penance_8 : decode cX1_penance 8 = .ok (.iconst 0, 1) := by decide +kernel
theorem dX1_penance_9 : decode cX1_penance 9 = .ok (.istore 4, 2) := by decide +kernel
theorem dX1_penance_11 : decode cX1_penance 11 = .ok (.iload 4, 2) := by decide +kernel
theorem dX1_penance_13 : decode cX1_penance 13 = .ok (.bipush 9, 2) := by decide +kernel
theorem dX1_penance_15 : decode cX1_penance 15 = .ok (.if_icmp .gt 63, 3) := by decide +kernel
theorem dX1_penance_18 : decode cX1_penance 18 = .ok (.aload_n 0, 1) := by decide +kernel
theorem dX1_penance_19 : decode cX1_penance 19 = .ok (.iload_n 1, 1) := by decide +kernel
theorem dX1_penance_20 : decode cX1_penance 20 = .ok (.iconst 2, 1) := by decide +kernel
theorem dX1_penance_21 : decode cX1_penance 21 = .ok (.bipush 9, 2) := by decide +kernel
theorem dX1_penance_23 : decode cX1_penance 23 = .ok (.aload_n 0, 1) := by decide +kernel
theorem dX1_penance_24 : decode cX1_penance 24 = .ok (.iload_n 1, 1) := by decide +kernel
theorem dX1_penance_25 : decode cX1_penance 25 = .ok (.iconst 2, 1) := by decide +kernel
theorem dX1_penance_26 : decode cX1_penance 26 = .ok (.invokevirtual 33, 3) := by decide +kernel
theorem dX1_penance_29 : decode cX1_penance 29 = .ok (.iload 4, 2) := by decide +kernel
theorem dX1_penance_31 : decode cX1_penance 31 = .ok (.iadd, 1) := by decide +kernel
theorem dX1_penance_32 : decode cX1_penance 32 = .ok (.invokestatic 57, 3) := by decide +kernel
theorem dX1_penance_35 : decode cX1_penance 35 = .ok (.invokevirtual 42, 3) := by decide +kernel
theorem dX1_penance_38 : decode cX1_penance 38 = .ok (.aload_n 0, 1) := by decide +kernel
theorem dX1_penance_39 : decode cX1_penance 39 = .ok (.bipush 20, 2) := by decide +kernel
theorem dX1_penance_41 : decode cX1_penance 41 = .ok (.invokevirtual 84, 3) := by decide +kernel
theorem dX1_penance_44 : decode cX1_penance 44 = .ok (.pop, 1) := by decide +kernel
theorem dX1_penance_45 : decode cX1_penance 45 = .ok (.aload_n 0, 1) := by decide +kernel
theorem dX1_penance_46 : decode cX1_penance 46 = .ok (.iload_n 1, 1) := by decide +kernel
theorem dX1_penance_47 : decode cX1_penance 47 = .ok (.iconst 0, 1) := by decide +kernel
theorem dX1_penance_48 : decode cX1_penance 48 = .ok (.invokevirtual 33, 3) := by decide +kernel
theorem dX1_penance_51 : decode cX1_penance 51 = .ok (.istore 5, 2) := by decide +kernel
theorem dX1_penance_53 : decode cX1_penance 53 = .ok (.aload_n 0, 1) := by decide +kernel
theorem dX1_penance_54 : decode cX1_penance 54 = .ok (.invokevirtual 108, 3) := by decide +kernel
theorem dX1_penance_57 : decode cX1_penance 57 = .ok (.iload 5, 2) := by decide +kernel
theorem dX1_penance_59 : decode cX1_penance 59 = .ok (.iload_n 3, 1) := by decide +kernel
theorem dX1_penance_60 : decode cX1_penance 60 = .ok (.if_icmp .gt 6, 3) := by decide +kernel
theorem dX1_penance_63 : decode cX1_penance 63 = .ok (.goto 9, 3) := by decide +kernel
theorem dX1_penance_66 : decode cX1_penance 66 = .ok (.iload 4, 2) := by decide +kernel
theorem dX1_penance_68 : decode cX1_penance 68 = .ok (.istore_n 2, 1) := by decide +kernel
theorem dX1_penance_69 : decode cX1_penance 69 = .ok (.iload 5, 2) := by decide +kernel
theorem dX1_penance_71 : decode cX1_penance 71 = .ok (.istore_n 3, 1) := by decide +kernel
theorem dX1_penance_72 : decode cX1_penance 72 = .ok (.iinc 4 1, 3) := by decide +kernel
theorem dX1_penance_75 : decode cX1_penance 75 = .ok (.goto (-64), 3) := by decide +kernel
theorem dX1_penance_78 : decode cX1_penance 78 = .ok (.iload_n 2, 1) := by decide +kernel
theorem dX1_penance_79 : decode cX1_penance 79 = .ok (.ireturn, 1) := by decide +kernel
set_option maxRecDepth 20000 in
theorem ggX1_bestPinch_X1_isMember : GoodIn wsX1_bestPinch wsX1_isMember := goodIn_r _ [6, 7, 8, 9, 5, 10, 80, 81, 82, 83] (by decide +kernel) (by decide +kernel)
set_option maxRecDepth 20000 in
theorem gX1_bestPinch_X1_isMember : GoodIn wsX1_bestPinch (wsV RX1 73 RX1 yX1_isMember wsX1_isMember) := goodIn_app (goodIn_of _ (by decide +kernel)) ggX1_bestPinch_X1_isMember
set_option maxRecDepth 20000 in
theorem ggX1_bestPinch_X1_pinch : GoodIn wsX1_bestPinch wsX1_pinch := goodIn_r _ [14, 15, 16, 17, 18, 19, 20, 21, 22, 5, 23, 24, 25, 26, 27, 28, 29, 30, 31, 32, 33, 34, 35, 36, 37, 38, 39, 40, 41, 42, 43, 44, 45, 46, 47, 48, 49, 50, 51, 52, 53, 54, 55, 7, 56, 57, 58, 59, 60, 61, 62, 63, 64, 65, 66, 67, 68, 69, 70, 71, 72, 73, 74, 75, 80, 81, 82, 83] (by decide +kernel) (by decide +kernel)
set_option maxRecDepth 20000 in
theorem gX1_bestPinch_X1_pinch : GoodIn wsX1_bestPinch (wsV RX1 114 RX1 yX1_pinch wsX1_pinch) := goodIn_app (goodIn_of _ (by decide +kernel)) ggX1_bestPinch_X1_pinch
set_option maxRecDepth 20000 in
theorem ggX1_bestPinch_X1_fail : GoodIn wsX1_bestPinch wsX1_fail := goodIn_r _ [79, 1, 80, 81, 82, 83] (by decide +kernel) (by decide +kernel)
set_option maxRecDepth 20000 in
theorem gX1_bestPinch_X1_fail : GoodIn wsX1_bestPinch (wsV RX1 70 RX1 yX1_fail wsX1_fail) := goodIn_app (goodIn_of _ (by decide +kernel)) ggX1_bestPinch_X1_fail
theorem dX1_bestPinch_0 : decode cX1_bestPinch 0 = .ok (.aload_n 0, 1) := by decide +kernel
theorem dX1_bestPinch_1 : decode cX1_bestPinch 1 = .ok (.iconst 0, 1) := by decide +kernel
theorem dX1_bestPinch_2 : decode cX1_bestPinch 2 = .ok (.putfield 16, 3) := by decide +kernel
theorem dX1_bestPinch_5 : decode cX1_bestPinch 5 = .ok (.aload_n 0, 1) := by decide +kernel
theorem dX1_bestPinch_6 : decode cX1_bestPinch 6 = .ok (.iload_n 1, 1) := by decide +kernel
theorem dX1_bestPinch_7 : decode cX1_bestPinch 7 = .ok (.invokevirtual 73, 3) := by decide +kernel
theorem dX1_bestPinch_10 : decode cX1_bestPinch 10 = .ok (.ifCond .eq 11, 3) := by decide +kernel
theorem dX1_bestPinch_13 : decode cX1_bestPinch 13 = .ok (.aload_n 0, 1) := by decide +kernel
theorem dX1_bestPinch_14 : decode cX1_bestPinch 14 = .ok (.iload_n 1, 1) := by decide +kernel
theorem dX1_bestPinch_15 : decode cX1_bestPinch 15 = .ok (.invokevirtual 114, 3) := by decide +kernel
theorem dX1_bestPinch_18 : decode cX1_bestPinch 18 = .ok (.goto 8, 3) := by decide +kernel
theorem dX1_bestPinch_21 : decode cX1_bestPinch 21 = .ok (.aload_n 0, 1) := by decide +kernel
theorem dX1_bestPinch_22 : decode cX1_bestPinch 22 = .ok (.iconst 1, 1) := by decide +kernel
theorem dX1_bestPinch_23 : decode cX1_bestPinch 23 = .ok (.invokevirtual 70, 3) := by decide +kernel
theorem dX1_bestPinch_26 : decode cX1_bestPinch 26 = .ok (.ireturn, 1) := by decide +kernel
set_option maxRecDepth 20000 in
theorem ggX1_bestPenance_X1_isMember : GoodIn wsX1_bestPenance wsX1_isMember := goodIn_r _ [6, 7, 8, 9, 5, 10, 72, 73, 74, 75] (by decide +kernel) (by decide +kernel)
set_option maxRecDepth 20000 in
theorem gX1_bestPenance_X1_isMember : GoodIn wsX1_bestPenance (wsV RX1 73 RX1 yX1_isMember wsX1_isMember) := goodIn_app (goodIn_of _ (by decide +kernel)) ggX1_bestPenance_X1_isMember
set_option maxRecDepth 20000 in
theorem ggX1_bestPenance_X1_penance : GoodIn wsX1_bestPenance wsX1_penance := goodIn_r _ [14, 15, 16, 17, 18, 19, 20, 21, 5, 22, 23, 24, 25, 26, 27, 28, 29, 30, 31, 32, 33, 34, 35, 36, 37, 38, 39, 40, 41, 42, 43, 44, 7, 45, 46, 47, 48, 49, 50, 51, 52, 53, 54, 55, 56, 57, 58, 59, 60, 61, 62, 63, 64, 65, 66, 67, 72, 73, 74, 75] (by decide +kernel) (by decide +kernel)
set_option maxRecDepth 20000 in
theorem gX1_bestPenance_X1_penance : GoodIn wsX1_bestPenance (wsV RX1 117 RX1 yX1_penance wsX1_penance) := goodIn_app (goodIn_of _ (by decide +kernel)) ggX1_bestPenance_X1_penance
set_option maxRecDepth 20000 in
theorem ggX1_bestPenance_X1_fail : GoodIn wsX1_bestPenance wsX1_fail := goodIn_r _ [71, 1, 72, 73, 74, 75] (by decide +kernel) (by decide +kernel)
set_option maxRecDepth 20000 in
theorem gX1_bestPenance_X1_fail : GoodIn wsX1_bestPenance (wsV RX1 70 RX1 yX1_fail wsX1_fail) := goodIn_app (goodIn_of _ (by decide +kernel)) ggX1_bestPenance_X1_fail
theorem dX1_bestPenance_0 : decode cX1_bestPenance 0 = .ok (.aload_n 0, 1) := by decide +kernel
theorem dX1_bestPenance_1 : decode cX1_bestPenance 1 = .ok (.iconst 0, 1) := by decide +kernel
theorem dX1_bestPenance_2 : decode cX1_bestPenance 2 = .ok (.putfield 16, 3) := by decide +kernel
theorem dX1_bestPenance_5 : decode cX1_bestPenance 5 = .ok (.aload_n 0, 1) := by decide +kernel
theorem dX1_bestPenance_6 : decode cX1_bestPenance 6 = .ok (.iload_n 1, 1) := by decide +kernel
theorem dX1_bestPenance_7 : decode cX1_bestPenance 7 = .ok (.invokevirtual 73, 3) := by decide +kernel
theorem dX1_bestPenance_10 : decode cX1_bestPenance 10 = .ok (.ifCond .eq 11, 3) := by decide +kernel
theorem dX1_bestPenance_13 : decode cX1_bestPenance 13 = .ok (.aload_n 0, 1) := by decide +kernel
theorem dX1_bestPenance_14 : decode cX1_bestPenance 14 = .ok (.iload_n 1, 1) := by decide +kernel
theorem dX1_bestPenance_15 : decode cX1_bestPenance 15 = .ok (.invokevirtual 117, 3) := by decide +kernel
theorem dX1_bestPenance_18 : decode cX1_bestPenance 18 = .ok (.goto 8, 3) := by decide +kernel
theorem dX1_bestPenance_21 : decode cX1_bestPenance 21 = .ok (.aload_n 0, 1) := by decide +kernel
theorem dX1_bestPenance_22 : decode cX1_bestPenance 22 = .ok (.iconst 1, 1) := by decide +kernel
theorem dX1_bestPenance_23 : decode cX1_bestPenance 23 = .ok (.invokevirtual 70, 3) := by decide +kernel
theorem dX1_bestPenance_26 : decode cX1_bestPenance 26 = .ok (.ireturn, 1) := by decide +kernel
set_option maxRecDepth 20000 in
theorem ggX1_meanLuck_X1_me : GoodIn wsX1_meanLuck wsX1_me := goodIn_r _ [7, 8, 9, 10, 11, 12] (by decide +kernel) (by decide +kernel)
set_option maxRecDepth 20000 in
theorem gX1_meanLuck_X1_me : GoodIn wsX1_meanLuck (wsV RX1 33 RX1 yX1_me wsX1_me) := goodIn_app (goodIn_of _ (by decide +kernel)) ggX1_meanLuck_X1_me
theorem dX1_meanLuck_0 : decode cX1_meanLuck 0 = .ok (.aload_n 0, 1) := by decide +kernel
theorem dX1_meanLuck_1 : decode cX1_meanLuck 1 = .ok (.iconst 0, 1) := by decide +kernel
theorem dX1_meanLuck_2 : decode cX1_meanLuck 2 = .ok (.putfield 16, 3) := by decide +kernel
theorem dX1_meanLuck_5 : decode cX1_meanLuck 5 = .ok (.iconst 0, 1) := by decide +kernel
theorem dX1_meanLuck_6 : decode cX1_meanLuck 6 = .ok (.istore_n 1, 1) := by decide +kernel
theorem dX1_meanLuck_7 : decode cX1_meanLuck 7 = .ok (.iconst 0, 1) := by decide +kernel
theorem dX1_meanLuck_8 : decode cX1_meanLuck 8 = .ok (.istore_n 2, 1) := by decide +kernel
theorem dX1_meanLuck_9 : decode cX1_meanLuck 9 = .ok (.iload_n 2, 1) := by decide +kernel
theorem dX1_meanLuck_10 : decode cX1_meanLuck 10 = .ok (.aload_n 0, 1) := by decide +kernel
theorem dX1_meanLuck_11 : decode cX1_meanLuck 11 = .ok (.getfield 20, 3) := by decide +kernel
theorem dX1_meanLuck_14 : decode cX1_meanLuck 14 = .ok (.if_icmp .ge 18, 3) := by decide +kernel
theorem dX1_meanLuck_17 : decode cX1_meanLuck 17 = .ok (.iload_n 1, 1) := by decide +kernel
theorem dX1_meanLuck_18 : decode cX1_meanLuck 18 = .ok (.aload_n 0, 1) := by decide +kernel
theorem dX1_meanLuck_19 : decode cX1_meanLuck 19 = .ok (.iload_n 2, 1) := by decide +kernel
theorem dX1_meanLuck_20 : decode cX1_meanLuck 20 = .ok (.iconst 0, 1) := by decide +kernel
theorem dX1_meanLuck_21 : decode cX1_meanLuck 21 = .ok (.invokevirtual 33, 3) := by decide +kernel
theorem dX1_meanLuck_24 : decode cX1_meanLuck 24 = .ok (.iadd, 1) := by decide +kernel
theorem dX1_meanLuck_25 : decode cX1_meanLuck 25 = .ok (.istore_n 1, 1) := by decide +kernel
theorem dX1_meanLuck_26 : decode cX1_meanLuck 26 = .ok (.iinc 2 1, 3) := by decide +kernel
theorem dX1_meanLuck_29 : decode cX1_meanLuck 29 = .ok (.goto (-20), 3) := by decide +kernel
theorem dX1_meanLuck_32 : decode cX1_meanLuck 32 = .ok (.aload_n 0, 1) := by decide +kernel
theorem dX1_meanLuck_33 : decode cX1_meanLuck 33 = .ok (.getfield 20, 3) := by decide +kernel
theorem dX1_meanLuck_36 : decode cX1_meanLuck 36 = .ok (.ifCond .ne 7, 3) := by decide +kernel
theorem dX1_meanLuck_39 : decode cX1_meanLuck 39 = .ok (.dconst 0, 1) := by decide +kernel
theorem dX1_meanLuck_40 : decode cX1_meanLuck 40 = .ok (.goto 11, 3) := by decide +kernel
theorem dX1_meanLuck_43 : decode cX1_meanLuck 43 = .ok (.iload_n 1, 1) := by decide +kernel
theorem dX1_meanLuck_44 : decode cX1_meanLuck 44 = .ok (.i2d, 1) := by decide +kernel
theorem dX1_meanLuck_45 : decode cX1_meanLuck 45 = .ok (.aload_n 0, 1) := by decide +kernel
theorem dX1_meanLuck_46 : decode cX1_meanLuck 46 = .ok (.getfield 20, 3) := by decide +kernel
theorem dX1_meanLuck_49 : decode cX1_meanLuck 49 = .ok (.i2d, 1) := by decide +kernel
theorem dX1_meanLuck_50 : decode cX1_meanLuck 50 = .ok (.ddiv, 1) := by decide +kernel
theorem dX1_meanLuck_51 : decode cX1_meanLuck 51 = .ok (.dreturn, 1) := by decide +kernel
set_option maxRecDepth 20000 in
theorem ggX1_digest_X1_faultsNow : GoodIn wsX1_digest wsX1_faultsNow := goodIn_r _ [11, 3, 12, 13, 14, 10, 15, 88, 89, 90, 91] (by decide +kernel) (by decide +kernel)
set_option maxRecDepth 20000 in
theorem gX1_digest_X1_faultsNow : GoodIn wsX1_digest (wsV RX1 53 RX1 yX1_faultsNow wsX1_faultsNow) := goodIn_app (goodIn_of _ (by decide +kernel)) ggX1_digest_X1_faultsNow
set_option maxRecDepth 20000 in
theorem ggX1_digest_X1_best : GoodIn wsX1_digest wsX1_best := goodIn_r _ [19, 4, 20, 21, 22, 10, 23, 3, 88, 89, 90, 91] (by decide +kernel) (by decide +kernel)
set_option maxRecDepth 20000 in
theorem gX1_digest_X1_best : GoodIn wsX1_digest (wsV RX1 90 RX1 yX1_best wsX1_best) := goodIn_app (goodIn_of _ (by decide +kernel)) ggX1_digest_X1_best
set_option maxRecDepth 20000 in
theorem ggX1_digest_X1_owed : GoodIn wsX1_digest wsX1_owed := goodIn_r _ [27, 4, 20, 21, 22, 10, 23, 3, 88, 89, 90, 91] (by decide +kernel) (by decide +kernel)
set_option maxRecDepth 20000 in
theorem gX1_digest_X1_owed : GoodIn wsX1_digest (wsV RX1 93 RX1 yX1_owed wsX1_owed) := goodIn_app (goodIn_of _ (by decide +kernel)) ggX1_digest_X1_owed
set_option maxRecDepth 20000 in
theorem ggX1_digest_X1_me : GoodIn wsX1_digest wsX1_me := goodIn_r _ [23, 3, 88, 89, 90, 91] (by decide +kernel) (by decide +kernel)
set_option maxRecDepth 20000 in
theorem gX1_digest_X1_me : GoodIn wsX1_digest (wsV RX1 33 RX1 yX1_me wsX1_me) := goodIn_app (goodIn_of _ (by decide +kernel)) ggX1_digest_X1_me
set_option maxRecDepth 20000 in
theorem ggX1_digest_X1_loss : GoodIn wsX1_digest wsX1_loss := goodIn_r _ [31, 20, 21, 22, 10, 23, 3, 88, 89, 90, 91] (by decide +kernel) (by decide +kernel)
set_option maxRecDepth 20000 in
theorem gX1_digest_X1_loss : GoodIn wsX1_digest (wsV RX1 63 RX1 yX1_loss wsX1_loss) := goodIn_app (goodIn_of _ (by decide +kernel)) ggX1_digest_X1_loss
set_option maxRecDepth 20000 in
theorem ggX1_digest_X1_adds : GoodIn wsX1_digest wsX1_adds := goodIn_r _ [35, 3, 12, 13, 14, 10, 15, 88, 89, 90, 91] (by decide +kernel) (by decide +kernel)
set_option maxRecDepth 20000 in
theorem gX1_digest_X1_adds : GoodIn wsX1_digest (wsV RX1 102 RX1 yX1_adds wsX1_adds) := goodIn_app (goodIn_of _ (by decide +kernel)) ggX1_digest_X1_adds
set_option maxRecDepth 20000 in
theorem ggX1_digest_X1_pinch : GoodIn wsX1_digest wsX1_pinch := goodIn_r _ [39, 3, 40, 41, 42, 43, 44, 45, 46, 10, 47, 48, 49, 50, 51, 52, 53, 54, 55, 56, 57, 58, 59, 20, 21, 22, 23, 60, 61, 62, 63, 64, 65, 66, 67, 68, 69, 70, 71, 72, 73, 74, 75, 4, 76, 77, 78, 79, 7, 8, 9, 11, 12, 13, 14, 15, 28, 29, 30, 31, 80, 81, 82, 83, 88, 89, 90, 91] (by decide +kernel) (by decide +kernel)
set_option maxRecDepth 20000 in
theorem gX1_digest_X1_pinch : GoodIn wsX1_digest (wsV RX1 114 RX1 yX1_pinch wsX1_pinch) := goodIn_app (goodIn_of _ (by decide +kernel)) ggX1_digest_X1_pinch
set_option maxRecDepth 20000 in
theorem ggX1_digest_X1_penance : GoodIn wsX1_digest wsX1_penance := goodIn_r _ [87, 40, 41, 42, 43, 44, 45, 46, 10, 47, 3, 48, 49, 50, 51, 52, 20, 21, 22, 23, 60, 61, 62, 63, 68, 69, 70, 71, 72, 73, 74, 75, 4, 57, 58, 59, 76, 77, 78, 79, 7, 8, 9, 11, 12, 13, 14, 15, 28, 29, 30, 31, 80, 81, 82, 83, 88, 89, 90, 91] (by decide +kernel) (by decide +kernel)
set_option maxRecDepth 20000 in
theorem gX1_digest_X1_penance : GoodIn wsX1_digest (wsV RX1 117 RX1 yX1_penance wsX1_penance) := goodIn_app (goodIn_of _ (by decide +kernel)) ggX1_digest_X1_penance
set_option maxRecDepth 20000 in
theorem ggX1_digest_X1_th : GoodIn wsX1_digest wsX1_th := goodIn_r _ [15, 3, 88, 89, 90, 91] (by decide +kernel) (by decide +kernel)
set_option maxRecDepth 20000 in
theorem gX1_digest_X1_th : GoodIn wsX1_digest (wsV RX1 50 RX1 yX1_th wsX1_th) := goodIn_app (goodIn_of _ (by decide +kernel)) ggX1_digest_X1_th
theorem dX1_digest_0 : decode cX1_digest 0 = .ok (.aload_n 0, 1) := by decide +kernel
theorem dX1_digest_1 : decode cX1_digest 1 = .ok (.iconst 0, 1) := by decide +kernel
theorem dX1_digest_2 : decode cX1_digest 2 = .ok (.putfield 16, 3) := by decide +kernel
theorem dX1_digest_5 : decode cX1_digest 5 = .ok (.bipush 8, 2) := by decide +kernel
theorem dX1_digest_7 : decode cX1_digest 7 = .ok (.newarray .int, 2) := by decide +kernel
theorem dX1_digest_9 : decode cX1_digest 9 = .ok (.dup, 1) := by decide +kernel
theorem dX1_digest_10 : decode cX1_digest 10 = .ok (.iconst 0, 1) := by decide +kernel
theorem dX1_digest_11 : decode cX1_digest 11 = .ok (.aload_n 0, 1) := by decide +kernel
theorem dX1_digest_12 : decode cX1_digest 12 = .ok (.getfield 9, 3) := by decide +kernel
theorem dX1_digest_15 : decode cX1_digest 15 = .ok (.iconst 0, 1) := by decide +kernel
theorem dX1_digest_16 : decode cX1_digest 16 = .ok (.iaload, 1) := by decide +kernel
theorem dX1_digest_17 : decode cX1_digest 17 = .ok (.iastore, 1) := by decide +kernel
theorem dX1_digest_18 : decode cX1_digest 18 = .ok (.dup, 1) := by decide +kernel
theorem dX1_digest_19 : decode cX1_digest 19 = .ok (.iconst 1, 1) := by decide +kernel
theorem dX1_digest_20 : decode cX1_digest 20 = .ok (.aload_n 0, 1) := by decide +kernel
theorem dX1_digest_21 : decode cX1_digest 21 = .ok (.getfield 20, 3) := by decide +kernel
theorem dX1_digest_24 : decode cX1_digest 24 = .ok (.iastore, 1) := by decide +kernel
theorem dX1_digest_25 : decode cX1_digest 25 = .ok (.dup, 1) := by decide +kernel
theorem dX1_digest_26 : decode cX1_digest 26 = .ok (.iconst 2, 1) := by decide +kernel
theorem dX1_digest_27 : decode cX1_digest 27 = .ok (.aload_n 0, 1) := by decide +kernel
theorem dX1_digest_28 : decode cX1_digest 28 = .ok (.getfield 9, 3) := by decide +kernel
theorem dX1_digest_31 : decode cX1_digest 31 = .ok (.iconst 1, 1) := by decide +kernel
theorem dX1_digest_32 : decode cX1_digest 32 = .ok (.iaload, 1) := by decide +kernel
theorem dX1_digest_33 : decode cX1_digest 33 = .ok (.iastore, 1) := by decide +kernel
theorem dX1_digest_34 : decode cX1_digest 34 = .ok (.dup, 1) := by decide +kernel
theorem dX1_digest_35 : decode cX1_digest 35 = .ok (.iconst 3, 1) := by decide +kernel
theorem dX1_digest_36 : decode cX1_digest 36 = .ok (.aload_n 0, 1) := by decide +kernel
theorem dX1_digest_37 : decode cX1_digest 37 = .ok (.getfield 9, 3) := by decide +kernel
theorem dX1_digest_40 : decode cX1_digest 40 = .ok (.iconst 3, 1) := by decide +kernel
theorem dX1_digest_41 : decode cX1_digest 41 = .ok (.iaload, 1) := by decide +kernel
theorem dX1_digest_42 : decode cX1_digest 42 = .ok (.iastore, 1) := by decide +kernel
theorem dX1_digest_43 : decode cX1_digest 43 = .ok (.dup, 1) := by decide +kernel
theorem dX1_digest_44 : decode cX1_digest 44 = .ok (.iconst 4, 1) := by decide +kernel
theorem dX1_digest_45 : decode cX1_digest 45 = .ok (.aload_n 0, 1) := by decide +kernel
theorem dX1_digest_46 : decode cX1_digest 46 = .ok (.invokevirtual 53, 3) := by decide +kernel
theorem dX1_digest_49 : decode cX1_digest 49 = .ok (.iastore, 1) := by decide +kernel
theorem dX1_digest_50 : decode cX1_digest 50 = .ok (.dup, 1) := by decide +kernel
theorem dX1_digest_51 : decode cX1_digest 51 = .ok (.iconst 5, 1) := by decide +kernel
theorem dX1_digest_52 : decode cX1_digest 52 = .ok (.aload_n 0, 1) := by decide +kernel
theorem dX1_digest_53 : decode cX1_digest 53 = .ok (.getfield 9, 3) := by decide +kernel
theorem dX1_digest_56 : decode cX1_digest 56 = .ok (.iconst 2, 1) := by decide +kernel
theorem dX1_digest_57 : decode cX1_digest 57 = .ok (.iaload, 1) := by decide +kernel
theorem dX1_digest_58 : decode cX1_digest 58 = .ok (.iastore, 1) := by decide +kernel
theorem dX1_digest_59 : decode cX1_digest 59 = .ok (.dup, 1) := by decide +kernel
theorem dX1_digest_60 : decode cX1_digest 60 = .ok (.bipush 6, 2) := by decide +kernel
theorem dX1_digest_62 : decode cX1_digest 62 = .ok (.aload_n 0, 1) := by decide +kernel
theorem dX1_digest_63 : decode cX1_digest 63 = .ok (.invokevirtual 90, 3) := by decide +kernel
theorem dX1_digest_66 : decode cX1_digest 66 = .ok (.iastore, 1) := by decide +kernel
theorem dX1_digest_67 : decode cX1_digest 67 = .ok (.dup, 1) := by decide +kernel
theorem dX1_digest_68 : decode cX1_digest 68 = .ok (.bipush 7, 2) := by decide +kernel
theorem dX1_digest_70 : decode cX1_digest 70 = .ok (.aload_n 0, 1) := by decide +kernel
theorem dX1_digest_71 : decode cX1_digest 71 = .ok (.invokevirtual 93, 3) := by decide +kernel
theorem dX1_digest_74 : decode cX1_digest 74 = .ok (.iastore, 1) := by decide +kernel
theorem dX1_digest_75 : decode cX1_digest 75 = .ok (.astore_n 1, 1) := by decide +kernel
theorem dX1_digest_76 : decode cX1_digest 76 = .ok (.ldc2_w 120, 3) := by decide +kernel
theorem dX1_digest_79 : decode cX1_digest 79 = .ok (.lstore_n 2, 1) := by decide +kernel
theorem dX1_digest_80 : decode cX1_digest 80 = .ok (.aload_n 1, 1) := by decide +kernel
theorem dX1_digest_81 : decode cX1_digest 81 = .ok (.astore 4, 2) := by decide +kernel
theorem dX1_digest_83 : decode cX1_digest 83 = .ok (.aload 4, 2) := by decide +kernel
theorem dX1_digest_85 : decode cX1_digest 85 = .ok (.arraylength, 1) := by decide +kernel
theorem dX1_digest_86 : decode cX1_digest 86 = .ok (.istore 5, 2) := by decide +kernel
theorem dX1_digest_88 : decode cX1_digest 88 = .ok (.iconst 0, 1) := by decide +kernel
theorem dX1_digest_89 : decode cX1_digest 89 = .ok (.istore 6, 2) := by decide +kernel
theorem dX1_digest_91 : decode cX1_digest 91 = .ok (.iload 6, 2) := by decide +kernel
theorem dX1_digest_93 : decode cX1_digest 93 = .ok (.iload 5, 2) := by decide +kernel
theorem dX1_digest_95 : decode cX1_digest 95 = .ok (.if_icmp .ge 26, 3) := by decide +kernel
theorem dX1_digest_98 : decode cX1_digest 98 = .ok (.aload 4, 2) := by decide +kernel
theorem dX1_digest_100 : decode cX1_digest 100 = .ok (.iload 6, 2) := by decide +kernel
theorem dX1_digest_102 : decode cX1_digest 102 = .ok (.iaload, 1) := by decide +kernel
theorem dX1_digest_103 : decode cX1_digest 103 = .ok (.istore 7, 2) := by decide +kernel
theorem dX1_digest_105 : decode cX1_digest 105 = .ok (.lload_n 2, 1) := by decide +kernel
theorem dX1_digest_106 : decode cX1_digest 106 = .ok (.ldc2_w 122, 3) := by decide +kernel
theorem dX1_digest_109 : decode cX1_digest 109 = .ok (.lmul, 1) := by decide +kernel
theorem dX1_digest_110 : decode cX1_digest 110 = .ok (.iload 7, 2) := by decide +kernel
theorem dX1_digest_112 : decode cX1_digest 112 = .ok (.i2l, 1) := by decide +kernel
theorem dX1_digest_113 : decode cX1_digest 113 = .ok (.ladd, 1) := by decide +kernel
theorem dX1_digest_114 : decode cX1_digest 114 = .ok (.lstore_n 2, 1) := by decide +kernel
theorem dX1_digest_115 : decode cX1_digest 115 = .ok (.iinc 6 1, 3) := by decide +kernel
theorem dX1_digest_118 : decode cX1_digest 118 = .ok (.goto (-27), 3) := by decide +kernel
theorem dX1_digest_121 : decode cX1_digest 121 = .ok (.iconst 0, 1) := by decide +kernel
theorem dX1_digest_122 : decode cX1_digest 122 = .ok (.istore 4, 2) := by decide +kernel
theorem dX1_digest_124 : decode cX1_digest 124 = .ok (.iload 4, 2) := by decide +kernel
theorem dX1_digest_126 : decode cX1_digest 126 = .ok (.aload_n 0, 1) := by decide +kernel
theorem dX1_digest_127 : decode cX1_digest 127 = .ok (.getfield 20, 3) := by decide +kernel
theorem dX1_digest_130 : decode cX1_digest 130 = .ok (.if_icmp .ge 124, 3) := by decide +kernel
theorem dX1_digest_133 : decode cX1_digest 133 = .ok (.bipush 7, 2) := by decide +kernel
theorem dX1_digest_135 : decode cX1_digest 135 = .ok (.newarray .int, 2) := by decide +kernel
theorem dX1_digest_137 : decode cX1_digest 137 = .ok (.dup, 1) := by decide +kernel
theorem dX1_digest_138 : decode cX1_digest 138 = .ok (.iconst 0, 1) := by decide +kernel
theorem dX1_digest_139 : decode cX1_digest 139 = .ok (.aload_n 0, 1) := by decide +kernel
theorem dX1_digest_140 : decode cX1_digest 140 = .ok (.iload 4, 2) := by decide +kernel
theorem dX1_digest_142 : decode cX1_digest 142 = .ok (.iconst 0, 1) := by decide +kernel
theorem dX1_digest_143 : decode cX1_digest 143 = .ok (.invokevirtual 33, 3) := by decide +kernel
theorem dX1_digest_146 : decode cX1_digest 146 = .ok (.iastore, 1) := by decide +kernel
theorem dX1_digest_147 : decode cX1_digest 147 = .ok (.dup, 1) := by decide +kernel
theorem dX1_digest_148 : decode cX1_digest 148 = .ok (.iconst 1, 1) := by decide +kernel
theorem dX1_digest_149 : decode cX1_digest 149 = .ok (.aload_n 0, 1) := by decide +kernel
theorem dX1_digest_150 : decode cX1_digest 150 = .ok (.iload 4, 2) := by decide +kernel
theorem dX1_digest_152 : decode cX1_digest 152 = .ok (.iconst 1, 1) := by decide +kernel
theorem dX1_digest_153 : decode cX1_digest 153 = .ok (.invokevirtual 33, 3) := by decide +kernel
theorem dX1_digest_156 : decode cX1_digest 156 = .ok (.iastore, 1) := by decide +kernel
theorem dX1_digest_157 : decode cX1_digest 157 = .ok (.dup, 1) := by decide +kernel
theorem dX1_digest_158 : decode cX1_digest 158 = .ok (.iconst 2, 1) := by decide +kernel
theorem dX1_digest_159 : decode cX1_digest 159 = .ok (.aload_n 0, 1) := by decide +kernel
theorem dX1_digest_160 : decode cX1_digest 160 = .ok (.iload 4, 2) := by decide +kernel
theorem dX1_digest_162 : decode cX1_digest 162 = .ok (.iconst 2, 1) := by decide +kernel
theorem dX1_digest_163 : decode cX1_digest 163 = .ok (.invokevirtual 33, 3) := by decide +kernel
theorem dX1_digest_166 : decode cX1_digest 166 = .ok (.iastore, 1) := by decide +kernel
theorem dX1_digest_167 : decode cX1_digest 167 = .ok (.dup, 1) := by decide +kernel
theorem dX1_digest_168 : decode cX1_digest 168 = .ok (.iconst 3, 1) := by decide +kernel
theorem dX1_digest_169 : decode cX1_digest 169 = .ok (.aload_n 0, 1) := by decide +kernel
theorem dX1_digest_170 : decode cX1_digest 170 = .ok (.iload 4, 2) := by decide +kernel
theorem dX1_digest_172 : decode cX1_digest 172 = .ok (.invokevirtual 63, 3) := by decide +kernel
theorem dX1_digest_175 : decode cX1_digest 175 = .ok (.iastore, 1) := by decide +kernel
theorem dX1_digest_176 : decode cX1_digest 176 = .ok (.dup, 1) := by decide +kernel
theorem dX1_digest_177 : decode cX1_digest 177 = .ok (.iconst 4, 1) := by decide +kernel
theorem dX1_digest_178 : decode cX1_digest 178 = .ok (.aload_n 0, 1) := by decide +kernel
theorem dX1_digest_179 : decode cX1_digest 179 = .ok (.iload 4, 2) := by decide +kernel
theorem dX1_digest_181 : decode cX1_digest 181 = .ok (.invokevirtual 102, 3) := by decide +kernel
theorem dX1_digest_184 : decode cX1_digest 184 = .ok (.iastore, 1) := by decide +kernel
theorem dX1_digest_185 : decode cX1_digest 185 = .ok (.dup, 1) := by decide +kernel
theorem dX1_digest_186 : decode cX1_digest 186 = .ok (.iconst 5, 1) := by decide +kernel
theorem dX1_digest_187 : decode cX1_digest 187 = .ok (.aload_n 0, 1) := by decide +kernel
theorem dX1_digest_188 : decode cX1_digest 188 = .ok (.iload 4, 2) := by decide +kernel
theorem dX1_digest_190 : decode cX1_digest 190 = .ok (.invokevirtual 114, 3) := by decide +kernel
theorem dX1_digest_193 : decode cX1_digest 193 = .ok (.iastore, 1) := by decide +kernel
theorem dX1_digest_194 : decode cX1_digest 194 = .ok (.dup, 1) := by decide +kernel
theorem dX1_digest_195 : decode cX1_digest 195 = .ok (.bipush 6, 2) := by decide +kernel
theorem dX1_digest_197 : decode cX1_digest 197 = .ok (.aload_n 0, 1) := by decide +kernel
theorem dX1_digest_198 : decode cX1_digest 198 = .ok (.iload 4, 2) := by decide +kernel
theorem dX1_digest_200 : decode cX1_digest 200 = .ok (.invokevirtual 117, 3) := by decide +kernel
theorem dX1_digest_203 : decode cX1_digest 203 = .ok (.iastore, 1) := by decide +kernel
theorem dX1_digest_204 : decode cX1_digest 204 = .ok (.astore 5, 2) := by decide +kernel
theorem dX1_digest_206 : decode cX1_digest 206 = .ok (.aload 5, 2) := by decide +kernel
theorem dX1_digest_208 : decode cX1_digest 208 = .ok (.astore 6, 2) := by decide +kernel
theorem dX1_digest_210 : decode cX1_digest 210 = .ok (.aload 6, 2) := by decide +kernel
theorem dX1_digest_212 : decode cX1_digest 212 = .ok (.arraylength, 1) := by decide +kernel
theorem dX1_digest_213 : decode cX1_digest 213 = .ok (.istore 7, 2) := by decide +kernel
theorem dX1_digest_215 : decode cX1_digest 215 = .ok (.iconst 0, 1) := by decide +kernel
theorem dX1_digest_216 : decode cX1_digest 216 = .ok (.istore 8, 2) := by decide +kernel
theorem dX1_digest_218 : decode cX1_digest 218 = .ok (.iload 8, 2) := by decide +kernel
theorem dX1_digest_220 : decode cX1_digest 220 = .ok (.iload 7, 2) := by decide +kernel
theorem dX1_digest_222 : decode cX1_digest 222 = .ok (.if_icmp .ge 26, 3) := by decide +kernel
theorem dX1_digest_225 : decode cX1_digest 225 = .ok (.aload 6, 2) := by decide +kernel
theorem dX1_digest_227 : decode cX1_digest 227 = .ok (.iload 8, 2) := by decide +kernel
theorem dX1_digest_229 : decode cX1_digest 229 = .ok (.iaload, 1) := by decide +kernel
theorem dX1_digest_230 : decode cX1_digest 230 = .ok (.istore 9, 2) := by decide +kernel
theorem dX1_digest_232 : decode cX1_digest 232 = .ok (.lload_n 2, 1) := by decide +kernel
theorem dX1_digest_233 : decode cX1_digest 233 = .ok (.ldc2_w 122, 3) := by decide +kernel
theorem dX1_digest_236 : decode cX1_digest 236 = .ok (.lmul, 1) := by decide +kernel
theorem dX1_digest_237 : decode cX1_digest 237 = .ok (.iload 9, 2) := by decide +kernel
theorem dX1_digest_239 : decode cX1_digest 239 = .ok (.i2l, 1) := by decide +kernel
theorem dX1_digest_240 : decode cX1_digest 240 = .ok (.ladd, 1) := by decide +kernel
theorem dX1_digest_241 : decode cX1_digest 241 = .ok (.lstore_n 2, 1) := by decide +kernel
theorem dX1_digest_242 : decode cX1_digest 242 = .ok (.iinc 8 1, 3) := by decide +kernel
theorem dX1_digest_245 : decode cX1_digest 245 = .ok (.goto (-27), 3) := by decide +kernel
theorem dX1_digest_248 : decode cX1_digest 248 = .ok (.iinc 4 1, 3) := by decide +kernel
theorem dX1_digest_251 : decode cX1_digest 251 = .ok (.goto (-127), 3) := by decide +kernel
theorem dX1_digest_254 : decode cX1_digest 254 = .ok (.iconst 0, 1) := by decide +kernel
theorem dX1_digest_255 : decode cX1_digest 255 = .ok (.istore 4, 2) := by decide +kernel
theorem dX1_digest_257 : decode cX1_digest 257 = .ok (.iload 4, 2) := by decide +kernel
theorem dX1_digest_259 : decode cX1_digest 259 = .ok (.aload_n 0, 1) := by decide +kernel
theorem dX1_digest_260 : decode cX1_digest 260 = .ok (.getfield 9, 3) := by decide +kernel
theorem dX1_digest_263 : decode cX1_digest 263 = .ok (.iconst 3, 1) := by decide +kernel
theorem dX1_digest_264 : decode cX1_digest 264 = .ok (.iaload, 1) := by decide +kernel
theorem dX1_digest_265 : decode cX1_digest 265 = .ok (.if_icmp .ge 40, 3) := by decide +kernel
theorem dX1_digest_268 : decode cX1_digest 268 = .ok (.iconst 0, 1) := by decide +kernel
theorem dX1_digest_269 : decode cX1_digest 269 = .ok (.istore 5, 2) := by decide +kernel
theorem dX1_digest_271 : decode cX1_digest 271 = .ok (.iload 5, 2) := by decide +kernel
theorem dX1_digest_273 : decode cX1_digest 273 = .ok (.iconst 4, 1) := by decide +kernel
theorem dX1_digest_274 : decode cX1_digest 274 = .ok (.if_icmp .ge 25, 3) := by decide +kernel
theorem dX1_digest_277 : decode cX1_digest 277 = .ok (.lload_n 2, 1) := by decide +kernel
theorem dX1_digest_278 : decode cX1_digest 278 = .ok (.ldc2_w 122, 3) := by decide +kernel
theorem dX1_digest_281 : decode cX1_digest 281 = .ok (.lmul, 1) := by decide +kernel
theorem dX1_digest_282 : decode cX1_digest 282 = .ok (.aload_n 0, 1) := by decide +kernel
theorem dX1_digest_283 : decode cX1_digest 283 = .ok (.iload 4, 2) := by decide +kernel
theorem dX1_digest_285 : decode cX1_digest 285 = .ok (.iload 5, 2) := by decide +kernel
theorem dX1_digest_287 : decode cX1_digest 287 = .ok (.invokevirtual 50, 3) := by decide +kernel
theorem dX1_digest_290 : decode cX1_digest 290 = .ok (.i2l, 1) := by decide +kernel
theorem dX1_digest_291 : decode cX1_digest 291 = .ok (.ladd, 1) := by decide +kernel
theorem dX1_digest_292 : decode cX1_digest 292 = .ok (.lstore_n 2, 1) := by decide +kernel
theorem dX1_digest_293 : decode cX1_digest 293 = .ok (.iinc 5 1, 3) := by decide +kernel
theorem dX1_digest_296 : decode cX1_digest 296 = .ok (.goto (-25), 3) := by decide +kernel
theorem dX1_digest_299 : decode cX1_digest 299 = .ok (.iinc 4 1, 3) := by decide +kernel
theorem dX1_digest_302 : decode cX1_digest 302 = .ok (.goto (-45), 3) := by decide +kernel
theorem dX1_digest_305 : decode cX1_digest 305 = .ok (.lload_n 2, 1) := by decide +kernel
theorem dX1_digest_306 : decode cX1_digest 306 = .ok (.lreturn, 1) := by decide +kernel
theorem dJ9_max_7cf53_0 : decode cJ9_max_7cf53 0 = .ok (.iload_n 0, 1) := by decide +kernel
theorem dJ9_max_7cf53_1 : decode cJ9_max_7cf53 1 = .ok (.iload_n 1, 1) := by decide +kernel
theorem dJ9_max_7cf53_2 : decode cJ9_max_7cf53 2 = .ok (.if_icmp .lt 7, 3) := by decide +kernel
theorem dJ9_max_7cf53_5 : decode cJ9_max_7cf53 5 = .ok (.iload_n 0, 1) := by decide +kernel
theorem dJ9_max_7cf53_6 : decode cJ9_max_7cf53 6 = .ok (.goto 4, 3) := by decide +kernel
theorem dJ9_max_7cf53_9 : decode cJ9_max_7cf53 9 = .ok (.iload_n 1, 1) := by decide +kernel
theorem dJ9_max_7cf53_10 : decode cJ9_max_7cf53 10 = .ok (.ireturn, 1) := by decide +kernel
theorem dJ9_min_7cf53_0 : decode cJ9_min_7cf53 0 = .ok (.iload_n 0, 1) := by decide +kernel
theorem dJ9_min_7cf53_1 : decode cJ9_min_7cf53 1 = .ok (.iload_n 1, 1) := by decide +kernel
theorem dJ9_min_7cf53_2 : decode cJ9_min_7cf53 2 = .ok (.if_icmp .gt 7, 3) := by decide +kernel
theorem dJ9_min_7cf53_5 : decode cJ9_min_7cf53 5 = .ok (.iload_n 0, 1) := by decide +kernel
theorem dJ9_min_7cf53_6 : decode cJ9_min_7cf53 6 = .ok (.goto 4, 3) := by decide +kernel
theorem dJ9_min_7cf53_9 : decode cJ9_min_7cf53 9 = .ok (.iload_n 1, 1) := by decide +kernel
theorem dJ9_min_7cf53_10 : decode cJ9_min_7cf53 10 = .ok (.ireturn, 1) := by decide +kernel
set_option maxRecDepth 20000 in
theorem ggL_join_X0_join : GoodIn wsL_join wsX0_join := goodIn_ca (goodIn_r _ [6, 7, 8, 9, 10, 11, 12, 13, 14, 15, 16, 17, 18, 19, 20, 21, 22, 23, 24, 25, 26] (by decide +kernel) (by decide +kernel)) (goodIn_sub (fun _ h => List.mem_cons_of_mem _ (List.mem_append_right _ h)) (by decide +kernel))
set_option maxRecDepth 20000 in
theorem gL_join_X0_join : GoodIn wsL_join (wsV RL 7 RX0 yX0_join wsX0_join) := goodIn_app (goodIn_of _ (by decide +kernel)) ggL_join_X0_join
theorem dL_join_0 : decode cL_join 0 = .ok (.aload_n 1, 1) := by decide +kernel
theorem dL_join_1 : decode cL_join 1 = .ok (.iconst 0, 1) := by decide +kernel
theorem dL_join_2 : decode cL_join 2 = .ok (.aload_n 0, 1) := by decide +kernel
theorem dL_join_3 : decode cL_join 3 = .ok (.invokevirtual 7, 3) := by decide +kernel
theorem dL_join_6 : decode cL_join 6 = .ok (.i2l, 1) := by decide +kernel
theorem dL_join_7 : decode cL_join 7 = .ok (.lastore, 1) := by decide +kernel
theorem dL_join_8 : decode cL_join 8 = .ok (.goto 6, 3) := by decide +kernel
theorem dL_join_11 : decode cL_join 11 = .ok (.astore_n 2, 1) := by decide +kernel
theorem dL_join_12 : decode cL_join 12 = .ok (.iconst 1, 1) := by decide +kernel
theorem dL_join_13 : decode cL_join 13 = .ok (.ireturn, 1) := by decide +kernel
theorem dL_join_14 : decode cL_join 14 = .ok (.iconst 0, 1) := by decide +kernel
theorem dL_join_15 : decode cL_join 15 = .ok (.ireturn, 1) := by decide +kernel
set_option maxRecDepth 20000 in
theorem ggL_spill_X0_spill : GoodIn wsL_spill wsX0_spill := goodIn_ca (goodIn_ca (goodIn_ca (goodIn_r _ [8, 9, 10, 11, 12, 13, 7, 14, 15, 16, 17, 18, 19, 20, 21, 22, 23, 24, 25, 26, 27, 28, 29, 30, 31, 32, 33, 34, 35, 36, 37, 38, 39, 40, 41, 42, 43, 44, 45, 46, 47, 48, 49, 50] (by decide +kernel) (by decide +kernel)) (goodIn_sub (fun _ h => List.mem_cons_of_mem _ (List.mem_append_left _ (List.mem_append_left _ (List.mem_append_right _ h)))) (by decide +kernel))) (goodIn_sub (fun _ h => List.mem_cons_of_mem _ (List.mem_append_left _ (List.mem_append_right _ h))) (by decide +kernel))) (goodIn_sub (fun _ h => List.mem_cons_of_mem _ (List.mem_append_right _ h)) (by decide +kernel))
set_option maxRecDepth 20000 in
theorem gL_spill_X0_spill : GoodIn wsL_spill (wsV RL 15 RX0 yX0_spill wsX0_spill) := goodIn_app (goodIn_of _ (by decide +kernel)) ggL_spill_X0_spill
theorem dL_spill_0 : decode cL_spill 0 = .ok (.aload_n 3, 1) := by decide +kernel
theorem dL_spill_1 : decode cL_spill 1 = .ok (.iconst 0, 1) := by decide +kernel
theorem dL_spill_2 : decode cL_spill 2 = .ok (.aload_n 0, 1) := by decide +kernel
theorem dL_spill_3 : decode cL_spill 3 = .ok (.iload_n 1, 1) := by decide +kernel
theorem dL_spill_4 : decode cL_spill 4 = .ok (.iload_n 2, 1) := by decide +kernel
theorem dL_spill_5 : decode cL_spill 5 = .ok (.invokevirtual 15, 3) := by decide +kernel
theorem dL_spill_8 : decode cL_spill 8 = .ok (.i2l, 1) := by decide +kernel
theorem dL_spill_9 : decode cL_spill 9 = .ok (.lastore, 1) := by decide +kernel
theorem dL_spill_10 : decode cL_spill 10 = .ok (.goto 15, 3) := by decide +kernel
theorem dL_spill_13 : decode cL_spill 13 = .ok (.astore 4, 2) := by decide +kernel
theorem dL_spill_15 : decode cL_spill 15 = .ok (.iconst 1, 1) := by decide +kernel
theorem dL_spill_16 : decode cL_spill 16 = .ok (.ireturn, 1) := by decide +kernel
theorem dL_spill_17 : decode cL_spill 17 = .ok (.astore 4, 2) := by decide +kernel
theorem dL_spill_19 : decode cL_spill 19 = .ok (.iconst 2, 1) := by decide +kernel
theorem dL_spill_20 : decode cL_spill 20 = .ok (.ireturn, 1) := by decide +kernel
theorem dL_spill_21 : decode cL_spill 21 = .ok (.astore 4, 2) := by decide +kernel
theorem dL_spill_23 : decode cL_spill 23 = .ok (.iconst 3, 1) := by decide +kernel
theorem dL_spill_24 : decode cL_spill 24 = .ok (.ireturn, 1) := by decide +kernel
theorem dL_spill_25 : decode cL_spill 25 = .ok (.iconst 0, 1) := by decide +kernel
theorem dL_spill_26 : decode cL_spill 26 = .ok (.ireturn, 1) := by decide +kernel
set_option maxRecDepth 20000 in
theorem ggL_throwSalt_X0_throwSalt : GoodIn wsL_throwSalt wsX0_throwSalt := goodIn_ca (goodIn_ca (goodIn_ca (goodIn_r _ [8, 9, 10, 11, 12, 7, 13, 14, 15, 16, 17, 18, 19, 20, 21, 22, 23, 24, 25, 26, 27, 28, 29, 30, 31, 32, 33, 34, 35, 36, 37, 38, 39, 40, 41, 42, 43, 44, 45, 46, 47, 48, 49, 50, 51, 52, 53, 54, 55, 56, 57, 58, 59, 60, 61, 62, 63, 64, 65, 66, 67, 68, 69, 70] (by decide +kernel) (by decide +kernel)) (goodIn_sub (fun _ h => List.mem_cons_of_mem _ (List.mem_append_left _ (List.mem_append_left _ (List.mem_append_right _ h)))) (by decide +kernel))) (goodIn_sub (fun _ h => List.mem_cons_of_mem _ (List.mem_append_left _ (List.mem_append_right _ h))) (by decide +kernel))) (goodIn_sub (fun _ h => List.mem_cons_of_mem _ (List.mem_append_right _ h)) (by decide +kernel))
set_option maxRecDepth 20000 in
theorem gL_throwSalt_X0_throwSalt : GoodIn wsL_throwSalt (wsV RL 23 RX0 yX0_throwSalt wsX0_throwSalt) := goodIn_app (goodIn_of _ (by decide +kernel)) ggL_throwSalt_X0_throwSalt
theorem dL_throwSalt_0 : decode cL_throwSalt 0 = .ok (.aload 4, 2) := by decide +kernel
theorem dL_throwSalt_2 : decode cL_throwSalt 2 = .ok (.iconst 0, 1) := by decide +kernel
theorem dL_throwSalt_3 : decode cL_throwSalt 3 = .ok (.aload_n 0, 1) := by decide +kernel
theorem dL_throwSalt_4 : decode cL_throwSalt 4 = .ok (.iload_n 1, 1) := by decide +kernel
theorem dL_throwSalt_5 : decode cL_throwSalt 5 = .ok (.iload_n 2, 1) := by decide +kernel
theorem dL_throwSalt_6 : decode cL_throwSalt 6 = .ok (.iload_n 3, 1) := by decide +kernel
theorem dL_throwSalt_7 : decode cL_throwSalt 7 = .ok (.invokevirtual 23, 3) := by decide +kernel
theorem dL_throwSalt_10 : decode cL_throwSalt 10 = .ok (.i2l, 1) := by decide +kernel
theorem dL_throwSalt_11 : decode cL_throwSalt 11 = .ok (.lastore, 1) := by decide +kernel
theorem dL_throwSalt_12 : decode cL_throwSalt 12 = .ok (.goto 15, 3) := by decide +kernel
theorem dL_throwSalt_15 : decode cL_throwSalt 15 = .ok (.astore 5, 2) := by decide +kernel
theorem dL_throwSalt_17 : decode cL_throwSalt 17 = .ok (.iconst 1, 1) := by decide +kernel
theorem dL_throwSalt_18 : decode cL_throwSalt 18 = .ok (.ireturn, 1) := by decide +kernel
theorem dL_throwSalt_19 : decode cL_throwSalt 19 = .ok (.astore 5, 2) := by decide +kernel
theorem dL_throwSalt_21 : decode cL_throwSalt 21 = .ok (.iconst 2, 1) := by decide +kernel
theorem dL_throwSalt_22 : decode cL_throwSalt 22 = .ok (.ireturn, 1) := by decide +kernel
theorem dL_throwSalt_23 : decode cL_throwSalt 23 = .ok (.astore 5, 2) := by decide +kernel
theorem dL_throwSalt_25 : decode cL_throwSalt 25 = .ok (.iconst 3, 1) := by decide +kernel
theorem dL_throwSalt_26 : decode cL_throwSalt 26 = .ok (.ireturn, 1) := by decide +kernel
theorem dL_throwSalt_27 : decode cL_throwSalt 27 = .ok (.iconst 0, 1) := by decide +kernel
theorem dL_throwSalt_28 : decode cL_throwSalt 28 = .ok (.ireturn, 1) := by decide +kernel
set_option maxRecDepth 20000 in
theorem ggL_doPenance_X0_doPenance : GoodIn wsL_doPenance wsX0_doPenance := goodIn_ca (goodIn_ca (goodIn_r _ [7, 8, 9, 10, 11, 6, 12, 13, 14, 15, 16, 17, 18, 19, 20, 21, 22, 23, 24, 25, 26, 27, 28, 29, 30, 31, 32, 33, 34, 35, 36, 37, 38, 39, 40, 41, 42] (by decide +kernel) (by decide +kernel)) (goodIn_sub (fun _ h => List.mem_cons_of_mem _ (List.mem_append_left _ (List.mem_append_right _ h))) (by decide +kernel))) (goodIn_sub (fun _ h => List.mem_cons_of_mem _ (List.mem_append_right _ h)) (by decide +kernel))
set_option maxRecDepth 20000 in
theorem gL_doPenance_X0_doPenance : GoodIn wsL_doPenance (wsV RL 27 RX0 yX0_doPenance wsX0_doPenance) := goodIn_app (goodIn_of _ (by decide +kernel)) ggL_doPenance_X0_doPenance
theorem dL_doPenance_0 : decode cL_doPenance 0 = .ok (.aload_n 3, 1) := by decide +kernel
theorem dL_doPenance_1 : decode cL_doPenance 1 = .ok (.iconst 0, 1) := by decide +kernel
theorem dL_doPenance_2 : decode cL_doPenance 2 = .ok (.aload_n 0, 1) := by decide +kernel
theorem dL_doPenance_3 : decode cL_doPenance 3 = .ok (.iload_n 1, 1) := by decide +kernel
theorem dL_doPenance_4 : decode cL_doPenance 4 = .ok (.iload_n 2, 1) := by decide +kernel
theorem dL_doPenance_5 : decode cL_doPenance 5 = .ok (.invokevirtual 27, 3) := by decide +kernel
theorem dL_doPenance_8 : decode cL_doPenance 8 = .ok (.i2l, 1) := by decide +kernel
theorem dL_doPenance_9 : decode cL_doPenance 9 = .ok (.lastore, 1) := by decide +kernel
theorem dL_doPenance_10 : decode cL_doPenance 10 = .ok (.goto 11, 3) := by decide +kernel
theorem dL_doPenance_13 : decode cL_doPenance 13 = .ok (.astore 4, 2) := by decide +kernel
theorem dL_doPenance_15 : decode cL_doPenance 15 = .ok (.iconst 1, 1) := by decide +kernel
theorem dL_doPenance_16 : decode cL_doPenance 16 = .ok (.ireturn, 1) := by decide +kernel
theorem dL_doPenance_17 : decode cL_doPenance 17 = .ok (.astore 4, 2) := by decide +kernel
theorem dL_doPenance_19 : decode cL_doPenance 19 = .ok (.iconst 2, 1) := by decide +kernel
theorem dL_doPenance_20 : decode cL_doPenance 20 = .ok (.ireturn, 1) := by decide +kernel
theorem dL_doPenance_21 : decode cL_doPenance 21 = .ok (.iconst 0, 1) := by decide +kernel
theorem dL_doPenance_22 : decode cL_doPenance 22 = .ok (.ireturn, 1) := by decide +kernel
set_option maxRecDepth 20000 in
theorem ggL_bringSalt_X0_bringSalt : GoodIn wsL_bringSalt wsX0_bringSalt := goodIn_ca (goodIn_r _ [6, 7, 8, 9, 10, 11, 12, 13, 5, 14, 15, 16, 17, 18, 19, 20, 21, 22, 23, 24, 25, 26, 27, 28, 29, 30] (by decide +kernel) (by decide +kernel)) (goodIn_sub (fun _ h => List.mem_cons_of_mem _ (List.mem_append_right _ h)) (by decide +kernel))
set_option maxRecDepth 20000 in
theorem gL_bringSalt_X0_bringSalt : GoodIn wsL_bringSalt (wsV RL 30 RX0 yX0_bringSalt wsX0_bringSalt) := goodIn_app (goodIn_of _ (by decide +kernel)) ggL_bringSalt_X0_bringSalt
theorem dL_bringSalt_0 : decode cL_bringSalt 0 = .ok (.aload_n 2, 1) := by decide +kernel
theorem dL_bringSalt_1 : decode cL_bringSalt 1 = .ok (.iconst 0, 1) := by decide +kernel
theorem dL_bringSalt_2 : decode cL_bringSalt 2 = .ok (.aload_n 0, 1) := by decide +kernel
theorem dL_bringSalt_3 : decode cL_bringSalt 3 = .ok (.iload_n 1, 1) := by decide +kernel
theorem dL_bringSalt_4 : decode cL_bringSalt 4 = .ok (.invokevirtual 30, 3) := by decide +kernel
theorem dL_bringSalt_7 : decode cL_bringSalt 7 = .ok (.i2l, 1) := by decide +kernel
theorem dL_bringSalt_8 : decode cL_bringSalt 8 = .ok (.lastore, 1) := by decide +kernel
theorem dL_bringSalt_9 : decode cL_bringSalt 9 = .ok (.goto 6, 3) := by decide +kernel
theorem dL_bringSalt_12 : decode cL_bringSalt 12 = .ok (.astore_n 3, 1) := by decide +kernel
theorem dL_bringSalt_13 : decode cL_bringSalt 13 = .ok (.iconst 1, 1) := by decide +kernel
theorem dL_bringSalt_14 : decode cL_bringSalt 14 = .ok (.ireturn, 1) := by decide +kernel
theorem dL_bringSalt_15 : decode cL_bringSalt 15 = .ok (.iconst 0, 1) := by decide +kernel
theorem dL_bringSalt_16 : decode cL_bringSalt 16 = .ok (.ireturn, 1) := by decide +kernel
set_option maxRecDepth 20000 in
theorem ggL_pass_X0_pass : GoodIn wsL_pass wsX0_pass := goodIn_ca (goodIn_r _ [6, 7, 8, 5, 9, 10, 11, 12, 13, 14, 15, 16, 17, 18, 19, 20, 21, 22, 23, 24, 25, 26, 27, 28, 29, 30, 31, 32, 33, 34, 35, 36, 37, 38, 39, 40, 41, 42, 43, 44, 45, 46, 47, 48, 49, 50, 51, 52, 53, 54, 55, 56, 57, 58, 59, 60, 61, 62, 63, 64, 65, 66, 67, 68, 69, 70, 71, 72, 73, 74, 75, 76] (by decide +kernel) (by decide +kernel)) (goodIn_sub (fun _ h => List.mem_cons_of_mem _ (List.mem_append_right _ h)) (by decide +kernel))
set_option maxRecDepth 20000 in
theorem gL_pass_X0_pass : GoodIn wsL_pass (wsV RL 34 RX0 yX0_pass wsX0_pass) := goodIn_app (goodIn_of _ (by decide +kernel)) ggL_pass_X0_pass
theorem dL_pass_0 : decode cL_pass 0 = .ok (.aload_n 2, 1) := by decide +kernel
theorem dL_pass_1 : decode cL_pass 1 = .ok (.iconst 0, 1) := by decide +kernel
theorem dL_pass_2 : decode cL_pass 2 = .ok (.aload_n 0, 1) := by decide +kernel
theorem dL_pass_3 : decode cL_pass 3 = .ok (.iload_n 1, 1) := by decide +kernel
theorem dL_pass_4 : decode cL_pass 4 = .ok (.invokevirtual 34, 3) := by decide +kernel
theorem dL_pass_7 : decode cL_pass 7 = .ok (.i2l, 1) := by decide +kernel
theorem dL_pass_8 : decode cL_pass 8 = .ok (.lastore, 1) := by decide +kernel
theorem dL_pass_9 : decode cL_pass 9 = .ok (.goto 6, 3) := by decide +kernel
theorem dL_pass_12 : decode cL_pass 12 = .ok (.astore_n 3, 1) := by decide +kernel
theorem dL_pass_13 : decode cL_pass 13 = .ok (.iconst 1, 1) := by decide +kernel
theorem dL_pass_14 : decode cL_pass 14 = .ok (.ireturn, 1) := by decide +kernel
theorem dL_pass_15 : decode cL_pass 15 = .ok (.iconst 0, 1) := by decide +kernel
theorem dL_pass_16 : decode cL_pass 16 = .ok (.ireturn, 1) := by decide +kernel
set_option maxRecDepth 20000 in
theorem ggL_luckOf_X0_luckOf : GoodIn wsL_luckOf wsX0_luckOf := goodIn_ca (goodIn_r _ [6, 7, 8, 9, 10, 5, 11, 12, 13, 14, 15, 16, 17, 18, 19, 20, 21, 22, 23, 24, 25, 26, 27, 28] (by decide +kernel) (by decide +kernel)) (goodIn_sub (fun _ h => List.mem_cons_of_mem _ (List.mem_append_right _ h)) (by decide +kernel))
set_option maxRecDepth 20000 in
theorem gL_luckOf_X0_luckOf : GoodIn wsL_luckOf (wsV RL 37 RX0 yX0_luckOf wsX0_luckOf) := goodIn_app (goodIn_of _ (by decide +kernel)) ggL_luckOf_X0_luckOf
theorem dL_luckOf_0 : decode cL_luckOf 0 = .ok (.aload_n 2, 1) := by decide +kernel
theorem dL_luckOf_1 : decode cL_luckOf 1 = .ok (.iconst 0, 1) := by decide +kernel
theorem dL_luckOf_2 : decode cL_luckOf 2 = .ok (.aload_n 0, 1) := by decide +kernel
theorem dL_luckOf_3 : decode cL_luckOf 3 = .ok (.iload_n 1, 1) := by decide +kernel
theorem dL_luckOf_4 : decode cL_luckOf 4 = .ok (.invokevirtual 37, 3) := by decide +kernel
theorem dL_luckOf_7 : decode cL_luckOf 7 = .ok (.i2l, 1) := by decide +kernel
theorem dL_luckOf_8 : decode cL_luckOf 8 = .ok (.lastore, 1) := by decide +kernel
theorem dL_luckOf_9 : decode cL_luckOf 9 = .ok (.goto 6, 3) := by decide +kernel
theorem dL_luckOf_12 : decode cL_luckOf 12 = .ok (.astore_n 3, 1) := by decide +kernel
theorem dL_luckOf_13 : decode cL_luckOf 13 = .ok (.iconst 1, 1) := by decide +kernel
theorem dL_luckOf_14 : decode cL_luckOf 14 = .ok (.ireturn, 1) := by decide +kernel
theorem dL_luckOf_15 : decode cL_luckOf 15 = .ok (.iconst 0, 1) := by decide +kernel
theorem dL_luckOf_16 : decode cL_luckOf 16 = .ok (.ireturn, 1) := by decide +kernel
set_option maxRecDepth 20000 in
theorem ggL_arrearsOf_X0_arrearsOf : GoodIn wsL_arrearsOf wsX0_arrearsOf := goodIn_ca (goodIn_r _ [6, 7, 8, 9, 10, 5, 11, 12, 13, 14, 15, 16, 17, 18, 19, 20, 21, 22, 23, 24, 25, 26, 27, 28] (by decide +kernel) (by decide +kernel)) (goodIn_sub (fun _ h => List.mem_cons_of_mem _ (List.mem_append_right _ h)) (by decide +kernel))
set_option maxRecDepth 20000 in
theorem gL_arrearsOf_X0_arrearsOf : GoodIn wsL_arrearsOf (wsV RL 40 RX0 yX0_arrearsOf wsX0_arrearsOf) := goodIn_app (goodIn_of _ (by decide +kernel)) ggL_arrearsOf_X0_arrearsOf
theorem dL_arrearsOf_0 : decode cL_arrearsOf 0 = .ok (.aload_n 2, 1) := by decide +kernel
theorem dL_arrearsOf_1 : decode cL_arrearsOf 1 = .ok (.iconst 0, 1) := by decide +kernel
theorem dL_arrearsOf_2 : decode cL_arrearsOf 2 = .ok (.aload_n 0, 1) := by decide +kernel
theorem dL_arrearsOf_3 : decode cL_arrearsOf 3 = .ok (.iload_n 1, 1) := by decide +kernel
theorem dL_arrearsOf_4 : decode cL_arrearsOf 4 = .ok (.invokevirtual 40, 3) := by decide +kernel
theorem dL_arrearsOf_7 : decode cL_arrearsOf 7 = .ok (.i2l, 1) := by decide +kernel
theorem dL_arrearsOf_8 : decode cL_arrearsOf 8 = .ok (.lastore, 1) := by decide +kernel
theorem dL_arrearsOf_9 : decode cL_arrearsOf 9 = .ok (.goto 6, 3) := by decide +kernel
theorem dL_arrearsOf_12 : decode cL_arrearsOf 12 = .ok (.astore_n 3, 1) := by decide +kernel
theorem dL_arrearsOf_13 : decode cL_arrearsOf 13 = .ok (.iconst 1, 1) := by decide +kernel
theorem dL_arrearsOf_14 : decode cL_arrearsOf 14 = .ok (.ireturn, 1) := by decide +kernel
theorem dL_arrearsOf_15 : decode cL_arrearsOf 15 = .ok (.iconst 0, 1) := by decide +kernel
theorem dL_arrearsOf_16 : decode cL_arrearsOf 16 = .ok (.ireturn, 1) := by decide +kernel
set_option maxRecDepth 20000 in
theorem ggL_lumpsOf_X0_lumpsOf : GoodIn wsL_lumpsOf wsX0_lumpsOf := goodIn_ca (goodIn_r _ [6, 7, 8, 9, 10, 5, 11, 12, 13, 14, 15, 16, 17, 18, 19, 20, 21, 22, 23, 24, 25, 26, 27, 28] (by decide +kernel) (by decide +kernel)) (goodIn_sub (fun _ h => List.mem_cons_of_mem _ (List.mem_append_right _ h)) (by decide +kernel))
set_option maxRecDepth 20000 in
theorem gL_lumpsOf_X0_lumpsOf : GoodIn wsL_lumpsOf (wsV RL 43 RX0 yX0_lumpsOf wsX0_lumpsOf) := goodIn_app (goodIn_of _ (by decide +kernel)) ggL_lumpsOf_X0_lumpsOf
theorem dL_lumpsOf_0 : decode cL_lumpsOf 0 = .ok (.aload_n 2, 1) := by decide +kernel
theorem dL_lumpsOf_1 : decode cL_lumpsOf 1 = .ok (.iconst 0, 1) := by decide +kernel
theorem dL_lumpsOf_2 : decode cL_lumpsOf 2 = .ok (.aload_n 0, 1) := by decide +kernel
theorem dL_lumpsOf_3 : decode cL_lumpsOf 3 = .ok (.iload_n 1, 1) := by decide +kernel
theorem dL_lumpsOf_4 : decode cL_lumpsOf 4 = .ok (.invokevirtual 43, 3) := by decide +kernel
theorem dL_lumpsOf_7 : decode cL_lumpsOf 7 = .ok (.i2l, 1) := by decide +kernel
theorem dL_lumpsOf_8 : decode cL_lumpsOf 8 = .ok (.lastore, 1) := by decide +kernel
theorem dL_lumpsOf_9 : decode cL_lumpsOf 9 = .ok (.goto 6, 3) := by decide +kernel
theorem dL_lumpsOf_12 : decode cL_lumpsOf 12 = .ok (.astore_n 3, 1) := by decide +kernel
theorem dL_lumpsOf_13 : decode cL_lumpsOf 13 = .ok (.iconst 1, 1) := by decide +kernel
theorem dL_lumpsOf_14 : decode cL_lumpsOf 14 = .ok (.ireturn, 1) := by decide +kernel
theorem dL_lumpsOf_15 : decode cL_lumpsOf 15 = .ok (.iconst 0, 1) := by decide +kernel
theorem dL_lumpsOf_16 : decode cL_lumpsOf 16 = .ok (.ireturn, 1) := by decide +kernel
set_option maxRecDepth 20000 in
theorem ggL_dailyLoss_X0_dailyLoss : GoodIn wsL_dailyLoss wsX0_dailyLoss := goodIn_ca (goodIn_r _ [6, 7, 8, 9, 5, 10, 11, 12, 13, 14, 15, 16, 17, 18, 19, 20, 21, 22, 23, 24, 25, 26, 27, 28, 29, 30, 31, 32, 33] (by decide +kernel) (by decide +kernel)) (goodIn_sub (fun _ h => List.mem_cons_of_mem _ (List.mem_append_right _ h)) (by decide +kernel))
set_option maxRecDepth 20000 in
theorem gL_dailyLoss_X0_dailyLoss : GoodIn wsL_dailyLoss (wsV RL 46 RX0 yX0_dailyLoss wsX0_dailyLoss) := goodIn_app (goodIn_of _ (by decide +kernel)) ggL_dailyLoss_X0_dailyLoss
theorem dL_dailyLoss_0 : decode cL_dailyLoss 0 = .ok (.aload_n 2, 1) := by decide +kernel
theorem dL_dailyLoss_1 : decode cL_dailyLoss 1 = .ok (.iconst 0, 1) := by decide +kernel
theorem dL_dailyLoss_2 : decode cL_dailyLoss 2 = .ok (.aload_n 0, 1) := by decide +kernel
theorem dL_dailyLoss_3 : decode cL_dailyLoss 3 = .ok (.iload_n 1, 1) := by decide +kernel
theorem dL_dailyLoss_4 : decode cL_dailyLoss 4 = .ok (.invokevirtual 46, 3) := by decide +kernel
theorem dL_dailyLoss_7 : decode cL_dailyLoss 7 = .ok (.i2l, 1) := by decide +kernel
theorem dL_dailyLoss_8 : decode cL_dailyLoss 8 = .ok (.lastore, 1) := by decide +kernel
theorem dL_dailyLoss_9 : decode cL_dailyLoss 9 = .ok (.goto 6, 3) := by decide +kernel
theorem dL_dailyLoss_12 : decode cL_dailyLoss 12 = .ok (.astore_n 3, 1) := by decide +kernel
theorem dL_dailyLoss_13 : decode cL_dailyLoss 13 = .ok (.iconst 1, 1) := by decide +kernel
theorem dL_dailyLoss_14 : decode cL_dailyLoss 14 = .ok (.ireturn, 1) := by decide +kernel
theorem dL_dailyLoss_15 : decode cL_dailyLoss 15 = .ok (.iconst 0, 1) := by decide +kernel
theorem dL_dailyLoss_16 : decode cL_dailyLoss 16 = .ok (.ireturn, 1) := by decide +kernel
set_option maxRecDepth 20000 in
theorem ggL_memberOf_X0_memberOf : GoodIn wsL_memberOf wsX0_memberOf := goodIn_ca (goodIn_r _ [6, 7, 8, 9, 10, 5, 11, 12, 13, 14, 15, 16, 17, 18, 19, 20, 21, 22, 23, 24, 25, 26, 27, 28] (by decide +kernel) (by decide +kernel)) (goodIn_sub (fun _ h => List.mem_cons_of_mem _ (List.mem_append_right _ h)) (by decide +kernel))
set_option maxRecDepth 20000 in
theorem gL_memberOf_X0_memberOf : GoodIn wsL_memberOf (wsV RL 49 RX0 yX0_memberOf wsX0_memberOf) := goodIn_app (goodIn_of _ (by decide +kernel)) ggL_memberOf_X0_memberOf
theorem dL_memberOf_0 : decode cL_memberOf 0 = .ok (.aload_n 2, 1) := by decide +kernel
theorem dL_memberOf_1 : decode cL_memberOf 1 = .ok (.iconst 0, 1) := by decide +kernel
theorem dL_memberOf_2 : decode cL_memberOf 2 = .ok (.aload_n 0, 1) := by decide +kernel
theorem dL_memberOf_3 : decode cL_memberOf 3 = .ok (.iload_n 1, 1) := by decide +kernel
theorem dL_memberOf_4 : decode cL_memberOf 4 = .ok (.invokevirtual 49, 3) := by decide +kernel
theorem dL_memberOf_7 : decode cL_memberOf 7 = .ok (.i2l, 1) := by decide +kernel
theorem dL_memberOf_8 : decode cL_memberOf 8 = .ok (.lastore, 1) := by decide +kernel
theorem dL_memberOf_9 : decode cL_memberOf 9 = .ok (.goto 6, 3) := by decide +kernel
theorem dL_memberOf_12 : decode cL_memberOf 12 = .ok (.astore_n 3, 1) := by decide +kernel
theorem dL_memberOf_13 : decode cL_memberOf 13 = .ok (.iconst 1, 1) := by decide +kernel
theorem dL_memberOf_14 : decode cL_memberOf 14 = .ok (.ireturn, 1) := by decide +kernel
theorem dL_memberOf_15 : decode cL_memberOf 15 = .ok (.iconst 0, 1) := by decide +kernel
theorem dL_memberOf_16 : decode cL_memberOf 16 = .ok (.ireturn, 1) := by decide +kernel
set_option maxRecDepth 20000 in
theorem ggL_isLeft_X0_isLeft : GoodIn wsL_isLeft wsX0_isLeft := goodIn_ca (goodIn_r _ [6, 7, 8, 9, 10, 5, 11, 12, 13, 14, 15, 16, 17, 18, 19, 20, 21, 22, 23, 24, 25, 26, 27, 28] (by decide +kernel) (by decide +kernel)) (goodIn_sub (fun _ h => List.mem_cons_of_mem _ (List.mem_append_right _ h)) (by decide +kernel))
set_option maxRecDepth 20000 in
theorem gL_isLeft_X0_isLeft : GoodIn wsL_isLeft (wsV RL 52 RX0 yX0_isLeft wsX0_isLeft) := goodIn_app (goodIn_of _ (by decide +kernel)) ggL_isLeft_X0_isLeft
theorem dL_isLeft_0 : decode cL_isLeft 0 = .ok (.aload_n 2, 1) := by decide +kernel
theorem dL_isLeft_1 : decode cL_isLeft 1 = .ok (.iconst 0, 1) := by decide +kernel
theorem dL_isLeft_2 : decode cL_isLeft 2 = .ok (.aload_n 0, 1) := by decide +kernel
theorem dL_isLeft_3 : decode cL_isLeft 3 = .ok (.iload_n 1, 1) := by decide +kernel
theorem dL_isLeft_4 : decode cL_isLeft 4 = .ok (.invokevirtual 52, 3) := by decide +kernel
theorem dL_isLeft_7 : decode cL_isLeft 7 = .ok (.ifCond .eq 7, 3) := by decide +kernel
theorem dL_isLeft_10 : decode cL_isLeft 10 = .ok (.lconst 1, 1) := by decide +kernel
theorem dL_isLeft_11 : decode cL_isLeft 11 = .ok (.goto 4, 3) := by decide +kernel
theorem dL_isLeft_14 : decode cL_isLeft 14 = .ok (.lconst 0, 1) := by decide +kernel
theorem dL_isLeft_15 : decode cL_isLeft 15 = .ok (.lastore, 1) := by decide +kernel
theorem dL_isLeft_16 : decode cL_isLeft 16 = .ok (.goto 6, 3) := by decide +kernel
theorem dL_isLeft_19 : decode cL_isLeft 19 = .ok (.astore_n 3, 1) := by decide +kernel
theorem dL_isLeft_20 : decode cL_isLeft 20 = .ok (.iconst 1, 1) := by decide +kernel
theorem dL_isLeft_21 : decode cL_isLeft 21 = .ok (.ireturn, 1) := by decide +kernel
theorem dL_isLeft_22 : decode cL_isLeft 22 = .ok (.iconst 0, 1) := by decide +kernel
theorem dL_isLeft_23 : decode cL_isLeft 23 = .ok (.ireturn, 1) := by decide +kernel
set_option maxRecDepth 20000 in
theorem ggL_grainsOf_X0_grainsOf : GoodIn wsL_grainsOf wsX0_grainsOf := goodIn_ca (goodIn_r _ [6, 7, 8, 9, 10, 5, 11, 12, 13, 14, 15, 16, 17, 18, 19, 20, 21, 22, 23, 24, 25, 26, 27, 28] (by decide +kernel) (by decide +kernel)) (goodIn_sub (fun _ h => List.mem_cons_of_mem _ (List.mem_append_right _ h)) (by decide +kernel))
set_option maxRecDepth 20000 in
theorem gL_grainsOf_X0_grainsOf : GoodIn wsL_grainsOf (wsV RL 56 RX0 yX0_grainsOf wsX0_grainsOf) := goodIn_app (goodIn_of _ (by decide +kernel)) ggL_grainsOf_X0_grainsOf
theorem dL_grainsOf_0 : decode cL_grainsOf 0 = .ok (.aload_n 2, 1) := by decide +kernel
theorem dL_grainsOf_1 : decode cL_grainsOf 1 = .ok (.iconst 0, 1) := by decide +kernel
theorem dL_grainsOf_2 : decode cL_grainsOf 2 = .ok (.aload_n 0, 1) := by decide +kernel
theorem dL_grainsOf_3 : decode cL_grainsOf 3 = .ok (.iload_n 1, 1) := by decide +kernel
theorem dL_grainsOf_4 : decode cL_grainsOf 4 = .ok (.invokevirtual 56, 3) := by decide +kernel
theorem dL_grainsOf_7 : decode cL_grainsOf 7 = .ok (.i2l, 1) := by decide +kernel
theorem dL_grainsOf_8 : decode cL_grainsOf 8 = .ok (.lastore, 1) := by decide +kernel
theorem dL_grainsOf_9 : decode cL_grainsOf 9 = .ok (.goto 6, 3) := by decide +kernel
theorem dL_grainsOf_12 : decode cL_grainsOf 12 = .ok (.astore_n 3, 1) := by decide +kernel
theorem dL_grainsOf_13 : decode cL_grainsOf 13 = .ok (.iconst 1, 1) := by decide +kernel
theorem dL_grainsOf_14 : decode cL_grainsOf 14 = .ok (.ireturn, 1) := by decide +kernel
theorem dL_grainsOf_15 : decode cL_grainsOf 15 = .ok (.iconst 0, 1) := by decide +kernel
theorem dL_grainsOf_16 : decode cL_grainsOf 16 = .ok (.ireturn, 1) := by decide +kernel
set_option maxRecDepth 20000 in
theorem ggL_excessOf_X0_excessOf : GoodIn wsL_excessOf wsX0_excessOf := goodIn_ca (goodIn_r _ [6, 7, 8, 9, 10, 5, 11, 12, 13, 14, 15, 16, 17, 18, 19, 20, 21, 22, 23, 24, 25, 26, 27, 28] (by decide +kernel) (by decide +kernel)) (goodIn_sub (fun _ h => List.mem_cons_of_mem _ (List.mem_append_right _ h)) (by decide +kernel))
set_option maxRecDepth 20000 in
theorem gL_excessOf_X0_excessOf : GoodIn wsL_excessOf (wsV RL 59 RX0 yX0_excessOf wsX0_excessOf) := goodIn_app (goodIn_of _ (by decide +kernel)) ggL_excessOf_X0_excessOf
theorem dL_excessOf_0 : decode cL_excessOf 0 = .ok (.aload_n 2, 1) := by decide +kernel
theorem dL_excessOf_1 : decode cL_excessOf 1 = .ok (.iconst 0, 1) := by decide +kernel
theorem dL_excessOf_2 : decode cL_excessOf 2 = .ok (.aload_n 0, 1) := by decide +kernel
theorem dL_excessOf_3 : decode cL_excessOf 3 = .ok (.iload_n 1, 1) := by decide +kernel
theorem dL_excessOf_4 : decode cL_excessOf 4 = .ok (.invokevirtual 59, 3) := by decide +kernel
theorem dL_excessOf_7 : decode cL_excessOf 7 = .ok (.i2l, 1) := by decide +kernel
theorem dL_excessOf_8 : decode cL_excessOf 8 = .ok (.lastore, 1) := by decide +kernel
theorem dL_excessOf_9 : decode cL_excessOf 9 = .ok (.goto 6, 3) := by decide +kernel
theorem dL_excessOf_12 : decode cL_excessOf 12 = .ok (.astore_n 3, 1) := by decide +kernel
theorem dL_excessOf_13 : decode cL_excessOf 13 = .ok (.iconst 1, 1) := by decide +kernel
theorem dL_excessOf_14 : decode cL_excessOf 14 = .ok (.ireturn, 1) := by decide +kernel
theorem dL_excessOf_15 : decode cL_excessOf 15 = .ok (.iconst 0, 1) := by decide +kernel
theorem dL_excessOf_16 : decode cL_excessOf 16 = .ok (.ireturn, 1) := by decide +kernel
set_option maxRecDepth 20000 in
theorem ggL_arrearsByAudit_X0_arrearsByAudit : GoodIn wsL_arrearsByAudit wsX0_arrearsByAudit := goodIn_ca (goodIn_r _ [6, 7, 8, 9, 5, 10, 11, 12, 13, 14, 15, 16, 17, 18, 19, 20, 21, 22, 23, 24, 25, 26, 27, 28, 29, 30, 31, 32, 33, 34] (by decide +kernel) (by decide +kernel)) (goodIn_sub (fun _ h => List.mem_cons_of_mem _ (List.mem_append_right _ h)) (by decide +kernel))
set_option maxRecDepth 20000 in
theorem gL_arrearsByAudit_X0_arrearsByAudit : GoodIn wsL_arrearsByAudit (wsV RL 62 RX0 yX0_arrearsByAudit wsX0_arrearsByAudit) := goodIn_app (goodIn_of _ (by decide +kernel)) ggL_arrearsByAudit_X0_arrearsByAudit
theorem dL_arrearsByAudit_0 : decode cL_arrearsByAudit 0 = .ok (.aload_n 2, 1) := by decide +kernel
theorem dL_arrearsByAudit_1 : decode cL_arrearsByAudit 1 = .ok (.iconst 0, 1) := by decide +kernel
theorem dL_arrearsByAudit_2 : decode cL_arrearsByAudit 2 = .ok (.aload_n 0, 1) := by decide +kernel
theorem dL_arrearsByAudit_3 : decode cL_arrearsByAudit 3 = .ok (.iload_n 1, 1) := by decide +kernel
theorem dL_arrearsByAudit_4 : decode cL_arrearsByAudit 4 = .ok (.invokevirtual 62, 3) := by decide +kernel
theorem dL_arrearsByAudit_7 : decode cL_arrearsByAudit 7 = .ok (.i2l, 1) := by decide +kernel
theorem dL_arrearsByAudit_8 : decode cL_arrearsByAudit 8 = .ok (.lastore, 1) := by decide +kernel
theorem dL_arrearsByAudit_9 : decode cL_arrearsByAudit 9 = .ok (.goto 6, 3) := by decide +kernel
theorem dL_arrearsByAudit_12 : decode cL_arrearsByAudit 12 = .ok (.astore_n 3, 1) := by decide +kernel
theorem dL_arrearsByAudit_13 : decode cL_arrearsByAudit 13 = .ok (.iconst 1, 1) := by decide +kernel
theorem dL_arrearsByAudit_14 : decode cL_arrearsByAudit 14 = .ok (.ireturn, 1) := by decide +kernel
theorem dL_arrearsByAudit_15 : decode cL_arrearsByAudit 15 = .ok (.iconst 0, 1) := by decide +kernel
theorem dL_arrearsByAudit_16 : decode cL_arrearsByAudit 16 = .ok (.ireturn, 1) := by decide +kernel
set_option maxRecDepth 20000 in
theorem ggL_luckIn_X0_luckIn : GoodIn wsL_luckIn wsX0_luckIn := goodIn_ca (goodIn_ca (goodIn_r _ [7, 8, 9, 10, 6, 11, 12, 13, 14, 15, 16, 17, 18, 19, 20, 21, 22, 23, 24, 25, 26, 27, 28, 29, 30, 31, 32, 33, 34, 35, 36, 37, 38, 39, 40, 41, 42, 43, 44, 45, 46, 47, 48, 49, 50, 51, 52, 53, 54, 55, 56, 57, 58, 59, 60, 61, 62, 63, 64, 65, 66, 67, 68, 69, 70, 71, 72, 73, 74, 75, 76, 77, 78, 79, 80, 81, 82, 83, 84] (by decide +kernel) (by decide +kernel)) (goodIn_sub (fun _ h => List.mem_cons_of_mem _ (List.mem_append_left _ (List.mem_append_right _ h))) (by decide +kernel))) (goodIn_sub (fun _ h => List.mem_cons_of_mem _ (List.mem_append_right _ h)) (by decide +kernel))
set_option maxRecDepth 20000 in
theorem gL_luckIn_X0_luckIn : GoodIn wsL_luckIn (wsV RL 65 RX0 yX0_luckIn wsX0_luckIn) := goodIn_app (goodIn_of _ (by decide +kernel)) ggL_luckIn_X0_luckIn
theorem dL_luckIn_0 : decode cL_luckIn 0 = .ok (.aload_n 3, 1) := by decide +kernel
theorem dL_luckIn_1 : decode cL_luckIn 1 = .ok (.iconst 0, 1) := by decide +kernel
theorem dL_luckIn_2 : decode cL_luckIn 2 = .ok (.aload_n 0, 1) := by decide +kernel
theorem dL_luckIn_3 : decode cL_luckIn 3 = .ok (.iload_n 1, 1) := by decide +kernel
theorem dL_luckIn_4 : decode cL_luckIn 4 = .ok (.iload_n 2, 1) := by decide +kernel
theorem dL_luckIn_5 : decode cL_luckIn 5 = .ok (.invokevirtual 65, 3) := by decide +kernel
theorem dL_luckIn_8 : decode cL_luckIn 8 = .ok (.i2l, 1) := by decide +kernel
theorem dL_luckIn_9 : decode cL_luckIn 9 = .ok (.lastore, 1) := by decide +kernel
theorem dL_luckIn_10 : decode cL_luckIn 10 = .ok (.goto 11, 3) := by decide +kernel
theorem dL_luckIn_13 : decode cL_luckIn 13 = .ok (.astore 4, 2) := by decide +kernel
theorem dL_luckIn_15 : decode cL_luckIn 15 = .ok (.iconst 1, 1) := by decide +kernel
theorem dL_luckIn_16 : decode cL_luckIn 16 = .ok (.ireturn, 1) := by decide +kernel
theorem dL_luckIn_17 : decode cL_luckIn 17 = .ok (.astore 4, 2) := by decide +kernel
theorem dL_luckIn_19 : decode cL_luckIn 19 = .ok (.iconst 2, 1) := by decide +kernel
theorem dL_luckIn_20 : decode cL_luckIn 20 = .ok (.ireturn, 1) := by decide +kernel
theorem dL_luckIn_21 : decode cL_luckIn 21 = .ok (.iconst 0, 1) := by decide +kernel
theorem dL_luckIn_22 : decode cL_luckIn 22 = .ok (.ireturn, 1) := by decide +kernel
set_option maxRecDepth 20000 in
theorem ggL_daysUntilClear_X0_daysUntilClear : GoodIn wsL_daysUntilClear wsX0_daysUntilClear := goodIn_ca (goodIn_r _ [6, 7, 8, 9, 10, 5, 11, 12, 13, 14, 15, 16, 17, 18, 19, 20, 21, 22, 23, 24, 25, 26, 27, 28, 29, 30, 31, 32, 33, 34, 35, 36, 37, 38, 39, 40, 41, 42, 43, 44, 45, 46, 47, 48, 49, 50, 51, 52, 53, 54, 55, 56, 57, 58, 59, 60, 61, 62, 63, 64, 65, 66, 67, 68, 69, 70, 71, 72, 73, 74] (by decide +kernel) (by decide +kernel)) (goodIn_sub (fun _ h => List.mem_cons_of_mem _ (List.mem_append_right _ h)) (by decide +kernel))
set_option maxRecDepth 20000 in
theorem gL_daysUntilClear_X0_daysUntilClear : GoodIn wsL_daysUntilClear (wsV RL 68 RX0 yX0_daysUntilClear wsX0_daysUntilClear) := goodIn_app (goodIn_of _ (by decide +kernel)) ggL_daysUntilClear_X0_daysUntilClear
theorem dL_daysUntilClear_0 : decode cL_daysUntilClear 0 = .ok (.aload_n 2, 1) := by decide +kernel
theorem dL_daysUntilClear_1 : decode cL_daysUntilClear 1 = .ok (.iconst 0, 1) := by decide +kernel
theorem dL_daysUntilClear_2 : decode cL_daysUntilClear 2 = .ok (.aload_n 0, 1) := by decide +kernel
theorem dL_daysUntilClear_3 : decode cL_daysUntilClear 3 = .ok (.iload_n 1, 1) := by decide +kernel
theorem dL_daysUntilClear_4 : decode cL_daysUntilClear 4 = .ok (.invokevirtual 68, 3) := by decide +kernel
theorem dL_daysUntilClear_7 : decode cL_daysUntilClear 7 = .ok (.i2l, 1) := by decide +kernel
theorem dL_daysUntilClear_8 : decode cL_daysUntilClear 8 = .ok (.lastore, 1) := by decide +kernel
theorem dL_daysUntilClear_9 : decode cL_daysUntilClear 9 = .ok (.goto 6, 3) := by decide +kernel
theorem dL_daysUntilClear_12 : decode cL_daysUntilClear 12 = .ok (.astore_n 3, 1) := by decide +kernel
theorem dL_daysUntilClear_13 : decode cL_daysUntilClear 13 = .ok (.iconst 1, 1) := by decide +kernel
theorem dL_daysUntilClear_14 : decode cL_daysUntilClear 14 = .ok (.ireturn, 1) := by decide +kernel
theorem dL_daysUntilClear_15 : decode cL_daysUntilClear 15 = .ok (.iconst 0, 1) := by decide +kernel
theorem dL_daysUntilClear_16 : decode cL_daysUntilClear 16 = .ok (.ireturn, 1) := by decide +kernel
set_option maxRecDepth 20000 in
theorem ggL_daysUntilUnlucky_X0_daysUntilUnlucky : GoodIn wsL_daysUntilUnlucky wsX0_daysUntilUnlucky := goodIn_ca (goodIn_r _ [6, 7, 8, 9, 10, 5, 11, 12, 13, 14, 15, 16, 17, 18, 19, 20, 21, 22, 23, 24, 25, 26, 27, 28, 29, 30, 31, 32, 33, 34, 35, 36, 37, 38, 39, 40, 41, 42, 43, 44, 45, 46, 47, 48, 49, 50, 51, 52, 53, 54, 55, 56, 57, 58, 59, 60, 61, 62, 63, 64, 65, 66, 67, 68, 69, 70, 71, 72, 73, 74] (by decide +kernel) (by decide +kernel)) (goodIn_sub (fun _ h => List.mem_cons_of_mem _ (List.mem_append_right _ h)) (by decide +kernel))
set_option maxRecDepth 20000 in
theorem gL_daysUntilUnlucky_X0_daysUntilUnlucky : GoodIn wsL_daysUntilUnlucky (wsV RL 71 RX0 yX0_daysUntilUnlucky wsX0_daysUntilUnlucky) := goodIn_app (goodIn_of _ (by decide +kernel)) ggL_daysUntilUnlucky_X0_daysUntilUnlucky
theorem dL_daysUntilUnlucky_0 : decode cL_daysUntilUnlucky 0 = .ok (.aload_n 2, 1) := by decide +kernel
theorem dL_daysUntilUnlucky_1 : decode cL_daysUntilUnlucky 1 = .ok (.iconst 0, 1) := by decide +kernel
theorem dL_daysUntilUnlucky_2 : decode cL_daysUntilUnlucky 2 = .ok (.aload_n 0, 1) := by decide +kernel
theorem dL_daysUntilUnlucky_3 : decode cL_daysUntilUnlucky 3 = .ok (.iload_n 1, 1) := by decide +kernel
theorem dL_daysUntilUnlucky_4 : decode cL_daysUntilUnlucky 4 = .ok (.invokevirtual 71, 3) := by decide +kernel
theorem dL_daysUntilUnlucky_7 : decode cL_daysUntilUnlucky 7 = .ok (.i2l, 1) := by decide +kernel
theorem dL_daysUntilUnlucky_8 : decode cL_daysUntilUnlucky 8 = .ok (.lastore, 1) := by decide +kernel
theorem dL_daysUntilUnlucky_9 : decode cL_daysUntilUnlucky 9 = .ok (.goto 6, 3) := by decide +kernel
theorem dL_daysUntilUnlucky_12 : decode cL_daysUntilUnlucky 12 = .ok (.astore_n 3, 1) := by decide +kernel
theorem dL_daysUntilUnlucky_13 : decode cL_daysUntilUnlucky 13 = .ok (.iconst 1, 1) := by decide +kernel
theorem dL_daysUntilUnlucky_14 : decode cL_daysUntilUnlucky 14 = .ok (.ireturn, 1) := by decide +kernel
theorem dL_daysUntilUnlucky_15 : decode cL_daysUntilUnlucky 15 = .ok (.iconst 0, 1) := by decide +kernel
theorem dL_daysUntilUnlucky_16 : decode cL_daysUntilUnlucky 16 = .ok (.ireturn, 1) := by decide +kernel
set_option maxRecDepth 20000 in
theorem ggL_bestPinch_X0_bestPinch : GoodIn wsL_bestPinch wsX0_bestPinch := goodIn_ca (goodIn_r _ [6, 7, 8, 9, 10, 11, 12, 13, 14, 15, 5, 16, 17, 18, 19, 20, 21, 22, 23, 24, 25, 26, 27, 28, 29, 30, 31, 32, 33, 34, 35, 36, 37, 38, 39, 40, 41, 42, 43, 44, 45, 46, 47, 48, 49, 50, 51, 52, 53, 54, 55, 56, 57, 58, 59, 60, 61, 62, 63, 64, 65, 66, 67, 68, 69, 70, 71, 72, 73, 74, 75, 76, 77, 78, 79, 80, 81, 82, 83, 84, 85, 86, 87] (by decide +kernel) (by decide +kernel)) (goodIn_sub (fun _ h => List.mem_cons_of_mem _ (List.mem_append_right _ h)) (by decide +kernel))
set_option maxRecDepth 20000 in
theorem gL_bestPinch_X0_bestPinch : GoodIn wsL_bestPinch (wsV RL 74 RX0 yX0_bestPinch wsX0_bestPinch) := goodIn_app (goodIn_of _ (by decide +kernel)) ggL_bestPinch_X0_bestPinch
theorem dL_bestPinch_0 : decode cL_bestPinch 0 = .ok (.aload_n 2, 1) := by decide +kernel
theorem dL_bestPinch_1 : decode cL_bestPinch 1 = .ok (.iconst 0, 1) := by decide +kernel
theorem dL_bestPinch_2 : decode cL_bestPinch 2 = .ok (.aload_n 0, 1) := by decide +kernel
theorem dL_bestPinch_3 : decode cL_bestPinch 3 = .ok (.iload_n 1, 1) := by decide +kernel
theorem dL_bestPinch_4 : decode cL_bestPinch 4 = .ok (.invokevirtual 74, 3) := by decide +kernel
theorem dL_bestPinch_7 : decode cL_bestPinch 7 = .ok (.i2l, 1) := by decide +kernel
theorem dL_bestPinch_8 : decode cL_bestPinch 8 = .ok (.lastore, 1) := by decide +kernel
theorem dL_bestPinch_9 : decode cL_bestPinch 9 = .ok (.goto 6, 3) := by decide +kernel
theorem dL_bestPinch_12 : decode cL_bestPinch 12 = .ok (.astore_n 3, 1) := by decide +kernel
theorem dL_bestPinch_13 : decode cL_bestPinch 13 = .ok (.iconst 1, 1) := by decide +kernel
theorem dL_bestPinch_14 : decode cL_bestPinch 14 = .ok (.ireturn, 1) := by decide +kernel
theorem dL_bestPinch_15 : decode cL_bestPinch 15 = .ok (.iconst 0, 1) := by decide +kernel
theorem dL_bestPinch_16 : decode cL_bestPinch 16 = .ok (.ireturn, 1) := by decide +kernel
set_option maxRecDepth 20000 in
theorem ggL_bestPenance_X0_bestPenance : GoodIn wsL_bestPenance wsX0_bestPenance := goodIn_ca (goodIn_r _ [6, 7, 8, 9, 5, 10, 11, 12, 13, 14, 15, 16, 17, 18, 19, 20, 21, 22, 23, 24, 25, 26, 27, 28, 29, 30, 31, 32, 33, 34, 35, 36, 37, 38, 39, 40, 41, 42, 43, 44, 45, 46, 47, 48, 49, 50, 51, 52, 53, 54, 55, 56, 57, 58, 59, 60, 61, 62, 63, 64, 65, 66, 67, 68, 69, 70, 71, 72, 73, 74, 75, 76, 77, 78, 79, 80, 81, 82, 83, 84, 85, 86] (by decide +kernel) (by decide +kernel)) (goodIn_sub (fun _ h => List.mem_cons_of_mem _ (List.mem_append_right _ h)) (by decide +kernel))
set_option maxRecDepth 20000 in
theorem gL_bestPenance_X0_bestPenance : GoodIn wsL_bestPenance (wsV RL 77 RX0 yX0_bestPenance wsX0_bestPenance) := goodIn_app (goodIn_of _ (by decide +kernel)) ggL_bestPenance_X0_bestPenance
theorem dL_bestPenance_0 : decode cL_bestPenance 0 = .ok (.aload_n 2, 1) := by decide +kernel
theorem dL_bestPenance_1 : decode cL_bestPenance 1 = .ok (.iconst 0, 1) := by decide +kernel
theorem dL_bestPenance_2 : decode cL_bestPenance 2 = .ok (.aload_n 0, 1) := by decide +kernel
theorem dL_bestPenance_3 : decode cL_bestPenance 3 = .ok (.iload_n 1, 1) := by decide +kernel
theorem dL_bestPenance_4 : decode cL_bestPenance 4 = .ok (.invokevirtual 77, 3) := by decide +kernel
theorem dL_bestPenance_7 : decode cL_bestPenance 7 = .ok (.i2l, 1) := by decide +kernel
theorem dL_bestPenance_8 : decode cL_bestPenance 8 = .ok (.lastore, 1) := by decide +kernel
theorem dL_bestPenance_9 : decode cL_bestPenance 9 = .ok (.goto 6, 3) := by decide +kernel
theorem dL_bestPenance_12 : decode cL_bestPenance 12 = .ok (.astore_n 3, 1) := by decide +kernel
theorem dL_bestPenance_13 : decode cL_bestPenance 13 = .ok (.iconst 1, 1) := by decide +kernel
theorem dL_bestPenance_14 : decode cL_bestPenance 14 = .ok (.ireturn, 1) := by decide +kernel
theorem dL_bestPenance_15 : decode cL_bestPenance 15 = .ok (.iconst 0, 1) := by decide +kernel
theorem dL_bestPenance_16 : decode cL_bestPenance 16 = .ok (.ireturn, 1) := by decide +kernel
set_option maxRecDepth 20000 in
theorem ggL_law_X0_init : GoodIn wsL_law wsX0_init := goodIn_r _ [9, 10, 11, 12, 13, 14, 15, 16, 17, 18, 19, 20, 21, 22, 23, 24, 25, 26, 603, 604, 605, 606, 607, 608, 609, 610, 611, 612, 613, 614, 615, 616] (by decide +kernel) (by decide +kernel)
set_option maxRecDepth 20000 in
theorem gL_law_X0_init : GoodIn wsL_law (wsX0_init) := ggL_law_X0_init
set_option maxRecDepth 20000 in
theorem ggL_law_X1_init : GoodIn wsL_law wsX1_init := goodIn_r _ [29, 30, 11, 12, 13, 31, 32, 617, 618, 619, 620] (by decide +kernel) (by decide +kernel)
set_option maxRecDepth 20000 in
theorem gL_law_X1_init : GoodIn wsL_law (wsX1_init) := ggL_law_X1_init
set_option maxRecDepth 20000 in
theorem ggL_law_L_join : GoodIn wsL_law wsL_join := goodIn_ca (goodIn_r _ [36, 37, 38, 39, 40, 2, 41, 42, 43, 22, 14, 15, 16, 603, 604, 605, 606, 607, 608, 609, 610, 611, 612, 613, 614, 615, 616] (by decide +kernel) (by decide +kernel)) (goodIn_sub (fun _ h => List.mem_append_left _ (List.mem_append_left _ (List.mem_append_right _ h))) (by decide +kernel))
set_option maxRecDepth 20000 in
theorem gL_law_L_join : GoodIn wsL_law (va_wsS RL 84 yL_join wsL_join) := goodIn_app (goodIn_of _ (by decide +kernel)) ggL_law_L_join
set_option maxRecDepth 20000 in
theorem ggL_law_X1_join : GoodIn wsL_law wsX1_join := goodIn_r _ [47, 48, 49, 50, 51, 52, 5, 53, 54, 55, 56, 57, 31, 617, 618, 619, 620] (by decide +kernel) (by decide +kernel)
set_option maxRecDepth 20000 in
theorem gL_law_X1_join : GoodIn wsL_law (wsV RL 89 RX1 yX1_join wsX1_join) := goodIn_app (goodIn_of _ (by decide +kernel)) ggL_law_X1_join
set_option maxRecDepth 20000 in
theorem ggL_law_X1_thrown : GoodIn wsL_law wsX1_thrown := goodIn_r _ [61, 48, 617, 618, 619, 620] (by decide +kernel) (by decide +kernel)
set_option maxRecDepth 20000 in
theorem gL_law_X1_thrown : GoodIn wsL_law (wsV RL 90 RX1 yX1_thrown wsX1_thrown) := goodIn_app (goodIn_of _ (by decide +kernel)) ggL_law_X1_thrown
set_option maxRecDepth 20000 in
theorem ggL_law_L_spill : GoodIn wsL_law wsL_spill := goodIn_ca (goodIn_ca (goodIn_ca (goodIn_r _ [64, 65, 66, 37, 67, 68, 69, 2, 70, 24, 15, 71, 72, 73, 74, 75, 76, 22, 77, 78, 79, 80, 81, 82, 83, 84, 85, 42, 43, 86, 87, 88, 89, 90, 91, 92, 93, 603, 604, 605, 606, 607, 608, 609, 610, 611, 612, 613, 614, 615, 616] (by decide +kernel) (by decide +kernel)) (goodIn_sub (fun _ h => List.mem_append_left _ (List.mem_append_right _ h)) (by decide +kernel))) (goodIn_sub (fun _ h => List.mem_append_right _ h) (by decide +kernel))) (goodIn_sub (fun _ h => List.mem_append_left _ (List.mem_append_left _ (List.mem_append_right _ h))) (by decide +kernel))
set_option maxRecDepth 20000 in
theorem gL_law_L_spill : GoodIn wsL_law (va_wsS RL 93 yL_spill wsL_spill) := goodIn_app (goodIn_of _ (by decide +kernel)) ggL_law_L_spill
set_option maxRecDepth 20000 in
theorem ggL_law_X1_spill : GoodIn wsL_law wsX1_spill := goodIn_r _ [97, 48, 31, 98, 91, 92, 93, 99, 100, 101, 5, 102, 49, 103, 104, 105, 50, 51, 52, 53, 106, 107, 108, 109, 54, 55, 56, 57, 617, 618, 619, 620] (by decide +kernel) (by decide +kernel)
set_option maxRecDepth 20000 in
theorem gL_law_X1_spill : GoodIn wsL_law (wsV RL 96 RX1 yX1_spill wsX1_spill) := goodIn_app (goodIn_of _ (by decide +kernel)) ggL_law_X1_spill
set_option maxRecDepth 20000 in
theorem ggL_law_L_throwSalt : GoodIn wsL_law wsL_throwSalt := goodIn_ca (goodIn_ca (goodIn_ca (goodIn_r _ [112, 65, 66, 37, 113, 114, 115, 2, 116, 24, 71, 72, 73, 74, 75, 76, 22, 117, 118, 119, 77, 78, 79, 80, 81, 82, 83, 84, 85, 42, 43, 120, 121, 122, 123, 23, 124, 125, 126, 127, 15, 128, 129, 92, 130, 131, 132, 133, 134, 135, 136, 137, 138, 17, 19, 20, 21, 603, 604, 605, 606, 607, 608, 609, 610, 611, 612, 613, 614, 615, 616] (by decide +kernel) (by decide +kernel)) (goodIn_sub (fun _ h => List.mem_append_left _ (List.mem_append_right _ h)) (by decide +kernel))) (goodIn_sub (fun _ h => List.mem_append_right _ h) (by decide +kernel))) (goodIn_sub (fun _ h => List.mem_append_left _ (List.mem_append_left _ (List.mem_append_right _ h))) (by decide +kernel))
set_option maxRecDepth 20000 in
theorem gL_law_L_throwSalt : GoodIn wsL_law (va_wsS RL 97 yL_throwSalt wsL_throwSalt) := goodIn_app (goodIn_of _ (by decide +kernel)) ggL_law_L_throwSalt
set_option maxRecDepth 20000 in
theorem ggL_law_X1_throwSalt : GoodIn wsL_law wsX1_throwSalt := goodIn_r _ [142, 48, 31, 99, 100, 101, 5, 102, 49, 103, 104, 105, 50, 51, 52, 53, 143, 144, 145, 146, 147, 129, 92, 130, 106, 107, 108, 109, 54, 55, 56, 57, 148, 149, 150, 151, 617, 618, 619, 620] (by decide +kernel) (by decide +kernel)
set_option maxRecDepth 20000 in
theorem gL_law_X1_throwSalt : GoodIn wsL_law (wsV RL 100 RX1 yX1_throwSalt wsX1_throwSalt) := goodIn_app (goodIn_of _ (by decide +kernel)) ggL_law_X1_throwSalt
set_option maxRecDepth 20000 in
theorem ggL_law_L_doPenance : GoodIn wsL_law wsL_doPenance := goodIn_ca (goodIn_ca (goodIn_r _ [154, 65, 66, 155, 156, 157, 2, 158, 16, 71, 72, 73, 74, 75, 76, 22, 77, 78, 79, 80, 81, 159, 160, 161, 162, 90, 91, 92, 93, 603, 604, 605, 606, 607, 608, 609, 610, 611, 612, 613, 614, 615, 616] (by decide +kernel) (by decide +kernel)) (goodIn_sub (fun _ h => List.mem_append_left _ (List.mem_append_right _ h)) (by decide +kernel))) (goodIn_sub (fun _ h => List.mem_append_right _ h) (by decide +kernel))
set_option maxRecDepth 20000 in
theorem gL_law_L_doPenance : GoodIn wsL_law (va_wsS RL 101 yL_doPenance wsL_doPenance) := goodIn_app (goodIn_of _ (by decide +kernel)) ggL_law_L_doPenance
set_option maxRecDepth 20000 in
theorem ggL_law_X1_doPenance : GoodIn wsL_law wsX1_doPenance := goodIn_r _ [166, 48, 98, 91, 92, 93, 99, 100, 101, 5, 102, 49, 103, 104, 105, 50, 51, 52, 53, 106, 107, 108, 109, 31, 54, 55, 56, 57, 617, 618, 619, 620] (by decide +kernel) (by decide +kernel)
set_option maxRecDepth 20000 in
theorem gL_law_X1_doPenance : GoodIn wsL_law (wsV RL 103 RX1 yX1_doPenance wsX1_doPenance) := goodIn_app (goodIn_of _ (by decide +kernel)) ggL_law_X1_doPenance
set_option maxRecDepth 20000 in
theorem ggL_law_L_bringSalt : GoodIn wsL_law wsL_bringSalt := goodIn_ca (goodIn_r _ [169, 66, 170, 171, 172, 2, 173, 24, 90, 91, 92, 93, 77, 78, 79, 80, 81, 603, 604, 605, 606, 607, 608, 609, 610, 611, 612, 613, 614, 615, 616] (by decide +kernel) (by decide +kernel)) (goodIn_sub (fun _ h => List.mem_append_right _ h) (by decide +kernel))
set_option maxRecDepth 20000 in
theorem gL_law_L_bringSalt : GoodIn wsL_law (va_wsS RL 104 yL_bringSalt wsL_bringSalt) := goodIn_app (goodIn_of _ (by decide +kernel)) ggL_law_L_bringSalt
set_option maxRecDepth 20000 in
theorem ggL_law_X1_bringSalt : GoodIn wsL_law wsX1_bringSalt := goodIn_r _ [177, 48, 31, 98, 91, 92, 93, 103, 104, 5, 105, 50, 51, 52, 53, 617, 618, 619, 620] (by decide +kernel) (by decide +kernel)
set_option maxRecDepth 20000 in
theorem gL_law_X1_bringSalt : GoodIn wsL_law (wsV RL 107 RX1 yX1_bringSalt wsX1_bringSalt) := goodIn_app (goodIn_of _ (by decide +kernel)) ggL_law_X1_bringSalt
set_option maxRecDepth 20000 in
theorem ggL_law_X0_audit : GoodIn wsL_law wsX0_audit := goodIn_r _ [181, 22, 23, 26, 182, 183, 184, 2, 185, 21, 186, 187, 188, 189, 17, 86, 87, 88, 89, 15, 90, 91, 92, 93, 603, 604, 605, 606, 607, 608, 609, 610, 611, 612, 613, 614, 615, 616] (by decide +kernel) (by decide +kernel)
set_option maxRecDepth 20000 in
theorem gL_law_X0_audit : GoodIn wsL_law (wsV RL 108 RX0 yX0_audit wsX0_audit) := goodIn_app (goodIn_of _ (by decide +kernel)) ggL_law_X0_audit
set_option maxRecDepth 20000 in
theorem ggL_law_X1_audit : GoodIn wsL_law wsX1_audit := goodIn_r _ [193, 194, 195, 196, 5, 197, 31, 98, 91, 92, 93, 198, 199, 200, 201, 202, 203, 204, 205, 106, 107, 108, 109, 54, 55, 56, 57, 206, 207, 208, 209, 48, 617, 618, 619, 620] (by decide +kernel) (by decide +kernel)
set_option maxRecDepth 20000 in
theorem gL_law_X1_audit : GoodIn wsL_law (wsV RL 111 RX1 yX1_audit wsX1_audit) := goodIn_app (goodIn_of _ (by decide +kernel)) ggL_law_X1_audit
set_option maxRecDepth 20000 in
theorem ggL_law_L_pass : GoodIn wsL_law wsL_pass := goodIn_ca (goodIn_r _ [212, 66, 213, 214, 215, 2, 216, 77, 78, 79, 80, 81, 217, 218, 219, 220, 25, 22, 221, 222, 223, 224, 179, 180, 181, 23, 26, 182, 183, 184, 185, 21, 186, 187, 188, 189, 17, 86, 87, 88, 89, 15, 90, 91, 92, 93, 225, 226, 227, 228, 16, 14, 128, 129, 130, 131, 132, 133, 134, 229, 230, 231, 232, 603, 604, 605, 606, 607, 608, 609, 610, 611, 612, 613, 614, 615, 616] (by decide +kernel) (by decide +kernel)) (goodIn_sub (fun _ h => List.mem_append_right _ h) (by decide +kernel))
set_option maxRecDepth 20000 in
theorem gL_law_L_pass : GoodIn wsL_law (va_wsS RL 112 yL_pass wsL_pass) := goodIn_app (goodIn_of _ (by decide +kernel)) ggL_law_L_pass
set_option maxRecDepth 20000 in
theorem ggL_law_X1_pass : GoodIn wsL_law wsX1_pass := goodIn_r _ [236, 48, 103, 104, 5, 105, 237, 238, 239, 240, 241, 242, 243, 244, 31, 49, 147, 129, 92, 130, 98, 91, 93, 194, 195, 196, 197, 198, 199, 200, 201, 202, 203, 204, 205, 106, 107, 108, 109, 54, 55, 56, 57, 245, 246, 247, 248, 50, 51, 52, 53, 617, 618, 619, 620] (by decide +kernel) (by decide +kernel)
set_option maxRecDepth 20000 in
theorem gL_law_X1_pass : GoodIn wsL_law (wsV RL 114 RX1 yX1_pass wsX1_pass) := goodIn_app (goodIn_of _ (by decide +kernel)) ggL_law_X1_pass
set_option maxRecDepth 20000 in
theorem ggL_law_X0_day : GoodIn wsL_law wsX0_day := goodIn_r _ [252, 25, 603, 604, 605, 606, 607, 608, 609, 610, 611, 612, 613, 614, 615, 616] (by decide +kernel) (by decide +kernel)
set_option maxRecDepth 20000 in
theorem gL_law_X0_day : GoodIn wsL_law (wsV RL 115 RX0 yX0_day wsX0_day) := goodIn_app (goodIn_of _ (by decide +kernel)) ggL_law_X0_day
set_option maxRecDepth 20000 in
theorem ggL_law_X1_day : GoodIn wsL_law wsX1_day := goodIn_r _ [256, 31, 206, 207, 208, 5, 209, 48, 617, 618, 619, 620] (by decide +kernel) (by decide +kernel)
set_option maxRecDepth 20000 in
theorem gL_law_X1_day : GoodIn wsL_law (wsV RL 118 RX1 yX1_day wsX1_day) := goodIn_app (goodIn_of _ (by decide +kernel)) ggL_law_X1_day
set_option maxRecDepth 20000 in
theorem ggL_law_X0_members : GoodIn wsL_law wsX0_members := goodIn_r _ [260, 22, 603, 604, 605, 606, 607, 608, 609, 610, 611, 612, 613, 614, 615, 616] (by decide +kernel) (by decide +kernel)
set_option maxRecDepth 20000 in
theorem gL_law_X0_members : GoodIn wsL_law (wsV RL 119 RX0 yX0_members wsX0_members) := goodIn_app (goodIn_of _ (by decide +kernel)) ggL_law_X0_members
set_option maxRecDepth 20000 in
theorem ggL_law_X1_members : GoodIn wsL_law wsX1_members := goodIn_r _ [264, 49, 206, 207, 208, 5, 209, 48, 617, 618, 619, 620] (by decide +kernel) (by decide +kernel)
set_option maxRecDepth 20000 in
theorem gL_law_X1_members : GoodIn wsL_law (wsV RL 122 RX1 yX1_members wsX1_members) := goodIn_app (goodIn_of _ (by decide +kernel)) ggL_law_X1_members
set_option maxRecDepth 20000 in
theorem ggL_law_L_luckOf : GoodIn wsL_law wsL_luckOf := goodIn_ca (goodIn_r _ [267, 65, 268, 269, 270, 2, 271, 14, 71, 72, 73, 74, 75, 76, 22, 603, 604, 605, 606, 607, 608, 609, 610, 611, 612, 613, 614, 615, 616] (by decide +kernel) (by decide +kernel)) (goodIn_sub (fun _ h => List.mem_append_left _ (List.mem_append_right _ h)) (by decide +kernel))
set_option maxRecDepth 20000 in
theorem gL_law_L_luckOf : GoodIn wsL_law (va_wsS RL 123 yL_luckOf wsL_luckOf) := goodIn_app (goodIn_of _ (by decide +kernel)) ggL_law_L_luckOf
set_option maxRecDepth 20000 in
theorem ggL_law_X1_luckOf : GoodIn wsL_law wsX1_luckOf := goodIn_r _ [275, 276, 277, 278, 5, 279, 48, 99, 100, 101, 102, 49, 103, 104, 105, 106, 107, 108, 109, 31, 50, 51, 52, 53, 617, 618, 619, 620] (by decide +kernel) (by decide +kernel)
set_option maxRecDepth 20000 in
theorem gL_law_X1_luckOf : GoodIn wsL_law (wsV RL 125 RX1 yX1_luckOf wsX1_luckOf) := goodIn_app (goodIn_of _ (by decide +kernel)) ggL_law_X1_luckOf
set_option maxRecDepth 20000 in
theorem ggL_law_L_arrearsOf : GoodIn wsL_law wsL_arrearsOf := goodIn_ca (goodIn_r _ [282, 65, 283, 284, 285, 2, 286, 15, 71, 72, 73, 74, 75, 76, 22, 603, 604, 605, 606, 607, 608, 609, 610, 611, 612, 613, 614, 615, 616] (by decide +kernel) (by decide +kernel)) (goodIn_sub (fun _ h => List.mem_append_left _ (List.mem_append_right _ h)) (by decide +kernel))
set_option maxRecDepth 20000 in
theorem gL_law_L_arrearsOf : GoodIn wsL_law (va_wsS RL 126 yL_arrearsOf wsL_arrearsOf) := goodIn_app (goodIn_of _ (by decide +kernel)) ggL_law_L_arrearsOf
set_option maxRecDepth 20000 in
theorem ggL_law_X1_arrearsOf : GoodIn wsL_law wsX1_arrearsOf := goodIn_r _ [290, 276, 277, 278, 5, 279, 48, 99, 100, 101, 102, 49, 103, 104, 105, 106, 107, 108, 109, 31, 50, 51, 52, 53, 617, 618, 619, 620] (by decide +kernel) (by decide +kernel)
set_option maxRecDepth 20000 in
theorem gL_law_X1_arrearsOf : GoodIn wsL_law (wsV RL 128 RX1 yX1_arrearsOf wsX1_arrearsOf) := goodIn_app (goodIn_of _ (by decide +kernel)) ggL_law_X1_arrearsOf
set_option maxRecDepth 20000 in
theorem ggL_law_L_lumpsOf : GoodIn wsL_law wsL_lumpsOf := goodIn_ca (goodIn_r _ [293, 65, 294, 295, 296, 2, 297, 16, 71, 72, 73, 74, 75, 76, 22, 603, 604, 605, 606, 607, 608, 609, 610, 611, 612, 613, 614, 615, 616] (by decide +kernel) (by decide +kernel)) (goodIn_sub (fun _ h => List.mem_append_left _ (List.mem_append_right _ h)) (by decide +kernel))
set_option maxRecDepth 20000 in
theorem gL_law_L_lumpsOf : GoodIn wsL_law (va_wsS RL 129 yL_lumpsOf wsL_lumpsOf) := goodIn_app (goodIn_of _ (by decide +kernel)) ggL_law_L_lumpsOf
set_option maxRecDepth 20000 in
theorem ggL_law_X1_lumpsOf : GoodIn wsL_law wsX1_lumpsOf := goodIn_r _ [301, 276, 277, 278, 5, 279, 48, 99, 100, 101, 102, 49, 103, 104, 105, 106, 107, 108, 109, 31, 50, 51, 52, 53, 617, 618, 619, 620] (by decide +kernel) (by decide +kernel)
set_option maxRecDepth 20000 in
theorem gL_law_X1_lumpsOf : GoodIn wsL_law (wsV RL 131 RX1 yX1_lumpsOf wsX1_lumpsOf) := goodIn_app (goodIn_of _ (by decide +kernel)) ggL_law_X1_lumpsOf
set_option maxRecDepth 20000 in
theorem ggL_law_L_dailyLoss : GoodIn wsL_law wsL_dailyLoss := goodIn_ca (goodIn_r _ [304, 65, 305, 306, 307, 2, 308, 71, 72, 73, 74, 75, 76, 22, 229, 230, 231, 232, 16, 15, 603, 604, 605, 606, 607, 608, 609, 610, 611, 612, 613, 614, 615, 616] (by decide +kernel) (by decide +kernel)) (goodIn_sub (fun _ h => List.mem_append_left _ (List.mem_append_right _ h)) (by decide +kernel))
set_option maxRecDepth 20000 in
theorem gL_law_L_dailyLoss : GoodIn wsL_law (va_wsS RL 132 yL_dailyLoss wsL_dailyLoss) := goodIn_app (goodIn_of _ (by decide +kernel)) ggL_law_L_dailyLoss
set_option maxRecDepth 20000 in
theorem ggL_law_X1_dailyLoss : GoodIn wsL_law wsX1_dailyLoss := goodIn_r _ [312, 48, 99, 100, 101, 5, 102, 49, 103, 104, 105, 245, 246, 247, 248, 106, 107, 108, 109, 31, 50, 51, 52, 53, 617, 618, 619, 620] (by decide +kernel) (by decide +kernel)
set_option maxRecDepth 20000 in
theorem gL_law_X1_dailyLoss : GoodIn wsL_law (wsV RL 134 RX1 yX1_dailyLoss wsX1_dailyLoss) := goodIn_app (goodIn_of _ (by decide +kernel)) ggL_law_X1_dailyLoss
set_option maxRecDepth 20000 in
theorem ggL_law_X0_luckiest : GoodIn wsL_law wsX0_luckiest := goodIn_r _ [316, 22, 14, 603, 604, 605, 606, 607, 608, 609, 610, 611, 612, 613, 614, 615, 616] (by decide +kernel) (by decide +kernel)
set_option maxRecDepth 20000 in
theorem gL_law_X0_luckiest : GoodIn wsL_law (wsV RL 135 RX0 yX0_luckiest wsX0_luckiest) := goodIn_app (goodIn_of _ (by decide +kernel)) ggL_law_X0_luckiest
set_option maxRecDepth 20000 in
theorem ggL_law_X1_luckiest : GoodIn wsL_law wsX1_luckiest := goodIn_r _ [320, 321, 322, 323, 5, 324, 49, 106, 107, 108, 109, 31, 206, 207, 208, 209, 48, 617, 618, 619, 620] (by decide +kernel) (by decide +kernel)
set_option maxRecDepth 20000 in
theorem gL_law_X1_luckiest : GoodIn wsL_law (wsV RL 138 RX1 yX1_luckiest wsX1_luckiest) := goodIn_app (goodIn_of _ (by decide +kernel)) ggL_law_X1_luckiest
set_option maxRecDepth 20000 in
theorem ggL_law_X0_allArrears : GoodIn wsL_law wsX0_allArrears := goodIn_r _ [328, 22, 15, 603, 604, 605, 606, 607, 608, 609, 610, 611, 612, 613, 614, 615, 616] (by decide +kernel) (by decide +kernel)
set_option maxRecDepth 20000 in
theorem gL_law_X0_allArrears : GoodIn wsL_law (wsV RL 139 RX0 yX0_allArrears wsX0_allArrears) := goodIn_app (goodIn_of _ (by decide +kernel)) ggL_law_X0_allArrears
set_option maxRecDepth 20000 in
theorem ggL_law_X1_allArrears : GoodIn wsL_law wsX1_allArrears := goodIn_r _ [332, 333, 334, 335, 5, 336, 49, 106, 107, 108, 109, 31, 206, 207, 208, 209, 48, 617, 618, 619, 620] (by decide +kernel) (by decide +kernel)
set_option maxRecDepth 20000 in
theorem gL_law_X1_allArrears : GoodIn wsL_law (wsV RL 142 RX1 yX1_allArrears wsX1_allArrears) := goodIn_app (goodIn_of _ (by decide +kernel)) ggL_law_X1_allArrears
set_option maxRecDepth 20000 in
theorem ggL_law_X0_clearMembers : GoodIn wsL_law wsX0_clearMembers := goodIn_r _ [340, 22, 15, 603, 604, 605, 606, 607, 608, 609, 610, 611, 612, 613, 614, 615, 616] (by decide +kernel) (by decide +kernel)
set_option maxRecDepth 20000 in
theorem gL_law_X0_clearMembers : GoodIn wsL_law (wsV RL 143 RX0 yX0_clearMembers wsX0_clearMembers) := goodIn_app (goodIn_of _ (by decide +kernel)) ggL_law_X0_clearMembers
set_option maxRecDepth 20000 in
theorem ggL_law_X1_clearMembers : GoodIn wsL_law wsX1_clearMembers := goodIn_r _ [344, 48, 49, 106, 107, 108, 5, 109, 31, 617, 618, 619, 620] (by decide +kernel) (by decide +kernel)
set_option maxRecDepth 20000 in
theorem gL_law_X1_clearMembers : GoodIn wsL_law (wsV RL 146 RX1 yX1_clearMembers wsX1_clearMembers) := goodIn_app (goodIn_of _ (by decide +kernel)) ggL_law_X1_clearMembers
set_option maxRecDepth 20000 in
theorem ggL_law_X0_salt : GoodIn wsL_law wsX0_salt := goodIn_r _ [348, 24, 603, 604, 605, 606, 607, 608, 609, 610, 611, 612, 613, 614, 615, 616] (by decide +kernel) (by decide +kernel)
set_option maxRecDepth 20000 in
theorem gL_law_X0_salt : GoodIn wsL_law (wsV RL 147 RX0 yX0_salt wsX0_salt) := goodIn_app (goodIn_of _ (by decide +kernel)) ggL_law_X0_salt
set_option maxRecDepth 20000 in
theorem ggL_law_X1_salt : GoodIn wsL_law wsX1_salt := goodIn_r _ [352, 31, 206, 207, 208, 5, 209, 48, 617, 618, 619, 620] (by decide +kernel) (by decide +kernel)
set_option maxRecDepth 20000 in
theorem gL_law_X1_salt : GoodIn wsL_law (wsV RL 150 RX1 yX1_salt wsX1_salt) := goodIn_app (goodIn_of _ (by decide +kernel)) ggL_law_X1_salt
set_option maxRecDepth 20000 in
theorem ggL_law_X0_ledger : GoodIn wsL_law wsX0_ledger := goodIn_r _ [356, 23, 603, 604, 605, 606, 607, 608, 609, 610, 611, 612, 613, 614, 615, 616] (by decide +kernel) (by decide +kernel)
set_option maxRecDepth 20000 in
theorem gL_law_X0_ledger : GoodIn wsL_law (wsV RL 151 RX0 yX0_ledger wsX0_ledger) := goodIn_app (goodIn_of _ (by decide +kernel)) ggL_law_X0_ledger
set_option maxRecDepth 20000 in
theorem ggL_law_X1_ledger : GoodIn wsL_law wsX1_ledger := goodIn_r _ [360, 31, 206, 207, 208, 5, 209, 48, 617, 618, 619, 620] (by decide +kernel) (by decide +kernel)
set_option maxRecDepth 20000 in
theorem gL_law_X1_ledger : GoodIn wsL_law (wsV RL 154 RX1 yX1_ledger wsX1_ledger) := goodIn_app (goodIn_of _ (by decide +kernel)) ggL_law_X1_ledger
set_option maxRecDepth 20000 in
theorem ggL_law_L_memberOf : GoodIn wsL_law wsL_memberOf := goodIn_ca (goodIn_r _ [363, 65, 364, 365, 366, 2, 367, 17, 368, 369, 370, 371, 75, 76, 23, 603, 604, 605, 606, 607, 608, 609, 610, 611, 612, 613, 614, 615, 616] (by decide +kernel) (by decide +kernel)) (goodIn_sub (fun _ h => List.mem_append_left _ (List.mem_append_right _ h)) (by decide +kernel))
set_option maxRecDepth 20000 in
theorem gL_law_L_memberOf : GoodIn wsL_law (va_wsS RL 155 yL_memberOf wsL_memberOf) := goodIn_app (goodIn_of _ (by decide +kernel)) ggL_law_L_memberOf
set_option maxRecDepth 20000 in
theorem ggL_law_X1_memberOf : GoodIn wsL_law wsX1_memberOf := goodIn_r _ [375, 376, 377, 378, 5, 379, 48, 380, 381, 382, 383, 31, 103, 104, 105, 202, 203, 204, 205, 50, 51, 52, 53, 617, 618, 619, 620] (by decide +kernel) (by decide +kernel)
set_option maxRecDepth 20000 in
theorem gL_law_X1_memberOf : GoodIn wsL_law (wsV RL 157 RX1 yX1_memberOf wsX1_memberOf) := goodIn_app (goodIn_of _ (by decide +kernel)) ggL_law_X1_memberOf
set_option maxRecDepth 20000 in
theorem ggL_law_L_isLeft : GoodIn wsL_law wsL_isLeft := goodIn_ca (goodIn_r _ [386, 65, 387, 388, 389, 2, 390, 19, 368, 369, 370, 371, 75, 76, 23, 603, 604, 605, 606, 607, 608, 609, 610, 611, 612, 613, 614, 615, 616] (by decide +kernel) (by decide +kernel)) (goodIn_sub (fun _ h => List.mem_append_left _ (List.mem_append_right _ h)) (by decide +kernel))
set_option maxRecDepth 20000 in
theorem gL_law_L_isLeft : GoodIn wsL_law (va_wsS RL 158 yL_isLeft wsL_isLeft) := goodIn_app (goodIn_of _ (by decide +kernel)) ggL_law_L_isLeft
set_option maxRecDepth 20000 in
theorem ggL_law_X1_isLeft : GoodIn wsL_law wsX1_isLeft := goodIn_r _ [394, 376, 377, 378, 5, 379, 48, 380, 381, 382, 383, 31, 103, 104, 105, 202, 203, 204, 205, 50, 51, 52, 53, 617, 618, 619, 620] (by decide +kernel) (by decide +kernel)
set_option maxRecDepth 20000 in
theorem gL_law_X1_isLeft : GoodIn wsL_law (wsV RL 160 RX1 yX1_isLeft wsX1_isLeft) := goodIn_app (goodIn_of _ (by decide +kernel)) ggL_law_X1_isLeft
set_option maxRecDepth 20000 in
theorem ggL_law_L_grainsOf : GoodIn wsL_law wsL_grainsOf := goodIn_ca (goodIn_r _ [397, 65, 398, 399, 400, 2, 401, 20, 368, 369, 370, 371, 75, 76, 23, 603, 604, 605, 606, 607, 608, 609, 610, 611, 612, 613, 614, 615, 616] (by decide +kernel) (by decide +kernel)) (goodIn_sub (fun _ h => List.mem_append_left _ (List.mem_append_right _ h)) (by decide +kernel))
set_option maxRecDepth 20000 in
theorem gL_law_L_grainsOf : GoodIn wsL_law (va_wsS RL 161 yL_grainsOf wsL_grainsOf) := goodIn_app (goodIn_of _ (by decide +kernel)) ggL_law_L_grainsOf
set_option maxRecDepth 20000 in
theorem ggL_law_X1_grainsOf : GoodIn wsL_law wsX1_grainsOf := goodIn_r _ [405, 376, 377, 378, 5, 379, 48, 380, 381, 382, 383, 31, 103, 104, 105, 202, 203, 204, 205, 50, 51, 52, 53, 617, 618, 619, 620] (by decide +kernel) (by decide +kernel)
set_option maxRecDepth 20000 in
theorem gL_law_X1_grainsOf : GoodIn wsL_law (wsV RL 163 RX1 yX1_grainsOf wsX1_grainsOf) := goodIn_app (goodIn_of _ (by decide +kernel)) ggL_law_X1_grainsOf
set_option maxRecDepth 20000 in
theorem ggL_law_L_excessOf : GoodIn wsL_law wsL_excessOf := goodIn_ca (goodIn_r _ [408, 65, 409, 410, 411, 2, 412, 21, 368, 369, 370, 371, 75, 76, 23, 603, 604, 605, 606, 607, 608, 609, 610, 611, 612, 613, 614, 615, 616] (by decide +kernel) (by decide +kernel)) (goodIn_sub (fun _ h => List.mem_append_left _ (List.mem_append_right _ h)) (by decide +kernel))
set_option maxRecDepth 20000 in
theorem gL_law_L_excessOf : GoodIn wsL_law (va_wsS RL 164 yL_excessOf wsL_excessOf) := goodIn_app (goodIn_of _ (by decide +kernel)) ggL_law_L_excessOf
set_option maxRecDepth 20000 in
theorem ggL_law_X1_excessOf : GoodIn wsL_law wsX1_excessOf := goodIn_r _ [416, 376, 377, 378, 5, 379, 48, 380, 381, 382, 383, 31, 103, 104, 105, 202, 203, 204, 205, 50, 51, 52, 53, 617, 618, 619, 620] (by decide +kernel) (by decide +kernel)
set_option maxRecDepth 20000 in
theorem gL_law_X1_excessOf : GoodIn wsL_law (wsV RL 166 RX1 yX1_excessOf wsX1_excessOf) := goodIn_app (goodIn_of _ (by decide +kernel)) ggL_law_X1_excessOf
set_option maxRecDepth 20000 in
theorem ggL_law_X0_faults : GoodIn wsL_law wsX0_faults := goodIn_r _ [185, 23, 21, 603, 604, 605, 606, 607, 608, 609, 610, 611, 612, 613, 614, 615, 616] (by decide +kernel) (by decide +kernel)
set_option maxRecDepth 20000 in
theorem gL_law_X0_faults : GoodIn wsL_law (wsV RL 167 RX0 yX0_faults wsX0_faults) := goodIn_app (goodIn_of _ (by decide +kernel)) ggL_law_X0_faults
set_option maxRecDepth 20000 in
theorem ggL_law_X1_faults : GoodIn wsL_law wsX1_faults := goodIn_r _ [421, 198, 199, 200, 5, 201, 31, 202, 203, 204, 205, 206, 207, 208, 209, 48, 617, 618, 619, 620] (by decide +kernel) (by decide +kernel)
set_option maxRecDepth 20000 in
theorem gL_law_X1_faults : GoodIn wsL_law (wsV RL 170 RX1 yX1_faults wsX1_faults) := goodIn_app (goodIn_of _ (by decide +kernel)) ggL_law_X1_faults
set_option maxRecDepth 20000 in
theorem ggL_law_L_arrearsByAudit : GoodIn wsL_law wsL_arrearsByAudit := goodIn_ca (goodIn_r _ [424, 65, 425, 426, 427, 2, 428, 71, 72, 73, 74, 75, 76, 22, 186, 187, 188, 189, 23, 17, 21, 603, 604, 605, 606, 607, 608, 609, 610, 611, 612, 613, 614, 615, 616] (by decide +kernel) (by decide +kernel)) (goodIn_sub (fun _ h => List.mem_append_left _ (List.mem_append_right _ h)) (by decide +kernel))
set_option maxRecDepth 20000 in
theorem gL_law_L_arrearsByAudit : GoodIn wsL_law (va_wsS RL 171 yL_arrearsByAudit wsL_arrearsByAudit) := goodIn_app (goodIn_of _ (by decide +kernel)) ggL_law_L_arrearsByAudit
set_option maxRecDepth 20000 in
theorem ggL_law_X1_arrearsByAudit : GoodIn wsL_law wsX1_arrearsByAudit := goodIn_r _ [432, 48, 99, 100, 101, 5, 102, 49, 103, 104, 105, 433, 434, 435, 436, 31, 202, 203, 204, 205, 50, 51, 52, 53, 617, 618, 619, 620] (by decide +kernel) (by decide +kernel)
set_option maxRecDepth 20000 in
theorem gL_law_X1_arrearsByAudit : GoodIn wsL_law (wsV RL 173 RX1 yX1_arrearsByAudit wsX1_arrearsByAudit) := goodIn_app (goodIn_of _ (by decide +kernel)) ggL_law_X1_arrearsByAudit
set_option maxRecDepth 20000 in
theorem ggL_law_X0_daysUntilAudit : GoodIn wsL_law wsX0_daysUntilAudit := goodIn_r _ [440, 25, 603, 604, 605, 606, 607, 608, 609, 610, 611, 612, 613, 614, 615, 616] (by decide +kernel) (by decide +kernel)
end
section
set_option maxRecDepth 20000 in
theorem gL_law_X0_daysUntilAudit : GoodIn wsL_law (wsV RL 174 RX0 yX0_daysUntilAudit wsX0_daysUntilAudit) := goodIn_app (goodIn_of _ (by decide +kernel)) ggL_law_X0_daysUntilAudit
set_option maxRecDepth 20000 in
theorem ggL_law_X1_daysUntilAudit : GoodIn wsL_law wsX1_daysUntilAudit := goodIn_r _ [444, 31, 206, 207, 208, 5, 209, 48, 617, 618, 619, 620] (by decide +kernel) (by decide +kernel)
set_option maxRecDepth 20000 in
theorem gL_law_X1_daysUntilAudit : GoodIn wsL_law (wsV RL 177 RX1 yX1_daysUntilAudit wsX1_daysUntilAudit) := goodIn_app (goodIn_of _ (by decide +kernel)) ggL_law_X1_daysUntilAudit
set_option maxRecDepth 20000 in
theorem ggL_law_X0_faultsFound : GoodIn wsL_law wsX0_faultsFound := goodIn_r _ [448, 26, 603, 604, 605, 606, 607, 608, 609, 610, 611, 612, 613, 614, 615, 616] (by decide +kernel) (by decide +kernel)
set_option maxRecDepth 20000 in
theorem gL_law_X0_faultsFound : GoodIn wsL_law (wsV RL 178 RX0 yX0_faultsFound wsX0_faultsFound) := goodIn_app (goodIn_of _ (by decide +kernel)) ggL_law_X0_faultsFound
set_option maxRecDepth 20000 in
theorem ggL_law_X1_faultsFound : GoodIn wsL_law wsX1_faultsFound := goodIn_r _ [452, 31, 206, 207, 208, 5, 209, 48, 617, 618, 619, 620] (by decide +kernel) (by decide +kernel)
set_option maxRecDepth 20000 in
theorem gL_law_X1_faultsFound : GoodIn wsL_law (wsV RL 181 RX1 yX1_faultsFound wsX1_faultsFound) := goodIn_app (goodIn_of _ (by decide +kernel)) ggL_law_X1_faultsFound
set_option maxRecDepth 20000 in
theorem ggL_law_L_luckIn : GoodIn wsL_law wsL_luckIn := goodIn_ca (goodIn_ca (goodIn_r _ [455, 65, 66, 456, 457, 458, 2, 459, 71, 72, 73, 74, 75, 76, 22, 77, 78, 79, 80, 81, 460, 461, 462, 463, 14, 15, 16, 25, 464, 465, 186, 187, 188, 189, 23, 17, 21, 466, 467, 468, 469, 470, 471, 472, 473, 221, 222, 223, 86, 87, 88, 89, 90, 91, 92, 93, 225, 226, 227, 228, 128, 129, 130, 131, 132, 133, 134, 229, 230, 231, 232, 603, 604, 605, 606, 607, 608, 609, 610, 611, 612, 613, 614, 615, 616] (by decide +kernel) (by decide +kernel)) (goodIn_sub (fun _ h => List.mem_append_left _ (List.mem_append_right _ h)) (by decide +kernel))) (goodIn_sub (fun _ h => List.mem_append_right _ h) (by decide +kernel))
set_option maxRecDepth 20000 in
theorem gL_law_L_luckIn : GoodIn wsL_law (va_wsS RL 182 yL_luckIn wsL_luckIn) := goodIn_app (goodIn_of _ (by decide +kernel)) ggL_law_L_luckIn
set_option maxRecDepth 20000 in
theorem ggL_law_X1_luckIn : GoodIn wsL_law wsX1_luckIn := goodIn_r _ [477, 48, 99, 100, 101, 5, 102, 49, 103, 104, 105, 50, 51, 52, 53, 478, 479, 480, 481, 31, 32, 482, 483, 484, 485, 237, 238, 239, 240, 241, 242, 243, 244, 147, 129, 92, 130, 98, 91, 93, 194, 195, 196, 197, 198, 199, 200, 201, 202, 203, 204, 205, 106, 107, 108, 109, 54, 55, 56, 57, 245, 246, 247, 248, 486, 487, 488, 489, 617, 618, 619, 620] (by decide +kernel) (by decide +kernel)
set_option maxRecDepth 20000 in
theorem gL_law_X1_luckIn : GoodIn wsL_law (wsV RL 184 RX1 yX1_luckIn wsX1_luckIn) := goodIn_app (goodIn_of _ (by decide +kernel)) ggL_law_X1_luckIn
set_option maxRecDepth 20000 in
theorem ggL_law_L_daysUntilClear : GoodIn wsL_law wsL_daysUntilClear := goodIn_ca (goodIn_r _ [492, 65, 493, 494, 495, 2, 496, 15, 71, 72, 73, 74, 75, 76, 22, 460, 461, 462, 463, 14, 16, 25, 464, 465, 186, 187, 188, 189, 23, 17, 21, 470, 471, 472, 473, 221, 222, 223, 86, 87, 88, 89, 90, 91, 92, 93, 225, 226, 227, 228, 128, 129, 130, 131, 132, 133, 134, 229, 230, 231, 232, 603, 604, 605, 606, 607, 608, 609, 610, 611, 612, 613, 614, 615, 616] (by decide +kernel) (by decide +kernel)) (goodIn_sub (fun _ h => List.mem_append_left _ (List.mem_append_right _ h)) (by decide +kernel))
set_option maxRecDepth 20000 in
theorem gL_law_L_daysUntilClear : GoodIn wsL_law (va_wsS RL 185 yL_daysUntilClear wsL_daysUntilClear) := goodIn_app (goodIn_of _ (by decide +kernel)) ggL_law_L_daysUntilClear
set_option maxRecDepth 20000 in
theorem ggL_law_X1_daysUntilClear : GoodIn wsL_law wsX1_daysUntilClear := goodIn_r _ [500, 48, 99, 100, 101, 5, 102, 49, 103, 104, 105, 501, 502, 503, 504, 478, 479, 480, 481, 31, 32, 482, 483, 484, 485, 106, 107, 108, 109, 241, 242, 243, 244, 147, 129, 92, 130, 98, 91, 93, 194, 195, 196, 197, 198, 199, 200, 201, 202, 203, 204, 205, 54, 55, 56, 57, 245, 246, 247, 248, 486, 487, 488, 489, 50, 51, 52, 53, 617, 618, 619, 620] (by decide +kernel) (by decide +kernel)
set_option maxRecDepth 20000 in
theorem gL_law_X1_daysUntilClear : GoodIn wsL_law (wsV RL 187 RX1 yX1_daysUntilClear wsX1_daysUntilClear) := goodIn_app (goodIn_of _ (by decide +kernel)) ggL_law_X1_daysUntilClear
set_option maxRecDepth 20000 in
theorem ggL_law_L_daysUntilUnlucky : GoodIn wsL_law wsL_daysUntilUnlucky := goodIn_ca (goodIn_r _ [507, 65, 508, 509, 510, 2, 511, 14, 71, 72, 73, 74, 75, 76, 22, 460, 461, 462, 463, 15, 16, 25, 464, 465, 186, 187, 188, 189, 23, 17, 21, 470, 471, 472, 473, 221, 222, 223, 86, 87, 88, 89, 90, 91, 92, 93, 225, 226, 227, 228, 128, 129, 130, 131, 132, 133, 134, 229, 230, 231, 232, 603, 604, 605, 606, 607, 608, 609, 610, 611, 612, 613, 614, 615, 616] (by decide +kernel) (by decide +kernel)) (goodIn_sub (fun _ h => List.mem_append_left _ (List.mem_append_right _ h)) (by decide +kernel))
set_option maxRecDepth 20000 in
theorem gL_law_L_daysUntilUnlucky : GoodIn wsL_law (va_wsS RL 188 yL_daysUntilUnlucky wsL_daysUntilUnlucky) := goodIn_app (goodIn_of _ (by decide +kernel)) ggL_law_L_daysUntilUnlucky
set_option maxRecDepth 20000 in
theorem ggL_law_X1_daysUntilUnlucky : GoodIn wsL_law wsX1_daysUntilUnlucky := goodIn_r _ [515, 48, 99, 100, 101, 5, 102, 49, 103, 104, 105, 501, 502, 503, 504, 478, 479, 480, 481, 31, 32, 482, 483, 484, 485, 106, 107, 108, 109, 241, 242, 243, 244, 147, 129, 92, 130, 98, 91, 93, 194, 195, 196, 197, 198, 199, 200, 201, 202, 203, 204, 205, 54, 55, 56, 57, 245, 246, 247, 248, 486, 487, 488, 489, 50, 51, 52, 53, 617, 618, 619, 620] (by decide +kernel) (by decide +kernel)
set_option maxRecDepth 20000 in
theorem gL_law_X1_daysUntilUnlucky : GoodIn wsL_law (wsV RL 190 RX1 yX1_daysUntilUnlucky wsX1_daysUntilUnlucky) := goodIn_app (goodIn_of _ (by decide +kernel)) ggL_law_X1_daysUntilUnlucky
set_option maxRecDepth 20000 in
theorem ggL_law_L_bestPinch : GoodIn wsL_law wsL_bestPinch := goodIn_ca (goodIn_r _ [518, 65, 519, 520, 521, 2, 522, 23, 24, 90, 91, 92, 93, 71, 72, 73, 74, 75, 76, 22, 523, 524, 525, 526, 465, 460, 461, 462, 463, 14, 15, 16, 25, 464, 186, 187, 188, 189, 17, 21, 124, 125, 126, 127, 128, 129, 130, 131, 132, 133, 134, 466, 467, 468, 469, 470, 471, 472, 473, 221, 222, 223, 86, 87, 88, 89, 225, 226, 227, 228, 229, 230, 231, 232, 603, 604, 605, 606, 607, 608, 609, 610, 611, 612, 613, 614, 615, 616] (by decide +kernel) (by decide +kernel)) (goodIn_sub (fun _ h => List.mem_append_left _ (List.mem_append_right _ h)) (by decide +kernel))
set_option maxRecDepth 20000 in
theorem gL_law_L_bestPinch : GoodIn wsL_law (va_wsS RL 191 yL_bestPinch wsL_bestPinch) := goodIn_app (goodIn_of _ (by decide +kernel)) ggL_law_L_bestPinch
set_option maxRecDepth 20000 in
theorem ggL_law_X1_bestPinch : GoodIn wsL_law wsX1_bestPinch := goodIn_r _ [530, 48, 99, 100, 101, 5, 102, 49, 103, 104, 105, 531, 532, 533, 534, 31, 98, 91, 92, 93, 478, 479, 480, 481, 32, 482, 483, 484, 485, 143, 144, 145, 146, 147, 129, 130, 106, 107, 108, 109, 54, 55, 56, 57, 148, 149, 150, 151, 237, 238, 239, 240, 241, 242, 243, 244, 194, 195, 196, 197, 198, 199, 200, 201, 202, 203, 204, 205, 245, 246, 247, 248, 486, 487, 488, 489, 50, 51, 52, 53, 617, 618, 619, 620] (by decide +kernel) (by decide +kernel)
set_option maxRecDepth 20000 in
theorem gL_law_X1_bestPinch : GoodIn wsL_law (wsV RL 193 RX1 yX1_bestPinch wsX1_bestPinch) := goodIn_app (goodIn_of _ (by decide +kernel)) ggL_law_X1_bestPinch
set_option maxRecDepth 20000 in
theorem ggL_law_L_bestPenance : GoodIn wsL_law wsL_bestPenance := goodIn_ca (goodIn_r _ [537, 65, 538, 539, 540, 2, 541, 71, 72, 73, 74, 75, 76, 22, 542, 543, 544, 545, 460, 461, 462, 463, 14, 15, 16, 25, 464, 465, 186, 187, 188, 189, 23, 17, 21, 159, 160, 161, 162, 90, 91, 92, 93, 466, 467, 468, 469, 470, 471, 472, 473, 221, 222, 223, 86, 87, 88, 89, 225, 226, 227, 228, 128, 129, 130, 131, 132, 133, 134, 229, 230, 231, 232, 603, 604, 605, 606, 607, 608, 609, 610, 611, 612, 613, 614, 615, 616] (by decide +kernel) (by decide +kernel)) (goodIn_sub (fun _ h => List.mem_append_left _ (List.mem_append_right _ h)) (by decide +kernel))
set_option maxRecDepth 20000 in
theorem gL_law_L_bestPenance : GoodIn wsL_law (va_wsS RL 194 yL_bestPenance wsL_bestPenance) := goodIn_app (goodIn_of _ (by decide +kernel)) ggL_law_L_bestPenance
set_option maxRecDepth 20000 in
theorem ggL_law_X1_bestPenance : GoodIn wsL_law wsX1_bestPenance := goodIn_r _ [549, 48, 99, 100, 101, 5, 102, 49, 103, 104, 105, 550, 551, 552, 553, 98, 91, 92, 93, 478, 479, 480, 481, 31, 32, 482, 483, 484, 485, 106, 107, 108, 109, 54, 55, 56, 57, 237, 238, 239, 240, 241, 242, 243, 244, 147, 129, 130, 194, 195, 196, 197, 198, 199, 200, 201, 202, 203, 204, 205, 245, 246, 247, 248, 486, 487, 488, 489, 50, 51, 52, 53, 617, 618, 619, 620] (by decide +kernel) (by decide +kernel)
set_option maxRecDepth 20000 in
theorem gL_law_X1_bestPenance : GoodIn wsL_law (wsV RL 196 RX1 yX1_bestPenance wsX1_bestPenance) := goodIn_app (goodIn_of _ (by decide +kernel)) ggL_law_X1_bestPenance
set_option maxRecDepth 20000 in
theorem ggL_law_X0_meanLuck : GoodIn wsL_law wsX0_meanLuck := goodIn_r _ [557, 22, 14, 603, 604, 605, 606, 607, 608, 609, 610, 611, 612, 613, 614, 615, 616] (by decide +kernel) (by decide +kernel)
set_option maxRecDepth 20000 in
theorem gL_law_X0_meanLuck : GoodIn wsL_law (wsV RL 197 RX0 yX0_meanLuck wsX0_meanLuck) := goodIn_app (goodIn_of _ (by decide +kernel)) ggL_law_X0_meanLuck
set_option maxRecDepth 20000 in
theorem ggL_law_X1_meanLuck : GoodIn wsL_law wsX1_meanLuck := goodIn_r _ [561, 48, 49, 106, 107, 108, 5, 109, 31, 617, 618, 619, 620] (by decide +kernel) (by decide +kernel)
set_option maxRecDepth 20000 in
theorem gL_law_X1_meanLuck : GoodIn wsL_law (wsV RL 201 RX1 yX1_meanLuck wsX1_meanLuck) := goodIn_app (goodIn_of _ (by decide +kernel)) ggL_law_X1_meanLuck
set_option maxRecDepth 20000 in
theorem ggL_law_X0_digest : GoodIn wsL_law wsX0_digest := goodIn_ca (goodIn_r _ [565, 566, 22, 23, 567, 250, 251, 2, 252, 25, 568, 569, 570, 571, 572, 258, 259, 260, 573, 346, 347, 348, 24, 574, 354, 355, 356, 182, 183, 184, 185, 21, 575, 446, 447, 448, 26, 576, 314, 315, 316, 14, 577, 326, 327, 328, 15, 578, 579, 580, 581, 582, 269, 270, 271, 71, 72, 73, 74, 75, 76, 583, 284, 285, 286, 584, 295, 296, 297, 16, 585, 306, 307, 308, 229, 230, 231, 232, 586, 426, 427, 428, 186, 187, 188, 189, 17, 587, 520, 521, 522, 90, 91, 92, 93, 523, 524, 525, 526, 465, 460, 461, 462, 463, 464, 124, 125, 126, 127, 128, 129, 130, 131, 132, 133, 134, 466, 467, 468, 469, 470, 471, 472, 473, 221, 222, 223, 86, 87, 88, 89, 225, 226, 227, 228, 588, 539, 540, 541, 542, 543, 544, 545, 159, 160, 161, 162, 589, 590, 591, 592, 593, 365, 366, 367, 368, 369, 370, 371, 594, 388, 389, 390, 19, 595, 399, 400, 401, 20, 596, 410, 411, 412, 603, 604, 605, 606, 607, 608, 609, 610, 611, 612, 613, 614, 615, 616] (by decide +kernel) (by decide +kernel)) (goodIn_sub (fun _ h => List.mem_append_left _ (List.mem_append_right _ h)) (by decide +kernel))
set_option maxRecDepth 20000 in
theorem gL_law_X0_digest : GoodIn wsL_law (wsV RL 202 RX0 yX0_digest wsX0_digest) := goodIn_app (goodIn_of _ (by decide +kernel)) ggL_law_X0_digest
set_option maxRecDepth 20000 in
theorem ggL_law_X1_digest : GoodIn wsL_law wsX1_digest := goodIn_r _ [600, 48, 13, 31, 49, 601, 602, 198, 199, 200, 5, 201, 202, 203, 204, 205, 321, 322, 323, 324, 106, 107, 108, 109, 333, 334, 335, 336, 245, 246, 247, 248, 433, 434, 435, 436, 531, 532, 533, 534, 98, 91, 92, 93, 478, 479, 480, 481, 32, 482, 483, 484, 485, 143, 144, 145, 146, 147, 129, 130, 54, 55, 56, 57, 148, 149, 150, 151, 237, 238, 239, 240, 241, 242, 243, 244, 194, 195, 196, 197, 486, 487, 488, 489, 550, 551, 552, 553, 617, 618, 619, 620] (by decide +kernel) (by decide +kernel)
set_option maxRecDepth 20000 in
theorem gL_law_X1_digest : GoodIn wsL_law (wsV RL 206 RX1 yX1_digest wsX1_digest) := goodIn_app (goodIn_of _ (by decide +kernel)) ggL_law_X1_digest
theorem dL_law_0 : decode cL_law 0 = .ok (.new 8, 3) := by decide +kernel
theorem dL_law_3 : decode cL_law 3 = .ok (.dup, 1) := by decide +kernel
theorem dL_law_4 : decode cL_law 4 = .ok (.invokespecial 80, 3) := by decide +kernel
theorem dL_law_7 : decode cL_law 7 = .ok (.astore_n 1, 1) := by decide +kernel
theorem dL_law_8 : decode cL_law 8 = .ok (.new 81, 3) := by decide +kernel
theorem dL_law_11 : decode cL_law 11 = .ok (.dup, 1) := by decide +kernel
theorem dL_law_12 : decode cL_law 12 = .ok (.invokespecial 83, 3) := by decide +kernel
theorem dL_law_15 : decode cL_law 15 = .ok (.astore_n 2, 1) := by decide +kernel
theorem dL_law_16 : decode cL_law 16 = .ok (.iconst 1, 1) := by decide +kernel
theorem dL_law_17 : decode cL_law 17 = .ok (.newarray .long, 2) := by decide +kernel
theorem dL_law_19 : decode cL_law 19 = .ok (.astore_n 3, 1) := by decide +kernel
theorem dL_law_20 : decode cL_law 20 = .ok (.iconst 0, 1) := by decide +kernel
theorem dL_law_21 : decode cL_law 21 = .ok (.istore 4, 2) := by decide +kernel
theorem dL_law_23 : decode cL_law 23 = .ok (.iload 4, 2) := by decide +kernel
theorem dL_law_25 : decode cL_law 25 = .ok (.aload_n 0, 1) := by decide +kernel
theorem dL_law_26 : decode cL_law 26 = .ok (.arraylength, 1) := by decide +kernel
theorem dL_law_27 : decode cL_law 27 = .ok (.iconst 4, 1) := by decide +kernel
theorem dL_law_28 : decode cL_law 28 = .ok (.isub, 1) := by decide +kernel
theorem dL_law_29 : decode cL_law 29 = .ok (.if_icmp .gt 1534, 3) := by decide +kernel
theorem dL_law_32 : decode cL_law 32 = .ok (.aload_n 0, 1) := by decide +kernel
theorem dL_law_33 : decode cL_law 33 = .ok (.iload 4, 2) := by decide +kernel
theorem dL_law_35 : decode cL_law 35 = .ok (.iaload, 1) := by decide +kernel
theorem dL_law_36 : decode cL_law 36 = .ok (.bipush 63, 2) := by decide +kernel
theorem dL_law_38 : decode cL_law 38 = .ok (.iand, 1) := by decide +kernel
theorem dL_law_39 : decode cL_law 39 = .ok (.tableswitch 1518 0 32 #[145, 189, 257, 337, 405, 461, 474, 530, 543, 556, 612, 668, 724, 780, 793, 806, 819, 832, 845, 901, 964, 1020, 1076, 1089, 1145, 1158, 1171, 1239, 1295, 1351, 1407, 1463, 1504], 145) := by decide +kernel
theorem dL_law_184 : decode cL_law 184 = .ok (.aload_n 1, 1) := by decide +kernel
theorem dL_law_185 : decode cL_law 185 = .ok (.aload_n 3, 1) := by decide +kernel
theorem dL_law_186 : decode cL_law 186 = .ok (.invokestatic 84, 3) := by decide +kernel
theorem dL_law_189 : decode cL_law 189 = .ok (.istore 5, 2) := by decide +kernel
theorem dL_law_191 : decode cL_law 191 = .ok (.aload_n 2, 1) := by decide +kernel
theorem dL_law_192 : decode cL_law 192 = .ok (.invokevirtual 89, 3) := by decide +kernel
theorem dL_law_195 : decode cL_law 195 = .ok (.istore 6, 2) := by decide +kernel
theorem dL_law_197 : decode cL_law 197 = .ok (.aload_n 2, 1) := by decide +kernel
theorem dL_law_198 : decode cL_law 198 = .ok (.invokevirtual 90, 3) := by decide +kernel
theorem dL_law_201 : decode cL_law 201 = .ok (.iload 5, 2) := by decide +kernel
theorem dL_law_203 : decode cL_law 203 = .ok (.if_icmp .eq 5, 3) := by decide +kernel
theorem dL_law_206 : decode cL_law 206 = .ok (.iconst 0, 1) := by decide +kernel
theorem dL_law_207 : decode cL_law 207 = .ok (.ireturn, 1) := by decide +kernel
theorem dL_law_208 : decode cL_law 208 = .ok (.iload 5, 2) := by decide +kernel
theorem dL_law_210 : decode cL_law 210 = .ok (.ifCond .ne 15, 3) := by decide +kernel
theorem dL_law_213 : decode cL_law 213 = .ok (.aload_n 3, 1) := by decide +kernel
theorem dL_law_214 : decode cL_law 214 = .ok (.iconst 0, 1) := by decide +kernel
theorem dL_law_215 : decode cL_law 215 = .ok (.laload, 1) := by decide +kernel
theorem dL_law_216 : decode cL_law 216 = .ok (.iload 6, 2) := by decide +kernel
theorem dL_law_218 : decode cL_law 218 = .ok (.i2l, 1) := by decide +kernel
theorem dL_law_219 : decode cL_law 219 = .ok (.lcmp, 1) := by decide +kernel
theorem dL_law_220 : decode cL_law 220 = .ok (.ifCond .eq 5, 3) := by decide +kernel
theorem dL_law_223 : decode cL_law 223 = .ok (.iconst 0, 1) := by decide +kernel
theorem dL_law_224 : decode cL_law 224 = .ok (.ireturn, 1) := by decide +kernel
theorem dL_law_225 : decode cL_law 225 = .ok (.goto 1332, 3) := by decide +kernel
theorem dL_law_228 : decode cL_law 228 = .ok (.aload_n 1, 1) := by decide +kernel
theorem dL_law_229 : decode cL_law 229 = .ok (.aload_n 0, 1) := by decide +kernel
theorem dL_law_230 : decode cL_law 230 = .ok (.iload 4, 2) := by decide +kernel
theorem dL_law_232 : decode cL_law 232 = .ok (.iconst 1, 1) := by decide +kernel
theorem dL_law_233 : decode cL_law 233 = .ok (.iadd, 1) := by decide +kernel
theorem dL_law_234 : decode cL_law 234 = .ok (.iaload, 1) := by decide +kernel
theorem dL_law_235 : decode cL_law 235 = .ok (.aload_n 0, 1) := by decide +kernel
theorem dL_law_236 : decode cL_law 236 = .ok (.iload 4, 2) := by decide +kernel
theorem dL_law_238 : decode cL_law 238 = .ok (.iconst 2, 1) := by decide +kernel
theorem dL_law_239 : decode cL_law 239 = .ok (.iadd, 1) := by decide +kernel
theorem dL_law_240 : decode cL_law 240 = .ok (.iaload, 1) := by decide +kernel
theorem dL_law_241 : decode cL_law 241 = .ok (.aload_n 3, 1) := by decide +kernel
theorem dL_law_242 : decode cL_law 242 = .ok (.invokestatic 93, 3) := by decide +kernel
theorem dL_law_245 : decode cL_law 245 = .ok (.istore 5, 2) := by decide +kernel
theorem dL_law_247 : decode cL_law 247 = .ok (.aload_n 2, 1) := by decide +kernel
theorem dL_law_248 : decode cL_law 248 = .ok (.aload_n 0, 1) := by decide +kernel
theorem dL_law_249 : decode cL_law 249 = .ok (.iload 4, 2) := by decide +kernel
theorem dL_law_251 : decode cL_law 251 = .ok (.iconst 1, 1) := by decide +kernel
theorem dL_law_252 : decode cL_law 252 = .ok (.iadd, 1) := by decide +kernel
theorem dL_law_253 : decode cL_law 253 = .ok (.iaload, 1) := by decide +kernel
theorem dL_law_254 : decode cL_law 254 = .ok (.aload_n 0, 1) := by decide +kernel
theorem dL_law_255 : decode cL_law 255 = .ok (.iload 4, 2) := by decide +kernel
theorem dL_law_257 : decode cL_law 257 = .ok (.iconst 2, 1) := by decide +kernel
theorem dL_law_258 : decode cL_law 258 = .ok (.iadd, 1) := by decide +kernel
theorem dL_law_259 : decode cL_law 259 = .ok (.iaload, 1) := by decide +kernel
theorem dL_law_260 : decode cL_law 260 = .ok (.invokevirtual 96, 3) := by decide +kernel
theorem dL_law_263 : decode cL_law 263 = .ok (.istore 6, 2) := by decide +kernel
theorem dL_law_265 : decode cL_law 265 = .ok (.aload_n 2, 1) := by decide +kernel
theorem dL_law_266 : decode cL_law 266 = .ok (.invokevirtual 90, 3) := by decide +kernel
theorem dL_law_269 : decode cL_law 269 = .ok (.iload 5, 2) := by decide +kernel
theorem dL_law_271 : decode cL_law 271 = .ok (.if_icmp .eq 5, 3) := by decide +kernel
theorem dL_law_274 : decode cL_law 274 = .ok (.iconst 0, 1) := by decide +kernel
theorem dL_law_275 : decode cL_law 275 = .ok (.ireturn, 1) := by decide +kernel
theorem dL_law_276 : decode cL_law 276 = .ok (.iload 5, 2) := by decide +kernel
theorem dL_law_278 : decode cL_law 278 = .ok (.ifCond .ne 15, 3) := by decide +kernel
theorem dL_law_281 : decode cL_law 281 = .ok (.aload_n 3, 1) := by decide +kernel
theorem dL_law_282 : decode cL_law 282 = .ok (.iconst 0, 1) := by decide +kernel
theorem dL_law_283 : decode cL_law 283 = .ok (.laload, 1) := by decide +kernel
theorem dL_law_284 : decode cL_law 284 = .ok (.iload 6, 2) := by decide +kernel
theorem dL_law_286 : decode cL_law 286 = .ok (.i2l, 1) := by decide +kernel
theorem dL_law_287 : decode cL_law 287 = .ok (.lcmp, 1) := by decide +kernel
theorem dL_law_288 : decode cL_law 288 = .ok (.ifCond .eq 5, 3) := by decide +kernel
theorem dL_law_291 : decode cL_law 291 = .ok (.iconst 0, 1) := by decide +kernel
theorem dL_law_292 : decode cL_law 292 = .ok (.ireturn, 1) := by decide +kernel
theorem dL_law_293 : decode cL_law 293 = .ok (.goto 1264, 3) := by decide +kernel
theorem dL_law_296 : decode cL_law 296 = .ok (.aload_n 1, 1) := by decide +kernel
theorem dL_law_297 : decode cL_law 297 = .ok (.aload_n 0, 1) := by decide +kernel
theorem dL_law_298 : decode cL_law 298 = .ok (.iload 4, 2) := by decide +kernel
theorem dL_law_300 : decode cL_law 300 = .ok (.iconst 1, 1) := by decide +kernel
theorem dL_law_301 : decode cL_law 301 = .ok (.iadd, 1) := by decide +kernel
theorem dL_law_302 : decode cL_law 302 = .ok (.iaload, 1) := by decide +kernel
theorem dL_law_303 : decode cL_law 303 = .ok (.aload_n 0, 1) := by decide +kernel
theorem dL_law_304 : decode cL_law 304 = .ok (.iload 4, 2) := by decide +kernel
theorem dL_law_306 : decode cL_law 306 = .ok (.iconst 2, 1) := by decide +kernel
theorem dL_law_307 : decode cL_law 307 = .ok (.iadd, 1) := by decide +kernel
theorem dL_law_308 : decode cL_law 308 = .ok (.iaload, 1) := by decide +kernel
theorem dL_law_309 : decode cL_law 309 = .ok (.aload_n 0, 1) := by decide +kernel
theorem dL_law_310 : decode cL_law 310 = .ok (.iload 4, 2) := by decide +kernel
theorem dL_law_312 : decode cL_law 312 = .ok (.iconst 3, 1) := by decide +kernel
theorem dL_law_313 : decode cL_law 313 = .ok (.iadd, 1) := by decide +kernel
theorem dL_law_314 : decode cL_law 314 = .ok (.iaload, 1) := by decide +kernel
theorem dL_law_315 : decode cL_law 315 = .ok (.aload_n 3, 1) := by decide +kernel
theorem dL_law_316 : decode cL_law 316 = .ok (.invokestatic 97, 3) := by decide +kernel
theorem dL_law_319 : decode cL_law 319 = .ok (.istore 5, 2) := by decide +kernel
theorem dL_law_321 : decode cL_law 321 = .ok (.aload_n 2, 1) := by decide +kernel
theorem dL_law_322 : decode cL_law 322 = .ok (.aload_n 0, 1) := by decide +kernel
theorem dL_law_323 : decode cL_law 323 = .ok (.iload 4, 2) := by decide +kernel
theorem dL_law_325 : decode cL_law 325 = .ok (.iconst 1, 1) := by decide +kernel
theorem dL_law_326 : decode cL_law 326 = .ok (.iadd, 1) := by decide +kernel
theorem dL_law_327 : decode cL_law 327 = .ok (.iaload, 1) := by decide +kernel
theorem dL_law_328 : decode cL_law 328 = .ok (.aload_n 0, 1) := by decide +kernel
theorem dL_law_329 : decode cL_law 329 = .ok (.iload 4, 2) := by decide +kernel
theorem dL_law_331 : decode cL_law 331 = .ok (.iconst 2, 1) := by decide +kernel
theorem dL_law_332 : decode cL_law 332 = .ok (.iadd, 1) := by decide +kernel
theorem dL_law_333 : decode cL_law 333 = .ok (.iaload, 1) := by decide +kernel
theorem dL_law_334 : decode cL_law 334 = .ok (.aload_n 0, 1) := by decide +kernel
theorem dL_law_335 : decode cL_law 335 = .ok (.iload 4, 2) := by decide +kernel
theorem dL_law_337 : decode cL_law 337 = .ok (.iconst 3, 1) := by decide +kernel
theorem dL_law_338 : decode cL_law 338 = .ok (.iadd, 1) := by decide +kernel
theorem dL_law_339 : decode cL_law 339 = .ok (.iaload, 1) := by decide +kernel
theorem dL_law_340 : decode cL_law 340 = .ok (.invokevirtual 100, 3) := by decide +kernel
theorem dL_law_343 : decode cL_law 343 = .ok (.istore 6, 2) := by decide +kernel
theorem dL_law_345 : decode cL_law 345 = .ok (.aload_n 2, 1) := by decide +kernel
theorem dL_law_346 : decode cL_law 346 = .ok (.invokevirtual 90, 3) := by decide +kernel
theorem dL_law_349 : decode cL_law 349 = .ok (.iload 5, 2) := by decide +kernel
theorem dL_law_351 : decode cL_law 351 = .ok (.if_icmp .eq 5, 3) := by decide +kernel
theorem dL_law_354 : decode cL_law 354 = .ok (.iconst 0, 1) := by decide +kernel
theorem dL_law_355 : decode cL_law 355 = .ok (.ireturn, 1) := by decide +kernel
theorem dL_law_356 : decode cL_law 356 = .ok (.iload 5, 2) := by decide +kernel
theorem dL_law_358 : decode cL_law 358 = .ok (.ifCond .ne 15, 3) := by decide +kernel
theorem dL_law_361 : decode cL_law 361 = .ok (.aload_n 3, 1) := by decide +kernel
theorem dL_law_362 : decode cL_law 362 = .ok (.iconst 0, 1) := by decide +kernel
theorem dL_law_363 : decode cL_law 363 = .ok (.laload, 1) := by decide +kernel
theorem dL_law_364 : decode cL_law 364 = .ok (.iload 6, 2) := by decide +kernel
theorem dL_law_366 : decode cL_law 366 = .ok (.i2l, 1) := by decide +kernel
theorem dL_law_367 : decode cL_law 367 = .ok (.lcmp, 1) := by decide +kernel
theorem dL_law_368 : decode cL_law 368 = .ok (.ifCond .eq 5, 3) := by decide +kernel
theorem dL_law_371 : decode cL_law 371 = .ok (.iconst 0, 1) := by decide +kernel
theorem dL_law_372 : decode cL_law 372 = .ok (.ireturn, 1) := by decide +kernel
theorem dL_law_373 : decode cL_law 373 = .ok (.goto 1184, 3) := by decide +kernel
theorem dL_law_376 : decode cL_law 376 = .ok (.aload_n 1, 1) := by decide +kernel
theorem dL_law_377 : decode cL_law 377 = .ok (.aload_n 0, 1) := by decide +kernel
theorem dL_law_378 : decode cL_law 378 = .ok (.iload 4, 2) := by decide +kernel
theorem dL_law_380 : decode cL_law 380 = .ok (.iconst 1, 1) := by decide +kernel
theorem dL_law_381 : decode cL_law 381 = .ok (.iadd, 1) := by decide +kernel
theorem dL_law_382 : decode cL_law 382 = .ok (.iaload, 1) := by decide +kernel
theorem dL_law_383 : decode cL_law 383 = .ok (.aload_n 0, 1) := by decide +kernel
theorem dL_law_384 : decode cL_law 384 = .ok (.iload 4, 2) := by decide +kernel
theorem dL_law_386 : decode cL_law 386 = .ok (.iconst 2, 1) := by decide +kernel
theorem dL_law_387 : decode cL_law 387 = .ok (.iadd, 1) := by decide +kernel
theorem dL_law_388 : decode cL_law 388 = .ok (.iaload, 1) := by decide +kernel
theorem dL_law_389 : decode cL_law 389 = .ok (.aload_n 3, 1) := by decide +kernel
theorem dL_law_390 : decode cL_law 390 = .ok (.invokestatic 101, 3) := by decide +kernel
theorem dL_law_393 : decode cL_law 393 = .ok (.istore 5, 2) := by decide +kernel
theorem dL_law_395 : decode cL_law 395 = .ok (.aload_n 2, 1) := by decide +kernel
theorem dL_law_396 : decode cL_law 396 = .ok (.aload_n 0, 1) := by decide +kernel
theorem dL_law_397 : decode cL_law 397 = .ok (.iload 4, 2) := by decide +kernel
theorem dL_law_399 : decode cL_law 399 = .ok (.iconst 1, 1) := by decide +kernel
theorem dL_law_400 : decode cL_law 400 = .ok (.iadd, 1) := by decide +kernel
theorem dL_law_401 : decode cL_law 401 = .ok (.iaload, 1) := by decide +kernel
theorem dL_law_402 : decode cL_law 402 = .ok (.aload_n 0, 1) := by decide +kernel
theorem dL_law_403 : decode cL_law 403 = .ok (.iload 4, 2) := by decide +kernel
theorem dL_law_405 : decode cL_law 405 = .ok (.iconst 2, 1) := by decide +kernel
theorem dL_law_406 : decode cL_law 406 = .ok (.iadd, 1) := by decide +kernel
theorem dL_law_407 : decode cL_law 407 = .ok (.iaload, 1) := by decide +kernel
theorem dL_law_408 : decode cL_law 408 = .ok (.invokevirtual 103, 3) := by decide +kernel
theorem dL_law_411 : decode cL_law 411 = .ok (.istore 6, 2) := by decide +kernel
theorem dL_law_413 : decode cL_law 413 = .ok (.aload_n 2, 1) := by decide +kernel
theorem dL_law_414 : decode cL_law 414 = .ok (.invokevirtual 90, 3) := by decide +kernel
theorem dL_law_417 : decode cL_law 417 = .ok (.iload 5, 2) := by decide +kernel
theorem dL_law_419 : decode cL_law 419 = .ok (.if_icmp .eq 5, 3) := by decide +kernel
theorem dL_law_422 : decode cL_law 422 = .ok (.iconst 0, 1) := by decide +kernel
theorem dL_law_423 : decode cL_law 423 = .ok (.ireturn, 1) := by decide +kernel
theorem dL_law_424 : decode cL_law 424 = .ok (.iload 5, 2) := by decide +kernel
theorem dL_law_426 : decode cL_law 426 = .ok (.ifCond .ne 15, 3) := by decide +kernel
theorem dL_law_429 : decode cL_law 429 = .ok (.aload_n 3, 1) := by decide +kernel
theorem dL_law_430 : decode cL_law 430 = .ok (.iconst 0, 1) := by decide +kernel
theorem dL_law_431 : decode cL_law 431 = .ok (.laload, 1) := by decide +kernel
theorem dL_law_432 : decode cL_law 432 = .ok (.iload 6, 2) := by decide +kernel
theorem dL_law_434 : decode cL_law 434 = .ok (.i2l, 1) := by decide +kernel
theorem dL_law_435 : decode cL_law 435 = .ok (.lcmp, 1) := by decide +kernel
theorem dL_law_436 : decode cL_law 436 = .ok (.ifCond .eq 5, 3) := by decide +kernel
theorem dL_law_439 : decode cL_law 439 = .ok (.iconst 0, 1) := by decide +kernel
theorem dL_law_440 : decode cL_law 440 = .ok (.ireturn, 1) := by decide +kernel
theorem dL_law_441 : decode cL_law 441 = .ok (.goto 1116, 3) := by decide +kernel
theorem dL_law_444 : decode cL_law 444 = .ok (.aload_n 1, 1) := by decide +kernel
theorem dL_law_445 : decode cL_law 445 = .ok (.aload_n 0, 1) := by decide +kernel
theorem dL_law_446 : decode cL_law 446 = .ok (.iload 4, 2) := by decide +kernel
theorem dL_law_448 : decode cL_law 448 = .ok (.iconst 1, 1) := by decide +kernel
theorem dL_law_449 : decode cL_law 449 = .ok (.iadd, 1) := by decide +kernel
theorem dL_law_450 : decode cL_law 450 = .ok (.iaload, 1) := by decide +kernel
theorem dL_law_451 : decode cL_law 451 = .ok (.aload_n 3, 1) := by decide +kernel
theorem dL_law_452 : decode cL_law 452 = .ok (.invokestatic 104, 3) := by decide +kernel
theorem dL_law_455 : decode cL_law 455 = .ok (.istore 5, 2) := by decide +kernel
theorem dL_law_457 : decode cL_law 457 = .ok (.aload_n 2, 1) := by decide +kernel
theorem dL_law_458 : decode cL_law 458 = .ok (.aload_n 0, 1) := by decide +kernel
theorem dL_law_459 : decode cL_law 459 = .ok (.iload 4, 2) := by decide +kernel
theorem dL_law_461 : decode cL_law 461 = .ok (.iconst 1, 1) := by decide +kernel
theorem dL_law_462 : decode cL_law 462 = .ok (.iadd, 1) := by decide +kernel
theorem dL_law_463 : decode cL_law 463 = .ok (.iaload, 1) := by decide +kernel
theorem dL_law_464 : decode cL_law 464 = .ok (.invokevirtual 107, 3) := by decide +kernel
theorem dL_law_467 : decode cL_law 467 = .ok (.istore 6, 2) := by decide +kernel
theorem dL_law_469 : decode cL_law 469 = .ok (.aload_n 2, 1) := by decide +kernel
theorem dL_law_470 : decode cL_law 470 = .ok (.invokevirtual 90, 3) := by decide +kernel
theorem dL_law_473 : decode cL_law 473 = .ok (.iload 5, 2) := by decide +kernel
theorem dL_law_475 : decode cL_law 475 = .ok (.if_icmp .eq 5, 3) := by decide +kernel
theorem dL_law_478 : decode cL_law 478 = .ok (.iconst 0, 1) := by decide +kernel
theorem dL_law_479 : decode cL_law 479 = .ok (.ireturn, 1) := by decide +kernel
theorem dL_law_480 : decode cL_law 480 = .ok (.iload 5, 2) := by decide +kernel
theorem dL_law_482 : decode cL_law 482 = .ok (.ifCond .ne 15, 3) := by decide +kernel
theorem dL_law_485 : decode cL_law 485 = .ok (.aload_n 3, 1) := by decide +kernel
theorem dL_law_486 : decode cL_law 486 = .ok (.iconst 0, 1) := by decide +kernel
theorem dL_law_487 : decode cL_law 487 = .ok (.laload, 1) := by decide +kernel
theorem dL_law_488 : decode cL_law 488 = .ok (.iload 6, 2) := by decide +kernel
theorem dL_law_490 : decode cL_law 490 = .ok (.i2l, 1) := by decide +kernel
theorem dL_law_491 : decode cL_law 491 = .ok (.lcmp, 1) := by decide +kernel
theorem dL_law_492 : decode cL_law 492 = .ok (.ifCond .eq 5, 3) := by decide +kernel
theorem dL_law_495 : decode cL_law 495 = .ok (.iconst 0, 1) := by decide +kernel
theorem dL_law_496 : decode cL_law 496 = .ok (.ireturn, 1) := by decide +kernel
theorem dL_law_497 : decode cL_law 497 = .ok (.goto 1060, 3) := by decide +kernel
theorem dL_law_500 : decode cL_law 500 = .ok (.aload_n 1, 1) := by decide +kernel
theorem dL_law_501 : decode cL_law 501 = .ok (.invokevirtual 108, 3) := by decide +kernel
theorem dL_law_504 : decode cL_law 504 = .ok (.aload_n 2, 1) := by decide +kernel
theorem dL_law_505 : decode cL_law 505 = .ok (.invokevirtual 111, 3) := by decide +kernel
theorem dL_law_508 : decode cL_law 508 = .ok (.if_icmp .eq 1049, 3) := by decide +kernel
theorem dL_law_511 : decode cL_law 511 = .ok (.iconst 0, 1) := by decide +kernel
theorem dL_law_512 : decode cL_law 512 = .ok (.ireturn, 1) := by decide +kernel
theorem dL_law_513 : decode cL_law 513 = .ok (.aload_n 1, 1) := by decide +kernel
theorem dL_law_514 : decode cL_law 514 = .ok (.aload_n 0, 1) := by decide +kernel
theorem dL_law_515 : decode cL_law 515 = .ok (.iload 4, 2) := by decide +kernel
theorem dL_law_517 : decode cL_law 517 = .ok (.iconst 1, 1) := by decide +kernel
theorem dL_law_518 : decode cL_law 518 = .ok (.iadd, 1) := by decide +kernel
theorem dL_law_519 : decode cL_law 519 = .ok (.iaload, 1) := by decide +kernel
theorem dL_law_520 : decode cL_law 520 = .ok (.aload_n 3, 1) := by decide +kernel
theorem dL_law_521 : decode cL_law 521 = .ok (.invokestatic 112, 3) := by decide +kernel
theorem dL_law_524 : decode cL_law 524 = .ok (.istore 5, 2) := by decide +kernel
theorem dL_law_526 : decode cL_law 526 = .ok (.aload_n 2, 1) := by decide +kernel
theorem dL_law_527 : decode cL_law 527 = .ok (.aload_n 0, 1) := by decide +kernel
theorem dL_law_528 : decode cL_law 528 = .ok (.iload 4, 2) := by decide +kernel
theorem dL_law_530 : decode cL_law 530 = .ok (.iconst 1, 1) := by decide +kernel
theorem dL_law_531 : decode cL_law 531 = .ok (.iadd, 1) := by decide +kernel
theorem dL_law_532 : decode cL_law 532 = .ok (.iaload, 1) := by decide +kernel
theorem dL_law_533 : decode cL_law 533 = .ok (.invokevirtual 114, 3) := by decide +kernel
theorem dL_law_536 : decode cL_law 536 = .ok (.istore 6, 2) := by decide +kernel
theorem dL_law_538 : decode cL_law 538 = .ok (.aload_n 2, 1) := by decide +kernel
theorem dL_law_539 : decode cL_law 539 = .ok (.invokevirtual 90, 3) := by decide +kernel
theorem dL_law_542 : decode cL_law 542 = .ok (.iload 5, 2) := by decide +kernel
theorem dL_law_544 : decode cL_law 544 = .ok (.if_icmp .eq 5, 3) := by decide +kernel
theorem dL_law_547 : decode cL_law 547 = .ok (.iconst 0, 1) := by decide +kernel
theorem dL_law_548 : decode cL_law 548 = .ok (.ireturn, 1) := by decide +kernel
theorem dL_law_549 : decode cL_law 549 = .ok (.iload 5, 2) := by decide +kernel
theorem dL_law_551 : decode cL_law 551 = .ok (.ifCond .ne 15, 3) := by decide +kernel
theorem dL_law_554 : decode cL_law 554 = .ok (.aload_n 3, 1) := by decide +kernel
theorem dL_law_555 : decode cL_law 555 = .ok (.iconst 0, 1) := by decide +kernel
theorem dL_law_556 : decode cL_law 556 = .ok (.laload, 1) := by decide +kernel
theorem dL_law_557 : decode cL_law 557 = .ok (.iload 6, 2) := by decide +kernel
theorem dL_law_559 : decode cL_law 559 = .ok (.i2l, 1) := by decide +kernel
theorem dL_law_560 : decode cL_law 560 = .ok (.lcmp, 1) := by decide +kernel
theorem dL_law_561 : decode cL_law 561 = .ok (.ifCond .eq 5, 3) := by decide +kernel
theorem dL_law_564 : decode cL_law 564 = .ok (.iconst 0, 1) := by decide +kernel
theorem dL_law_565 : decode cL_law 565 = .ok (.ireturn, 1) := by decide +kernel
theorem dL_law_566 : decode cL_law 566 = .ok (.goto 991, 3) := by decide +kernel
theorem dL_law_569 : decode cL_law 569 = .ok (.aload_n 1, 1) := by decide +kernel
theorem dL_law_570 : decode cL_law 570 = .ok (.invokevirtual 115, 3) := by decide +kernel
theorem dL_law_573 : decode cL_law 573 = .ok (.aload_n 2, 1) := by decide +kernel
theorem dL_law_574 : decode cL_law 574 = .ok (.invokevirtual 118, 3) := by decide +kernel
theorem dL_law_577 : decode cL_law 577 = .ok (.if_icmp .eq 980, 3) := by decide +kernel
theorem dL_law_580 : decode cL_law 580 = .ok (.iconst 0, 1) := by decide +kernel
theorem dL_law_581 : decode cL_law 581 = .ok (.ireturn, 1) := by decide +kernel
theorem dL_law_582 : decode cL_law 582 = .ok (.aload_n 1, 1) := by decide +kernel
theorem dL_law_583 : decode cL_law 583 = .ok (.invokevirtual 119, 3) := by decide +kernel
theorem dL_law_586 : decode cL_law 586 = .ok (.aload_n 2, 1) := by decide +kernel
theorem dL_law_587 : decode cL_law 587 = .ok (.invokevirtual 122, 3) := by decide +kernel
theorem dL_law_590 : decode cL_law 590 = .ok (.if_icmp .eq 967, 3) := by decide +kernel
theorem dL_law_593 : decode cL_law 593 = .ok (.iconst 0, 1) := by decide +kernel
theorem dL_law_594 : decode cL_law 594 = .ok (.ireturn, 1) := by decide +kernel
theorem dL_law_595 : decode cL_law 595 = .ok (.aload_n 1, 1) := by decide +kernel
theorem dL_law_596 : decode cL_law 596 = .ok (.aload_n 0, 1) := by decide +kernel
theorem dL_law_597 : decode cL_law 597 = .ok (.iload 4, 2) := by decide +kernel
theorem dL_law_599 : decode cL_law 599 = .ok (.iconst 1, 1) := by decide +kernel
theorem dL_law_600 : decode cL_law 600 = .ok (.iadd, 1) := by decide +kernel
theorem dL_law_601 : decode cL_law 601 = .ok (.iaload, 1) := by decide +kernel
theorem dL_law_602 : decode cL_law 602 = .ok (.aload_n 3, 1) := by decide +kernel
theorem dL_law_603 : decode cL_law 603 = .ok (.invokestatic 123, 3) := by decide +kernel
theorem dL_law_606 : decode cL_law 606 = .ok (.istore 5, 2) := by decide +kernel
theorem dL_law_608 : decode cL_law 608 = .ok (.aload_n 2, 1) := by decide +kernel
theorem dL_law_609 : decode cL_law 609 = .ok (.aload_n 0, 1) := by decide +kernel
theorem dL_law_610 : decode cL_law 610 = .ok (.iload 4, 2) := by decide +kernel
theorem dL_law_612 : decode cL_law 612 = .ok (.iconst 1, 1) := by decide +kernel
theorem dL_law_613 : decode cL_law 613 = .ok (.iadd, 1) := by decide +kernel
theorem dL_law_614 : decode cL_law 614 = .ok (.iaload, 1) := by decide +kernel
theorem dL_law_615 : decode cL_law 615 = .ok (.invokevirtual 125, 3) := by decide +kernel
theorem dL_law_618 : decode cL_law 618 = .ok (.istore 6, 2) := by decide +kernel
theorem dL_law_620 : decode cL_law 620 = .ok (.aload_n 2, 1) := by decide +kernel
theorem dL_law_621 : decode cL_law 621 = .ok (.invokevirtual 90, 3) := by decide +kernel
theorem dL_law_624 : decode cL_law 624 = .ok (.iload 5, 2) := by decide +kernel
theorem dL_law_626 : decode cL_law 626 = .ok (.if_icmp .eq 5, 3) := by decide +kernel
theorem dL_law_629 : decode cL_law 629 = .ok (.iconst 0, 1) := by decide +kernel
theorem dL_law_630 : decode cL_law 630 = .ok (.ireturn, 1) := by decide +kernel
theorem dL_law_631 : decode cL_law 631 = .ok (.iload 5, 2) := by decide +kernel
theorem dL_law_633 : decode cL_law 633 = .ok (.ifCond .ne 15, 3) := by decide +kernel
theorem dL_law_636 : decode cL_law 636 = .ok (.aload_n 3, 1) := by decide +kernel
theorem dL_law_637 : decode cL_law 637 = .ok (.iconst 0, 1) := by decide +kernel
theorem dL_law_638 : decode cL_law 638 = .ok (.laload, 1) := by decide +kernel
theorem dL_law_639 : decode cL_law 639 = .ok (.iload 6, 2) := by decide +kernel
theorem dL_law_641 : decode cL_law 641 = .ok (.i2l, 1) := by decide +kernel
theorem dL_law_642 : decode cL_law 642 = .ok (.lcmp, 1) := by decide +kernel
theorem dL_law_643 : decode cL_law 643 = .ok (.ifCond .eq 5, 3) := by decide +kernel
theorem dL_law_646 : decode cL_law 646 = .ok (.iconst 0, 1) := by decide +kernel
theorem dL_law_647 : decode cL_law 647 = .ok (.ireturn, 1) := by decide +kernel
theorem dL_law_648 : decode cL_law 648 = .ok (.goto 909, 3) := by decide +kernel
theorem dL_law_651 : decode cL_law 651 = .ok (.aload_n 1, 1) := by decide +kernel
theorem dL_law_652 : decode cL_law 652 = .ok (.aload_n 0, 1) := by decide +kernel
theorem dL_law_653 : decode cL_law 653 = .ok (.iload 4, 2) := by decide +kernel
theorem dL_law_655 : decode cL_law 655 = .ok (.iconst 1, 1) := by decide +kernel
theorem dL_law_656 : decode cL_law 656 = .ok (.iadd, 1) := by decide +kernel
theorem dL_law_657 : decode cL_law 657 = .ok (.iaload, 1) := by decide +kernel
theorem dL_law_658 : decode cL_law 658 = .ok (.aload_n 3, 1) := by decide +kernel
theorem dL_law_659 : decode cL_law 659 = .ok (.invokestatic 126, 3) := by decide +kernel
theorem dL_law_662 : decode cL_law 662 = .ok (.istore 5, 2) := by decide +kernel
theorem dL_law_664 : decode cL_law 664 = .ok (.aload_n 2, 1) := by decide +kernel
theorem dL_law_665 : decode cL_law 665 = .ok (.aload_n 0, 1) := by decide +kernel
theorem dL_law_666 : decode cL_law 666 = .ok (.iload 4, 2) := by decide +kernel
theorem dL_law_668 : decode cL_law 668 = .ok (.iconst 1, 1) := by decide +kernel
theorem dL_law_669 : decode cL_law 669 = .ok (.iadd, 1) := by decide +kernel
theorem dL_law_670 : decode cL_law 670 = .ok (.iaload, 1) := by decide +kernel
theorem dL_law_671 : decode cL_law 671 = .ok (.invokevirtual 128, 3) := by decide +kernel
theorem dL_law_674 : decode cL_law 674 = .ok (.istore 6, 2) := by decide +kernel
theorem dL_law_676 : decode cL_law 676 = .ok (.aload_n 2, 1) := by decide +kernel
theorem dL_law_677 : decode cL_law 677 = .ok (.invokevirtual 90, 3) := by decide +kernel
theorem dL_law_680 : decode cL_law 680 = .ok (.iload 5, 2) := by decide +kernel
theorem dL_law_682 : decode cL_law 682 = .ok (.if_icmp .eq 5, 3) := by decide +kernel
theorem dL_law_685 : decode cL_law 685 = .ok (.iconst 0, 1) := by decide +kernel
theorem dL_law_686 : decode cL_law 686 = .ok (.ireturn, 1) := by decide +kernel
theorem dL_law_687 : decode cL_law 687 = .ok (.iload 5, 2) := by decide +kernel
theorem dL_law_689 : decode cL_law 689 = .ok (.ifCond .ne 15, 3) := by decide +kernel
theorem dL_law_692 : decode cL_law 692 = .ok (.aload_n 3, 1) := by decide +kernel
theorem dL_law_693 : decode cL_law 693 = .ok (.iconst 0, 1) := by decide +kernel
theorem dL_law_694 : decode cL_law 694 = .ok (.laload, 1) := by decide +kernel
theorem dL_law_695 : decode cL_law 695 = .ok (.iload 6, 2) := by decide +kernel
theorem dL_law_697 : decode cL_law 697 = .ok (.i2l, 1) := by decide +kernel
theorem dL_law_698 : decode cL_law 698 = .ok (.lcmp, 1) := by decide +kernel
theorem dL_law_699 : decode cL_law 699 = .ok (.ifCond .eq 5, 3) := by decide +kernel
theorem dL_law_702 : decode cL_law 702 = .ok (.iconst 0, 1) := by decide +kernel
theorem dL_law_703 : decode cL_law 703 = .ok (.ireturn, 1) := by decide +kernel
theorem dL_law_704 : decode cL_law 704 = .ok (.goto 853, 3) := by decide +kernel
theorem dL_law_707 : decode cL_law 707 = .ok (.aload_n 1, 1) := by decide +kernel
theorem dL_law_708 : decode cL_law 708 = .ok (.aload_n 0, 1) := by decide +kernel
theorem dL_law_709 : decode cL_law 709 = .ok (.iload 4, 2) := by decide +kernel
theorem dL_law_711 : decode cL_law 711 = .ok (.iconst 1, 1) := by decide +kernel
theorem dL_law_712 : decode cL_law 712 = .ok (.iadd, 1) := by decide +kernel
theorem dL_law_713 : decode cL_law 713 = .ok (.iaload, 1) := by decide +kernel
theorem dL_law_714 : decode cL_law 714 = .ok (.aload_n 3, 1) := by decide +kernel
theorem dL_law_715 : decode cL_law 715 = .ok (.invokestatic 129, 3) := by decide +kernel
theorem dL_law_718 : decode cL_law 718 = .ok (.istore 5, 2) := by decide +kernel
theorem dL_law_720 : decode cL_law 720 = .ok (.aload_n 2, 1) := by decide +kernel
theorem dL_law_721 : decode cL_law 721 = .ok (.aload_n 0, 1) := by decide +kernel
theorem dL_law_722 : decode cL_law 722 = .ok (.iload 4, 2) := by decide +kernel
theorem dL_law_724 : decode cL_law 724 = .ok (.iconst 1, 1) := by decide +kernel
theorem dL_law_725 : decode cL_law 725 = .ok (.iadd, 1) := by decide +kernel
theorem dL_law_726 : decode cL_law 726 = .ok (.iaload, 1) := by decide +kernel
theorem dL_law_727 : decode cL_law 727 = .ok (.invokevirtual 131, 3) := by decide +kernel
theorem dL_law_730 : decode cL_law 730 = .ok (.istore 6, 2) := by decide +kernel
theorem dL_law_732 : decode cL_law 732 = .ok (.aload_n 2, 1) := by decide +kernel
theorem dL_law_733 : decode cL_law 733 = .ok (.invokevirtual 90, 3) := by decide +kernel
theorem dL_law_736 : decode cL_law 736 = .ok (.iload 5, 2) := by decide +kernel
theorem dL_law_738 : decode cL_law 738 = .ok (.if_icmp .eq 5, 3) := by decide +kernel
theorem dL_law_741 : decode cL_law 741 = .ok (.iconst 0, 1) := by decide +kernel
theorem dL_law_742 : decode cL_law 742 = .ok (.ireturn, 1) := by decide +kernel
theorem dL_law_743 : decode cL_law 743 = .ok (.iload 5, 2) := by decide +kernel
theorem dL_law_745 : decode cL_law 745 = .ok (.ifCond .ne 15, 3) := by decide +kernel
theorem dL_law_748 : decode cL_law 748 = .ok (.aload_n 3, 1) := by decide +kernel
theorem dL_law_749 : decode cL_law 749 = .ok (.iconst 0, 1) := by decide +kernel
theorem dL_law_750 : decode cL_law 750 = .ok (.laload, 1) := by decide +kernel
theorem dL_law_751 : decode cL_law 751 = .ok (.iload 6, 2) := by decide +kernel
theorem dL_law_753 : decode cL_law 753 = .ok (.i2l, 1) := by decide +kernel
theorem dL_law_754 : decode cL_law 754 = .ok (.lcmp, 1) := by decide +kernel
theorem dL_law_755 : decode cL_law 755 = .ok (.ifCond .eq 5, 3) := by decide +kernel
theorem dL_law_758 : decode cL_law 758 = .ok (.iconst 0, 1) := by decide +kernel
theorem dL_law_759 : decode cL_law 759 = .ok (.ireturn, 1) := by decide +kernel
theorem dL_law_760 : decode cL_law 760 = .ok (.goto 797, 3) := by decide +kernel
theorem dL_law_763 : decode cL_law 763 = .ok (.aload_n 1, 1) := by decide +kernel
theorem dL_law_764 : decode cL_law 764 = .ok (.aload_n 0, 1) := by decide +kernel
theorem dL_law_765 : decode cL_law 765 = .ok (.iload 4, 2) := by decide +kernel
theorem dL_law_767 : decode cL_law 767 = .ok (.iconst 1, 1) := by decide +kernel
theorem dL_law_768 : decode cL_law 768 = .ok (.iadd, 1) := by decide +kernel
theorem dL_law_769 : decode cL_law 769 = .ok (.iaload, 1) := by decide +kernel
theorem dL_law_770 : decode cL_law 770 = .ok (.aload_n 3, 1) := by decide +kernel
theorem dL_law_771 : decode cL_law 771 = .ok (.invokestatic 132, 3) := by decide +kernel
theorem dL_law_774 : decode cL_law 774 = .ok (.istore 5, 2) := by decide +kernel
theorem dL_law_776 : decode cL_law 776 = .ok (.aload_n 2, 1) := by decide +kernel
theorem dL_law_777 : decode cL_law 777 = .ok (.aload_n 0, 1) := by decide +kernel
theorem dL_law_778 : decode cL_law 778 = .ok (.iload 4, 2) := by decide +kernel
theorem dL_law_780 : decode cL_law 780 = .ok (.iconst 1, 1) := by decide +kernel
theorem dL_law_781 : decode cL_law 781 = .ok (.iadd, 1) := by decide +kernel
theorem dL_law_782 : decode cL_law 782 = .ok (.iaload, 1) := by decide +kernel
theorem dL_law_783 : decode cL_law 783 = .ok (.invokevirtual 134, 3) := by decide +kernel
theorem dL_law_786 : decode cL_law 786 = .ok (.istore 6, 2) := by decide +kernel
theorem dL_law_788 : decode cL_law 788 = .ok (.aload_n 2, 1) := by decide +kernel
theorem dL_law_789 : decode cL_law 789 = .ok (.invokevirtual 90, 3) := by decide +kernel
theorem dL_law_792 : decode cL_law 792 = .ok (.iload 5, 2) := by decide +kernel
theorem dL_law_794 : decode cL_law 794 = .ok (.if_icmp .eq 5, 3) := by decide +kernel
theorem dL_law_797 : decode cL_law 797 = .ok (.iconst 0, 1) := by decide +kernel
theorem dL_law_798 : decode cL_law 798 = .ok (.ireturn, 1) := by decide +kernel
theorem dL_law_799 : decode cL_law 799 = .ok (.iload 5, 2) := by decide +kernel
theorem dL_law_801 : decode cL_law 801 = .ok (.ifCond .ne 15, 3) := by decide +kernel
theorem dL_law_804 : decode cL_law 804 = .ok (.aload_n 3, 1) := by decide +kernel
theorem dL_law_805 : decode cL_law 805 = .ok (.iconst 0, 1) := by decide +kernel
theorem dL_law_806 : decode cL_law 806 = .ok (.laload, 1) := by decide +kernel
theorem dL_law_807 : decode cL_law 807 = .ok (.iload 6, 2) := by decide +kernel
theorem dL_law_809 : decode cL_law 809 = .ok (.i2l, 1) := by decide +kernel
theorem dL_law_810 : decode cL_law 810 = .ok (.lcmp, 1) := by decide +kernel
theorem dL_law_811 : decode cL_law 811 = .ok (.ifCond .eq 5, 3) := by decide +kernel
theorem dL_law_814 : decode cL_law 814 = .ok (.iconst 0, 1) := by decide +kernel
theorem dL_law_815 : decode cL_law 815 = .ok (.ireturn, 1) := by decide +kernel
theorem dL_law_816 : decode cL_law 816 = .ok (.goto 741, 3) := by decide +kernel
theorem dL_law_819 : decode cL_law 819 = .ok (.aload_n 1, 1) := by decide +kernel
theorem dL_law_820 : decode cL_law 820 = .ok (.invokevirtual 135, 3) := by decide +kernel
theorem dL_law_823 : decode cL_law 823 = .ok (.aload_n 2, 1) := by decide +kernel
theorem dL_law_824 : decode cL_law 824 = .ok (.invokevirtual 138, 3) := by decide +kernel
theorem dL_law_827 : decode cL_law 827 = .ok (.if_icmp .eq 730, 3) := by decide +kernel
theorem dL_law_830 : decode cL_law 830 = .ok (.iconst 0, 1) := by decide +kernel
theorem dL_law_831 : decode cL_law 831 = .ok (.ireturn, 1) := by decide +kernel
theorem dL_law_832 : decode cL_law 832 = .ok (.aload_n 1, 1) := by decide +kernel
theorem dL_law_833 : decode cL_law 833 = .ok (.invokevirtual 139, 3) := by decide +kernel
theorem dL_law_836 : decode cL_law 836 = .ok (.aload_n 2, 1) := by decide +kernel
theorem dL_law_837 : decode cL_law 837 = .ok (.invokevirtual 142, 3) := by decide +kernel
theorem dL_law_840 : decode cL_law 840 = .ok (.if_icmp .eq 717, 3) := by decide +kernel
theorem dL_law_843 : decode cL_law 843 = .ok (.iconst 0, 1) := by decide +kernel
theorem dL_law_844 : decode cL_law 844 = .ok (.ireturn, 1) := by decide +kernel
theorem dL_law_845 : decode cL_law 845 = .ok (.aload_n 1, 1) := by decide +kernel
theorem dL_law_846 : decode cL_law 846 = .ok (.invokevirtual 143, 3) := by decide +kernel
theorem dL_law_849 : decode cL_law 849 = .ok (.aload_n 2, 1) := by decide +kernel
theorem dL_law_850 : decode cL_law 850 = .ok (.invokevirtual 146, 3) := by decide +kernel
theorem dL_law_853 : decode cL_law 853 = .ok (.if_icmp .eq 704, 3) := by decide +kernel
theorem dL_law_856 : decode cL_law 856 = .ok (.iconst 0, 1) := by decide +kernel
theorem dL_law_857 : decode cL_law 857 = .ok (.ireturn, 1) := by decide +kernel
theorem dL_law_858 : decode cL_law 858 = .ok (.aload_n 1, 1) := by decide +kernel
theorem dL_law_859 : decode cL_law 859 = .ok (.invokevirtual 147, 3) := by decide +kernel
theorem dL_law_862 : decode cL_law 862 = .ok (.aload_n 2, 1) := by decide +kernel
theorem dL_law_863 : decode cL_law 863 = .ok (.invokevirtual 150, 3) := by decide +kernel
theorem dL_law_866 : decode cL_law 866 = .ok (.if_icmp .eq 691, 3) := by decide +kernel
theorem dL_law_869 : decode cL_law 869 = .ok (.iconst 0, 1) := by decide +kernel
theorem dL_law_870 : decode cL_law 870 = .ok (.ireturn, 1) := by decide +kernel
theorem dL_law_871 : decode cL_law 871 = .ok (.aload_n 1, 1) := by decide +kernel
theorem dL_law_872 : decode cL_law 872 = .ok (.invokevirtual 151, 3) := by decide +kernel
theorem dL_law_875 : decode cL_law 875 = .ok (.aload_n 2, 1) := by decide +kernel
theorem dL_law_876 : decode cL_law 876 = .ok (.invokevirtual 154, 3) := by decide +kernel
theorem dL_law_879 : decode cL_law 879 = .ok (.if_icmp .eq 678, 3) := by decide +kernel
theorem dL_law_882 : decode cL_law 882 = .ok (.iconst 0, 1) := by decide +kernel
theorem dL_law_883 : decode cL_law 883 = .ok (.ireturn, 1) := by decide +kernel
theorem dL_law_884 : decode cL_law 884 = .ok (.aload_n 1, 1) := by decide +kernel
theorem dL_law_885 : decode cL_law 885 = .ok (.aload_n 0, 1) := by decide +kernel
theorem dL_law_886 : decode cL_law 886 = .ok (.iload 4, 2) := by decide +kernel
theorem dL_law_888 : decode cL_law 888 = .ok (.iconst 1, 1) := by decide +kernel
theorem dL_law_889 : decode cL_law 889 = .ok (.iadd, 1) := by decide +kernel
theorem dL_law_890 : decode cL_law 890 = .ok (.iaload, 1) := by decide +kernel
theorem dL_law_891 : decode cL_law 891 = .ok (.aload_n 3, 1) := by decide +kernel
theorem dL_law_892 : decode cL_law 892 = .ok (.invokestatic 155, 3) := by decide +kernel
theorem dL_law_895 : decode cL_law 895 = .ok (.istore 5, 2) := by decide +kernel
theorem dL_law_897 : decode cL_law 897 = .ok (.aload_n 2, 1) := by decide +kernel
theorem dL_law_898 : decode cL_law 898 = .ok (.aload_n 0, 1) := by decide +kernel
theorem dL_law_899 : decode cL_law 899 = .ok (.iload 4, 2) := by decide +kernel
theorem dL_law_901 : decode cL_law 901 = .ok (.iconst 1, 1) := by decide +kernel
theorem dL_law_902 : decode cL_law 902 = .ok (.iadd, 1) := by decide +kernel
theorem dL_law_903 : decode cL_law 903 = .ok (.iaload, 1) := by decide +kernel
theorem dL_law_904 : decode cL_law 904 = .ok (.invokevirtual 157, 3) := by decide +kernel
theorem dL_law_907 : decode cL_law 907 = .ok (.istore 6, 2) := by decide +kernel
theorem dL_law_909 : decode cL_law 909 = .ok (.aload_n 2, 1) := by decide +kernel
theorem dL_law_910 : decode cL_law 910 = .ok (.invokevirtual 90, 3) := by decide +kernel
theorem dL_law_913 : decode cL_law 913 = .ok (.iload 5, 2) := by decide +kernel
theorem dL_law_915 : decode cL_law 915 = .ok (.if_icmp .eq 5, 3) := by decide +kernel
theorem dL_law_918 : decode cL_law 918 = .ok (.iconst 0, 1) := by decide +kernel
theorem dL_law_919 : decode cL_law 919 = .ok (.ireturn, 1) := by decide +kernel
theorem dL_law_920 : decode cL_law 920 = .ok (.iload 5, 2) := by decide +kernel
theorem dL_law_922 : decode cL_law 922 = .ok (.ifCond .ne 15, 3) := by decide +kernel
theorem dL_law_925 : decode cL_law 925 = .ok (.aload_n 3, 1) := by decide +kernel
theorem dL_law_926 : decode cL_law 926 = .ok (.iconst 0, 1) := by decide +kernel
theorem dL_law_927 : decode cL_law 927 = .ok (.laload, 1) := by decide +kernel
theorem dL_law_928 : decode cL_law 928 = .ok (.iload 6, 2) := by decide +kernel
theorem dL_law_930 : decode cL_law 930 = .ok (.i2l, 1) := by decide +kernel
theorem dL_law_931 : decode cL_law 931 = .ok (.lcmp, 1) := by decide +kernel
theorem dL_law_932 : decode cL_law 932 = .ok (.ifCond .eq 5, 3) := by decide +kernel
theorem dL_law_935 : decode cL_law 935 = .ok (.iconst 0, 1) := by decide +kernel
theorem dL_law_936 : decode cL_law 936 = .ok (.ireturn, 1) := by decide +kernel
theorem dL_law_937 : decode cL_law 937 = .ok (.goto 620, 3) := by decide +kernel
theorem dL_law_940 : decode cL_law 940 = .ok (.aload_n 1, 1) := by decide +kernel
theorem dL_law_941 : decode cL_law 941 = .ok (.aload_n 0, 1) := by decide +kernel
theorem dL_law_942 : decode cL_law 942 = .ok (.iload 4, 2) := by decide +kernel
theorem dL_law_944 : decode cL_law 944 = .ok (.iconst 1, 1) := by decide +kernel
theorem dL_law_945 : decode cL_law 945 = .ok (.iadd, 1) := by decide +kernel
theorem dL_law_946 : decode cL_law 946 = .ok (.iaload, 1) := by decide +kernel
theorem dL_law_947 : decode cL_law 947 = .ok (.aload_n 3, 1) := by decide +kernel
theorem dL_law_948 : decode cL_law 948 = .ok (.invokestatic 158, 3) := by decide +kernel
theorem dL_law_951 : decode cL_law 951 = .ok (.istore 5, 2) := by decide +kernel
theorem dL_law_953 : decode cL_law 953 = .ok (.aload_n 2, 1) := by decide +kernel
theorem dL_law_954 : decode cL_law 954 = .ok (.aload_n 0, 1) := by decide +kernel
theorem dL_law_955 : decode cL_law 955 = .ok (.iload 4, 2) := by decide +kernel
theorem dL_law_957 : decode cL_law 957 = .ok (.iconst 1, 1) := by decide +kernel
theorem dL_law_958 : decode cL_law 958 = .ok (.iadd, 1) := by decide +kernel
theorem dL_law_959 : decode cL_law 959 = .ok (.iaload, 1) := by decide +kernel
theorem dL_law_960 : decode cL_law 960 = .ok (.invokevirtual 160, 3) := by decide +kernel
theorem dL_law_963 : decode cL_law 963 = .ok (.istore 6, 2) := by decide +kernel
theorem dL_law_965 : decode cL_law 965 = .ok (.aload_n 2, 1) := by decide +kernel
theorem dL_law_966 : decode cL_law 966 = .ok (.invokevirtual 90, 3) := by decide +kernel
theorem dL_law_969 : decode cL_law 969 = .ok (.iload 5, 2) := by decide +kernel
theorem dL_law_971 : decode cL_law 971 = .ok (.if_icmp .eq 5, 3) := by decide +kernel
theorem dL_law_974 : decode cL_law 974 = .ok (.iconst 0, 1) := by decide +kernel
theorem dL_law_975 : decode cL_law 975 = .ok (.ireturn, 1) := by decide +kernel
theorem dL_law_976 : decode cL_law 976 = .ok (.iload 5, 2) := by decide +kernel
theorem dL_law_978 : decode cL_law 978 = .ok (.ifCond .ne 22, 3) := by decide +kernel
theorem dL_law_981 : decode cL_law 981 = .ok (.aload_n 3, 1) := by decide +kernel
theorem dL_law_982 : decode cL_law 982 = .ok (.iconst 0, 1) := by decide +kernel
theorem dL_law_983 : decode cL_law 983 = .ok (.laload, 1) := by decide +kernel
theorem dL_law_984 : decode cL_law 984 = .ok (.iload 6, 2) := by decide +kernel
theorem dL_law_986 : decode cL_law 986 = .ok (.ifCond .eq 7, 3) := by decide +kernel
theorem dL_law_989 : decode cL_law 989 = .ok (.lconst 1, 1) := by decide +kernel
theorem dL_law_990 : decode cL_law 990 = .ok (.goto 4, 3) := by decide +kernel
theorem dL_law_993 : decode cL_law 993 = .ok (.lconst 0, 1) := by decide +kernel
theorem dL_law_994 : decode cL_law 994 = .ok (.lcmp, 1) := by decide +kernel
theorem dL_law_995 : decode cL_law 995 = .ok (.ifCond .eq 5, 3) := by decide +kernel
theorem dL_law_998 : decode cL_law 998 = .ok (.iconst 0, 1) := by decide +kernel
theorem dL_law_999 : decode cL_law 999 = .ok (.ireturn, 1) := by decide +kernel
theorem dL_law_1000 : decode cL_law 1000 = .ok (.goto 557, 3) := by decide +kernel
theorem dL_law_1003 : decode cL_law 1003 = .ok (.aload_n 1, 1) := by decide +kernel
theorem dL_law_1004 : decode cL_law 1004 = .ok (.aload_n 0, 1) := by decide +kernel
theorem dL_law_1005 : decode cL_law 1005 = .ok (.iload 4, 2) := by decide +kernel
theorem dL_law_1007 : decode cL_law 1007 = .ok (.iconst 1, 1) := by decide +kernel
theorem dL_law_1008 : decode cL_law 1008 = .ok (.iadd, 1) := by decide +kernel
theorem dL_law_1009 : decode cL_law 1009 = .ok (.iaload, 1) := by decide +kernel
theorem dL_law_1010 : decode cL_law 1010 = .ok (.aload_n 3, 1) := by decide +kernel
theorem dL_law_1011 : decode cL_law 1011 = .ok (.invokestatic 161, 3) := by decide +kernel
theorem dL_law_1014 : decode cL_law 1014 = .ok (.istore 5, 2) := by decide +kernel
theorem dL_law_1016 : decode cL_law 1016 = .ok (.aload_n 2, 1) := by decide +kernel
theorem dL_law_1017 : decode cL_law 1017 = .ok (.aload_n 0, 1) := by decide +kernel
theorem dL_law_1018 : decode cL_law 1018 = .ok (.iload 4, 2) := by decide +kernel
theorem dL_law_1020 : decode cL_law 1020 = .ok (.iconst 1, 1) := by decide +kernel
theorem dL_law_1021 : decode cL_law 1021 = .ok (.iadd, 1) := by decide +kernel
theorem dL_law_1022 : decode cL_law 1022 = .ok (.iaload, 1) := by decide +kernel
theorem dL_law_1023 : decode cL_law 1023 = .ok (.invokevirtual 163, 3) := by decide +kernel
theorem dL_law_1026 : decode cL_law 1026 = .ok (.istore 6, 2) := by decide +kernel
theorem dL_law_1028 : decode cL_law 1028 = .ok (.aload_n 2, 1) := by decide +kernel
theorem dL_law_1029 : decode cL_law 1029 = .ok (.invokevirtual 90, 3) := by decide +kernel
theorem dL_law_1032 : decode cL_law 1032 = .ok (.iload 5, 2) := by decide +kernel
theorem dL_law_1034 : decode cL_law 1034 = .ok (.if_icmp .eq 5, 3) := by decide +kernel
theorem dL_law_1037 : decode cL_law 1037 = .ok (.iconst 0, 1) := by decide +kernel
theorem dL_law_1038 : decode cL_law 1038 = .ok (.ireturn, 1) := by decide +kernel
theorem dL_law_1039 : decode cL_law 1039 = .ok (.iload 5, 2) := by decide +kernel
theorem dL_law_1041 : decode cL_law 1041 = .ok (.ifCond .ne 15, 3) := by decide +kernel
theorem dL_law_1044 : decode cL_law 1044 = .ok (.aload_n 3, 1) := by decide +kernel
theorem dL_law_1045 : decode cL_law 1045 = .ok (.iconst 0, 1) := by decide +kernel
theorem dL_law_1046 : decode cL_law 1046 = .ok (.laload, 1) := by decide +kernel
theorem dL_law_1047 : decode cL_law 1047 = .ok (.iload 6, 2) := by decide +kernel
theorem dL_law_1049 : decode cL_law 1049 = .ok (.i2l, 1) := by decide +kernel
theorem dL_law_1050 : decode cL_law 1050 = .ok (.lcmp, 1) := by decide +kernel
theorem dL_law_1051 : decode cL_law 1051 = .ok (.ifCond .eq 5, 3) := by decide +kernel
theorem dL_law_1054 : decode cL_law 1054 = .ok (.iconst 0, 1) := by decide +kernel
theorem dL_law_1055 : decode cL_law 1055 = .ok (.ireturn, 1) := by decide +kernel
theorem dL_law_1056 : decode cL_law 1056 = .ok (.goto 501, 3) := by decide +kernel
theorem dL_law_1059 : decode cL_law 1059 = .ok (.aload_n 1, 1) := by decide +kernel
theorem dL_law_1060 : decode cL_law 1060 = .ok (.aload_n 0, 1) := by decide +kernel
theorem dL_law_1061 : decode cL_law 1061 = .ok (.iload 4, 2) := by decide +kernel
theorem dL_law_1063 : decode cL_law 1063 = .ok (.iconst 1, 1) := by decide +kernel
theorem dL_law_1064 : decode cL_law 1064 = .ok (.iadd, 1) := by decide +kernel
theorem dL_law_1065 : decode cL_law 1065 = .ok (.iaload, 1) := by decide +kernel
theorem dL_law_1066 : decode cL_law 1066 = .ok (.aload_n 3, 1) := by decide +kernel
theorem dL_law_1067 : decode cL_law 1067 = .ok (.invokestatic 164, 3) := by decide +kernel
theorem dL_law_1070 : decode cL_law 1070 = .ok (.istore 5, 2) := by decide +kernel
theorem dL_law_1072 : decode cL_law 1072 = .ok (.aload_n 2, 1) := by decide +kernel
theorem dL_law_1073 : decode cL_law 1073 = .ok (.aload_n 0, 1) := by decide +kernel
theorem dL_law_1074 : decode cL_law 1074 = .ok (.iload 4, 2) := by decide +kernel
theorem dL_law_1076 : decode cL_law 1076 = .ok (.iconst 1, 1) := by decide +kernel
theorem dL_law_1077 : decode cL_law 1077 = .ok (.iadd, 1) := by decide +kernel
theorem dL_law_1078 : decode cL_law 1078 = .ok (.iaload, 1) := by decide +kernel
theorem dL_law_1079 : decode cL_law 1079 = .ok (.invokevirtual 166, 3) := by decide +kernel
theorem dL_law_1082 : decode cL_law 1082 = .ok (.istore 6, 2) := by decide +kernel
theorem dL_law_1084 : decode cL_law 1084 = .ok (.aload_n 2, 1) := by decide +kernel
theorem dL_law_1085 : decode cL_law 1085 = .ok (.invokevirtual 90, 3) := by decide +kernel
theorem dL_law_1088 : decode cL_law 1088 = .ok (.iload 5, 2) := by decide +kernel
theorem dL_law_1090 : decode cL_law 1090 = .ok (.if_icmp .eq 5, 3) := by decide +kernel
theorem dL_law_1093 : decode cL_law 1093 = .ok (.iconst 0, 1) := by decide +kernel
theorem dL_law_1094 : decode cL_law 1094 = .ok (.ireturn, 1) := by decide +kernel
theorem dL_law_1095 : decode cL_law 1095 = .ok (.iload 5, 2) := by decide +kernel
theorem dL_law_1097 : decode cL_law 1097 = .ok (.ifCond .ne 15, 3) := by decide +kernel
theorem dL_law_1100 : decode cL_law 1100 = .ok (.aload_n 3, 1) := by decide +kernel
theorem dL_law_1101 : decode cL_law 1101 = .ok (.iconst 0, 1) := by decide +kernel
theorem dL_law_1102 : decode cL_law 1102 = .ok (.laload, 1) := by decide +kernel
theorem dL_law_1103 : decode cL_law 1103 = .ok (.iload 6, 2) := by decide +kernel
theorem dL_law_1105 : decode cL_law 1105 = .ok (.i2l, 1) := by decide +kernel
theorem dL_law_1106 : decode cL_law 1106 = .ok (.lcmp, 1) := by decide +kernel
theorem dL_law_1107 : decode cL_law 1107 = .ok (.ifCond .eq 5, 3) := by decide +kernel
theorem dL_law_1110 : decode cL_law 1110 = .ok (.iconst 0, 1) := by decide +kernel
theorem dL_law_1111 : decode cL_law 1111 = .ok (.ireturn, 1) := by decide +kernel
theorem dL_law_1112 : decode cL_law 1112 = .ok (.goto 445, 3) := by decide +kernel
theorem dL_law_1115 : decode cL_law 1115 = .ok (.aload_n 1, 1) := by decide +kernel
theorem dL_law_1116 : decode cL_law 1116 = .ok (.invokevirtual 167, 3) := by decide +kernel
theorem dL_law_1119 : decode cL_law 1119 = .ok (.aload_n 2, 1) := by decide +kernel
theorem dL_law_1120 : decode cL_law 1120 = .ok (.invokevirtual 170, 3) := by decide +kernel
theorem dL_law_1123 : decode cL_law 1123 = .ok (.if_icmp .eq 434, 3) := by decide +kernel
theorem dL_law_1126 : decode cL_law 1126 = .ok (.iconst 0, 1) := by decide +kernel
theorem dL_law_1127 : decode cL_law 1127 = .ok (.ireturn, 1) := by decide +kernel
theorem dL_law_1128 : decode cL_law 1128 = .ok (.aload_n 1, 1) := by decide +kernel
theorem dL_law_1129 : decode cL_law 1129 = .ok (.aload_n 0, 1) := by decide +kernel
theorem dL_law_1130 : decode cL_law 1130 = .ok (.iload 4, 2) := by decide +kernel
theorem dL_law_1132 : decode cL_law 1132 = .ok (.iconst 1, 1) := by decide +kernel
theorem dL_law_1133 : decode cL_law 1133 = .ok (.iadd, 1) := by decide +kernel
theorem dL_law_1134 : decode cL_law 1134 = .ok (.iaload, 1) := by decide +kernel
theorem dL_law_1135 : decode cL_law 1135 = .ok (.aload_n 3, 1) := by decide +kernel
theorem dL_law_1136 : decode cL_law 1136 = .ok (.invokestatic 171, 3) := by decide +kernel
theorem dL_law_1139 : decode cL_law 1139 = .ok (.istore 5, 2) := by decide +kernel
theorem dL_law_1141 : decode cL_law 1141 = .ok (.aload_n 2, 1) := by decide +kernel
theorem dL_law_1142 : decode cL_law 1142 = .ok (.aload_n 0, 1) := by decide +kernel
theorem dL_law_1143 : decode cL_law 1143 = .ok (.iload 4, 2) := by decide +kernel
theorem dL_law_1145 : decode cL_law 1145 = .ok (.iconst 1, 1) := by decide +kernel
theorem dL_law_1146 : decode cL_law 1146 = .ok (.iadd, 1) := by decide +kernel
theorem dL_law_1147 : decode cL_law 1147 = .ok (.iaload, 1) := by decide +kernel
theorem dL_law_1148 : decode cL_law 1148 = .ok (.invokevirtual 173, 3) := by decide +kernel
theorem dL_law_1151 : decode cL_law 1151 = .ok (.istore 6, 2) := by decide +kernel
theorem dL_law_1153 : decode cL_law 1153 = .ok (.aload_n 2, 1) := by decide +kernel
theorem dL_law_1154 : decode cL_law 1154 = .ok (.invokevirtual 90, 3) := by decide +kernel
theorem dL_law_1157 : decode cL_law 1157 = .ok (.iload 5, 2) := by decide +kernel
theorem dL_law_1159 : decode cL_law 1159 = .ok (.if_icmp .eq 5, 3) := by decide +kernel
theorem dL_law_1162 : decode cL_law 1162 = .ok (.iconst 0, 1) := by decide +kernel
theorem dL_law_1163 : decode cL_law 1163 = .ok (.ireturn, 1) := by decide +kernel
theorem dL_law_1164 : decode cL_law 1164 = .ok (.iload 5, 2) := by decide +kernel
theorem dL_law_1166 : decode cL_law 1166 = .ok (.ifCond .ne 15, 3) := by decide +kernel
theorem dL_law_1169 : decode cL_law 1169 = .ok (.aload_n 3, 1) := by decide +kernel
theorem dL_law_1170 : decode cL_law 1170 = .ok (.iconst 0, 1) := by decide +kernel
theorem dL_law_1171 : decode cL_law 1171 = .ok (.laload, 1) := by decide +kernel
theorem dL_law_1172 : decode cL_law 1172 = .ok (.iload 6, 2) := by decide +kernel
theorem dL_law_1174 : decode cL_law 1174 = .ok (.i2l, 1) := by decide +kernel
theorem dL_law_1175 : decode cL_law 1175 = .ok (.lcmp, 1) := by decide +kernel
theorem dL_law_1176 : decode cL_law 1176 = .ok (.ifCond .eq 5, 3) := by decide +kernel
theorem dL_law_1179 : decode cL_law 1179 = .ok (.iconst 0, 1) := by decide +kernel
theorem dL_law_1180 : decode cL_law 1180 = .ok (.ireturn, 1) := by decide +kernel
theorem dL_law_1181 : decode cL_law 1181 = .ok (.goto 376, 3) := by decide +kernel
theorem dL_law_1184 : decode cL_law 1184 = .ok (.aload_n 1, 1) := by decide +kernel
theorem dL_law_1185 : decode cL_law 1185 = .ok (.invokevirtual 174, 3) := by decide +kernel
theorem dL_law_1188 : decode cL_law 1188 = .ok (.aload_n 2, 1) := by decide +kernel
theorem dL_law_1189 : decode cL_law 1189 = .ok (.invokevirtual 177, 3) := by decide +kernel
theorem dL_law_1192 : decode cL_law 1192 = .ok (.if_icmp .eq 365, 3) := by decide +kernel
theorem dL_law_1195 : decode cL_law 1195 = .ok (.iconst 0, 1) := by decide +kernel
theorem dL_law_1196 : decode cL_law 1196 = .ok (.ireturn, 1) := by decide +kernel
theorem dL_law_1197 : decode cL_law 1197 = .ok (.aload_n 1, 1) := by decide +kernel
theorem dL_law_1198 : decode cL_law 1198 = .ok (.invokevirtual 178, 3) := by decide +kernel
theorem dL_law_1201 : decode cL_law 1201 = .ok (.aload_n 2, 1) := by decide +kernel
theorem dL_law_1202 : decode cL_law 1202 = .ok (.invokevirtual 181, 3) := by decide +kernel
theorem dL_law_1205 : decode cL_law 1205 = .ok (.if_icmp .eq 352, 3) := by decide +kernel
theorem dL_law_1208 : decode cL_law 1208 = .ok (.iconst 0, 1) := by decide +kernel
theorem dL_law_1209 : decode cL_law 1209 = .ok (.ireturn, 1) := by decide +kernel
theorem dL_law_1210 : decode cL_law 1210 = .ok (.aload_n 1, 1) := by decide +kernel
theorem dL_law_1211 : decode cL_law 1211 = .ok (.aload_n 0, 1) := by decide +kernel
theorem dL_law_1212 : decode cL_law 1212 = .ok (.iload 4, 2) := by decide +kernel
theorem dL_law_1214 : decode cL_law 1214 = .ok (.iconst 1, 1) := by decide +kernel
theorem dL_law_1215 : decode cL_law 1215 = .ok (.iadd, 1) := by decide +kernel
theorem dL_law_1216 : decode cL_law 1216 = .ok (.iaload, 1) := by decide +kernel
theorem dL_law_1217 : decode cL_law 1217 = .ok (.aload_n 0, 1) := by decide +kernel
theorem dL_law_1218 : decode cL_law 1218 = .ok (.iload 4, 2) := by decide +kernel
theorem dL_law_1220 : decode cL_law 1220 = .ok (.iconst 2, 1) := by decide +kernel
theorem dL_law_1221 : decode cL_law 1221 = .ok (.iadd, 1) := by decide +kernel
theorem dL_law_1222 : decode cL_law 1222 = .ok (.iaload, 1) := by decide +kernel
theorem dL_law_1223 : decode cL_law 1223 = .ok (.aload_n 3, 1) := by decide +kernel
theorem dL_law_1224 : decode cL_law 1224 = .ok (.invokestatic 182, 3) := by decide +kernel
theorem dL_law_1227 : decode cL_law 1227 = .ok (.istore 5, 2) := by decide +kernel
theorem dL_law_1229 : decode cL_law 1229 = .ok (.aload_n 2, 1) := by decide +kernel
theorem dL_law_1230 : decode cL_law 1230 = .ok (.aload_n 0, 1) := by decide +kernel
theorem dL_law_1231 : decode cL_law 1231 = .ok (.iload 4, 2) := by decide +kernel
theorem dL_law_1233 : decode cL_law 1233 = .ok (.iconst 1, 1) := by decide +kernel
theorem dL_law_1234 : decode cL_law 1234 = .ok (.iadd, 1) := by decide +kernel
theorem dL_law_1235 : decode cL_law 1235 = .ok (.iaload, 1) := by decide +kernel
theorem dL_law_1236 : decode cL_law 1236 = .ok (.aload_n 0, 1) := by decide +kernel
theorem dL_law_1237 : decode cL_law 1237 = .ok (.iload 4, 2) := by decide +kernel
theorem dL_law_1239 : decode cL_law 1239 = .ok (.iconst 2, 1) := by decide +kernel
theorem dL_law_1240 : decode cL_law 1240 = .ok (.iadd, 1) := by decide +kernel
theorem dL_law_1241 : decode cL_law 1241 = .ok (.iaload, 1) := by decide +kernel
theorem dL_law_1242 : decode cL_law 1242 = .ok (.invokevirtual 184, 3) := by decide +kernel
theorem dL_law_1245 : decode cL_law 1245 = .ok (.istore 6, 2) := by decide +kernel
theorem dL_law_1247 : decode cL_law 1247 = .ok (.aload_n 2, 1) := by decide +kernel
theorem dL_law_1248 : decode cL_law 1248 = .ok (.invokevirtual 90, 3) := by decide +kernel
theorem dL_law_1251 : decode cL_law 1251 = .ok (.iload 5, 2) := by decide +kernel
theorem dL_law_1253 : decode cL_law 1253 = .ok (.if_icmp .eq 5, 3) := by decide +kernel
theorem dL_law_1256 : decode cL_law 1256 = .ok (.iconst 0, 1) := by decide +kernel
theorem dL_law_1257 : decode cL_law 1257 = .ok (.ireturn, 1) := by decide +kernel
theorem dL_law_1258 : decode cL_law 1258 = .ok (.iload 5, 2) := by decide +kernel
theorem dL_law_1260 : decode cL_law 1260 = .ok (.ifCond .ne 15, 3) := by decide +kernel
theorem dL_law_1263 : decode cL_law 1263 = .ok (.aload_n 3, 1) := by decide +kernel
theorem dL_law_1264 : decode cL_law 1264 = .ok (.iconst 0, 1) := by decide +kernel
theorem dL_law_1265 : decode cL_law 1265 = .ok (.laload, 1) := by decide +kernel
theorem dL_law_1266 : decode cL_law 1266 = .ok (.iload 6, 2) := by decide +kernel
theorem dL_law_1268 : decode cL_law 1268 = .ok (.i2l, 1) := by decide +kernel
theorem dL_law_1269 : decode cL_law 1269 = .ok (.lcmp, 1) := by decide +kernel
theorem dL_law_1270 : decode cL_law 1270 = .ok (.ifCond .eq 5, 3) := by decide +kernel
theorem dL_law_1273 : decode cL_law 1273 = .ok (.iconst 0, 1) := by decide +kernel
theorem dL_law_1274 : decode cL_law 1274 = .ok (.ireturn, 1) := by decide +kernel
theorem dL_law_1275 : decode cL_law 1275 = .ok (.goto 282, 3) := by decide +kernel
theorem dL_law_1278 : decode cL_law 1278 = .ok (.aload_n 1, 1) := by decide +kernel
theorem dL_law_1279 : decode cL_law 1279 = .ok (.aload_n 0, 1) := by decide +kernel
theorem dL_law_1280 : decode cL_law 1280 = .ok (.iload 4, 2) := by decide +kernel
theorem dL_law_1282 : decode cL_law 1282 = .ok (.iconst 1, 1) := by decide +kernel
theorem dL_law_1283 : decode cL_law 1283 = .ok (.iadd, 1) := by decide +kernel
theorem dL_law_1284 : decode cL_law 1284 = .ok (.iaload, 1) := by decide +kernel
theorem dL_law_1285 : decode cL_law 1285 = .ok (.aload_n 3, 1) := by decide +kernel
theorem dL_law_1286 : decode cL_law 1286 = .ok (.invokestatic 185, 3) := by decide +kernel
theorem dL_law_1289 : decode cL_law 1289 = .ok (.istore 5, 2) := by decide +kernel
theorem dL_law_1291 : decode cL_law 1291 = .ok (.aload_n 2, 1) := by decide +kernel
theorem dL_law_1292 : decode cL_law 1292 = .ok (.aload_n 0, 1) := by decide +kernel
theorem dL_law_1293 : decode cL_law 1293 = .ok (.iload 4, 2) := by decide +kernel
theorem dL_law_1295 : decode cL_law 1295 = .ok (.iconst 1, 1) := by decide +kernel
theorem dL_law_1296 : decode cL_law 1296 = .ok (.iadd, 1) := by decide +kernel
theorem dL_law_1297 : decode cL_law 1297 = .ok (.iaload, 1) := by decide +kernel
theorem dL_law_1298 : decode cL_law 1298 = .ok (.invokevirtual 187, 3) := by decide +kernel
theorem dL_law_1301 : decode cL_law 1301 = .ok (.istore 6, 2) := by decide +kernel
theorem dL_law_1303 : decode cL_law 1303 = .ok (.aload_n 2, 1) := by decide +kernel
theorem dL_law_1304 : decode cL_law 1304 = .ok (.invokevirtual 90, 3) := by decide +kernel
theorem dL_law_1307 : decode cL_law 1307 = .ok (.iload 5, 2) := by decide +kernel
theorem dL_law_1309 : decode cL_law 1309 = .ok (.if_icmp .eq 5, 3) := by decide +kernel
theorem dL_law_1312 : decode cL_law 1312 = .ok (.iconst 0, 1) := by decide +kernel
theorem dL_law_1313 : decode cL_law 1313 = .ok (.ireturn, 1) := by decide +kernel
theorem dL_law_1314 : decode cL_law 1314 = .ok (.iload 5, 2) := by decide +kernel
theorem dL_law_1316 : decode cL_law 1316 = .ok (.ifCond .ne 15, 3) := by decide +kernel
theorem dL_law_1319 : decode cL_law 1319 = .ok (.aload_n 3, 1) := by decide +kernel
theorem dL_law_1320 : decode cL_law 1320 = .ok (.iconst 0, 1) := by decide +kernel
theorem dL_law_1321 : decode cL_law 1321 = .ok (.laload, 1) := by decide +kernel
theorem dL_law_1322 : decode cL_law 1322 = .ok (.iload 6, 2) := by decide +kernel
theorem dL_law_1324 : decode cL_law 1324 = .ok (.i2l, 1) := by decide +kernel
theorem dL_law_1325 : decode cL_law 1325 = .ok (.lcmp, 1) := by decide +kernel
theorem dL_law_1326 : decode cL_law 1326 = .ok (.ifCond .eq 5, 3) := by decide +kernel
theorem dL_law_1329 : decode cL_law 1329 = .ok (.iconst 0, 1) := by decide +kernel
theorem dL_law_1330 : decode cL_law 1330 = .ok (.ireturn, 1) := by decide +kernel
theorem dL_law_1331 : decode cL_law 1331 = .ok (.goto 226, 3) := by decide +kernel
theorem dL_law_1334 : decode cL_law 1334 = .ok (.aload_n 1, 1) := by decide +kernel
theorem dL_law_1335 : decode cL_law 1335 = .ok (.aload_n 0, 1) := by decide +kernel
theorem dL_law_1336 : decode cL_law 1336 = .ok (.iload 4, 2) := by decide +kernel
theorem dL_law_1338 : decode cL_law 1338 = .ok (.iconst 1, 1) := by decide +kernel
theorem dL_law_1339 : decode cL_law 1339 = .ok (.iadd, 1) := by decide +kernel
theorem dL_law_1340 : decode cL_law 1340 = .ok (.iaload, 1) := by decide +kernel
theorem dL_law_1341 : decode cL_law 1341 = .ok (.aload_n 3, 1) := by decide +kernel
theorem dL_law_1342 : decode cL_law 1342 = .ok (.invokestatic 188, 3) := by decide +kernel
theorem dL_law_1345 : decode cL_law 1345 = .ok (.istore 5, 2) := by decide +kernel
theorem dL_law_1347 : decode cL_law 1347 = .ok (.aload_n 2, 1) := by decide +kernel
theorem dL_law_1348 : decode cL_law 1348 = .ok (.aload_n 0, 1) := by decide +kernel
theorem dL_law_1349 : decode cL_law 1349 = .ok (.iload 4, 2) := by decide +kernel
theorem dL_law_1351 : decode cL_law 1351 = .ok (.iconst 1, 1) := by decide +kernel
theorem dL_law_1352 : decode cL_law 1352 = .ok (.iadd, 1) := by decide +kernel
theorem dL_law_1353 : decode cL_law 1353 = .ok (.iaload, 1) := by decide +kernel
theorem dL_law_1354 : decode cL_law 1354 = .ok (.invokevirtual 190, 3) := by decide +kernel
theorem dL_law_1357 : decode cL_law 1357 = .ok (.istore 6, 2) := by decide +kernel
theorem dL_law_1359 : decode cL_law 1359 = .ok (.aload_n 2, 1) := by decide +kernel
theorem dL_law_1360 : decode cL_law 1360 = .ok (.invokevirtual 90, 3) := by decide +kernel
theorem dL_law_1363 : decode cL_law 1363 = .ok (.iload 5, 2) := by decide +kernel
theorem dL_law_1365 : decode cL_law 1365 = .ok (.if_icmp .eq 5, 3) := by decide +kernel
theorem dL_law_1368 : decode cL_law 1368 = .ok (.iconst 0, 1) := by decide +kernel
theorem dL_law_1369 : decode cL_law 1369 = .ok (.ireturn, 1) := by decide +kernel
theorem dL_law_1370 : decode cL_law 1370 = .ok (.iload 5, 2) := by decide +kernel
theorem dL_law_1372 : decode cL_law 1372 = .ok (.ifCond .ne 15, 3) := by decide +kernel
theorem dL_law_1375 : decode cL_law 1375 = .ok (.aload_n 3, 1) := by decide +kernel
theorem dL_law_1376 : decode cL_law 1376 = .ok (.iconst 0, 1) := by decide +kernel
theorem dL_law_1377 : decode cL_law 1377 = .ok (.laload, 1) := by decide +kernel
theorem dL_law_1378 : decode cL_law 1378 = .ok (.iload 6, 2) := by decide +kernel
theorem dL_law_1380 : decode cL_law 1380 = .ok (.i2l, 1) := by decide +kernel
theorem dL_law_1381 : decode cL_law 1381 = .ok (.lcmp, 1) := by decide +kernel
theorem dL_law_1382 : decode cL_law 1382 = .ok (.ifCond .eq 5, 3) := by decide +kernel
theorem dL_law_1385 : decode cL_law 1385 = .ok (.iconst 0, 1) := by decide +kernel
theorem dL_law_1386 : decode cL_law 1386 = .ok (.ireturn, 1) := by decide +kernel
theorem dL_law_1387 : decode cL_law 1387 = .ok (.goto 170, 3) := by decide +kernel
theorem dL_law_1390 : decode cL_law 1390 = .ok (.aload_n 1, 1) := by decide +kernel
theorem dL_law_1391 : decode cL_law 1391 = .ok (.aload_n 0, 1) := by decide +kernel
theorem dL_law_1392 : decode cL_law 1392 = .ok (.iload 4, 2) := by decide +kernel
theorem dL_law_1394 : decode cL_law 1394 = .ok (.iconst 1, 1) := by decide +kernel
theorem dL_law_1395 : decode cL_law 1395 = .ok (.iadd, 1) := by decide +kernel
theorem dL_law_1396 : decode cL_law 1396 = .ok (.iaload, 1) := by decide +kernel
theorem dL_law_1397 : decode cL_law 1397 = .ok (.aload_n 3, 1) := by decide +kernel
theorem dL_law_1398 : decode cL_law 1398 = .ok (.invokestatic 191, 3) := by decide +kernel
theorem dL_law_1401 : decode cL_law 1401 = .ok (.istore 5, 2) := by decide +kernel
theorem dL_law_1403 : decode cL_law 1403 = .ok (.aload_n 2, 1) := by decide +kernel
theorem dL_law_1404 : decode cL_law 1404 = .ok (.aload_n 0, 1) := by decide +kernel
theorem dL_law_1405 : decode cL_law 1405 = .ok (.iload 4, 2) := by decide +kernel
theorem dL_law_1407 : decode cL_law 1407 = .ok (.iconst 1, 1) := by decide +kernel
theorem dL_law_1408 : decode cL_law 1408 = .ok (.iadd, 1) := by decide +kernel
theorem dL_law_1409 : decode cL_law 1409 = .ok (.iaload, 1) := by decide +kernel
theorem dL_law_1410 : decode cL_law 1410 = .ok (.invokevirtual 193, 3) := by decide +kernel
theorem dL_law_1413 : decode cL_law 1413 = .ok (.istore 6, 2) := by decide +kernel
theorem dL_law_1415 : decode cL_law 1415 = .ok (.aload_n 2, 1) := by decide +kernel
theorem dL_law_1416 : decode cL_law 1416 = .ok (.invokevirtual 90, 3) := by decide +kernel
theorem dL_law_1419 : decode cL_law 1419 = .ok (.iload 5, 2) := by decide +kernel
theorem dL_law_1421 : decode cL_law 1421 = .ok (.if_icmp .eq 5, 3) := by decide +kernel
theorem dL_law_1424 : decode cL_law 1424 = .ok (.iconst 0, 1) := by decide +kernel
theorem dL_law_1425 : decode cL_law 1425 = .ok (.ireturn, 1) := by decide +kernel
theorem dL_law_1426 : decode cL_law 1426 = .ok (.iload 5, 2) := by decide +kernel
theorem dL_law_1428 : decode cL_law 1428 = .ok (.ifCond .ne 15, 3) := by decide +kernel
theorem dL_law_1431 : decode cL_law 1431 = .ok (.aload_n 3, 1) := by decide +kernel
theorem dL_law_1432 : decode cL_law 1432 = .ok (.iconst 0, 1) := by decide +kernel
theorem dL_law_1433 : decode cL_law 1433 = .ok (.laload, 1) := by decide +kernel
theorem dL_law_1434 : decode cL_law 1434 = .ok (.iload 6, 2) := by decide +kernel
theorem dL_law_1436 : decode cL_law 1436 = .ok (.i2l, 1) := by decide +kernel
theorem dL_law_1437 : decode cL_law 1437 = .ok (.lcmp, 1) := by decide +kernel
theorem dL_law_1438 : decode cL_law 1438 = .ok (.ifCond .eq 5, 3) := by decide +kernel
theorem dL_law_1441 : decode cL_law 1441 = .ok (.iconst 0, 1) := by decide +kernel
theorem dL_law_1442 : decode cL_law 1442 = .ok (.ireturn, 1) := by decide +kernel
theorem dL_law_1443 : decode cL_law 1443 = .ok (.goto 114, 3) := by decide +kernel
theorem dL_law_1446 : decode cL_law 1446 = .ok (.aload_n 1, 1) := by decide +kernel
theorem dL_law_1447 : decode cL_law 1447 = .ok (.aload_n 0, 1) := by decide +kernel
theorem dL_law_1448 : decode cL_law 1448 = .ok (.iload 4, 2) := by decide +kernel
theorem dL_law_1450 : decode cL_law 1450 = .ok (.iconst 1, 1) := by decide +kernel
theorem dL_law_1451 : decode cL_law 1451 = .ok (.iadd, 1) := by decide +kernel
theorem dL_law_1452 : decode cL_law 1452 = .ok (.iaload, 1) := by decide +kernel
theorem dL_law_1453 : decode cL_law 1453 = .ok (.aload_n 3, 1) := by decide +kernel
theorem dL_law_1454 : decode cL_law 1454 = .ok (.invokestatic 194, 3) := by decide +kernel
theorem dL_law_1457 : decode cL_law 1457 = .ok (.istore 5, 2) := by decide +kernel
theorem dL_law_1459 : decode cL_law 1459 = .ok (.aload_n 2, 1) := by decide +kernel
theorem dL_law_1460 : decode cL_law 1460 = .ok (.aload_n 0, 1) := by decide +kernel
theorem dL_law_1461 : decode cL_law 1461 = .ok (.iload 4, 2) := by decide +kernel
theorem dL_law_1463 : decode cL_law 1463 = .ok (.iconst 1, 1) := by decide +kernel
theorem dL_law_1464 : decode cL_law 1464 = .ok (.iadd, 1) := by decide +kernel
theorem dL_law_1465 : decode cL_law 1465 = .ok (.iaload, 1) := by decide +kernel
theorem dL_law_1466 : decode cL_law 1466 = .ok (.invokevirtual 196, 3) := by decide +kernel
theorem dL_law_1469 : decode cL_law 1469 = .ok (.istore 6, 2) := by decide +kernel
theorem dL_law_1471 : decode cL_law 1471 = .ok (.aload_n 2, 1) := by decide +kernel
theorem dL_law_1472 : decode cL_law 1472 = .ok (.invokevirtual 90, 3) := by decide +kernel
theorem dL_law_1475 : decode cL_law 1475 = .ok (.iload 5, 2) := by decide +kernel
theorem dL_law_1477 : decode cL_law 1477 = .ok (.if_icmp .eq 5, 3) := by decide +kernel
theorem dL_law_1480 : decode cL_law 1480 = .ok (.iconst 0, 1) := by decide +kernel
theorem dL_law_1481 : decode cL_law 1481 = .ok (.ireturn, 1) := by decide +kernel
theorem dL_law_1482 : decode cL_law 1482 = .ok (.iload 5, 2) := by decide +kernel
theorem dL_law_1484 : decode cL_law 1484 = .ok (.ifCond .ne 15, 3) := by decide +kernel
theorem dL_law_1487 : decode cL_law 1487 = .ok (.aload_n 3, 1) := by decide +kernel
theorem dL_law_1488 : decode cL_law 1488 = .ok (.iconst 0, 1) := by decide +kernel
theorem dL_law_1489 : decode cL_law 1489 = .ok (.laload, 1) := by decide +kernel
theorem dL_law_1490 : decode cL_law 1490 = .ok (.iload 6, 2) := by decide +kernel
theorem dL_law_1492 : decode cL_law 1492 = .ok (.i2l, 1) := by decide +kernel
theorem dL_law_1493 : decode cL_law 1493 = .ok (.lcmp, 1) := by decide +kernel
theorem dL_law_1494 : decode cL_law 1494 = .ok (.ifCond .eq 5, 3) := by decide +kernel
theorem dL_law_1497 : decode cL_law 1497 = .ok (.iconst 0, 1) := by decide +kernel
theorem dL_law_1498 : decode cL_law 1498 = .ok (.ireturn, 1) := by decide +kernel
theorem dL_law_1499 : decode cL_law 1499 = .ok (.goto 58, 3) := by decide +kernel
theorem dL_law_1502 : decode cL_law 1502 = .ok (.aload_n 1, 1) := by decide +kernel
theorem dL_law_1503 : decode cL_law 1503 = .ok (.invokevirtual 197, 3) := by decide +kernel
theorem dL_law_1506 : decode cL_law 1506 = .ok (.dstore 5, 2) := by decide +kernel
theorem dL_law_1508 : decode cL_law 1508 = .ok (.aload_n 2, 1) := by decide +kernel
theorem dL_law_1509 : decode cL_law 1509 = .ok (.invokevirtual 201, 3) := by decide +kernel
theorem dL_law_1512 : decode cL_law 1512 = .ok (.dstore 7, 2) := by decide +kernel
theorem dL_law_1514 : decode cL_law 1514 = .ok (.dload 5, 2) := by decide +kernel
theorem dL_law_1516 : decode cL_law 1516 = .ok (.dload 7, 2) := by decide +kernel
theorem dL_law_1518 : decode cL_law 1518 = .ok (.dcmp .l, 1) := by decide +kernel
theorem dL_law_1519 : decode cL_law 1519 = .ok (.ifCond .eq 21, 3) := by decide +kernel
theorem dL_law_1522 : decode cL_law 1522 = .ok (.dload 5, 2) := by decide +kernel
theorem dL_law_1524 : decode cL_law 1524 = .ok (.dload 5, 2) := by decide +kernel
theorem dL_law_1526 : decode cL_law 1526 = .ok (.dcmp .l, 1) := by decide +kernel
theorem dL_law_1527 : decode cL_law 1527 = .ok (.ifCond .eq 11, 3) := by decide +kernel
theorem dL_law_1530 : decode cL_law 1530 = .ok (.dload 7, 2) := by decide +kernel
theorem dL_law_1532 : decode cL_law 1532 = .ok (.dload 7, 2) := by decide +kernel
theorem dL_law_1534 : decode cL_law 1534 = .ok (.dcmp .l, 1) := by decide +kernel
theorem dL_law_1535 : decode cL_law 1535 = .ok (.ifCond .ne 5, 3) := by decide +kernel
theorem dL_law_1538 : decode cL_law 1538 = .ok (.iconst 0, 1) := by decide +kernel
theorem dL_law_1539 : decode cL_law 1539 = .ok (.ireturn, 1) := by decide +kernel
theorem dL_law_1540 : decode cL_law 1540 = .ok (.goto 17, 3) := by decide +kernel
theorem dL_law_1543 : decode cL_law 1543 = .ok (.aload_n 1, 1) := by decide +kernel
theorem dL_law_1544 : decode cL_law 1544 = .ok (.invokevirtual 202, 3) := by decide +kernel
theorem dL_law_1547 : decode cL_law 1547 = .ok (.aload_n 2, 1) := by decide +kernel
theorem dL_law_1548 : decode cL_law 1548 = .ok (.invokevirtual 206, 3) := by decide +kernel
theorem dL_law_1551 : decode cL_law 1551 = .ok (.lcmp, 1) := by decide +kernel
theorem dL_law_1552 : decode cL_law 1552 = .ok (.ifCond .eq 5, 3) := by decide +kernel
theorem dL_law_1555 : decode cL_law 1555 = .ok (.iconst 0, 1) := by decide +kernel
theorem dL_law_1556 : decode cL_law 1556 = .ok (.ireturn, 1) := by decide +kernel
theorem dL_law_1557 : decode cL_law 1557 = .ok (.iinc 4 4, 3) := by decide +kernel
theorem dL_law_1560 : decode cL_law 1560 = .ok (.goto (-1537), 3) := by decide +kernel
theorem dL_law_1563 : decode cL_law 1563 = .ok (.iconst 1, 1) := by decide +kernel
theorem dL_law_1564 : decode cL_law 1564 = .ok (.ireturn, 1) := by decide +kernel
end
section
abbrev vwCl : List vw_C := [(RX0, TX0, 14), (RX1, TX1, 4)]
/-- Math.min, Math.max, as the machine answers them -/
def imin (x y : Int32) : Int32 := if y < x then y else x
def imax (x y : Int32) : Int32 := if x < y then y else x
theorem imin_nI {a b : Nat} (ha : a < 2 ^ 31) (hb : b < 2 ^ 31) : imin (nI a) (nI b) = nI (min a b) := by
  unfold imin
  by_cases h : b < a
  · rw [if_pos ((nI_ltI hb ha).mpr h), Nat.min_eq_right (Nat.le_of_lt h)]
  · rw [if_neg (fun q => h ((nI_ltI hb ha).mp q)), Nat.min_eq_left (Nat.le_of_not_lt h)]
section ZB
variable {p : Program} {l : Launch} {e : Env} {R : Room} {s : State} {m : MethodId} {args : Array Value} {below : List Frame} {meth : Method} {c : Code}
variable {cc : ByteArray} {nL : Nat} {own : String} {Ts : List Cond} {D : va_G} {tys : List (ClassId × FieldType)} {A : Nat → Prop} {cells slots : Nat} {Q : State → Prop} {pc : Nat} {L : List (Nat × Value)} {st : List Value} {ws : va_W}
/-- the machine at pc with locals L, operand stack st, in any heap that holds the world ws, comes to Q -/
def zG (p : Program) (l : Launch) (e : Env) (R : Room) (s : State) (m : MethodId) (args : Array Value) (below : List Frame) (meth : Method) (c : Code) (D : va_G) (nL : Nat) (A : Nat → Prop) (cells slots : Nat) (Q : State → Prop) (pc : Nat) (L : List (Nat × Value)) (st : List Value) (ws : va_W) : Prop :=
  ∀ (H : Heap) (locs : List Loc) (ls : Array Slot), lv_has ls nL L → va_P D vwCl ws H → va_D A ws → va_S A s.heap H locs → W p l e R s m args below meth c H locs cells slots Q (F0 m pc ls st)
/-- what every row of a body takes -/
def zC (p : Program) (s : State) (m : MethodId) (args : Array Value) (c : Code) (cc : ByteArray) (nL : Nat) (own : String) (Ts : List Cond) (D : va_G) (tys : List (ClassId × FieldType)) (A : Nat → Prop) : Prop :=
  CallFix p m c cc nL s args Ts own ∧ va_K D vwCl tys s ∧ ∀ q : Nat, s.heap.size ≤ q → A q
theorem zC.exec (C : zC p s m args c cc nL own Ts D tys A) : p.tables.exec = Jvm.exec := C.1.1
theorem zC.code (C : zC p s m args c cc nL own Ts D tys A) : c.code = cc := C.1.2.1
theorem zC.maxl (C : zC p s m args c cc nL own Ts D tys A) : c.maxLocals = nL := C.1.2.2.1
theorem zC.here (C : zC p s m args c cc nL own Ts D tys A) : s.vm.findClass own = some m.cls := C.1.2.2.2.1
theorem zC.words (C : zC p s m args c cc nL own Ts D tys A) : ∀ w ∈ Ts, w.before args s = true := C.1.2.2.2.2
theorem zC.known (C : zC p s m args c cc nL own Ts D tys A) : va_K D vwCl tys s := C.2.1
theorem zC.new (C : zC p s m args c cc nL own Ts D tys A) : ∀ q : Nat, s.heap.size ≤ q → A q := C.2.2
theorem z_iconst (C : zC p s m args c cc nL own Ts D tys A) {n : Int} {v : Int32} (hdg : decode cc pc = .ok (.iconst n, 1)) (hv : Int32.ofInt n = v) (k : zG p l e R s m args below meth c D nL A cells slots Q (pc + 1) L (.int v :: st) ws) : zG p l e R s m args below meth c D nL A cells slots Q (pc) L (st) ws := fun H locs ls hl hP hD hS => lv_iconst C.exec C.code hdg hv (k H locs ls hl hP hD hS)
theorem z_bipush (C : zC p s m args c cc nL own Ts D tys A) {n : Int} {v : Int32} (hdg : decode cc pc = .ok (.bipush n, 2)) (hv : (Int8.ofInt n).toInt32 = v) (k : zG p l e R s m args below meth c D nL A cells slots Q (pc + 2) L (.int v :: st) ws) : zG p l e R s m args below meth c D nL A cells slots Q (pc) L (st) ws := fun H locs ls hl hP hD hS => lv_bipush C.exec C.code hdg hv (k H locs ls hl hP hD hS)
theorem z_sipush (C : zC p s m args c cc nL own Ts D tys A) {n : Int} {v : Int32} (hdg : decode cc pc = .ok (.sipush n, 3)) (hv : (Int16.ofInt n).toInt32 = v) (k : zG p l e R s m args below meth c D nL A cells slots Q (pc + 3) L (.int v :: st) ws) : zG p l e R s m args below meth c D nL A cells slots Q (pc) L (st) ws := fun H locs ls hl hP hD hS => lv_sipush C.exec C.code hdg hv (k H locs ls hl hP hD hS)
theorem z_lconst (C : zC p s m args c cc nL own Ts D tys A) {n : Fin 2} {v : Int64} (hdg : decode cc pc = .ok (.lconst n, 1)) (hv : Int64.ofNat (n : Nat) = v) (k : zG p l e R s m args below meth c D nL A cells slots Q (pc + 1) L (.long v :: st) ws) : zG p l e R s m args below meth c D nL A cells slots Q (pc) L (st) ws := fun H locs ls hl hP hD hS => lv_lconst C.exec C.code hdg hv (k H locs ls hl hP hD hS)
theorem z_dconst0 (C : zC p s m args c cc nL own Ts D tys A)  (hdg : decode cc pc = .ok (.dconst 0, 1)) (k : zG p l e R s m args below meth c D nL A cells slots Q (pc + 1) L (.double 0 :: st) ws) : zG p l e R s m args below meth c D nL A cells slots Q (pc) L (st) ws := fun H locs ls hl hP hD hS => lv_dconst0 C.exec C.code hdg (k H locs ls hl hP hD hS)
theorem z_ldc2 (C : zC p s m args c cc nL own Ts D tys A) {index : Nat} {v : Int64} (hc : (Cond.constantLong own index v) ∈ Ts) (hdg : decode cc pc = .ok (.ldc2_w index, 3)) (k : zG p l e R s m args below meth c D nL A cells slots Q (pc + 3) L (.long v :: st) ws) : zG p l e R s m args below meth c D nL A cells slots Q (pc) L (st) ws := fun H locs ls hl hP hD hS => lv_ldc2 C.exec C.code C.here (C.words _ hc) hdg (k H locs ls hl hP hD hS)
theorem z_iload_n (C : zC p s m args c cc nL own Ts D tys A) {k : Fin 4} {i : Nat} {x : Int32} (j : Nat) (hdg : decode cc pc = .ok (.iload_n k, 1)) (hi : (k : Nat) = i) (hj : L[j]? = some (i, .int x)) (kk : zG p l e R s m args below meth c D nL A cells slots Q (pc + 1) L (.int x :: st) ws) : zG p l e R s m args below meth c D nL A cells slots Q (pc) L (st) ws := fun H locs ls hl hP hD hS => lv_iload_n C.exec C.code hdg hi (lv_at hl j hj) (kk H locs ls hl hP hD hS)
theorem z_lload_n (C : zC p s m args c cc nL own Ts D tys A) {k : Fin 4} {i : Nat} {x : Int64} (j : Nat) (hdg : decode cc pc = .ok (.lload_n k, 1)) (hi : (k : Nat) = i) (hj : L[j]? = some (i, .long x)) (kk : zG p l e R s m args below meth c D nL A cells slots Q (pc + 1) L (.long x :: st) ws) : zG p l e R s m args below meth c D nL A cells slots Q (pc) L (st) ws := fun H locs ls hl hP hD hS => lv_lload_n C.exec C.code hdg hi (lv_at hl j hj) (kk H locs ls hl hP hD hS)
theorem z_aload_n (C : zC p s m args c cc nL own Ts D tys A) {k : Fin 4} {i : Nat} {x : Nat} (j : Nat) (hdg : decode cc pc = .ok (.aload_n k, 1)) (hi : (k : Nat) = i) (hj : L[j]? = some (i, .ref x)) (kk : zG p l e R s m args below meth c D nL A cells slots Q (pc + 1) L (.ref x :: st) ws) : zG p l e R s m args below meth c D nL A cells slots Q (pc) L (st) ws := fun H locs ls hl hP hD hS => lv_aload_n C.exec C.code hdg hi (lv_at hl j hj) (kk H locs ls hl hP hD hS)
theorem z_iload (C : zC p s m args c cc nL own Ts D tys A) {i : Nat} {x : Int32} (j : Nat) (hdg : decode cc pc = .ok (.iload i, 2)) (hj : L[j]? = some (i, .int x)) (kk : zG p l e R s m args below meth c D nL A cells slots Q (pc + 2) L (.int x :: st) ws) : zG p l e R s m args below meth c D nL A cells slots Q (pc) L (st) ws := fun H locs ls hl hP hD hS => lv_iload C.exec C.code hdg (lv_at hl j hj) (kk H locs ls hl hP hD hS)
theorem z_lload (C : zC p s m args c cc nL own Ts D tys A) {i : Nat} {x : Int64} (j : Nat) (hdg : decode cc pc = .ok (.lload i, 2)) (hj : L[j]? = some (i, .long x)) (kk : zG p l e R s m args below meth c D nL A cells slots Q (pc + 2) L (.long x :: st) ws) : zG p l e R s m args below meth c D nL A cells slots Q (pc) L (st) ws := fun H locs ls hl hP hD hS => lv_lload C.exec C.code hdg (lv_at hl j hj) (kk H locs ls hl hP hD hS)
theorem z_aload (C : zC p s m args c cc nL own Ts D tys A) {i : Nat} {x : Nat} (j : Nat) (hdg : decode cc pc = .ok (.aload i, 2)) (hj : L[j]? = some (i, .ref x)) (kk : zG p l e R s m args below meth c D nL A cells slots Q (pc + 2) L (.ref x :: st) ws) : zG p l e R s m args below meth c D nL A cells slots Q (pc) L (st) ws := fun H locs ls hl hP hD hS => lv_aload C.exec C.code hdg (lv_at hl j hj) (kk H locs ls hl hP hD hS)
theorem z_dload (C : zC p s m args c cc nL own Ts D tys A) {i : Nat} {x : UInt64} (j : Nat) (hdg : decode cc pc = .ok (.dload i, 2)) (hj : L[j]? = some (i, .double x)) (kk : zG p l e R s m args below meth c D nL A cells slots Q (pc + 2) L (.double x :: st) ws) : zG p l e R s m args below meth c D nL A cells slots Q (pc) L (st) ws := fun H locs ls hl hP hD hS => lv_dload C.exec C.code hdg (lv_at hl j hj) (kk H locs ls hl hP hD hS)
theorem z_istore_n (C : zC p s m args c cc nL own Ts D tys A) {k : Fin 4} {i : Nat} {x : Int32} {L' : List (Nat × Value)} (hdg : decode cc pc = .ok (.istore_n k, 1)) (hi : (k : Nat) = i) (hn : i < nL) (hL : (i, Value.int x) :: L.filter (fun q => !(q.1 == i) && !(q.1 + 1 == i && q.2.category == 2)) = L') (kk : zG p l e R s m args below meth c D nL A cells slots Q (pc + 1) L' (st) ws) : zG p l e R s m args below meth c D nL A cells slots Q (pc) L (.int x :: st) ws := fun H locs ls hl hP hD hS => lv_istore_n C.exec C.code hdg hi hl hn hL (fun ls' hl' => kk H locs ls' hl' hP hD hS)
theorem z_lstore_n (C : zC p s m args c cc nL own Ts D tys A) {k : Fin 4} {i : Nat} {x : Int64} {L' : List (Nat × Value)} (hdg : decode cc pc = .ok (.lstore_n k, 1)) (hi : (k : Nat) = i) (hn : i + 1 < nL) (hL : (i, Value.long x) :: L.filter (fun q => !(q.1 == i) && (!(q.1 == i + 1) && !(q.1 + 1 == i && q.2.category == 2))) = L') (kk : zG p l e R s m args below meth c D nL A cells slots Q (pc + 1) L' (st) ws) : zG p l e R s m args below meth c D nL A cells slots Q (pc) L (.long x :: st) ws := fun H locs ls hl hP hD hS => lv_lstore_n C.exec C.code hdg hi hl hn hL (fun ls' hl' => kk H locs ls' hl' hP hD hS)
theorem z_astore_n (C : zC p s m args c cc nL own Ts D tys A) {k : Fin 4} {i : Nat} {x : Nat} {L' : List (Nat × Value)} (hdg : decode cc pc = .ok (.astore_n k, 1)) (hi : (k : Nat) = i) (hn : i < nL) (hL : (i, Value.ref x) :: L.filter (fun q => !(q.1 == i) && !(q.1 + 1 == i && q.2.category == 2)) = L') (kk : zG p l e R s m args below meth c D nL A cells slots Q (pc + 1) L' (st) ws) : zG p l e R s m args below meth c D nL A cells slots Q (pc) L (.ref x :: st) ws := fun H locs ls hl hP hD hS => lv_astore_n C.exec C.code hdg hi hl hn hL (fun ls' hl' => kk H locs ls' hl' hP hD hS)
theorem z_istore (C : zC p s m args c cc nL own Ts D tys A) {i : Nat} {x : Int32} {L' : List (Nat × Value)} (hdg : decode cc pc = .ok (.istore i, 2)) (hn : i < nL) (hL : (i, Value.int x) :: L.filter (fun q => !(q.1 == i) && !(q.1 + 1 == i && q.2.category == 2)) = L') (kk : zG p l e R s m args below meth c D nL A cells slots Q (pc + 2) L' (st) ws) : zG p l e R s m args below meth c D nL A cells slots Q (pc) L (.int x :: st) ws := fun H locs ls hl hP hD hS => lv_istore C.exec C.code hdg hl hn hL (fun ls' hl' => kk H locs ls' hl' hP hD hS)
theorem z_lstore (C : zC p s m args c cc nL own Ts D tys A) {i : Nat} {x : Int64} {L' : List (Nat × Value)} (hdg : decode cc pc = .ok (.lstore i, 2)) (hn : i + 1 < nL) (hL : (i, Value.long x) :: L.filter (fun q => !(q.1 == i) && (!(q.1 == i + 1) && !(q.1 + 1 == i && q.2.category == 2))) = L') (kk : zG p l e R s m args below meth c D nL A cells slots Q (pc + 2) L' (st) ws) : zG p l e R s m args below meth c D nL A cells slots Q (pc) L (.long x :: st) ws := fun H locs ls hl hP hD hS => lv_lstore C.exec C.code hdg hl hn hL (fun ls' hl' => kk H locs ls' hl' hP hD hS)
theorem z_astore (C : zC p s m args c cc nL own Ts D tys A) {i : Nat} {x : Nat} {L' : List (Nat × Value)} (hdg : decode cc pc = .ok (.astore i, 2)) (hn : i < nL) (hL : (i, Value.ref x) :: L.filter (fun q => !(q.1 == i) && !(q.1 + 1 == i && q.2.category == 2)) = L') (kk : zG p l e R s m args below meth c D nL A cells slots Q (pc + 2) L' (st) ws) : zG p l e R s m args below meth c D nL A cells slots Q (pc) L (.ref x :: st) ws := fun H locs ls hl hP hD hS => lv_astore C.exec C.code hdg hl hn hL (fun ls' hl' => kk H locs ls' hl' hP hD hS)
theorem z_dstore (C : zC p s m args c cc nL own Ts D tys A) {i : Nat} {x : UInt64} {L' : List (Nat × Value)} (hdg : decode cc pc = .ok (.dstore i, 2)) (hn : i + 1 < nL) (hL : (i, Value.double x) :: L.filter (fun q => !(q.1 == i) && (!(q.1 == i + 1) && !(q.1 + 1 == i && q.2.category == 2))) = L') (kk : zG p l e R s m args below meth c D nL A cells slots Q (pc + 2) L' (st) ws) : zG p l e R s m args below meth c D nL A cells slots Q (pc) L (.double x :: st) ws := fun H locs ls hl hP hD hS => lv_dstore C.exec C.code hdg hl hn hL (fun ls' hl' => kk H locs ls' hl' hP hD hS)
theorem z_iinc (C : zC p s m args c cc nL own Ts D tys A) {i : Nat} {n : Int} {x v : Int32} {L' : List (Nat × Value)} (j : Nat) (hdg : decode cc pc = .ok (.iinc i n, 3)) (hj : L[j]? = some (i, .int x)) (hv : x + Int32.ofInt n = v) (hn : i < nL) (hL : (i, Value.int v) :: L.filter (fun q => !(q.1 == i) && !(q.1 + 1 == i && q.2.category == 2)) = L') (kk : zG p l e R s m args below meth c D nL A cells slots Q (pc + 3) L' (st) ws) : zG p l e R s m args below meth c D nL A cells slots Q (pc) L (st) ws := fun H locs ls hl hP hD hS => lv_iinc C.exec C.code hdg hl hj hv hn hL (fun ls' hl' => kk H locs ls' hl' hP hD hS)
theorem z_sub (ks : List Nat) {L' : List (Nat × Value)} (hL : lv_pick L ks = L') (kk : zG p l e R s m args below meth c D nL A cells slots Q (pc) L' (st) ws) : zG p l e R s m args below meth c D nL A cells slots Q (pc) L (st) ws := fun H locs ls hl hP hD hS => kk H locs ls (lv_sub hl ks hL) hP hD hS
theorem z_iadd (C : zC p s m args c cc nL own Ts D tys A) {x y : Int32} (hdg : decode cc pc = .ok (.iadd, 1)) (k : zG p l e R s m args below meth c D nL A cells slots Q (pc + 1) L (.int (x + y) :: st) ws) : zG p l e R s m args below meth c D nL A cells slots Q (pc) L (.int y :: .int x :: st) ws := fun H locs ls hl hP hD hS => lv_iadd C.exec C.code hdg (k H locs ls hl hP hD hS)
theorem z_isub (C : zC p s m args c cc nL own Ts D tys A) {x y : Int32} (hdg : decode cc pc = .ok (.isub, 1)) (k : zG p l e R s m args below meth c D nL A cells slots Q (pc + 1) L (.int (x - y) :: st) ws) : zG p l e R s m args below meth c D nL A cells slots Q (pc) L (.int y :: .int x :: st) ws := fun H locs ls hl hP hD hS => lv_isub C.exec C.code hdg (k H locs ls hl hP hD hS)
theorem z_imul (C : zC p s m args c cc nL own Ts D tys A) {x y : Int32} (hdg : decode cc pc = .ok (.imul, 1)) (k : zG p l e R s m args below meth c D nL A cells slots Q (pc + 1) L (.int (x * y) :: st) ws) : zG p l e R s m args below meth c D nL A cells slots Q (pc) L (.int y :: .int x :: st) ws := fun H locs ls hl hP hD hS => lv_imul C.exec C.code hdg (k H locs ls hl hP hD hS)
theorem z_iand (C : zC p s m args c cc nL own Ts D tys A) {x y : Int32} (hdg : decode cc pc = .ok (.iand, 1)) (k : zG p l e R s m args below meth c D nL A cells slots Q (pc + 1) L (.int (x &&& y) :: st) ws) : zG p l e R s m args below meth c D nL A cells slots Q (pc) L (.int y :: .int x :: st) ws := fun H locs ls hl hP hD hS => lv_iand C.exec C.code hdg (k H locs ls hl hP hD hS)
theorem z_ladd (C : zC p s m args c cc nL own Ts D tys A) {x y : Int64} (hdg : decode cc pc = .ok (.ladd, 1)) (k : zG p l e R s m args below meth c D nL A cells slots Q (pc + 1) L (.long (x + y) :: st) ws) : zG p l e R s m args below meth c D nL A cells slots Q (pc) L (.long y :: .long x :: st) ws := fun H locs ls hl hP hD hS => lv_ladd C.exec C.code hdg (k H locs ls hl hP hD hS)
theorem z_lmul (C : zC p s m args c cc nL own Ts D tys A) {x y : Int64} (hdg : decode cc pc = .ok (.lmul, 1)) (k : zG p l e R s m args below meth c D nL A cells slots Q (pc + 1) L (.long (x * y) :: st) ws) : zG p l e R s m args below meth c D nL A cells slots Q (pc) L (.long y :: .long x :: st) ws := fun H locs ls hl hP hD hS => lv_lmul C.exec C.code hdg (k H locs ls hl hP hD hS)
theorem z_idiv (C : zC p s m args c cc nL own Ts D tys A) {x y : Int32} (hdg : decode cc pc = .ok (.idiv, 1)) (hne : ¬ y = 0) (k : zG p l e R s m args below meth c D nL A cells slots Q (pc + 1) L (.int (x / y) :: st) ws) : zG p l e R s m args below meth c D nL A cells slots Q (pc) L (.int y :: .int x :: st) ws := fun H locs ls hl hP hD hS => lv_idiv C.exec C.code hdg hne (k H locs ls hl hP hD hS)
theorem z_irem (C : zC p s m args c cc nL own Ts D tys A) {x y : Int32} (hdg : decode cc pc = .ok (.irem, 1)) (hne : ¬ y = 0) (k : zG p l e R s m args below meth c D nL A cells slots Q (pc + 1) L (.int (x - x / y * y) :: st) ws) : zG p l e R s m args below meth c D nL A cells slots Q (pc) L (.int y :: .int x :: st) ws := fun H locs ls hl hP hD hS => lv_irem C.exec C.code hdg hne (k H locs ls hl hP hD hS)
theorem z_i2l (C : zC p s m args c cc nL own Ts D tys A) {x : Int32} {v : Int64} (hdg : decode cc pc = .ok (.i2l, 1)) (hv : x.toInt64 = v) (k : zG p l e R s m args below meth c D nL A cells slots Q (pc + 1) L (.long v :: st) ws) : zG p l e R s m args below meth c D nL A cells slots Q (pc) L (.int x :: st) ws := fun H locs ls hl hP hD hS => lv_i2l C.exec C.code hdg hv (k H locs ls hl hP hD hS)
theorem z_dup (C : zC p s m args c cc nL own Ts D tys A) {va : Value} (hdg : decode cc pc = .ok (.dup, 1)) (hva : va.category = 1) (k : zG p l e R s m args below meth c D nL A cells slots Q (pc + 1) L (va :: va :: st) ws) : zG p l e R s m args below meth c D nL A cells slots Q (pc) L (va :: st) ws := fun H locs ls hl hP hD hS => lv_dup C.exec C.code hdg hva (k H locs ls hl hP hD hS)
theorem z_pop (C : zC p s m args c cc nL own Ts D tys A) {va : Value} (hdg : decode cc pc = .ok (.pop, 1)) (hva : va.category = 1) (k : zG p l e R s m args below meth c D nL A cells slots Q (pc + 1) L (st) ws) : zG p l e R s m args below meth c D nL A cells slots Q (pc) L (va :: st) ws := fun H locs ls hl hP hD hS => lv_pop C.exec C.code hdg hva (k H locs ls hl hP hD hS)
theorem z_dup2 (C : zC p s m args c cc nL own Ts D tys A) {va vb : Value} (hdg : decode cc pc = .ok (.dup2, 1)) (hva : va.category = 1) (hvb : vb.category = 1) (k : zG p l e R s m args below meth c D nL A cells slots Q (pc + 1) L (va :: vb :: va :: vb :: st) ws) : zG p l e R s m args below meth c D nL A cells slots Q (pc) L (va :: vb :: st) ws := fun H locs ls hl hP hD hS => lv_dup2_11 C.exec C.code hdg hva hvb (k H locs ls hl hP hD hS)
theorem z_icmp_eq (C : zC p s m args c cc nL own Ts D tys A) {x y : Int32} {off : Int} {tgt : Nat} (hdg : decode cc pc = .ok (.if_icmp .eq off, 3)) (ht : (pc : Int) + off = (tgt : Int)) (kt : x = y → zG p l e R s m args below meth c D nL A cells slots Q (tgt) L (st) ws) (kf : ¬ x = y → zG p l e R s m args below meth c D nL A cells slots Q (pc + 3) L (st) ws) : zG p l e R s m args below meth c D nL A cells slots Q (pc) L (.int y :: .int x :: st) ws := fun H locs ls hl hP hD hS => lv_icmp_eq C.exec C.code hdg ht (fun h => kt h H locs ls hl hP hD hS) (fun h => kf h H locs ls hl hP hD hS)
theorem z_icmp_ne (C : zC p s m args c cc nL own Ts D tys A) {x y : Int32} {off : Int} {tgt : Nat} (hdg : decode cc pc = .ok (.if_icmp .ne off, 3)) (ht : (pc : Int) + off = (tgt : Int)) (kt : ¬ x = y → zG p l e R s m args below meth c D nL A cells slots Q (tgt) L (st) ws) (kf : x = y → zG p l e R s m args below meth c D nL A cells slots Q (pc + 3) L (st) ws) : zG p l e R s m args below meth c D nL A cells slots Q (pc) L (.int y :: .int x :: st) ws := fun H locs ls hl hP hD hS => lv_icmp_ne C.exec C.code hdg ht (fun h => kt h H locs ls hl hP hD hS) (fun h => kf h H locs ls hl hP hD hS)
theorem z_icmp_lt (C : zC p s m args c cc nL own Ts D tys A) {x y : Int32} {off : Int} {tgt : Nat} (hdg : decode cc pc = .ok (.if_icmp .lt off, 3)) (ht : (pc : Int) + off = (tgt : Int)) (kt : x < y → zG p l e R s m args below meth c D nL A cells slots Q (tgt) L (st) ws) (kf : ¬ x < y → zG p l e R s m args below meth c D nL A cells slots Q (pc + 3) L (st) ws) : zG p l e R s m args below meth c D nL A cells slots Q (pc) L (.int y :: .int x :: st) ws := fun H locs ls hl hP hD hS => lv_icmp_lt C.exec C.code hdg ht (fun h => kt h H locs ls hl hP hD hS) (fun h => kf h H locs ls hl hP hD hS)
theorem z_icmp_ge (C : zC p s m args c cc nL own Ts D tys A) {x y : Int32} {off : Int} {tgt : Nat} (hdg : decode cc pc = .ok (.if_icmp .ge off, 3)) (ht : (pc : Int) + off = (tgt : Int)) (kt : y ≤ x → zG p l e R s m args below meth c D nL A cells slots Q (tgt) L (st) ws) (kf : ¬ y ≤ x → zG p l e R s m args below meth c D nL A cells slots Q (pc + 3) L (st) ws) : zG p l e R s m args below meth c D nL A cells slots Q (pc) L (.int y :: .int x :: st) ws := fun H locs ls hl hP hD hS => lv_icmp_ge C.exec C.code hdg ht (fun h => kt h H locs ls hl hP hD hS) (fun h => kf h H locs ls hl hP hD hS)
theorem z_icmp_gt (C : zC p s m args c cc nL own Ts D tys A) {x y : Int32} {off : Int} {tgt : Nat} (hdg : decode cc pc = .ok (.if_icmp .gt off, 3)) (ht : (pc : Int) + off = (tgt : Int)) (kt : y < x → zG p l e R s m args below meth c D nL A cells slots Q (tgt) L (st) ws) (kf : ¬ y < x → zG p l e R s m args below meth c D nL A cells slots Q (pc + 3) L (st) ws) : zG p l e R s m args below meth c D nL A cells slots Q (pc) L (.int y :: .int x :: st) ws := fun H locs ls hl hP hD hS => lv_icmp_gt C.exec C.code hdg ht (fun h => kt h H locs ls hl hP hD hS) (fun h => kf h H locs ls hl hP hD hS)
theorem z_icmp_le (C : zC p s m args c cc nL own Ts D tys A) {x y : Int32} {off : Int} {tgt : Nat} (hdg : decode cc pc = .ok (.if_icmp .le off, 3)) (ht : (pc : Int) + off = (tgt : Int)) (kt : x ≤ y → zG p l e R s m args below meth c D nL A cells slots Q (tgt) L (st) ws) (kf : ¬ x ≤ y → zG p l e R s m args below meth c D nL A cells slots Q (pc + 3) L (st) ws) : zG p l e R s m args below meth c D nL A cells slots Q (pc) L (.int y :: .int x :: st) ws := fun H locs ls hl hP hD hS => lv_icmp_le C.exec C.code hdg ht (fun h => kt h H locs ls hl hP hD hS) (fun h => kf h H locs ls hl hP hD hS)
theorem z_if_eq (C : zC p s m args c cc nL own Ts D tys A) {x : Int32} {off : Int} {tgt : Nat} (hdg : decode cc pc = .ok (.ifCond .eq off, 3)) (ht : (pc : Int) + off = (tgt : Int)) (kt : x = 0 → zG p l e R s m args below meth c D nL A cells slots Q (tgt) L (st) ws) (kf : ¬ x = 0 → zG p l e R s m args below meth c D nL A cells slots Q (pc + 3) L (st) ws) : zG p l e R s m args below meth c D nL A cells slots Q (pc) L (.int x :: st) ws := fun H locs ls hl hP hD hS => lv_if_eq C.exec C.code hdg ht (fun h => kt h H locs ls hl hP hD hS) (fun h => kf h H locs ls hl hP hD hS)
theorem z_if_ne (C : zC p s m args c cc nL own Ts D tys A) {x : Int32} {off : Int} {tgt : Nat} (hdg : decode cc pc = .ok (.ifCond .ne off, 3)) (ht : (pc : Int) + off = (tgt : Int)) (kt : ¬ x = 0 → zG p l e R s m args below meth c D nL A cells slots Q (tgt) L (st) ws) (kf : x = 0 → zG p l e R s m args below meth c D nL A cells slots Q (pc + 3) L (st) ws) : zG p l e R s m args below meth c D nL A cells slots Q (pc) L (.int x :: st) ws := fun H locs ls hl hP hD hS => lv_if_ne C.exec C.code hdg ht (fun h => kt h H locs ls hl hP hD hS) (fun h => kf h H locs ls hl hP hD hS)
theorem z_if_lt (C : zC p s m args c cc nL own Ts D tys A) {x : Int32} {off : Int} {tgt : Nat} (hdg : decode cc pc = .ok (.ifCond .lt off, 3)) (ht : (pc : Int) + off = (tgt : Int)) (kt : x < 0 → zG p l e R s m args below meth c D nL A cells slots Q (tgt) L (st) ws) (kf : ¬ x < 0 → zG p l e R s m args below meth c D nL A cells slots Q (pc + 3) L (st) ws) : zG p l e R s m args below meth c D nL A cells slots Q (pc) L (.int x :: st) ws := fun H locs ls hl hP hD hS => lv_if_lt C.exec C.code hdg ht (fun h => kt h H locs ls hl hP hD hS) (fun h => kf h H locs ls hl hP hD hS)
theorem z_if_ge (C : zC p s m args c cc nL own Ts D tys A) {x : Int32} {off : Int} {tgt : Nat} (hdg : decode cc pc = .ok (.ifCond .ge off, 3)) (ht : (pc : Int) + off = (tgt : Int)) (kt : 0 ≤ x → zG p l e R s m args below meth c D nL A cells slots Q (tgt) L (st) ws) (kf : ¬ 0 ≤ x → zG p l e R s m args below meth c D nL A cells slots Q (pc + 3) L (st) ws) : zG p l e R s m args below meth c D nL A cells slots Q (pc) L (.int x :: st) ws := fun H locs ls hl hP hD hS => lv_if_ge C.exec C.code hdg ht (fun h => kt h H locs ls hl hP hD hS) (fun h => kf h H locs ls hl hP hD hS)
theorem z_if_gt (C : zC p s m args c cc nL own Ts D tys A) {x : Int32} {off : Int} {tgt : Nat} (hdg : decode cc pc = .ok (.ifCond .gt off, 3)) (ht : (pc : Int) + off = (tgt : Int)) (kt : 0 < x → zG p l e R s m args below meth c D nL A cells slots Q (tgt) L (st) ws) (kf : ¬ 0 < x → zG p l e R s m args below meth c D nL A cells slots Q (pc + 3) L (st) ws) : zG p l e R s m args below meth c D nL A cells slots Q (pc) L (.int x :: st) ws := fun H locs ls hl hP hD hS => lv_if_gt C.exec C.code hdg ht (fun h => kt h H locs ls hl hP hD hS) (fun h => kf h H locs ls hl hP hD hS)
theorem z_if_le (C : zC p s m args c cc nL own Ts D tys A) {x : Int32} {off : Int} {tgt : Nat} (hdg : decode cc pc = .ok (.ifCond .le off, 3)) (ht : (pc : Int) + off = (tgt : Int)) (kt : x ≤ 0 → zG p l e R s m args below meth c D nL A cells slots Q (tgt) L (st) ws) (kf : ¬ x ≤ 0 → zG p l e R s m args below meth c D nL A cells slots Q (pc + 3) L (st) ws) : zG p l e R s m args below meth c D nL A cells slots Q (pc) L (.int x :: st) ws := fun H locs ls hl hP hD hS => lv_if_le C.exec C.code hdg ht (fun h => kt h H locs ls hl hP hD hS) (fun h => kf h H locs ls hl hP hD hS)
theorem z_goto (C : zC p s m args c cc nL own Ts D tys A) {off : Int} {tgt : Nat} (hdg : decode cc pc = .ok (.goto off, 3)) (ht : (pc : Int) + off = (tgt : Int)) (k : zG p l e R s m args below meth c D nL A cells slots Q (tgt) L (st) ws) : zG p l e R s m args below meth c D nL A cells slots Q (pc) L (st) ws := fun H locs ls hl hP hD hS => lv_goto C.exec C.code hdg ht (k H locs ls hl hP hD hS)
theorem z_top {x y : Int32} (h : x = y) (k : zG p l e R s m args below meth c D nL A cells slots Q (pc) L (.int y :: st) ws) : zG p l e R s m args below meth c D nL A cells slots Q (pc) L (.int x :: st) ws := h ▸ k
theorem z_topl {x y : Int64} (h : x = y) (k : zG p l e R s m args below meth c D nL A cells slots Q (pc) L (.long y :: st) ws) : zG p l e R s m args below meth c D nL A cells slots Q (pc) L (.long x :: st) ws := h ▸ k
theorem z_ws {ws' : va_W} (h : ws = ws') (k : zG p l e R s m args below meth c D nL A cells slots Q (pc) L (st) ws') : zG p l e R s m args below meth c D nL A cells slots Q (pc) L (st) ws := h ▸ k
theorem z_loc {L' : List (Nat × Value)} (h : L = L') (k : zG p l e R s m args below meth c D nL A cells slots Q (pc) L' (st) ws) : zG p l e R s m args below meth c D nL A cells slots Q (pc) L (st) ws := h ▸ k
theorem z_pc {pc' : Nat} (h : pc = pc') (k : zG p l e R s m args below meth c D nL A cells slots Q (pc') L (st) ws) : zG p l e R s m args below meth c D nL A cells slots Q (pc) L (st) ws := h ▸ k
theorem z_more {cells' slots' : Nat} (h1 : cells ≤ cells') (h2 : slots ≤ slots') (k : zG p l e R s m args below meth c D nL A cells' slots' Q (pc) L (st) ws) : zG p l e R s m args below meth c D nL A cells slots Q (pc) L (st) ws := fun H locs ls hl hP hD hS => W.widen h1 h2 (k H locs ls hl hP hD hS)
theorem z_get0 (C : zC p s m args c cc nL own Ts D tys A) (hin : ∀ w ∈ u_ws RX0 TX0 14, w ∈ Ts) {index a : Nat} (q0 k : Nat) (hk : k < 14) {fs : List Value} {v : Value} (he : ws[q0]? = some (a, .inr (0, fs))) (hv : fs[k]? = some v) (hlink : Cond.fieldLink own index (TX0 k).1 (TX0 k).2.1 (TX0 k).2.2.1 ∈ Ts) (hdg : decode cc pc = .ok (.getfield index, 3)) (kk : zG p l e R s m args below meth c D nL A cells slots Q (pc + 3) L (v :: st) ws) : zG p l e R s m args below meth c D nL A cells slots Q (pc) L (.ref a :: st) ws := fun H locs ls hl hP hD hS => va_get (C := RX0) (T := TX0) (N := 14) C.exec C.code C.words hin C.here C.known hP q0 he rfl k hk (C.words _ hlink) (fun _ h => h) hv hdg (kk H locs ls hl hP hD hS)
theorem z_put0 (C : zC p s m args c cc nL own Ts D tys A) (hin : ∀ w ∈ u_ws RX0 TX0 14, w ∈ Ts) {index a : Nat} (q0 k : Nat) (hk : k < 14) {fs : List Value} {v : Int32} {ws' : va_W} (he : ws[q0]? = some (a, .inr (0, fs))) (hlen : fs.length = 14) (hty : (TX0 k).2.2.1 = "I" ∧ (TX0 k).2.2.2 = false) (hws : ws.set q0 (a, .inr (0, fs.set k (.int v))) = ws') (hlink : Cond.fieldLink own index (TX0 k).1 (TX0 k).2.1 (TX0 k).2.2.1 ∈ Ts) (hdg : decode cc pc = .ok (.putfield index, 3)) (kk : zG p l e R s m args below meth c D nL A cells slots Q (pc + 3) L (st) ws') : zG p l e R s m args below meth c D nL A cells slots Q (pc) L (.int v :: .ref a :: st) ws := fun H locs ls hl hP hD hS => va_put (C := RX0) (T := TX0) (N := 14) (ty := .int) C.exec C.code C.words hin tyX0 tyX0_ok nmX0 C.here C.known hP hD hS q0 he rfl k hk (C.words _ hlink) (fun _ h => h) hty.2 (by rw [hty.1]; decide +kernel) rfl rfl (by rw [hlen]; exact hk) hdg (fun H1 locs1 hP hD hS => kk H1 locs1 ls hl (hws ▸ hP) (hws ▸ hD) hS)
theorem z_putq0 (C : zC p s m args c cc nL RX0 Ts D tys A) (hin : ∀ w ∈ u_ws RX0 TX0 14, w ∈ Ts) (hin2 : meth.name = "<init>") {index a : Nat} (q0 k : Nat) (hk : k < 14) {fs : List Value} {v : Nat} {ty : FieldType} {ws' : va_W} (he : ws[q0]? = some (a, .inr (0, fs))) (hlen : fs.length = 14) (hfin : (TX0 k).2.2.2 = true) (hdecl : (TX0 k).1 = RX0) (hty : parseFieldDescriptor (TX0 k).2.2.1 = some ty) (hn : narrow ty (.ref v) = .ref v) (hf : fits ty (.ref v) = true) (hws : ws.set q0 (a, .inr (0, fs.set k (.ref v))) = ws') (hlink : Cond.fieldLink RX0 index (TX0 k).1 (TX0 k).2.1 (TX0 k).2.2.1 ∈ Ts) (hdg : decode cc pc = .ok (.putfield index, 3)) (kk : zG p l e R s m args below meth c D nL A cells slots Q (pc + 3) L (st) ws') : zG p l e R s m args below meth c D nL A cells slots Q (pc) L (.ref v :: .ref a :: st) ws := fun H locs ls hl hP hD hS => va_putF (C := RX0) (T := TX0) (N := 14) (ty := ty) C.exec C.code C.words hin tyX0 tyX0_ok nmX0 C.here C.known hP hD hS q0 he rfl k hk (C.words _ hlink) (fun _ h => h) hfin hin2 hdecl hty hn hf (by rw [hlen]; exact hk) hdg (fun H1 locs1 hP hD hS => kk H1 locs1 ls hl (hws ▸ hP) (hws ▸ hD) hS)
theorem z_get1 (C : zC p s m args c cc nL own Ts D tys A) (hin : ∀ w ∈ u_ws RX1 TX1 4, w ∈ Ts) {index a : Nat} (q0 k : Nat) (hk : k < 4) {fs : List Value} {v : Value} (he : ws[q0]? = some (a, .inr (1, fs))) (hv : fs[k]? = some v) (hlink : Cond.fieldLink own index (TX1 k).1 (TX1 k).2.1 (TX1 k).2.2.1 ∈ Ts) (hdg : decode cc pc = .ok (.getfield index, 3)) (kk : zG p l e R s m args below meth c D nL A cells slots Q (pc + 3) L (v :: st) ws) : zG p l e R s m args below meth c D nL A cells slots Q (pc) L (.ref a :: st) ws := fun H locs ls hl hP hD hS => va_get (C := RX1) (T := TX1) (N := 4) C.exec C.code C.words hin C.here C.known hP q0 he rfl k hk (C.words _ hlink) (fun _ h => h) hv hdg (kk H locs ls hl hP hD hS)
theorem z_put1 (C : zC p s m args c cc nL own Ts D tys A) (hin : ∀ w ∈ u_ws RX1 TX1 4, w ∈ Ts) {index a : Nat} (q0 k : Nat) (hk : k < 4) {fs : List Value} {v : Int32} {ws' : va_W} (he : ws[q0]? = some (a, .inr (1, fs))) (hlen : fs.length = 4) (hty : (TX1 k).2.2.1 = "I" ∧ (TX1 k).2.2.2 = false) (hws : ws.set q0 (a, .inr (1, fs.set k (.int v))) = ws') (hlink : Cond.fieldLink own index (TX1 k).1 (TX1 k).2.1 (TX1 k).2.2.1 ∈ Ts) (hdg : decode cc pc = .ok (.putfield index, 3)) (kk : zG p l e R s m args below meth c D nL A cells slots Q (pc + 3) L (st) ws') : zG p l e R s m args below meth c D nL A cells slots Q (pc) L (.int v :: .ref a :: st) ws := fun H locs ls hl hP hD hS => va_put (C := RX1) (T := TX1) (N := 4) (ty := .int) C.exec C.code C.words hin tyX1 tyX1_ok nmX1 C.here C.known hP hD hS q0 he rfl k hk (C.words _ hlink) (fun _ h => h) hty.2 (by rw [hty.1]; decide +kernel) rfl rfl (by rw [hlen]; exact hk) hdg (fun H1 locs1 hP hD hS => kk H1 locs1 ls hl (hws ▸ hP) (hws ▸ hD) hS)
theorem z_putq1 (C : zC p s m args c cc nL RX1 Ts D tys A) (hin : ∀ w ∈ u_ws RX1 TX1 4, w ∈ Ts) (hin2 : meth.name = "<init>") {index a : Nat} (q0 k : Nat) (hk : k < 4) {fs : List Value} {v : Nat} {ty : FieldType} {ws' : va_W} (he : ws[q0]? = some (a, .inr (1, fs))) (hlen : fs.length = 4) (hfin : (TX1 k).2.2.2 = true) (hdecl : (TX1 k).1 = RX1) (hty : parseFieldDescriptor (TX1 k).2.2.1 = some ty) (hn : narrow ty (.ref v) = .ref v) (hf : fits ty (.ref v) = true) (hws : ws.set q0 (a, .inr (1, fs.set k (.ref v))) = ws') (hlink : Cond.fieldLink RX1 index (TX1 k).1 (TX1 k).2.1 (TX1 k).2.2.1 ∈ Ts) (hdg : decode cc pc = .ok (.putfield index, 3)) (kk : zG p l e R s m args below meth c D nL A cells slots Q (pc + 3) L (st) ws') : zG p l e R s m args below meth c D nL A cells slots Q (pc) L (.ref v :: .ref a :: st) ws := fun H locs ls hl hP hD hS => va_putF (C := RX1) (T := TX1) (N := 4) (ty := ty) C.exec C.code C.words hin tyX1 tyX1_ok nmX1 C.here C.known hP hD hS q0 he rfl k hk (C.words _ hlink) (fun _ h => h) hfin hin2 hdecl hty hn hf (by rw [hlen]; exact hk) hdg (fun H1 locs1 hP hD hS => kk H1 locs1 ls hl (hws ▸ hP) (hws ▸ hD) hS)
theorem z_cl {i : Int32} {j n : Nat} (hi : i = nI j) (hj : j < n) (hn : n < 2 ^ 31) : vp_in i n ∧ i.toNatClampNeg = j := by
  subst hi
  exact ⟨vp_in_nI hj hn, nI_clamp (Nat.lt_trans hj hn)⟩
theorem z_iald (C : zC p s m args c cc nL own Ts D tys A) {a : Nat} (q0 t0 : Nat) {cA : ClassId} {n : Nat} {f : Nat → Int32} (ha : ws[q0]? = some (a, .inl (cA, n, .inl f))) (ht : tys[t0]? = some (cA, .int)) {i : Int32} (j : Nat) (hi : i = nI j) (hj : j < n) (hn : n < 2 ^ 31) (hdg : decode cc pc = .ok (.iaload, 1)) (kk : zG p l e R s m args below meth c D nL A cells slots Q (pc + 1) L (.int (f j) :: st) ws) : zG p l e R s m args below meth c D nL A cells slots Q (pc) L (.int i :: .ref a :: st) ws := fun H locs ls hl hP hD hS => va_iald C.exec C.code C.known hP q0 t0 ha ht (z_cl hi hj hn).1 hdg (by rw [(z_cl hi hj hn).2]; exact kk H locs ls hl hP hD hS)
theorem z_zald (C : zC p s m args c cc nL own Ts D tys A) {a : Nat} (q0 t0 : Nat) {cA : ClassId} {n : Nat} {f : Nat → Int32} (ha : ws[q0]? = some (a, .inl (cA, n, .inl f))) (ht : tys[t0]? = some (cA, .boolean)) {i : Int32} (j : Nat) (hi : i = nI j) (hj : j < n) (hn : n < 2 ^ 31) (hdg : decode cc pc = .ok (.baload, 1)) (kk : zG p l e R s m args below meth c D nL A cells slots Q (pc + 1) L (.int (f j) :: st) ws) : zG p l e R s m args below meth c D nL A cells slots Q (pc) L (.int i :: .ref a :: st) ws := fun H locs ls hl hP hD hS => va_zald C.exec C.code C.known hP q0 t0 ha ht (z_cl hi hj hn).1 hdg (by rw [(z_cl hi hj hn).2]; exact kk H locs ls hl hP hD hS)
theorem z_iast (C : zC p s m args c cc nL own Ts D tys A) {a : Nat} (q0 t0 : Nat) {cA : ClassId} {n : Nat} {f : Nat → Int32} {ws' : va_W} (ha : ws[q0]? = some (a, .inl (cA, n, .inl f))) (ht : tys[t0]? = some (cA, .int)) {i x : Int32} (j : Nat) (hi : i = nI j) (hj : j < n) (hn : n < 2 ^ 31) (hws : ws.set q0 (a, .inl (cA, n, .inl (upd f j x))) = ws') (hdg : decode cc pc = .ok (.iastore, 1)) (kk : zG p l e R s m args below meth c D nL A cells slots Q (pc + 1) L (st) ws') : zG p l e R s m args below meth c D nL A cells slots Q (pc) L (.int x :: .int i :: .ref a :: st) ws := fun H locs ls hl hP hD hS => va_iast C.exec C.code C.known hP hD hS q0 t0 ha ht (z_cl hi hj hn).1 hdg (by rw [(z_cl hi hj hn).2, hws]; exact fun H1 locs1 hP hD hS => kk H1 locs1 ls hl hP hD hS)
theorem z_zast (C : zC p s m args c cc nL own Ts D tys A) {a : Nat} (q0 t0 : Nat) {cA : ClassId} {n : Nat} {f : Nat → Int32} {ws' : va_W} (ha : ws[q0]? = some (a, .inl (cA, n, .inl f))) (ht : tys[t0]? = some (cA, .boolean)) {i x : Int32} (j : Nat) (hi : i = nI j) (hj : j < n) (hn : n < 2 ^ 31) (hx : x = 0 ∨ x = 1) (hws : ws.set q0 (a, .inl (cA, n, .inl (upd f j x))) = ws') (hdg : decode cc pc = .ok (.bastore, 1)) (kk : zG p l e R s m args below meth c D nL A cells slots Q (pc + 1) L (st) ws') : zG p l e R s m args below meth c D nL A cells slots Q (pc) L (.int x :: .int i :: .ref a :: st) ws := fun H locs ls hl hP hD hS => va_zast C.exec C.code C.known hP hD hS q0 t0 ha ht (z_cl hi hj hn).1 hdg (by rw [(z_cl hi hj hn).2, show vp_nar .boolean x = x from by rcases hx with h | h <;> rw [h] <;> decide, hws]; exact fun H1 locs1 hP hD hS => kk H1 locs1 ls hl hP hD hS)
theorem z_last (C : zC p s m args c cc nL own Ts D tys A) {a : Nat} (q0 t0 : Nat) {cA : ClassId} {n : Nat} {f : Nat → Int64} {ws' : va_W} (ha : ws[q0]? = some (a, .inl (cA, n, .inr (.inl f)))) (ht : tys[t0]? = some (cA, .long)) {i : Int32} {x : Int64} (j : Nat) (hi : i = nI j) (hj : j < n) (hn : n < 2 ^ 31) (hws : ws.set q0 (a, .inl (cA, n, .inr (.inl (vp_updL f j x)))) = ws') (hdg : decode cc pc = .ok (.lastore, 1)) (kk : zG p l e R s m args below meth c D nL A cells slots Q (pc + 1) L (st) ws') : zG p l e R s m args below meth c D nL A cells slots Q (pc) L (.long x :: .int i :: .ref a :: st) ws := fun H locs ls hl hP hD hS => va_last C.exec C.code C.known hP hD hS q0 t0 ha ht (z_cl hi hj hn).1 hdg (by rw [(z_cl hi hj hn).2, hws]; exact fun H1 locs1 hP hD hS => kk H1 locs1 ls hl hP hD hS)
theorem z_lald (C : zC p s m args c cc nL own Ts D tys A) {a : Nat} (q0 t0 : Nat) {cA : ClassId} {n : Nat} {f : Nat → Int64} (ha : ws[q0]? = some (a, .inl (cA, n, .inr (.inl f)))) (ht : tys[t0]? = some (cA, .long)) {i : Int32} (j : Nat) (hi : i = nI j) (hj : j < n) (hn : n < 2 ^ 31) (hdg : decode cc pc = .ok (.laload, 1)) (kk : zG p l e R s m args below meth c D nL A cells slots Q (pc + 1) L (.long (f j) :: st) ws) : zG p l e R s m args below meth c D nL A cells slots Q (pc) L (.int i :: .ref a :: st) ws := fun H locs ls hl hP hD hS => va_lald C.exec C.code C.known hP q0 t0 ha ht (z_cl hi hj hn).1 hdg (by rw [(z_cl hi hj hn).2]; exact kk H locs ls hl hP hD hS)
theorem z_alen (C : zC p s m args c cc nL own Ts D tys A) {a : Nat} (q0 t0 : Nat) {cA : ClassId} {x : vp_A} (ha : ws[q0]? = some (a, .inl (cA, x))) {ty : FieldType} (ht : tys[t0]? = some (cA, ty)) {v : Int32} (hv : Int32.ofNat x.1 = v) (hdg : decode cc pc = .ok (.arraylength, 1)) (kk : zG p l e R s m args below meth c D nL A cells slots Q (pc + 1) L (.int v :: st) ws) : zG p l e R s m args below meth c D nL A cells slots Q (pc) L (.ref a :: st) ws := fun H locs ls hl hP hD hS => va_alen C.exec C.code C.known hP q0 t0 ha ht hv hdg (kk H locs ls hl hP hD hS)
theorem z_mmin (C : zC p s m args c cc nL own Ts D tys A) {index : Nat} {x y : Int32} (h1 : Cond.methodLink own index Lib.Math.min.name ∈ Ts) (h2 : Cond.static Lib.Math.min.name ∈ Ts) (h3 : Cond.initialized "java/lang/Math" ∈ Ts) (h4 : Cond.code Lib.Math.min.name Lib.Math.min.code 2 (some .int) ∈ Ts) (hfr : 1 ≤ R.frames) (hlo : (st.map fun v => v.category).sum + 13 ≤ R.locals) (hc : cells ≤ R.cells) (hs : slots ≤ R.slots) (hdg : decode cc pc = .ok (.invokestatic index, 3)) (kk : zG p l e R s m args below meth c D nL A cells slots Q (pc + 3) L (.int (imin x y) :: st) ws) : zG p l e R s m args below meth c D nL A cells slots Q (pc) L (.int y :: .int x :: st) ws := fun H locs ls hl hP hD hS => va_mmin C.exec C.code (C.maxl.trans hl.1.symm) C.here (C.words _ h1) (C.words _ h2) (C.words _ h3) (C.words _ h4) hfr hlo hc hs hdg (kk H locs ls hl hP hD hS)
theorem z_mmax (C : zC p s m args c cc nL own Ts D tys A) {index : Nat} {x y : Int32} (h1 : Cond.methodLink own index Lib.Math.max.name ∈ Ts) (h2 : Cond.static Lib.Math.max.name ∈ Ts) (h3 : Cond.initialized "java/lang/Math" ∈ Ts) (h4 : Cond.code Lib.Math.max.name Lib.Math.max.code 2 (some .int) ∈ Ts) (hfr : 1 ≤ R.frames) (hlo : (st.map fun v => v.category).sum + 13 ≤ R.locals) (hc : cells ≤ R.cells) (hs : slots ≤ R.slots) (hdg : decode cc pc = .ok (.invokestatic index, 3)) (kk : zG p l e R s m args below meth c D nL A cells slots Q (pc + 3) L (.int (imax x y) :: st) ws) : zG p l e R s m args below meth c D nL A cells slots Q (pc) L (.int y :: .int x :: st) ws := fun H locs ls hl hP hD hS => va_mmax C.exec C.code (C.maxl.trans hl.1.symm) C.here (C.words _ h1) (C.words _ h2) (C.words _ h3) (C.words _ h4) hfr hlo hc hs hdg (kk H locs ls hl hP hD hS)
theorem z_i2d (C : zC p s m args c cc nL own Ts D tys A) {x : Int32} (hdg : decode cc pc = .ok (.i2d, 1)) (k : zG p l e R s m args below meth c D nL A cells slots Q (pc + 1) L (.double (FP.i2d x) :: st) ws) : zG p l e R s m args below meth c D nL A cells slots Q (pc) L (.int x :: st) ws := fun H locs ls hl hP hD hS => lv_i2d C.exec C.code hdg (k H locs ls hl hP hD hS)
theorem z_ddiv (C : zC p s m args c cc nL own Ts D tys A) {x y : UInt64} (hdg : decode cc pc = .ok (.ddiv, 1)) (hne : vf_n64 (FP.ddiv x y)) (k : zG p l e R s m args below meth c D nL A cells slots Q (pc + 1) L (.double (FP.ddiv x y) :: st) ws) : zG p l e R s m args below meth c D nL A cells slots Q (pc) L (.double y :: .double x :: st) ws := fun H locs ls hl hP hD hS => lv_ddiv C.exec C.code hdg hne (k H locs ls hl hP hD hS)
theorem z_lcmp (C : zC p s m args c cc nL own Ts D tys A) {x y : Int64} (hdg : decode cc pc = .ok (.lcmp, 1)) (k : zG p l e R s m args below meth c D nL A cells slots Q (pc + 1) L (.int (lg_cmp x y) :: st) ws) : zG p l e R s m args below meth c D nL A cells slots Q (pc) L (.long y :: .long x :: st) ws := fun H locs ls hl hP hD hS => W.lcmp C.exec C.code hdg (k H locs ls hl hP hD hS)
theorem z_dcmp (C : zC p s m args c cc nL own Ts D tys A) {x y : UInt64} {op : CmpOp} (hdg : decode cc pc = .ok (.dcmp op, 1)) (k : zG p l e R s m args below meth c D nL A cells slots Q (pc + 1) L (.int (Op.cmpValue (FP.dcmp x y) op) :: st) ws) : zG p l e R s m args below meth c D nL A cells slots Q (pc) L (.double y :: .double x :: st) ws := fun H locs ls hl hP hD hS => lv_dcmp C.exec C.code hdg (k H locs ls hl hP hD hS)
theorem z_newi (C : zC p s m args c cc nL own Ts D tys A) (t0 : Nat) {cI : ClassId} {n : Int32} {N : Nat} (ht : tys[t0]? = some (cI, .int)) (harr : Cond.arrayClass .int ∈ Ts) (hn : ¬ n < 0) (hN : n.toNatClampNeg = N) (hb : N ≤ 1000) (hcells : cells + 1 ≤ R.cells) (hslots : slots + N ≤ R.slots) (hdg : decode cc pc = .ok (.newarray .int, 2)) (kk : ∀ q : Nat, zG p l e R s m args below meth c D nL A (cells + 1) (slots + N) Q (pc + 2) L (.ref q :: st) (ws ++ [(q, .inl (cI, N, .inl (fun _ => 0)))])) : zG p l e R s m args below meth c D nL A cells slots Q (pc) L (.int n :: st) ws := by
  intro H locs ls hl hP hD hS
  refine va_newa (atype := .int) (ty := .int) (a0 := (N, .inl (fun _ => 0))) C.exec C.code (C.words _ harr) rfl C.known hP hD hS C.new (fun _ => rfl) hn hN (by show N * 4 ≤ _; omega) hcells hslots hdg (fun q cA H1 hK hP hD hS => ?_)
  have h1 : va_RA s cA .int := (hK.2 tys.length (cA, .int) (by simp)).2
  have h2 : va_RA s cI .int := (C.known.2 t0 _ ht).2
  have e : cA = cI := Option.some.inj (h1.symm.trans h2)
  subst e
  exact kk q H1 locs ls hl hP hD hS
theorem z_newz (C : zC p s m args c cc nL own Ts D tys A) (t0 : Nat) {cI : ClassId} {n : Int32} {N : Nat} (ht : tys[t0]? = some (cI, .boolean)) (harr : Cond.arrayClass .boolean ∈ Ts) (hn : ¬ n < 0) (hN : n.toNatClampNeg = N) (hb : N ≤ 1000) (hcells : cells + 1 ≤ R.cells) (hslots : slots + N ≤ R.slots) (hdg : decode cc pc = .ok (.newarray .boolean, 2)) (kk : ∀ q : Nat, zG p l e R s m args below meth c D nL A (cells + 1) (slots + N) Q (pc + 2) L (.ref q :: st) (ws ++ [(q, .inl (cI, N, .inl (fun _ => 0)))])) : zG p l e R s m args below meth c D nL A cells slots Q (pc) L (.int n :: st) ws := by
  intro H locs ls hl hP hD hS
  refine va_newa (atype := .boolean) (ty := .boolean) (a0 := (N, .inl (fun _ => 0))) C.exec C.code (C.words _ harr) rfl C.known hP hD hS C.new (fun _ => rfl) hn hN (by show N * 1 ≤ _; omega) hcells hslots hdg (fun q cA H1 hK hP hD hS => ?_)
  have h1 : va_RA s cA .boolean := (hK.2 tys.length (cA, .boolean) (by simp)).2
  have h2 : va_RA s cI .boolean := (C.known.2 t0 _ ht).2
  have e : cA = cI := Option.some.inj (h1.symm.trans h2)
  subst e
  exact kk q H1 locs ls hl hP hD hS
theorem z_newl (C : zC p s m args c cc nL own Ts D tys A) (t0 : Nat) {cI : ClassId} {n : Int32} {N : Nat} (ht : tys[t0]? = some (cI, .long)) (harr : Cond.arrayClass .long ∈ Ts) (hn : ¬ n < 0) (hN : n.toNatClampNeg = N) (hb : N ≤ 1000) (hcells : cells + 1 ≤ R.cells) (hslots : slots + N ≤ R.slots) (hdg : decode cc pc = .ok (.newarray .long, 2)) (kk : ∀ q : Nat, zG p l e R s m args below meth c D nL A (cells + 1) (slots + N) Q (pc + 2) L (.ref q :: st) (ws ++ [(q, .inl (cI, N, .inr (.inl (fun _ => 0))))])) : zG p l e R s m args below meth c D nL A cells slots Q (pc) L (.int n :: st) ws := by
  intro H locs ls hl hP hD hS
  refine va_newa (atype := .long) (ty := .long) (a0 := (N, .inr (.inl (fun _ => 0)))) C.exec C.code (C.words _ harr) rfl C.known hP hD hS C.new (fun _ => rfl) hn hN (by show N * 8 ≤ _; omega) hcells hslots hdg (fun q cA H1 hK hP hD hS => ?_)
  have h1 : va_RA s cA .long := (hK.2 tys.length (cA, .long) (by simp)).2
  have h2 : va_RA s cI .long := (C.known.2 t0 _ ht).2
  have e : cA = cI := Option.some.inj (h1.symm.trans h2)
  subst e
  exact kk q H1 locs ls hl hP hD hS
theorem z_copy (C : zC p s m args c cc nL own Ts D tys A) {index : Nat} (h1 : Cond.methodLink own index arraycopyName ∈ Ts) (h2 : Cond.native arraycopyName ∈ Ts) (h3 : Cond.static arraycopyName ∈ Ts) (h4 : Cond.initialized "java/lang/System" ∈ Ts) (q0 q1 : Nat) {a0 a : Nat} {c0 : ClassId} {f g : Nat → Int32} {ws' : va_W} (ha0 : ws[q0]? = some (a0, .inl (c0, 148, .inl f))) (ha1 : ws[q1]? = some (a, .inl (c0, 148, .inl g))) (ht : tys[0]? = some (c0, .int)) (hfr : 1 ≤ R.frames) (hlo : (st.map fun v => v.category).sum + 18 ≤ R.locals) (hws : ws.set q1 (a, .inl (c0, 148, .inl (va_cpy f g 0 0 148))) = ws') (hdg : decode cc pc = .ok (.invokestatic index, 3)) (kk : zG p l e R s m args below meth c D nL A cells slots Q (pc + 3) L (st) ws') : zG p l e R s m args below meth c D nL A cells slots Q (pc) L (.int 148 :: .int 0 :: .ref a :: .int 0 :: .ref a0 :: st) ws := by
  intro H locs ls hl hP hD hS
  have e1 : (148 : Int32).toNatClampNeg = 148 := by decide
  have e0 : (0 : Int32).toNatClampNeg = 0 := by decide
  refine va_copyi C.exec C.code (C.maxl.trans hl.1.symm) C.here (C.words _ h1) (C.words _ h2) (C.words _ h3) (C.words _ h4) C.known hP hD hS q0 q1 0 0 ha0 ha1 ht ht rfl (by decide) (by decide) (by decide) (by rw [e0, e1]; exact Nat.le_refl _) (by rw [e0, e1]; exact Nat.le_refl _) (fun _ _ => rfl) hfr hlo hdg ?_
  rw [e0, e1, hws]
  exact fun H1 locs1 hP hD hS => kk H1 locs1 ls hl hP hD hS
end ZB
theorem z_incs (i : Nat) : nI i + Int32.ofInt 4 = nI (i + 4) := nI_add i 4
end
section
section ZM
/-- a return with the answer rv -/
def zQ (rv : Option Value) (B : State → Prop) (A : Nat → Prop) : Array Value → State → Outcome → State → Prop := fun _ st oc t => (oc = .returned rv ∧ B t) ∧ va_F A st t
def zP (D : va_G) (tys : List (ClassId × FieldType)) (w : va_W) (sz : Nat) (U : State) : Prop := U.heap.size = sz ∧ va_P D vwCl w U.heap ∧ va_K D vwCl tys U ∧ va_D (fun _ => True) w
/-- a contract: from the world w the method y returns rv and leaves the world w' -/
def zM (l : Launch) (y : MethodName) (ws : List Cond) (fr lo mc ms : Nat) (av : List Value) (tys : List (ClassId × FieldType)) (D : va_G) (w w' : va_W) (rv : Option Value) : Prop :=
  ∀ sz : Nat, Met l y ws ({ frames := fr, cells := mc, slots := ms, locals := lo } : Room) (va_Pc av (zP D tys w sz)) (zQ rv (fun t => va_P D vwCl w' t.heap) (va_A w sz)) mc ms (va_A w sz)
theorem z_met {l : Launch} {y : MethodName} {ws ws' : List Cond} {fr lo mc ms : Nat} {av : List Value} {tys : List (ClassId × FieldType)} {D : va_G} {w w' : va_W} {rv : Option Value} {cc : ByteArray} {maxL : Nat} {ret : Option FieldType} (hy : plainName y.cls = true) (hw : ws = Cond.code y cc maxL ret :: ws') (hlen : (lg_sl av).length ≤ maxL)
    (body : ∀ (p : Program) (e : Env) (s : State) (m : MethodId) (args : Array Value) (below : List Frame) (meth : Method) (c : Code) (A : Nat → Prop), zC p s m args c cc maxL y.cls ws D tys A → meth.sig.returnType = ret → meth.locks = false →
      zG p l e ({ frames := fr, cells := mc, slots := ms, locals := lo } : Room) s m args below meth c D maxL A 0 0 (MQ below (zQ rv (fun t => va_P D vwCl w' t.heap) A) args s mc ms A) 0 (lv_args 0 av) [] w) : zM l y ws fr lo mc ms av tys D w w' rv := by
  intro sz
  refine Met.ofW (cc := cc) (maxL := maxL) (ret := ret) hy hw ?_
  intro p e s m args below meth c s₁ B hml hv
  obtain ⟨rfl, hsz, hP, hK, hD0⟩ := hv
  have hts := atoms_spec (ws := ws) B.pre
  have hown : s.vm.findClass y.cls = some m.cls := findClass_of_methodNamed B.named
  subst hsz
  have hD := hD0.self (sz := s.heap.size)
  have hl := lv_entry av (n := maxL) hlen
  rw [lg_entry_eq]
  exact body p e s m _ below meth c (va_A w s.heap.size) ⟨⟨B.exec, B.bytes, hml, hown, hts⟩, hK, fun q h => Or.inr h⟩ B.returns B.notSynchronized s.heap [] _ hl hP hD va_S.rf
theorem z_Dfst {A : Nat → Prop} {ws ws' : va_W} (h : ws.map Prod.fst = ws'.map Prod.fst) (hD : va_D A ws) : va_D A ws' := by
  have key : ∀ (k : Nat) (q : Nat × va_E), ws'[k]? = some q → ∃ q0, ws[k]? = some q0 ∧ q0.1 = q.1 := by
    intro k q hq
    have h1 : (ws'.map Prod.fst)[k]? = some q.1 := by rw [List.getElem?_map, hq]; rfl
    rw [← h, List.getElem?_map] at h1
    cases h2 : ws[k]? with
    | none => rw [h2] at h1; cases h1
    | some q0 => rw [h2] at h1; exact ⟨q0, rfl, Option.some.inj h1⟩
  refine ⟨fun i j x y hi hj hxy => ?_, fun k q hk => ?_⟩
  · obtain ⟨a, a1, a2⟩ := key i x hi
    obtain ⟨b, b1, b2⟩ := key j y hj
    exact hD.1 i j a b a1 b1 (by rw [a2, b2, hxy])
  · obtain ⟨a, a1, a2⟩ := key k q hk
    rw [← a2]; exact hD.2 k a a1
theorem z_join {A0 : Nat → Prop} {D : va_G} {cl : List vw_C} {w1 wc w2 wc' : va_W} {H H1 : Heap} (hP : va_P D cl (w1 ++ wc ++ w2) H) (hD : va_D A0 (w1 ++ wc ++ w2)) (hk : ∀ q : Nat, q < H.size → ¬ va_A wc H.size q → H1[q]? = H[q]?) (hP1 : va_P D cl wc' H1) (ha : wc.map Prod.fst = wc'.map Prod.fst) : va_P D cl (w1 ++ wc' ++ w2) H1 ∧ va_D A0 (w1 ++ wc' ++ w2) := by
  have hlen : wc.length = wc'.length := by simpa using congrArg List.length ha
  refine ⟨fun k q hq => ?_, z_Dfst (by simp only [List.map_append, ha]) hD⟩
  have key : wc'[k - w1.length]? = some q ∨ ((k < w1.length ∨ w1.length + wc.length ≤ k) ∧ (w1 ++ wc ++ w2)[k]? = some q) := by
    rcases Nat.lt_or_ge k w1.length with h | h
    · refine Or.inr ⟨Or.inl h, ?_⟩
      rw [List.append_assoc, List.getElem?_append_left h] at hq ⊢
      exact hq
    · rcases Nat.lt_or_ge k (w1.length + wc.length) with h2 | h2
      · rw [List.append_assoc, List.getElem?_append_right h, List.getElem?_append_left (by omega)] at hq
        exact Or.inl hq
      · refine Or.inr ⟨Or.inr h2, ?_⟩
        rw [List.append_assoc, List.getElem?_append_right h, List.getElem?_append_right (by omega)] at hq ⊢
        rw [hlen]; exact hq
  rcases key with h | ⟨hk1, h⟩
  · exact hP1 _ q h
  · have hlt := (hP k q h).lt
    refine (hP k q h).kept (hk q.1 hlt (fun hA => ?_))
    rcases hA with ⟨j, e, hj⟩ | hge
    · have hjl : j < wc.length := (List.getElem?_eq_some_iff.mp hj).1
      have h3 : (w1 ++ wc ++ w2)[w1.length + j]? = some (q.1, e) := by
        rw [List.append_assoc, List.getElem?_append_right (by omega), Nat.add_sub_cancel_left, List.getElem?_append_left hjl]; exact hj
      have := hD.1 k (w1.length + j) q (q.1, e) h h3 rfl
      omega
    · omega
theorem z_mid {w1 wc w2 : va_W} {k : Nat} {q : Nat × va_E} (h : wc[k]? = some q) : (w1 ++ wc ++ w2)[w1.length + k]? = some q := by
  have hkl : k < wc.length := (List.getElem?_eq_some_iff.mp h).1
  rw [List.append_assoc, List.getElem?_append_right (by omega), Nat.add_sub_cancel_left, List.getElem?_append_left hkl]; exact h
theorem z_midP {D : va_G} {w1 wc w2 : va_W} {H : Heap} (h : va_P D vwCl (w1 ++ wc ++ w2) H) : va_P D vwCl wc H := fun _ q hk => h _ q (z_mid hk)
theorem z_midD {A B : Nat → Prop} {w1 wc w2 : va_W} (h : va_D A (w1 ++ wc ++ w2)) (hB : ∀ q, A q → B q) : va_D B wc := ⟨fun i j x y hi hj hxy => by have := h.1 _ _ x y (z_mid hi) (z_mid hj) hxy; omega, fun k q hk => hB _ (h.2 _ q (z_mid hk))⟩
theorem zP.blind {D : va_G} {tys : List (ClassId × FieldType)} {w : va_W} {sz : Nat} {U : State} {g : JFrame} {mk : MethodId} {a : Array Value} (h : zP D tys w sz U) : zP D tys w sz (U.calling g mk a) := ⟨h.1, h.2.1, va_K.moved (u := U) (U := U.calling g mk a) (Vm.Alike.refl U.vm) h.2.2.1, h.2.2.2⟩
section ZR
variable {p : Program} {l : Launch} {e : Env} {R : Room} {s : State} {m : MethodId} {args : Array Value} {below : List Frame} {meth : Method} {c : Code}
variable {cc : ByteArray} {nL : Nat} {own : String} {Ts : List Cond} {D : va_G} {tys : List (ClassId × FieldType)} {A : Nat → Prop} {cells slots : Nat} {Q : State → Prop} {pc : Nat} {L : List (Nat × Value)} {st : List Value} {ws : va_W}
theorem z_iret (C : zC p s m args c cc nL own Ts D tys A) {v v' : Int32} {w' : va_W} {mc ms : Nat} (hr : meth.sig.returnType = some .int) (hlocks : meth.locks = false) (hc : cells ≤ mc) (hs : slots ≤ ms) (hdg : decode cc pc = .ok (.ireturn, 1)) (e1 : v = v') (e2 : ws = w') : zG p l e R s m args below meth c D nL A cells slots (MQ below (zQ (some (.int v')) (fun t => va_P D vwCl w' t.heap) A) args s mc ms A) (pc) L ([.int v]) ws := by
  subst e1; subst e2
  intro H locs ls hl hP hD hS
  exact W.widen hc hs (W.iret C.exec C.code hr (fun t ht hW => ⟨⟨rfl, by show va_P D vwCl _ t.heap; rw [ht]; exact hP⟩, hS.F ht⟩) hS.2.2 hdg hlocks)
theorem z_lret (C : zC p s m args c cc nL own Ts D tys A) {v v' : Int64} {w' : va_W} {mc ms : Nat} (hr : meth.sig.returnType = some .long) (hlocks : meth.locks = false) (hc : cells ≤ mc) (hs : slots ≤ ms) (hdg : decode cc pc = .ok (.lreturn, 1)) (e1 : v = v') (e2 : ws = w') : zG p l e R s m args below meth c D nL A cells slots (MQ below (zQ (some (.long v')) (fun t => va_P D vwCl w' t.heap) A) args s mc ms A) (pc) L ([.long v]) ws := by
  subst e1; subst e2
  intro H locs ls hl hP hD hS
  exact W.widen hc hs (W.lret C.exec C.code hr (fun t ht hW => ⟨⟨rfl, by show va_P D vwCl _ t.heap; rw [ht]; exact hP⟩, hS.F ht⟩) hS.2.2 hdg hlocks)
theorem z_dret (C : zC p s m args c cc nL own Ts D tys A) {v v' : UInt64} {w' : va_W} {mc ms : Nat} (hr : meth.sig.returnType = some .double) (hlocks : meth.locks = false) (hc : cells ≤ mc) (hs : slots ≤ ms) (hdg : decode cc pc = .ok (.dreturn, 1)) (e1 : v = v') (e2 : ws = w') : zG p l e R s m args below meth c D nL A cells slots (MQ below (zQ (some (.double v')) (fun t => va_P D vwCl w' t.heap) A) args s mc ms A) (pc) L ([.double v]) ws := by
  subst e1; subst e2
  intro H locs ls hl hP hD hS
  exact W.widen hc hs (W.dret C.exec C.code hr (fun t ht hW => ⟨⟨rfl, by show va_P D vwCl _ t.heap; rw [ht]; exact hP⟩, hS.F ht⟩) hS.2.2 hdg hlocks)
theorem z_zret (C : zC p s m args c cc nL own Ts D tys A) {v v' : Int32} {w' : va_W} {mc ms : Nat} (hr : meth.sig.returnType = some .boolean) (hlocks : meth.locks = false) (hc : cells ≤ mc) (hs : slots ≤ ms) (hv : v = 0 ∨ v = 1) (hdg : decode cc pc = .ok (.ireturn, 1)) (e1 : v = v') (e2 : ws = w') : zG p l e R s m args below meth c D nL A cells slots (MQ below (zQ (some (.int v')) (fun t => va_P D vwCl w' t.heap) A) args s mc ms A) (pc) L ([.int v]) ws := by
  subst e1; subst e2
  intro H locs ls hl hP hD hS
  exact W.widen hc hs (W.zret C.exec C.code hr (by rcases hv with h | h <;> rw [h] <;> rfl) (fun t ht hW => ⟨⟨rfl, by show va_P D vwCl _ t.heap; rw [ht]; exact hP⟩, hS.F ht⟩) hS.2.2 hdg hlocks)
theorem z_vret (C : zC p s m args c cc nL own Ts D tys A) {w' : va_W} {mc ms : Nat} (hr : meth.sig.returnType = none) (hlocks : meth.locks = false) (hc : cells ≤ mc) (hs : slots ≤ ms) (hdg : decode cc pc = .ok (.return_, 1)) (e2 : ws = w') : zG p l e R s m args below meth c D nL A cells slots (MQ below (zQ none (fun t => va_P D vwCl w' t.heap) A) args s mc ms A) (pc) L ([]) ws := by
  subst e2
  intro H locs ls hl hP hD hS
  exact W.widen hc hs (W.vret C.exec C.code hr (fun t ht hW => ⟨⟨rfl, by show va_P D vwCl _ t.heap; rw [ht]; exact hP⟩, hS.F ht⟩) hS.2.2 hdg hlocks)
theorem z_part (is : List Nat) {ws' : va_W} (hn : va_nd is = true) (h1 : is.filterMap (fun i => ws[i]?) = ws') (h2 : is.map (fun i => ws[i]?) = ws'.map some) (k : zG p l e R s m args below meth c D nL A cells slots Q (pc) L (st) ws') : zG p l e R s m args below meth c D nL A cells slots Q (pc) L (st) ws := fun H locs ls hl hP hD hS => k H locs ls hl (hP.sub is h1) (hD.sub is hn h2) hS
theorem z_callV (C : zC p s m args c cc nL own Ts D tys A) {y : MethodName} {bytes : ByteArray} {maxL index : Nat} {ret : Option FieldType} {ws2 : List Cond} {fr lo mc ms : Nat} {As : List Value} {rv : Option Value} {w w' w1 w2 ws' : va_W} {tys2 : List (ClassId × FieldType)} {rest st' : List Value} {n : Nat} {b q0 ci : Nat} {C2 : String} {fs : List Value} {r : vw_C} (hM : zM l y ws2 fr lo mc ms (.ref b :: As) tys2 D w w' rv) (cw : CallW R s args own C2 index y bytes maxL ret ws2 ({ frames := fr, cells := mc, slots := ms, locals := lo } : Room) mc ms n) (hq : w[q0]? = some (b, .inr (ci, fs))) (hc : vwCl[ci]? = some r) (hr : r.1 = C2) (is : List Nat) (ht : is.filterMap (fun i => tys[i]?) = tys2) (hn : As.length = n) (hroom : (rest.map fun v => v.category).sum ≤ 8) (hf : cells + mc ≤ R.cells ∧ slots + ms ≤ R.slots) (hw : ws = w1 ++ w ++ w2) (hw' : w1 ++ w' ++ w2 = ws') (ha : w.map Prod.fst = w'.map Prod.fst) (hst : st = As.reverse ++ .ref b :: rest) (hst' : rv.toList ++ rest = st') (hdg : decode cc pc = .ok (.invokevirtual index, 3)) (kk : zG p l e R s m args below meth c D nL A (cells + mc) (slots + ms) Q (pc + 3) L (st') ws') : zG p l e R s m args below meth c D nL A cells slots Q (pc) L (st) ws := by
  intro H locs ls hl hP hD hS T hT X
  subst hw; subst hst; subst hst'
  have hPc : va_P D vwCl w H := z_midP hP
  have hDc : va_D (fun _ => True) w := z_midD hD (fun _ _ => trivial)
  have hKc := C.known.sub is ht
  have hFc : ∀ q, va_A w H.size q → A q := by
    rintro q (⟨k, e, h⟩ | h)
    · exact hD.2 _ (q, e) (z_mid h)
    · exact C.new q (Nat.le_trans hS.1 h)
  obtain ⟨v, st₀, t, T', L', h0, X', hL, e1, e2, ⟨⟨hv, hb⟩, hz, hkk⟩, stp⟩ := va_runV (As := As) (rest := rest) (g := F0 m pc ls (As.reverse ++ .ref b :: rest)) C.1 (hM H.size) cw ⟨fun a U g mk q => ⟨q.1, q.2.blind⟩, by rw [← hr]; exact va_recv hKc hPc hc hq, fun U hU hW => ⟨rfl, by rw [hU], by rw [hU]; exact hPc, va_K.moved hW.alike hKc, hDc⟩⟩ rfl hn hl.1 rfl (lv_room (pc := pc) (ls := ls) (rest := As.reverse ++ .ref b :: rest) hroom) hdg hf T hT X
  have hv : v = rv := by injection hv
  subst hv
  rw [h0] at hz hkk
  obtain ⟨hP', hD'⟩ := z_join hP hD (H1 := T'.heap) (fun q h1 h2 => by rw [e1]; exact hkk q h1 h2) (by rw [e1]; exact hb) ha
  subst hw'
  obtain ⟨t2, a1, b1⟩ := kk T'.heap (locs ++ L') ls hl hP' hD' ⟨Nat.le_trans hS.1 (by rw [e1]; exact hz), fun q h1 h2 => by rw [e1, hkk q (Nat.lt_of_lt_of_le h1 hS.1) (fun z => h2 (hFc q z))]; exact hS.2.1 q h1 h2, fun q hq => by
    rcases List.mem_append.mp hq with h | h
    · exact hS.2.2 q h
    · exact hFc _ (hL q h)⟩ T' rfl X'
  exact ⟨t2, stp t2 a1, b1⟩
theorem z_callS (C : zC p s m args c cc nL own Ts D tys A) {y : MethodName} {bytes : ByteArray} {maxL index : Nat} {ret : Option FieldType} {ws2 : List Cond} {fr lo mc ms : Nat} {As : List Value} {rv : Option Value} {w w' w1 w2 ws' : va_W} {tys2 : List (ClassId × FieldType)} {rest st' : List Value} {n : Nat} (hM : zM l y ws2 fr lo mc ms As tys2 D w w' rv) (cw : CallB R s args own index y bytes maxL ret ws2 ({ frames := fr, cells := mc, slots := ms, locals := lo } : Room) mc ms n ∧ (Cond.static y).before args s = true) (is : List Nat) (ht : is.filterMap (fun i => tys[i]?) = tys2) (hn : As.length = n) (hroom : (rest.map fun v => v.category).sum ≤ 8) (hf : cells + mc ≤ R.cells ∧ slots + ms ≤ R.slots) (hw : ws = w1 ++ w ++ w2) (hw' : w1 ++ w' ++ w2 = ws') (ha : w.map Prod.fst = w'.map Prod.fst) (hst : st = As.reverse ++ rest) (hst' : rv.toList ++ rest = st') (hdg : decode cc pc = .ok (.invokestatic index, 3)) (kk : zG p l e R s m args below meth c D nL A (cells + mc) (slots + ms) Q (pc + 3) L (st') ws') : zG p l e R s m args below meth c D nL A cells slots Q (pc) L (st) ws := by
  intro H locs ls hl hP hD hS T hT X
  subst hw; subst hst; subst hst'
  have hPc : va_P D vwCl w H := z_midP hP
  have hDc : va_D (fun _ => True) w := z_midD hD (fun _ _ => trivial)
  have hKc := C.known.sub is ht
  have hFc : ∀ q, va_A w H.size q → A q := by
    rintro q (⟨k, e, h⟩ | h)
    · exact hD.2 _ (q, e) (z_mid h)
    · exact C.new q (Nat.le_trans hS.1 h)
  obtain ⟨v, st₀, t, T', L', h0, X', hL, e1, e2, ⟨⟨hv, hb⟩, hz, hkk⟩, stp⟩ := va_runS (As := As) (rest := rest) (g := F0 m pc ls (As.reverse ++ rest)) C.1 (hM H.size) cw ⟨fun a U g mk q => ⟨q.1, q.2.blind⟩, fun U hU hW => ⟨rfl, by rw [hU], by rw [hU]; exact hPc, va_K.moved hW.alike hKc, hDc⟩⟩ rfl hn hl.1 rfl (lv_room (pc := pc) (ls := ls) (rest := As.reverse ++ rest) hroom) hdg hf T hT X
  have hv : v = rv := by injection hv
  subst hv
  rw [h0] at hz hkk
  obtain ⟨hP', hD'⟩ := z_join hP hD (H1 := T'.heap) (fun q h1 h2 => by rw [e1]; exact hkk q h1 h2) (by rw [e1]; exact hb) ha
  subst hw'
  obtain ⟨t2, a1, b1⟩ := kk T'.heap (locs ++ L') ls hl hP' hD' ⟨Nat.le_trans hS.1 (by rw [e1]; exact hz), fun q h1 h2 => by rw [e1, hkk q (Nat.lt_of_lt_of_le h1 hS.1) (fun z => h2 (hFc q z))]; exact hS.2.1 q h1 h2, fun q hq => by
    rcases List.mem_append.mp hq with h | h
    · exact hS.2.2 q h
    · exact hFc _ (hL q h)⟩ T' rfl X'
  exact ⟨t2, stp t2 a1, b1⟩
end ZR
end ZM
end
section
/-! what the class does, as functions of its state; then the reference -/
/-- luck, arrears, lumps, members, (throwers, lefts, grains, excesses), throws, cellar, day, found, trial's day, trial's debt -/
abbrev S0 : Type := (Nat → Int32) × (Nat → Int32) × (Nat → Int32) × Nat × (Nat → Int32) × (Nat → Int32) × (Nat → Int32) × (Nat → Int32) × Nat × Nat × Int32 × Int32 × Int32 × Int32
abbrev xl (v : S0) : Nat → Int32 := v.1
abbrev xa (v : S0) : Nat → Int32 := v.2.1
abbrev xe (v : S0) : Nat → Int32 := v.2.2.1
abbrev xn (v : S0) : Nat := v.2.2.2.1
abbrev xw (v : S0) : Nat → Int32 := v.2.2.2.2.1
abbrev xf (v : S0) : Nat → Int32 := v.2.2.2.2.2.1
abbrev xg (v : S0) : Nat → Int32 := v.2.2.2.2.2.2.1
abbrev xx (v : S0) : Nat → Int32 := v.2.2.2.2.2.2.2.1
abbrev xk (v : S0) : Nat := v.2.2.2.2.2.2.2.2.1
abbrev xc (v : S0) : Nat := v.2.2.2.2.2.2.2.2.2.1
abbrev xd (v : S0) : Int32 := v.2.2.2.2.2.2.2.2.2.2.1
abbrev xo (v : S0) : Int32 := v.2.2.2.2.2.2.2.2.2.2.2.1
abbrev xy (v : S0) : Int32 := v.2.2.2.2.2.2.2.2.2.2.2.2.1
abbrev xb (v : S0) : Int32 := v.2.2.2.2.2.2.2.2.2.2.2.2.2
def ul (v : S0) (f : Nat → Int32) : S0 := (f, xa v, xe v, xn v, xw v, xf v, xg v, xx v, xk v, xc v, xd v, xo v, xy v, xb v)
def ua (v : S0) (f : Nat → Int32) : S0 := (xl v, f, xe v, xn v, xw v, xf v, xg v, xx v, xk v, xc v, xd v, xo v, xy v, xb v)
def ue (v : S0) (f : Nat → Int32) : S0 := (xl v, xa v, f, xn v, xw v, xf v, xg v, xx v, xk v, xc v, xd v, xo v, xy v, xb v)
def un (v : S0) (n : Nat) : S0 := (xl v, xa v, xe v, n, xw v, xf v, xg v, xx v, xk v, xc v, xd v, xo v, xy v, xb v)
def uk (v : S0) (n : Nat) : S0 := (xl v, xa v, xe v, xn v, xw v, xf v, xg v, xx v, n, xc v, xd v, xo v, xy v, xb v)
def uc (v : S0) (n : Nat) : S0 := (xl v, xa v, xe v, xn v, xw v, xf v, xg v, xx v, xk v, n, xd v, xo v, xy v, xb v)
def ud (v : S0) (z : Int32) : S0 := (xl v, xa v, xe v, xn v, xw v, xf v, xg v, xx v, xk v, xc v, z, xo v, xy v, xb v)
def uo (v : S0) (z : Int32) : S0 := (xl v, xa v, xe v, xn v, xw v, xf v, xg v, xx v, xk v, xc v, xd v, z, xy v, xb v)
def uy (v : S0) (z : Int32) : S0 := (xl v, xa v, xe v, xn v, xw v, xf v, xg v, xx v, xk v, xc v, xd v, xo v, z, xb v)
def ub (v : S0) (z : Int32) : S0 := (xl v, xa v, xe v, xn v, xw v, xf v, xg v, xx v, xk v, xc v, xd v, xo v, xy v, z)
/-- the class's cells: the object at hh 0, its arrays at hh 1 to hh 7 -/
def wX0 (hh : Nat → Nat) (cI cZ : ClassId) (v : S0) : va_W := [(hh 0, .inr (0, [.ref (hh 1), .ref (hh 2), .ref (hh 3), .int (nI (xn v)), .ref (hh 4), .ref (hh 5), .ref (hh 6), .ref (hh 7), .int (nI (xk v)), .int (nI (xc v)), .int (xd v), .int (xo v), .int (xy v), .int (xb v)])),
  (hh 1, .inl (cI, 9, .inl (xl v))), (hh 2, .inl (cI, 9, .inl (xa v))), (hh 3, .inl (cI, 9, .inl (xe v))), (hh 4, .inl (cI, 30, .inl (xw v))), (hh 5, .inl (cZ, 30, .inl (xf v))), (hh 6, .inl (cI, 30, .inl (xg v))), (hh 7, .inl (cI, 30, .inl (xx v)))]
/-- the reference's: thrown, members, now, kept -/
abbrev S1 : Type := Int32 × Nat × (Nat → Int32) × (Nat → Int32)
abbrev rt (v : S1) : Int32 := v.1
abbrev rn (v : S1) : Nat := v.2.1
abbrev rf (v : S1) : Nat → Int32 := v.2.2.1
abbrev rk (v : S1) : Nat → Int32 := v.2.2.2
def vt (v : S1) (z : Int32) : S1 := (z, rn v, rf v, rk v)
def vn (v : S1) (n : Nat) : S1 := (rt v, n, rf v, rk v)
def vf (v : S1) (f : Nat → Int32) : S1 := (rt v, rn v, f, rk v)
def vk (v : S1) (f : Nat → Int32) : S1 := (rt v, rn v, rf v, f)
def wX1 (gg : Nat → Nat) (cI : ClassId) (v : S1) : va_W := [(gg 0, .inr (1, [.int (rt v), .int (nI (rn v)), .ref (gg 1), .ref (gg 2)])), (gg 1, .inl (cI, 148, .inl (rf v))), (gg 2, .inl (cI, 148, .inl (rk v)))]
theorem z_inc (i : Nat) : nI i + Int32.ofInt 1 = nI (i + 1) := nI_1 i
theorem z_1 (i : Nat) : nI i + 1 = nI (i + 1) := nI_1 i
theorem z_dec (i : Nat) (h : 0 < i) : nI i - 1 = nI (i - 1) := pk_sub h
/-! the class -/
def xadd (v : S0) (j : Nat) (g : Int32) : S0 := ua v (upd (xa v) j (imin 99 (xa v j + g)))
def xless (v : S0) (j : Nat) (g : Int32) : S0 := ua v (upd (xa v) j (imax 0 (xa v j - g)))
def xlump (v : S0) (j : Nat) (g : Int32) : S0 := ue v (upd (xe v) j (imin 9 (xe v j + g)))
def xlexc (v : S0) (j : Nat) (g : Int32) : Int32 := imax 0 (g - xa v j)
def xloss (v : S0) (j : Nat) : Int32 := if xe v j ≤ 0 then (xa v j + 10 - 1) / 10 else 0
def xeat (v : S0) (j : Nat) : S0 :=
  if xe v j ≤ 0 then (if xa v j ≤ 0 then ul v (upd (xl v) j (imin 100 (xl v j + 1))) else ul v (upd (xl v) j (imax 0 (xl v j - xloss v j))))
  else xless (ue v (upd (xe v) j (xe v j - 1))) j 3
def xdebtN (w x : Nat → Int32) (j : Int32) : Nat → Int32
  | 0 => 0
  | t + 1 => if w t = j then xdebtN w x j t + 2 * x t else xdebtN w x j t
def xdebt (v : S0) (j : Int32) : Int32 := xdebtN (xw v) (xx v) j (xk v)
def xfltN (x : Nat → Int32) : Nat → Int32
  | 0 => 0
  | t + 1 => if x t ≤ 0 then xfltN x t else xfltN x t + 1
def xflt (v : S0) : Int32 := xfltN (xx v) (xk v)
def xaudN (v : S0) : Nat → S0
  | 0 => v
  | i + 1 => xadd (xaudN v i) i (xdebt (xaudN v i) (nI i))
def xaud (v : S0) : S0 := uo (uk (xaudN v (xn v)) 0) (xo (xaudN v (xn v)) + xflt v)
def isA (d : Int32) : Int32 := if d - d / 7 * 7 = 6 then 1 else 0
def xeatN (v : S0) : Nat → S0
  | 0 => v
  | i + 1 => xeat (xeatN v i) i
def xday1 (v : S0) : S0 := if isA (xd v) = 0 then v else xaud v
def xdayF (v : S0) : Int32 := if isA (xd v) = 0 then 0 else xflt v
def xday (v : S0) : S0 := ud (xeatN (xday1 v) (xn v)) (xd (xeatN (xday1 v) (xn v)) + 1)
def xpass (v : S0) : Nat → S0
  | 0 => v
  | i + 1 => xday (xpass v i)
def xpassF (v : S0) : Nat → Int32
  | 0 => 0
  | i + 1 => xpassF v i + xdayF (xpass v i)
def xwrite (v : S0) (j b g z : Int32) : S0 := (xl v, xa v, xe v, xn v, upd (xw v) (xk v) j, upd (xf v) (xk v) b, upd (xg v) (xk v) g, upd (xx v) (xk v) z, xk v + 1, xc v, xd v, xo v, xy v, xb v)
def xbegin (v : S0) (j : Nat) : S0 := (upd (xl v) 8 (xl v j), upd (xa v) 8 (xa v j), upd (xe v) 8 (xe v j), xn v, xw v, xf v, xg v, xx v, xk v, xc v, xd v, xo v, xd v, xdebt v (nI j))
def xbpin (v : S0) (j : Nat) (g : Int32) : S0 := xless (ub (xbegin v j) (xb (xbegin v j) + 2 * xlexc (xbegin v j) 8 g)) 8 g
def xbpen (v : S0) (j : Nat) (g : Int32) : S0 := xlump (xbegin v j) 8 g
def xtd1 (v : S0) : S0 := if isA (xy v) = 0 then v else ub (xadd v 8 (xb v)) 0
def xtd (v : S0) : S0 := uy (xeat (xtd1 v) 8) (xy (xeat (xtd1 v) 8) + 1)
def xtdN (v : S0) : Nat → S0
  | 0 => v
  | i + 1 => xtd (xtdN v i)
def sumI (f : Nat → Int32) : Nat → Int32
  | 0 => 0
  | i + 1 => sumI f i + f i
def clrI (f : Nat → Int32) : Nat → Int32
  | 0 => 0
  | i + 1 => if f i = 0 then clrI f i + 1 else clrI f i
/-- the loop of luckiest: best, and its luck -/
def lukN (f : Nat → Int32) : Nat → Int32 × Int32
  | 0 => (-1, -1)
  | i + 1 => if f i ≤ (lukN f i).2 then lukN f i else (nI i, f i)
/-- the first of days 0 to 60 with 0 in f, by fuel -/
def untN (z : S0 → Int32) (v : S0) (i : Nat) : Nat → Int32
  | 0 => -1
  | d + 1 => if z (xtdN v i) = 0 then nI i else untN z v (i + 1) d
/-- the state behind such a loop -/
def untS (z : S0 → Int32) (v : S0) (i : Nat) : Nat → S0
  | 0 => xtdN v i
  | d + 1 => if z (xtdN v i) = 0 then xtdN v i else untS z v (i + 1) d
/-- a loop of looks ahead: best, its luck, the state; z the look of a state -/
def pinG (z : S0 → Nat → S0) (v : S0) : Nat → Int32 × Int32 × S0
  | 0 => (0, -1, v)
  | i + 1 => if xl (z (pinG z v i).2.2 i) 8 ≤ (pinG z v i).2.1 then ((pinG z v i).1, (pinG z v i).2.1, z (pinG z v i).2.2 i) else (nI i, xl (z (pinG z v i).2.2 i) 8, z (pinG z v i).2.2 i)
theorem pinG_pos {z : S0 → Nat → S0} {v : S0} {i : Nat} (c : xl (z (pinG z v i).2.2 i) 8 ≤ (pinG z v i).2.1) : pinG z v (i + 1) = ((pinG z v i).1, (pinG z v i).2.1, z (pinG z v i).2.2 i) := if_pos c
theorem pinG_neg {z : S0 → Nat → S0} {v : S0} {i : Nat} (c : ¬ xl (z (pinG z v i).2.2 i) 8 ≤ (pinG z v i).2.1) : pinG z v (i + 1) = (nI i, xl (z (pinG z v i).2.2 i) 8, z (pinG z v i).2.2 i) := if_neg c
theorem pinG_S (z : S0 → Nat → S0) (v : S0) (i : Nat) : (pinG z v (i + 1)).2.2 = z (pinG z v i).2.2 i := by
  by_cases c : xl (z (pinG z v i).2.2 i) 8 ≤ (pinG z v i).2.1
  · rw [pinG_pos c]
  · rw [pinG_neg c]
theorem pinG_keep {α : Type} (P : S0 → α) {z : S0 → Nat → S0} (h : ∀ s i, P (z s i) = P s) (v : S0) : ∀ i, P (pinG z v i).2.2 = P v := by
  intro i
  induction i with
  | zero => rfl
  | succ i ih => rw [pinG_S, h, ih]
def pinZ (j : Nat) (s : S0) (i : Nat) : S0 := xtdN (xbpin s j (nI i)) 14
def penZ (j : Nat) (s : S0) (i : Nat) : S0 := xtdN (xbpen s j (nI i)) 20
def pinN (v : S0) (j : Nat) : Nat → Int32 × Int32 × S0 := pinG (pinZ j) v
def penN (v : S0) (j : Nat) : Nat → Int32 × Int32 × S0 := pinG (penZ j) v
theorem pinN_pos {v : S0} {j i : Nat} (c : xl (pinZ j (pinN v j i).2.2 i) 8 ≤ (pinN v j i).2.1) : pinN v j (i + 1) = ((pinN v j i).1, (pinN v j i).2.1, pinZ j (pinN v j i).2.2 i) := by unfold pinN at c ⊢; exact pinG_pos c
theorem pinN_neg {v : S0} {j i : Nat} (c : ¬ xl (pinZ j (pinN v j i).2.2 i) 8 ≤ (pinN v j i).2.1) : pinN v j (i + 1) = (nI i, xl (pinZ j (pinN v j i).2.2 i) 8, pinZ j (pinN v j i).2.2 i) := by unfold pinN at c ⊢; exact pinG_neg c
theorem penN_pos {v : S0} {j i : Nat} (c : xl (penZ j (penN v j i).2.2 i) 8 ≤ (penN v j i).2.1) : penN v j (i + 1) = ((penN v j i).1, (penN v j i).2.1, penZ j (penN v j i).2.2 i) := by unfold penN at c ⊢; exact pinG_pos c
theorem penN_neg {v : S0} {j i : Nat} (c : ¬ xl (penZ j (penN v j i).2.2 i) 8 ≤ (penN v j i).2.1) : penN v j (i + 1) = (nI i, xl (penZ j (penN v j i).2.2 i) 8, penZ j (penN v j i).2.2 i) := by unfold penN at c ⊢; exact pinG_neg c
def xspill (v : S0) (j g : Nat) : S0 := xadd (uc v (xc v - g)) j (nI g)
def xthrow (v : S0) (j : Nat) (b : Int32) (g : Nat) : S0 :=
  if b = 0 then xwrite (uc (xless v j (nI g)) (xc (xless v j (nI g)) - g)) (nI j) 1 (nI g) (xlexc v j (nI g))
  else xwrite (uc v (xc v - g)) (nI j) 0 (nI g) (nI g)
def xthrowR (v : S0) (j : Nat) (b : Int32) (g : Nat) : Int32 := if b = 0 then xlexc v j (nI g) else nI g
def xjoin (v : S0) : S0 := (upd (xl v) (xn v) 50, upd (xa v) (xn v) 0, upd (xe v) (xn v) 0, xn v + 1, xw v, xf v, xg v, xx v, xk v, xc v, xd v, xo v, xy v, xb v)
def xmean (v : S0) : UInt64 := if nI (xn v) = 0 then 0 else FP.ddiv (FP.i2d (sumI (xl v) (xn v))) (FP.i2d (nI (xn v)))
def mixd (d : Int64) (x : Int32) : Int64 := d * 31 + x.toInt64
def xpin (v : S0) (j : Nat) : S0 := if nI (xk v) < 30 then (pinN v j (min 9 (xc v) + 1)).2.2 else v
def xpinR (v : S0) (j : Nat) : Int32 := if nI (xk v) < 30 then (pinN v j (min 9 (xc v) + 1)).1 else 0
def xmemD (v : S0) (d : Int64) (j : Nat) : Int64 := mixd (mixd (mixd (mixd (mixd (mixd (mixd d (xl v j)) (xa v j)) (xe v j)) (xloss v j)) (xdebt v (nI j))) (xpinR v j)) (penN (xpin v j) j 10).1
def xmem (v : S0) (j : Nat) : S0 := (penN (xpin v j) j 10).2.2
def xmemN (v : S0) : Nat → S0
  | 0 => v
  | i + 1 => xmem (xmemN v i) i
def xmemDN (v : S0) (d : Int64) : Nat → Int64
  | 0 => d
  | i + 1 => xmemD (xmemN v i) (xmemDN v d i) i
def xthD (v : S0) (d : Int64) (t : Nat) : Int64 := mixd (mixd (mixd (mixd d (xw v t)) (if xf v t = 0 then 0 else 1)) (xg v t)) (xx v t)
def xthDN (v : S0) (d : Int64) : Nat → Int64
  | 0 => d
  | i + 1 => xthD v (xthDN v d i) i
def xdig8 (v : S0) : Int64 := mixd (mixd (mixd (mixd (mixd (mixd (mixd (mixd 2011 (xd v)) (nI (xn v))) (nI (xc v))) (nI (xk v))) (xflt v)) (xo v)) (lukN (xl v) (xn v)).1) (sumI (xa v) (xn v))
def xdig (v : S0) : S0 := xmemN v (xn v)
def xdigR (v : S0) : Int64 := xthDN (xdig v) (xmemDN v (xdig8 v) (xn v)) (xk v)
/-! what stays -/
theorem ul_n (v : S0) (f : Nat → Int32) : xn (ul v f) = xn v := rfl
theorem ul_k (v : S0) (f : Nat → Int32) : xk (ul v f) = xk v := rfl
theorem ul_c (v : S0) (f : Nat → Int32) : xc (ul v f) = xc v := rfl
theorem ul_f (v : S0) (f : Nat → Int32) : xf (ul v f) = xf v := rfl
theorem ua_n (v : S0) (f : Nat → Int32) : xn (ua v f) = xn v := rfl
theorem ua_k (v : S0) (f : Nat → Int32) : xk (ua v f) = xk v := rfl
theorem ua_c (v : S0) (f : Nat → Int32) : xc (ua v f) = xc v := rfl
theorem ua_f (v : S0) (f : Nat → Int32) : xf (ua v f) = xf v := rfl
theorem ue_n (v : S0) (f : Nat → Int32) : xn (ue v f) = xn v := rfl
theorem ue_k (v : S0) (f : Nat → Int32) : xk (ue v f) = xk v := rfl
theorem ue_c (v : S0) (f : Nat → Int32) : xc (ue v f) = xc v := rfl
theorem ue_f (v : S0) (f : Nat → Int32) : xf (ue v f) = xf v := rfl
theorem un_k (v : S0) (f : Nat) : xk (un v f) = xk v := rfl
theorem un_c (v : S0) (f : Nat) : xc (un v f) = xc v := rfl
theorem un_f (v : S0) (f : Nat) : xf (un v f) = xf v := rfl
theorem uk_n (v : S0) (f : Nat) : xn (uk v f) = xn v := rfl
theorem uk_c (v : S0) (f : Nat) : xc (uk v f) = xc v := rfl
theorem uk_f (v : S0) (f : Nat) : xf (uk v f) = xf v := rfl
theorem uc_n (v : S0) (f : Nat) : xn (uc v f) = xn v := rfl
theorem uc_k (v : S0) (f : Nat) : xk (uc v f) = xk v := rfl
theorem uc_f (v : S0) (f : Nat) : xf (uc v f) = xf v := rfl
theorem ud_n (v : S0) (f : Int32) : xn (ud v f) = xn v := rfl
theorem ud_k (v : S0) (f : Int32) : xk (ud v f) = xk v := rfl
theorem ud_c (v : S0) (f : Int32) : xc (ud v f) = xc v := rfl
theorem ud_f (v : S0) (f : Int32) : xf (ud v f) = xf v := rfl
theorem uo_n (v : S0) (f : Int32) : xn (uo v f) = xn v := rfl
theorem uo_k (v : S0) (f : Int32) : xk (uo v f) = xk v := rfl
theorem uo_c (v : S0) (f : Int32) : xc (uo v f) = xc v := rfl
theorem uo_f (v : S0) (f : Int32) : xf (uo v f) = xf v := rfl
theorem uy_n (v : S0) (f : Int32) : xn (uy v f) = xn v := rfl
theorem uy_k (v : S0) (f : Int32) : xk (uy v f) = xk v := rfl
theorem uy_c (v : S0) (f : Int32) : xc (uy v f) = xc v := rfl
theorem uy_f (v : S0) (f : Int32) : xf (uy v f) = xf v := rfl
theorem ub_n (v : S0) (f : Int32) : xn (ub v f) = xn v := rfl
theorem ub_k (v : S0) (f : Int32) : xk (ub v f) = xk v := rfl
theorem ub_c (v : S0) (f : Int32) : xc (ub v f) = xc v := rfl
theorem ub_f (v : S0) (f : Int32) : xf (ub v f) = xf v := rfl
theorem xadd_n (v : S0) (j : Nat) (g : Int32) : xn (xadd v j g) = xn v := rfl
theorem xless_n (v : S0) (j : Nat) (g : Int32) : xn (xless v j g) = xn v := rfl
theorem xlump_n (v : S0) (j : Nat) (g : Int32) : xn (xlump v j g) = xn v := rfl
theorem xbegin_n (v : S0) (j : Nat) : xn (xbegin v j) = xn v := rfl
theorem xeat_n (v : S0) (j : Nat) : xn (xeat v j) = xn v := by
  unfold xeat
  split
  · split
    · exact ul_n _ _
    · exact ul_n _ _
  · exact (xless_n _ _ _).trans (ue_n _ _)
theorem xaudN_n (v : S0) (i : Nat) : xn (xaudN v i) = xn v := by
  induction i with
  | zero => rfl
  | succ i ih => unfold xaudN; exact (xadd_n _ _ _).trans ih
theorem xaud_n (v : S0) : xn (xaud v) = xn v := by unfold xaud; exact (uo_n _ _).trans ((uk_n _ _).trans (xaudN_n v (xn v)))
theorem xday1_n (v : S0) : xn (xday1 v) = xn v := by
  unfold xday1
  split
  · rfl
  · exact xaud_n v
theorem xeatN_n (v : S0) (i : Nat) : xn (xeatN v i) = xn v := by
  induction i with
  | zero => rfl
  | succ i ih => unfold xeatN; exact (xeat_n _ _).trans ih
theorem xday_n (v : S0) : xn (xday v) = xn v := by unfold xday; exact (ud_n _ _).trans ((xeatN_n _ _).trans (xday1_n v))
theorem xpass_n (v : S0) (i : Nat) : xn (xpass v i) = xn v := by
  induction i with
  | zero => rfl
  | succ i ih => unfold xpass; exact (xday_n _).trans ih
theorem xtd1_n (v : S0) : xn (xtd1 v) = xn v := by
  unfold xtd1
  split
  · rfl
  · exact (ub_n _ _).trans (xadd_n _ _ _)
theorem xtd_n (v : S0) : xn (xtd v) = xn v := by unfold xtd; exact (uy_n _ _).trans ((xeat_n _ _).trans (xtd1_n v))
theorem xtdN_n (v : S0) (i : Nat) : xn (xtdN v i) = xn v := by
  induction i with
  | zero => rfl
  | succ i ih => unfold xtdN; exact (xtd_n _).trans ih
theorem xbpin_n (v : S0) (j : Nat) (g : Int32) : xn (xbpin v j g) = xn v := by unfold xbpin; exact (xless_n _ _ _).trans ((ub_n _ _).trans (xbegin_n v j))
theorem xbpen_n (v : S0) (j : Nat) (g : Int32) : xn (xbpen v j g) = xn v := by unfold xbpen; exact (xlump_n _ _ _).trans (xbegin_n v j)
theorem pinN_n (v : S0) (j i : Nat) : xn (pinN v j i).2.2 = xn v := pinG_keep (fun s => xn s) (fun s i => by unfold pinZ; exact (xtdN_n _ _).trans (xbpin_n _ _ _)) v i
theorem penN_n (v : S0) (j i : Nat) : xn (penN v j i).2.2 = xn v := pinG_keep (fun s => xn s) (fun s i => by unfold penZ; exact (xtdN_n _ _).trans (xbpen_n _ _ _)) v i
theorem xpin_n (v : S0) (j : Nat) : xn (xpin v j) = xn v := by
  unfold xpin
  split
  · exact pinN_n v j _
  · rfl
theorem xmem_n (v : S0) (j : Nat) : xn (xmem v j) = xn v := by unfold xmem; exact (penN_n _ _ _).trans (xpin_n v j)
theorem xmemN_n (v : S0) (i : Nat) : xn (xmemN v i) = xn v := by
  induction i with
  | zero => rfl
  | succ i ih => unfold xmemN; exact (xmem_n _ _).trans ih
theorem xadd_k (v : S0) (j : Nat) (g : Int32) : xk (xadd v j g) = xk v := rfl
theorem xless_k (v : S0) (j : Nat) (g : Int32) : xk (xless v j g) = xk v := rfl
theorem xlump_k (v : S0) (j : Nat) (g : Int32) : xk (xlump v j g) = xk v := rfl
theorem xbegin_k (v : S0) (j : Nat) : xk (xbegin v j) = xk v := rfl
theorem xeat_k (v : S0) (j : Nat) : xk (xeat v j) = xk v := by
  unfold xeat
  split
  · split
    · exact ul_k _ _
    · exact ul_k _ _
  · exact (xless_k _ _ _).trans (ue_k _ _)
theorem xaudN_k (v : S0) (i : Nat) : xk (xaudN v i) = xk v := by
  induction i with
  | zero => rfl
  | succ i ih => unfold xaudN; exact (xadd_k _ _ _).trans ih
theorem xaud_k (v : S0) : xk (xaud v) = 0 := by unfold xaud; exact (uo_k _ _).trans rfl
theorem xday1_k (v : S0) : xk (xday1 v) ≤ xk v := by
  unfold xday1
  split
  · exact Nat.le_refl _
  · rw [xaud_k]; exact Nat.zero_le _
theorem xeatN_k (v : S0) (i : Nat) : xk (xeatN v i) = xk v := by
  induction i with
  | zero => rfl
  | succ i ih => unfold xeatN; exact (xeat_k _ _).trans ih
theorem xday_k (v : S0) : xk (xday v) ≤ xk v := by unfold xday; rw [ud_k, xeatN_k]; exact xday1_k v
theorem xpass_k (v : S0) (i : Nat) : xk (xpass v i) ≤ xk v := by
  induction i with
  | zero => exact Nat.le_refl _
  | succ i ih => unfold xpass; exact Nat.le_trans (xday_k _) ih
theorem xtd1_k (v : S0) : xk (xtd1 v) = xk v := by
  unfold xtd1
  split
  · rfl
  · exact (ub_k _ _).trans (xadd_k _ _ _)
theorem xtd_k (v : S0) : xk (xtd v) = xk v := by unfold xtd; exact (uy_k _ _).trans ((xeat_k _ _).trans (xtd1_k v))
theorem xtdN_k (v : S0) (i : Nat) : xk (xtdN v i) = xk v := by
  induction i with
  | zero => rfl
  | succ i ih => unfold xtdN; exact (xtd_k _).trans ih
theorem xbpin_k (v : S0) (j : Nat) (g : Int32) : xk (xbpin v j g) = xk v := by unfold xbpin; exact (xless_k _ _ _).trans ((ub_k _ _).trans (xbegin_k v j))
theorem xbpen_k (v : S0) (j : Nat) (g : Int32) : xk (xbpen v j g) = xk v := by unfold xbpen; exact (xlump_k _ _ _).trans (xbegin_k v j)
theorem pinN_k (v : S0) (j i : Nat) : xk (pinN v j i).2.2 = xk v := pinG_keep (fun s => xk s) (fun s i => by unfold pinZ; exact (xtdN_k _ _).trans (xbpin_k _ _ _)) v i
theorem penN_k (v : S0) (j i : Nat) : xk (penN v j i).2.2 = xk v := pinG_keep (fun s => xk s) (fun s i => by unfold penZ; exact (xtdN_k _ _).trans (xbpen_k _ _ _)) v i
theorem xpin_k (v : S0) (j : Nat) : xk (xpin v j) = xk v := by
  unfold xpin
  split
  · exact pinN_k v j _
  · rfl
theorem xmem_k (v : S0) (j : Nat) : xk (xmem v j) = xk v := by unfold xmem; exact (penN_k _ _ _).trans (xpin_k v j)
theorem xmemN_k (v : S0) (i : Nat) : xk (xmemN v i) = xk v := by
  induction i with
  | zero => rfl
  | succ i ih => unfold xmemN; exact (xmem_k _ _).trans ih
theorem xadd_c (v : S0) (j : Nat) (g : Int32) : xc (xadd v j g) = xc v := rfl
theorem xless_c (v : S0) (j : Nat) (g : Int32) : xc (xless v j g) = xc v := rfl
theorem xlump_c (v : S0) (j : Nat) (g : Int32) : xc (xlump v j g) = xc v := rfl
theorem xbegin_c (v : S0) (j : Nat) : xc (xbegin v j) = xc v := rfl
theorem xeat_c (v : S0) (j : Nat) : xc (xeat v j) = xc v := by
  unfold xeat
  split
  · split
    · exact ul_c _ _
    · exact ul_c _ _
  · exact (xless_c _ _ _).trans (ue_c _ _)
theorem xaudN_c (v : S0) (i : Nat) : xc (xaudN v i) = xc v := by
  induction i with
  | zero => rfl
  | succ i ih => unfold xaudN; exact (xadd_c _ _ _).trans ih
theorem xaud_c (v : S0) : xc (xaud v) = xc v := by unfold xaud; exact (uo_c _ _).trans ((uk_c _ _).trans (xaudN_c v (xn v)))
theorem xday1_c (v : S0) : xc (xday1 v) = xc v := by
  unfold xday1
  split
  · rfl
  · exact xaud_c v
theorem xeatN_c (v : S0) (i : Nat) : xc (xeatN v i) = xc v := by
  induction i with
  | zero => rfl
  | succ i ih => unfold xeatN; exact (xeat_c _ _).trans ih
theorem xday_c (v : S0) : xc (xday v) = xc v := by unfold xday; exact (ud_c _ _).trans ((xeatN_c _ _).trans (xday1_c v))
theorem xpass_c (v : S0) (i : Nat) : xc (xpass v i) = xc v := by
  induction i with
  | zero => rfl
  | succ i ih => unfold xpass; exact (xday_c _).trans ih
theorem xtd1_c (v : S0) : xc (xtd1 v) = xc v := by
  unfold xtd1
  split
  · rfl
  · exact (ub_c _ _).trans (xadd_c _ _ _)
theorem xtd_c (v : S0) : xc (xtd v) = xc v := by unfold xtd; exact (uy_c _ _).trans ((xeat_c _ _).trans (xtd1_c v))
theorem xtdN_c (v : S0) (i : Nat) : xc (xtdN v i) = xc v := by
  induction i with
  | zero => rfl
  | succ i ih => unfold xtdN; exact (xtd_c _).trans ih
theorem xbpin_c (v : S0) (j : Nat) (g : Int32) : xc (xbpin v j g) = xc v := by unfold xbpin; exact (xless_c _ _ _).trans ((ub_c _ _).trans (xbegin_c v j))
theorem xbpen_c (v : S0) (j : Nat) (g : Int32) : xc (xbpen v j g) = xc v := by unfold xbpen; exact (xlump_c _ _ _).trans (xbegin_c v j)
theorem pinN_c (v : S0) (j i : Nat) : xc (pinN v j i).2.2 = xc v := pinG_keep (fun s => xc s) (fun s i => by unfold pinZ; exact (xtdN_c _ _).trans (xbpin_c _ _ _)) v i
theorem penN_c (v : S0) (j i : Nat) : xc (penN v j i).2.2 = xc v := pinG_keep (fun s => xc s) (fun s i => by unfold penZ; exact (xtdN_c _ _).trans (xbpen_c _ _ _)) v i
theorem xpin_c (v : S0) (j : Nat) : xc (xpin v j) = xc v := by
  unfold xpin
  split
  · exact pinN_c v j _
  · rfl
theorem xmem_c (v : S0) (j : Nat) : xc (xmem v j) = xc v := by unfold xmem; exact (penN_c _ _ _).trans (xpin_c v j)
theorem xmemN_c (v : S0) (i : Nat) : xc (xmemN v i) = xc v := by
  induction i with
  | zero => rfl
  | succ i ih => unfold xmemN; exact (xmem_c _ _).trans ih
theorem xadd_f (v : S0) (j : Nat) (g : Int32) : xf (xadd v j g) = xf v := rfl
theorem xless_f (v : S0) (j : Nat) (g : Int32) : xf (xless v j g) = xf v := rfl
theorem xlump_f (v : S0) (j : Nat) (g : Int32) : xf (xlump v j g) = xf v := rfl
theorem xbegin_f (v : S0) (j : Nat) : xf (xbegin v j) = xf v := rfl
theorem xeat_f (v : S0) (j : Nat) : xf (xeat v j) = xf v := by
  unfold xeat
  split
  · split
    · exact ul_f _ _
    · exact ul_f _ _
  · exact (xless_f _ _ _).trans (ue_f _ _)
theorem xaudN_f (v : S0) (i : Nat) : xf (xaudN v i) = xf v := by
  induction i with
  | zero => rfl
  | succ i ih => unfold xaudN; exact (xadd_f _ _ _).trans ih
theorem xaud_f (v : S0) : xf (xaud v) = xf v := by unfold xaud; exact (uo_f _ _).trans ((uk_f _ _).trans (xaudN_f v (xn v)))
theorem xday1_f (v : S0) : xf (xday1 v) = xf v := by
  unfold xday1
  split
  · rfl
  · exact xaud_f v
theorem xeatN_f (v : S0) (i : Nat) : xf (xeatN v i) = xf v := by
  induction i with
  | zero => rfl
  | succ i ih => unfold xeatN; exact (xeat_f _ _).trans ih
theorem xday_f (v : S0) : xf (xday v) = xf v := by unfold xday; exact (ud_f _ _).trans ((xeatN_f _ _).trans (xday1_f v))
theorem xpass_f (v : S0) (i : Nat) : xf (xpass v i) = xf v := by
  induction i with
  | zero => rfl
  | succ i ih => unfold xpass; exact (xday_f _).trans ih
theorem xtd1_f (v : S0) : xf (xtd1 v) = xf v := by
  unfold xtd1
  split
  · rfl
  · exact (ub_f _ _).trans (xadd_f _ _ _)
theorem xtd_f (v : S0) : xf (xtd v) = xf v := by unfold xtd; exact (uy_f _ _).trans ((xeat_f _ _).trans (xtd1_f v))
theorem xtdN_f (v : S0) (i : Nat) : xf (xtdN v i) = xf v := by
  induction i with
  | zero => rfl
  | succ i ih => unfold xtdN; exact (xtd_f _).trans ih
theorem xbpin_f (v : S0) (j : Nat) (g : Int32) : xf (xbpin v j g) = xf v := by unfold xbpin; exact (xless_f _ _ _).trans ((ub_f _ _).trans (xbegin_f v j))
theorem xbpen_f (v : S0) (j : Nat) (g : Int32) : xf (xbpen v j g) = xf v := by unfold xbpen; exact (xlump_f _ _ _).trans (xbegin_f v j)
theorem pinN_f (v : S0) (j i : Nat) : xf (pinN v j i).2.2 = xf v := pinG_keep (fun s => xf s) (fun s i => by unfold pinZ; exact (xtdN_f _ _).trans (xbpin_f _ _ _)) v i
theorem penN_f (v : S0) (j i : Nat) : xf (penN v j i).2.2 = xf v := pinG_keep (fun s => xf s) (fun s i => by unfold penZ; exact (xtdN_f _ _).trans (xbpen_f _ _ _)) v i
theorem xpin_f (v : S0) (j : Nat) : xf (xpin v j) = xf v := by
  unfold xpin
  split
  · exact pinN_f v j _
  · rfl
theorem xmem_f (v : S0) (j : Nat) : xf (xmem v j) = xf v := by unfold xmem; exact (penN_f _ _ _).trans (xpin_f v j)
theorem xmemN_f (v : S0) (i : Nat) : xf (xmemN v i) = xf v := by
  induction i with
  | zero => rfl
  | succ i ih => unfold xmemN; exact (xmem_f _ _).trans ih
def za8 (v : S0) : Int32 := xa v 8
def zl8 (v : S0) : Int32 := xl v 8
end
section
set_option maxHeartbeats 4000000 in
set_option maxRecDepth 100000 in
theorem c_X0_isAuditDay (l : Launch) (D : va_G) (d : Int32) : zM l yX0_isAuditDay wsX0_isAuditDay 0 0 0 0 [.int d] [] D ([] : va_W) ([] : va_W) (some (.int (isA d))) := by
  refine z_met (cc := cX0_isAuditDay) (maxL := 1) (ret := (some .boolean)) (by decide) rfl (Nat.le_of_ble_eq_true rfl) ?_
  intro p e s m args below meth c A C hr hlocks
  refine z_sub (L' := [(0, .int d)]) [0] rfl ?_
  refine z_iload_n C 0 dX0_isAuditDay_0 rfl rfl ?_
  refine z_bipush (v := 7) C dX0_isAuditDay_1 (by decide) ?_
  refine z_irem C dX0_isAuditDay_3 (by decide) ?_
  refine z_bipush (v := 6) C dX0_isAuditDay_4 (by decide) ?_
  refine z_icmp_ne (tgt := 13) C dX0_isAuditDay_6 (by decide) (fun c6 => ?_) (fun c6 => ?_)
  · skip
    refine z_iconst (v := 0) C dX0_isAuditDay_13 (by decide) ?_
    exact z_zret C hr hlocks (Nat.le_of_ble_eq_true rfl) (Nat.le_of_ble_eq_true rfl) (by first | exact Or.inl rfl | exact Or.inr rfl) dX0_isAuditDay_14 (by first | rfl | (simp only [isA, c6, ↓reduceIte]; done) | (simp only [isA, c6, ↓reduceIte]; rfl)) rfl
  · skip
    refine z_iconst (v := 1) C dX0_isAuditDay_9 (by decide) ?_
    refine z_goto (tgt := 14) C dX0_isAuditDay_10 (by decide) ?_
    exact z_zret C hr hlocks (Nat.le_of_ble_eq_true rfl) (Nat.le_of_ble_eq_true rfl) (by first | exact Or.inl rfl | exact Or.inr rfl) dX0_isAuditDay_14 (by first | rfl | (simp only [isA, c6, ↓reduceIte]; done) | (simp only [isA, c6, ↓reduceIte]; rfl)) rfl
set_option maxHeartbeats 4000000 in
set_option maxRecDepth 100000 in
theorem c_X0_mixed (l : Launch) (D : va_G) (d : Int64) (x : Int32) : zM l yX0_mixed wsX0_mixed 0 0 0 0 [.long d, .int x] [] D ([] : va_W) ([] : va_W) (some (.long (mixd d x))) := by
  refine z_met (cc := cX0_mixed) (maxL := 3) (ret := (some .long)) (by decide) rfl (Nat.le_of_ble_eq_true rfl) ?_
  intro p e s m args below meth c A C hr hlocks
  have wd0 : Cond.constantLong RX0 193 (31) ∈ wsX0_mixed := by decide +kernel
  refine z_sub (L' := [(0, .long d), (2, .int x)]) [0, 1] rfl ?_
  refine z_lload_n C 0 dX0_mixed_0 rfl rfl ?_
  refine z_ldc2 C wd0 dX0_mixed_1 ?_
  refine z_lmul C dX0_mixed_4 ?_
  refine z_iload_n C 1 dX0_mixed_5 rfl rfl ?_
  refine z_i2l (v := x.toInt64) C dX0_mixed_6 rfl ?_
  refine z_ladd C dX0_mixed_7 ?_
  exact z_lret C hr hlocks (Nat.le_of_ble_eq_true rfl) (Nat.le_of_ble_eq_true rfl) dX0_mixed_8 (by first | rfl | (simp only [mixd, ↓reduceIte]; done) | (simp only [mixd, ↓reduceIte]; rfl)) rfl
set_option maxHeartbeats 4000000 in
set_option maxRecDepth 100000 in
theorem c_X0_addArrears (l : Launch) (D : va_G) (hh : Nat → Nat) (cI cZ : ClassId) (v : S0) (j : Nat) (g : Int32) (hj : j < 9) : zM l yX0_addArrears wsX0_addArrears 1 15 0 0 [.ref (hh 0), .int (nI j), .int g] [(cI, .int), (cZ, .boolean)] D (wX0 hh cI cZ v) (wX0 hh cI cZ (xadd v j g)) none := by
  refine z_met (cc := cX0_addArrears) (maxL := 3) (ret := none) (by decide) rfl (Nat.le_of_ble_eq_true rfl) ?_
  intro p e s m args below meth c A C hr hlocks
  have inl : ∀ w ∈ u_ws RX0 TX0 14, w ∈ wsX0_addArrears := by decide +kernel
  have wd0 : Cond.fieldLink RX0 13 "SaltOrder" "arrears" "[I" ∈ wsX0_addArrears := by decide +kernel
  have wd1 : Cond.methodLink RX0 89 Lib.Math.min.name ∈ wsX0_addArrears := by decide +kernel
  have wd2 : Cond.static Lib.Math.min.name ∈ wsX0_addArrears := by decide +kernel
  have wd3 : Cond.initialized "java/lang/Math" ∈ wsX0_addArrears := by decide +kernel
  have wd4 : Cond.code Lib.Math.min.name Lib.Math.min.code 2 (some .int) ∈ wsX0_addArrears := by decide +kernel
  refine z_sub (L' := [(0, .ref (hh 0)), (1, .int (nI j)), (2, .int g)]) [0, 1, 2] rfl ?_
  refine z_aload_n C 0 dX0_addArrears_0 rfl rfl ?_
  refine z_get0 (v := .ref (hh 2)) C inl 0 1 (by decide) rfl rfl wd0 dX0_addArrears_1 ?_
  refine z_iload_n C 1 dX0_addArrears_4 rfl rfl ?_
  refine z_bipush (v := 99) C dX0_addArrears_5 (by decide) ?_
  refine z_aload_n C 0 dX0_addArrears_7 rfl rfl ?_
  refine z_get0 (v := .ref (hh 2)) C inl 0 1 (by decide) rfl rfl wd0 dX0_addArrears_8 ?_
  refine z_iload_n C 1 dX0_addArrears_11 rfl rfl ?_
  refine z_iald (f := xa v) C 2 0 rfl rfl j rfl (by omega) (by decide) dX0_addArrears_12 ?_
  refine z_iload_n C 2 dX0_addArrears_13 rfl rfl ?_
  refine z_iadd C dX0_addArrears_14 ?_
  refine z_mmin C wd1 wd2 wd3 wd4 (Nat.le_of_ble_eq_true rfl) (Nat.le_of_ble_eq_true rfl) (Nat.le_of_ble_eq_true rfl) (Nat.le_of_ble_eq_true rfl) dX0_addArrears_15 ?_
  refine z_iast (ws' := (wX0 hh cI cZ (xl v, upd (xa v) j (imin 99 (((xa v) j) + g)), xe v, xn v, xw v, xf v, xg v, xx v, xk v, xc v, xd v, xo v, xy v, xb v))) C 2 0 rfl rfl j rfl (by omega) (by decide) rfl dX0_addArrears_18 ?_
  exact z_vret C hr hlocks (Nat.le_of_ble_eq_true rfl) (Nat.le_of_ble_eq_true rfl) dX0_addArrears_19 (congrArg (wX0 hh cI cZ) (by first | rfl | (simp only [xadd, ↓reduceIte]; done) | (simp only [xadd, ↓reduceIte]; rfl)))
set_option maxHeartbeats 4000000 in
set_option maxRecDepth 100000 in
theorem c_X0_lessenArrears (l : Launch) (D : va_G) (hh : Nat → Nat) (cI cZ : ClassId) (v : S0) (j : Nat) (g : Int32) (hj : j < 9) : zM l yX0_lessenArrears wsX0_lessenArrears 1 15 0 0 [.ref (hh 0), .int (nI j), .int g] [(cI, .int), (cZ, .boolean)] D (wX0 hh cI cZ v) (wX0 hh cI cZ (xless v j g)) none := by
  refine z_met (cc := cX0_lessenArrears) (maxL := 3) (ret := none) (by decide) rfl (Nat.le_of_ble_eq_true rfl) ?_
  intro p e s m args below meth c A C hr hlocks
  have inl : ∀ w ∈ u_ws RX0 TX0 14, w ∈ wsX0_lessenArrears := by decide +kernel
  have wd0 : Cond.fieldLink RX0 13 "SaltOrder" "arrears" "[I" ∈ wsX0_lessenArrears := by decide +kernel
  have wd1 : Cond.methodLink RX0 213 Lib.Math.max.name ∈ wsX0_lessenArrears := by decide +kernel
  have wd2 : Cond.static Lib.Math.max.name ∈ wsX0_lessenArrears := by decide +kernel
  have wd3 : Cond.initialized "java/lang/Math" ∈ wsX0_lessenArrears := by decide +kernel
  have wd4 : Cond.code Lib.Math.max.name Lib.Math.max.code 2 (some .int) ∈ wsX0_lessenArrears := by decide +kernel
  refine z_sub (L' := [(0, .ref (hh 0)), (1, .int (nI j)), (2, .int g)]) [0, 1, 2] rfl ?_
  refine z_aload_n C 0 dX0_lessenArrears_0 rfl rfl ?_
  refine z_get0 (v := .ref (hh 2)) C inl 0 1 (by decide) rfl rfl wd0 dX0_lessenArrears_1 ?_
  refine z_iload_n C 1 dX0_lessenArrears_4 rfl rfl ?_
  refine z_iconst (v := 0) C dX0_lessenArrears_5 (by decide) ?_
  refine z_aload_n C 0 dX0_lessenArrears_6 rfl rfl ?_
  refine z_get0 (v := .ref (hh 2)) C inl 0 1 (by decide) rfl rfl wd0 dX0_lessenArrears_7 ?_
  refine z_iload_n C 1 dX0_lessenArrears_10 rfl rfl ?_
  refine z_iald (f := xa v) C 2 0 rfl rfl j rfl (by omega) (by decide) dX0_lessenArrears_11 ?_
  refine z_iload_n C 2 dX0_lessenArrears_12 rfl rfl ?_
  refine z_isub C dX0_lessenArrears_13 ?_
  refine z_mmax C wd1 wd2 wd3 wd4 (Nat.le_of_ble_eq_true rfl) (Nat.le_of_ble_eq_true rfl) (Nat.le_of_ble_eq_true rfl) (Nat.le_of_ble_eq_true rfl) dX0_lessenArrears_14 ?_
  refine z_iast (ws' := (wX0 hh cI cZ (xl v, upd (xa v) j (imax 0 (((xa v) j) - g)), xe v, xn v, xw v, xf v, xg v, xx v, xk v, xc v, xd v, xo v, xy v, xb v))) C 2 0 rfl rfl j rfl (by omega) (by decide) rfl dX0_lessenArrears_17 ?_
  exact z_vret C hr hlocks (Nat.le_of_ble_eq_true rfl) (Nat.le_of_ble_eq_true rfl) dX0_lessenArrears_18 (congrArg (wX0 hh cI cZ) (by first | rfl | (simp only [xless, ↓reduceIte]; done) | (simp only [xless, ↓reduceIte]; rfl)))
set_option maxHeartbeats 4000000 in
set_option maxRecDepth 100000 in
theorem c_X0_addLumps (l : Launch) (D : va_G) (hh : Nat → Nat) (cI cZ : ClassId) (v : S0) (j : Nat) (g : Int32) (hj : j < 9) : zM l yX0_addLumps wsX0_addLumps 1 15 0 0 [.ref (hh 0), .int (nI j), .int g] [(cI, .int), (cZ, .boolean)] D (wX0 hh cI cZ v) (wX0 hh cI cZ (xlump v j g)) none := by
  refine z_met (cc := cX0_addLumps) (maxL := 3) (ret := none) (by decide) rfl (Nat.le_of_ble_eq_true rfl) ?_
  intro p e s m args below meth c A C hr hlocks
  have inl : ∀ w ∈ u_ws RX0 TX0 14, w ∈ wsX0_addLumps := by decide +kernel
  have wd0 : Cond.fieldLink RX0 16 "SaltOrder" "toEat" "[I" ∈ wsX0_addLumps := by decide +kernel
  have wd1 : Cond.methodLink RX0 89 Lib.Math.min.name ∈ wsX0_addLumps := by decide +kernel
  have wd2 : Cond.static Lib.Math.min.name ∈ wsX0_addLumps := by decide +kernel
  have wd3 : Cond.initialized "java/lang/Math" ∈ wsX0_addLumps := by decide +kernel
  have wd4 : Cond.code Lib.Math.min.name Lib.Math.min.code 2 (some .int) ∈ wsX0_addLumps := by decide +kernel
  refine z_sub (L' := [(0, .ref (hh 0)), (1, .int (nI j)), (2, .int g)]) [0, 1, 2] rfl ?_
  refine z_aload_n C 0 dX0_addLumps_0 rfl rfl ?_
  refine z_get0 (v := .ref (hh 3)) C inl 0 2 (by decide) rfl rfl wd0 dX0_addLumps_1 ?_
  refine z_iload_n C 1 dX0_addLumps_4 rfl rfl ?_
  refine z_bipush (v := 9) C dX0_addLumps_5 (by decide) ?_
  refine z_aload_n C 0 dX0_addLumps_7 rfl rfl ?_
  refine z_get0 (v := .ref (hh 3)) C inl 0 2 (by decide) rfl rfl wd0 dX0_addLumps_8 ?_
  refine z_iload_n C 1 dX0_addLumps_11 rfl rfl ?_
  refine z_iald (f := xe v) C 3 0 rfl rfl j rfl (by omega) (by decide) dX0_addLumps_12 ?_
  refine z_iload_n C 2 dX0_addLumps_13 rfl rfl ?_
  refine z_iadd C dX0_addLumps_14 ?_
  refine z_mmin C wd1 wd2 wd3 wd4 (Nat.le_of_ble_eq_true rfl) (Nat.le_of_ble_eq_true rfl) (Nat.le_of_ble_eq_true rfl) (Nat.le_of_ble_eq_true rfl) dX0_addLumps_15 ?_
  refine z_iast (ws' := (wX0 hh cI cZ (xl v, xa v, upd (xe v) j (imin 9 (((xe v) j) + g)), xn v, xw v, xf v, xg v, xx v, xk v, xc v, xd v, xo v, xy v, xb v))) C 3 0 rfl rfl j rfl (by omega) (by decide) rfl dX0_addLumps_18 ?_
  exact z_vret C hr hlocks (Nat.le_of_ble_eq_true rfl) (Nat.le_of_ble_eq_true rfl) dX0_addLumps_19 (congrArg (wX0 hh cI cZ) (by first | rfl | (simp only [xlump, ↓reduceIte]; done) | (simp only [xlump, ↓reduceIte]; rfl)))
set_option maxHeartbeats 4000000 in
set_option maxRecDepth 100000 in
theorem c_X0_leftExcess (l : Launch) (D : va_G) (hh : Nat → Nat) (cI cZ : ClassId) (v : S0) (j : Nat) (g : Int32) (hj : j < 9) : zM l yX0_leftExcess wsX0_leftExcess 1 13 0 0 [.ref (hh 0), .int (nI j), .int g] [(cI, .int), (cZ, .boolean)] D (wX0 hh cI cZ v) (wX0 hh cI cZ v) (some (.int (xlexc v j g))) := by
  refine z_met (cc := cX0_leftExcess) (maxL := 3) (ret := (some .int)) (by decide) rfl (Nat.le_of_ble_eq_true rfl) ?_
  intro p e s m args below meth c A C hr hlocks
  have inl : ∀ w ∈ u_ws RX0 TX0 14, w ∈ wsX0_leftExcess := by decide +kernel
  have wd0 : Cond.fieldLink RX0 13 "SaltOrder" "arrears" "[I" ∈ wsX0_leftExcess := by decide +kernel
  have wd1 : Cond.methodLink RX0 213 Lib.Math.max.name ∈ wsX0_leftExcess := by decide +kernel
  have wd2 : Cond.static Lib.Math.max.name ∈ wsX0_leftExcess := by decide +kernel
  have wd3 : Cond.initialized "java/lang/Math" ∈ wsX0_leftExcess := by decide +kernel
  have wd4 : Cond.code Lib.Math.max.name Lib.Math.max.code 2 (some .int) ∈ wsX0_leftExcess := by decide +kernel
  refine z_sub (L' := [(0, .ref (hh 0)), (1, .int (nI j)), (2, .int g)]) [0, 1, 2] rfl ?_
  refine z_iconst (v := 0) C dX0_leftExcess_0 (by decide) ?_
  refine z_iload_n C 2 dX0_leftExcess_1 rfl rfl ?_
  refine z_aload_n C 0 dX0_leftExcess_2 rfl rfl ?_
  refine z_get0 (v := .ref (hh 2)) C inl 0 1 (by decide) rfl rfl wd0 dX0_leftExcess_3 ?_
  refine z_iload_n C 1 dX0_leftExcess_6 rfl rfl ?_
  refine z_iald (f := xa v) C 2 0 rfl rfl j rfl (by omega) (by decide) dX0_leftExcess_7 ?_
  refine z_isub C dX0_leftExcess_8 ?_
  refine z_mmax C wd1 wd2 wd3 wd4 (Nat.le_of_ble_eq_true rfl) (Nat.le_of_ble_eq_true rfl) (Nat.le_of_ble_eq_true rfl) (Nat.le_of_ble_eq_true rfl) dX0_leftExcess_9 ?_
  exact z_iret C hr hlocks (Nat.le_of_ble_eq_true rfl) (Nat.le_of_ble_eq_true rfl) dX0_leftExcess_12 (by first | rfl | (simp only [xlexc, ↓reduceIte]; done) | (simp only [xlexc, ↓reduceIte]; rfl)) rfl
set_option maxHeartbeats 4000000 in
set_option maxRecDepth 100000 in
theorem c_X0_lossOf (l : Launch) (D : va_G) (hh : Nat → Nat) (cI cZ : ClassId) (v : S0) (j : Nat) (hj : j < 9) : zM l yX0_lossOf wsX0_lossOf 0 0 0 0 [.ref (hh 0), .int (nI j)] [(cI, .int), (cZ, .boolean)] D (wX0 hh cI cZ v) (wX0 hh cI cZ v) (some (.int (xloss v j))) := by
  refine z_met (cc := cX0_lossOf) (maxL := 2) (ret := (some .int)) (by decide) rfl (Nat.le_of_ble_eq_true rfl) ?_
  intro p e s m args below meth c A C hr hlocks
  have inl : ∀ w ∈ u_ws RX0 TX0 14, w ∈ wsX0_lossOf := by decide +kernel
  have wd0 : Cond.fieldLink RX0 16 "SaltOrder" "toEat" "[I" ∈ wsX0_lossOf := by decide +kernel
  have wd1 : Cond.fieldLink RX0 13 "SaltOrder" "arrears" "[I" ∈ wsX0_lossOf := by decide +kernel
  refine z_sub (L' := [(0, .ref (hh 0)), (1, .int (nI j))]) [0, 1] rfl ?_
  refine z_aload_n C 0 dX0_lossOf_0 rfl rfl ?_
  refine z_get0 (v := .ref (hh 3)) C inl 0 2 (by decide) rfl rfl wd0 dX0_lossOf_1 ?_
  refine z_iload_n C 1 dX0_lossOf_4 rfl rfl ?_
  refine z_iald (f := xe v) C 3 0 rfl rfl j rfl (by omega) (by decide) dX0_lossOf_5 ?_
  refine z_if_le (tgt := 11) C dX0_lossOf_6 (by decide) (fun c6 => ?_) (fun c6 => ?_)
  · skip
    refine z_aload_n C 0 dX0_lossOf_11 rfl rfl ?_
    refine z_get0 (v := .ref (hh 2)) C inl 0 1 (by decide) rfl rfl wd1 dX0_lossOf_12 ?_
    refine z_iload_n C 1 dX0_lossOf_15 rfl rfl ?_
    refine z_iald (f := xa v) C 2 0 rfl rfl j rfl (by omega) (by decide) dX0_lossOf_16 ?_
    refine z_bipush (v := 10) C dX0_lossOf_17 (by decide) ?_
    refine z_iadd C dX0_lossOf_19 ?_
    refine z_iconst (v := 1) C dX0_lossOf_20 (by decide) ?_
    refine z_isub C dX0_lossOf_21 ?_
    refine z_bipush (v := 10) C dX0_lossOf_22 (by decide) ?_
    refine z_idiv C dX0_lossOf_24 (by decide) ?_
    exact z_iret C hr hlocks (Nat.le_of_ble_eq_true rfl) (Nat.le_of_ble_eq_true rfl) dX0_lossOf_25 (by first | rfl | (simp only [xloss, c6, ↓reduceIte]; done) | (simp only [xloss, c6, ↓reduceIte]; rfl)) rfl
  · skip
    refine z_iconst (v := 0) C dX0_lossOf_9 (by decide) ?_
    exact z_iret C hr hlocks (Nat.le_of_ble_eq_true rfl) (Nat.le_of_ble_eq_true rfl) dX0_lossOf_10 (by first | rfl | (simp only [xloss, c6, ↓reduceIte]; done) | (simp only [xloss, c6, ↓reduceIte]; rfl)) rfl
set_option maxHeartbeats 4000000 in
set_option maxRecDepth 100000 in
theorem c_X0_eatOrFeelLuck (l : Launch) (D : va_G) (hh : Nat → Nat) (cI cZ : ClassId) (v : S0) (j : Nat) (hj : j < 9) : zM l yX0_eatOrFeelLuck wsX0_eatOrFeelLuck 2 37 0 0 [.ref (hh 0), .int (nI j)] [(cI, .int), (cZ, .boolean)] D (wX0 hh cI cZ v) (wX0 hh cI cZ (xeat v j)) none := by
  refine z_met (cc := cX0_eatOrFeelLuck) (maxL := 2) (ret := none) (by decide) rfl (Nat.le_of_ble_eq_true rfl) ?_
  intro p e s m args below meth c A C hr hlocks
  have inl : ∀ w ∈ u_ws RX0 TX0 14, w ∈ wsX0_eatOrFeelLuck := by decide +kernel
  have wd0 : Cond.fieldLink RX0 16 "SaltOrder" "toEat" "[I" ∈ wsX0_eatOrFeelLuck := by decide +kernel
  have wd1 : Cond.fieldLink RX0 13 "SaltOrder" "arrears" "[I" ∈ wsX0_eatOrFeelLuck := by decide +kernel
  have wd2 : Cond.fieldLink RX0 9 "SaltOrder" "luck" "[I" ∈ wsX0_eatOrFeelLuck := by decide +kernel
  have wd3 : Cond.methodLink RX0 89 Lib.Math.min.name ∈ wsX0_eatOrFeelLuck := by decide +kernel
  have wd4 : Cond.static Lib.Math.min.name ∈ wsX0_eatOrFeelLuck := by decide +kernel
  have wd5 : Cond.initialized "java/lang/Math" ∈ wsX0_eatOrFeelLuck := by decide +kernel
  have wd6 : Cond.code Lib.Math.min.name Lib.Math.min.code 2 (some .int) ∈ wsX0_eatOrFeelLuck := by decide +kernel
  have wd7 : Cond.methodLink RX0 213 Lib.Math.max.name ∈ wsX0_eatOrFeelLuck := by decide +kernel
  have wd8 : Cond.static Lib.Math.max.name ∈ wsX0_eatOrFeelLuck := by decide +kernel
  have wd9 : Cond.code Lib.Math.max.name Lib.Math.max.code 2 (some .int) ∈ wsX0_eatOrFeelLuck := by decide +kernel
  refine z_sub (L' := [(0, .ref (hh 0)), (1, .int (nI j))]) [0, 1] rfl ?_
  refine z_aload_n C 0 dX0_eatOrFeelLuck_0 rfl rfl ?_
  refine z_get0 (v := .ref (hh 3)) C inl 0 2 (by decide) rfl rfl wd0 dX0_eatOrFeelLuck_1 ?_
  refine z_iload_n C 1 dX0_eatOrFeelLuck_4 rfl rfl ?_
  refine z_iald (f := xe v) C 3 0 rfl rfl j rfl (by omega) (by decide) dX0_eatOrFeelLuck_5 ?_
  refine z_if_le (tgt := 28) C dX0_eatOrFeelLuck_6 (by decide) (fun c6 => ?_) (fun c6 => ?_)
  · skip
    refine z_aload_n C 0 dX0_eatOrFeelLuck_28 rfl rfl ?_
    refine z_get0 (v := .ref (hh 2)) C inl 0 1 (by decide) rfl rfl wd1 dX0_eatOrFeelLuck_29 ?_
    refine z_iload_n C 1 dX0_eatOrFeelLuck_32 rfl rfl ?_
    refine z_iald (f := xa v) C 2 0 rfl rfl j rfl (by omega) (by decide) dX0_eatOrFeelLuck_33 ?_
    refine z_if_le (tgt := 62) C dX0_eatOrFeelLuck_34 (by decide) (fun c34 => ?_) (fun c34 => ?_)
    · skip
      refine z_aload_n C 0 dX0_eatOrFeelLuck_62 rfl rfl ?_
      refine z_get0 (v := .ref (hh 1)) C inl 0 0 (by decide) rfl rfl wd2 dX0_eatOrFeelLuck_63 ?_
      refine z_iload_n C 1 dX0_eatOrFeelLuck_66 rfl rfl ?_
      refine z_bipush (v := 100) C dX0_eatOrFeelLuck_67 (by decide) ?_
      refine z_aload_n C 0 dX0_eatOrFeelLuck_69 rfl rfl ?_
      refine z_get0 (v := .ref (hh 1)) C inl 0 0 (by decide) rfl rfl wd2 dX0_eatOrFeelLuck_70 ?_
      refine z_iload_n C 1 dX0_eatOrFeelLuck_73 rfl rfl ?_
      refine z_iald (f := xl v) C 1 0 rfl rfl j rfl (by omega) (by decide) dX0_eatOrFeelLuck_74 ?_
      refine z_iconst (v := 1) C dX0_eatOrFeelLuck_75 (by decide) ?_
      refine z_iadd C dX0_eatOrFeelLuck_76 ?_
      refine z_mmin C wd3 wd4 wd5 wd6 (Nat.le_of_ble_eq_true rfl) (Nat.le_of_ble_eq_true rfl) (Nat.le_of_ble_eq_true rfl) (Nat.le_of_ble_eq_true rfl) dX0_eatOrFeelLuck_77 ?_
      refine z_iast (ws' := (wX0 hh cI cZ (upd (xl v) j (imin 100 (((xl v) j) + 1)), xa v, xe v, xn v, xw v, xf v, xg v, xx v, xk v, xc v, xd v, xo v, xy v, xb v))) C 1 0 rfl rfl j rfl (by omega) (by decide) rfl dX0_eatOrFeelLuck_80 ?_
      exact z_vret C hr hlocks (Nat.le_of_ble_eq_true rfl) (Nat.le_of_ble_eq_true rfl) dX0_eatOrFeelLuck_81 (congrArg (wX0 hh cI cZ) (by first | rfl | (simp only [xeat, c6, c34, ↓reduceIte]; done) | (simp only [xeat, c6, c34, ↓reduceIte]; rfl)))
    · skip
      refine z_aload_n C 0 dX0_eatOrFeelLuck_37 rfl rfl ?_
      refine z_get0 (v := .ref (hh 1)) C inl 0 0 (by decide) rfl rfl wd2 dX0_eatOrFeelLuck_38 ?_
      refine z_iload_n C 1 dX0_eatOrFeelLuck_41 rfl rfl ?_
      refine z_iconst (v := 0) C dX0_eatOrFeelLuck_42 (by decide) ?_
      refine z_aload_n C 0 dX0_eatOrFeelLuck_43 rfl rfl ?_
      refine z_get0 (v := .ref (hh 1)) C inl 0 0 (by decide) rfl rfl wd2 dX0_eatOrFeelLuck_44 ?_
      refine z_iload_n C 1 dX0_eatOrFeelLuck_47 rfl rfl ?_
      refine z_iald (f := xl v) C 1 0 rfl rfl j rfl (by omega) (by decide) dX0_eatOrFeelLuck_48 ?_
      refine z_aload_n C 0 dX0_eatOrFeelLuck_49 rfl rfl ?_
      refine z_iload_n C 1 dX0_eatOrFeelLuck_50 rfl rfl ?_
      refine z_callV (w := (wX0 hh cI cZ v)) (w' := (wX0 hh cI cZ v)) (w1 := ([] : va_W)) (w2 := ([] : va_W)) (ws' := (wX0 hh cI cZ v)) (As := [.int (nI j)]) (rest := [.int ((xl v) j), .int 0, .int (nI j), .ref (hh 1)]) (st' := [.int (xloss v j), .int ((xl v) j), .int 0, .int (nI j), .ref (hh 1)]) (rv := some (.int (xloss v j))) C (c_X0_lossOf l D hh cI cZ v j (by omega)) (cwV 1 C.words gX0_eatOrFeelLuck_X0_lossOf rfl rfl rfl (by decide +kernel) ⟨(Nat.le_of_ble_eq_true rfl), (Nat.le_of_ble_eq_true rfl)⟩) (q0 := 0) (ci := 0) rfl rfl rfl [0, 1] rfl rfl (Nat.le_of_ble_eq_true rfl) ⟨(Nat.le_of_ble_eq_true rfl), (Nat.le_of_ble_eq_true rfl)⟩ rfl rfl rfl rfl rfl dX0_eatOrFeelLuck_51 ?_
      refine z_isub C dX0_eatOrFeelLuck_54 ?_
      refine z_mmax C wd7 wd8 wd5 wd9 (Nat.le_of_ble_eq_true rfl) (Nat.le_of_ble_eq_true rfl) (Nat.le_of_ble_eq_true rfl) (Nat.le_of_ble_eq_true rfl) dX0_eatOrFeelLuck_55 ?_
      refine z_iast (ws' := (wX0 hh cI cZ (upd (xl v) j (imax 0 (((xl v) j) - (xloss v j))), xa v, xe v, xn v, xw v, xf v, xg v, xx v, xk v, xc v, xd v, xo v, xy v, xb v))) C 1 0 rfl rfl j rfl (by omega) (by decide) rfl dX0_eatOrFeelLuck_58 ?_
      refine z_goto (tgt := 81) C dX0_eatOrFeelLuck_59 (by decide) ?_
      exact z_vret C hr hlocks (Nat.le_of_ble_eq_true rfl) (Nat.le_of_ble_eq_true rfl) dX0_eatOrFeelLuck_81 (congrArg (wX0 hh cI cZ) (by first | rfl | (simp only [xeat, c6, c34, ↓reduceIte]; done) | (simp only [xeat, c6, c34, ↓reduceIte]; rfl)))
  · skip
    refine z_aload_n C 0 dX0_eatOrFeelLuck_9 rfl rfl ?_
    refine z_get0 (v := .ref (hh 3)) C inl 0 2 (by decide) rfl rfl wd0 dX0_eatOrFeelLuck_10 ?_
    refine z_iload_n C 1 dX0_eatOrFeelLuck_13 rfl rfl ?_
    refine z_dup2 C dX0_eatOrFeelLuck_14 rfl rfl ?_
    refine z_iald (f := xe v) C 3 0 rfl rfl j rfl (by omega) (by decide) dX0_eatOrFeelLuck_15 ?_
    refine z_iconst (v := 1) C dX0_eatOrFeelLuck_16 (by decide) ?_
    refine z_isub C dX0_eatOrFeelLuck_17 ?_
    refine z_iast (ws' := (wX0 hh cI cZ (xl v, xa v, upd (xe v) j (((xe v) j) - 1), xn v, xw v, xf v, xg v, xx v, xk v, xc v, xd v, xo v, xy v, xb v))) C 3 0 rfl rfl j rfl (by omega) (by decide) rfl dX0_eatOrFeelLuck_18 ?_
    refine z_aload_n C 0 dX0_eatOrFeelLuck_19 rfl rfl ?_
    refine z_iload_n C 1 dX0_eatOrFeelLuck_20 rfl rfl ?_
    refine z_iconst (v := 3) C dX0_eatOrFeelLuck_21 (by decide) ?_
    obtain ⟨v1, hv1⟩ : ∃ z, z = xless (xl v, xa v, upd (xe v) j (((xe v) j) - 1), xn v, xw v, xf v, xg v, xx v, xk v, xc v, xd v, xo v, xy v, xb v) j 3 := ⟨_, rfl⟩
    have hv1k0 : xn v1 = xn (xl v, xa v, upd (xe v) j (((xe v) j) - 1), xn v, xw v, xf v, xg v, xx v, xk v, xc v, xd v, xo v, xy v, xb v) := by rw [hv1]; exact (rfl : xn (xless (xl v, xa v, upd (xe v) j (((xe v) j) - 1), xn v, xw v, xf v, xg v, xx v, xk v, xc v, xd v, xo v, xy v, xb v) j 3) = xn (xl v, xa v, upd (xe v) j (((xe v) j) - 1), xn v, xw v, xf v, xg v, xx v, xk v, xc v, xd v, xo v, xy v, xb v))
    have hv1k1 : xk v1 = xk (xl v, xa v, upd (xe v) j (((xe v) j) - 1), xn v, xw v, xf v, xg v, xx v, xk v, xc v, xd v, xo v, xy v, xb v) := by rw [hv1]; exact (rfl : xk (xless (xl v, xa v, upd (xe v) j (((xe v) j) - 1), xn v, xw v, xf v, xg v, xx v, xk v, xc v, xd v, xo v, xy v, xb v) j 3) = xk (xl v, xa v, upd (xe v) j (((xe v) j) - 1), xn v, xw v, xf v, xg v, xx v, xk v, xc v, xd v, xo v, xy v, xb v))
    have hv1k2 : xc v1 = xc (xl v, xa v, upd (xe v) j (((xe v) j) - 1), xn v, xw v, xf v, xg v, xx v, xk v, xc v, xd v, xo v, xy v, xb v) := by rw [hv1]; exact (rfl : xc (xless (xl v, xa v, upd (xe v) j (((xe v) j) - 1), xn v, xw v, xf v, xg v, xx v, xk v, xc v, xd v, xo v, xy v, xb v) j 3) = xc (xl v, xa v, upd (xe v) j (((xe v) j) - 1), xn v, xw v, xf v, xg v, xx v, xk v, xc v, xd v, xo v, xy v, xb v))
    refine z_callV (w := (wX0 hh cI cZ (xl v, xa v, upd (xe v) j (((xe v) j) - 1), xn v, xw v, xf v, xg v, xx v, xk v, xc v, xd v, xo v, xy v, xb v))) (w' := (wX0 hh cI cZ v1)) (w1 := ([] : va_W)) (w2 := ([] : va_W)) (ws' := (wX0 hh cI cZ v1)) (As := [.int (nI j), .int 3]) (rest := []) (st' := []) (rv := none) C (by rw [hv1]; exact c_X0_lessenArrears l D hh cI cZ (xl v, xa v, upd (xe v) j (((xe v) j) - 1), xn v, xw v, xf v, xg v, xx v, xk v, xc v, xd v, xo v, xy v, xb v) j 3 (by omega)) (cwV 2 C.words gX0_eatOrFeelLuck_X0_lessenArrears rfl rfl rfl (by decide +kernel) ⟨(Nat.le_of_ble_eq_true rfl), (Nat.le_of_ble_eq_true rfl)⟩) (q0 := 0) (ci := 0) rfl rfl rfl [0, 1] rfl rfl (Nat.le_of_ble_eq_true rfl) ⟨(Nat.le_of_ble_eq_true rfl), (Nat.le_of_ble_eq_true rfl)⟩ rfl rfl rfl rfl rfl dX0_eatOrFeelLuck_22 ?_
    refine z_goto (tgt := 81) C dX0_eatOrFeelLuck_25 (by decide) ?_
    subst hv1
    exact z_vret C hr hlocks (Nat.le_of_ble_eq_true rfl) (Nat.le_of_ble_eq_true rfl) dX0_eatOrFeelLuck_81 (congrArg (wX0 hh cI cZ) (by first | rfl | (simp only [xeat, c6, ↓reduceIte]; done) | (simp only [xeat, c6, ↓reduceIte]; rfl)))
set_option maxHeartbeats 4000000 in
set_option maxRecDepth 100000 in
theorem c_X0_debtOf (l : Launch) (D : va_G) (hh : Nat → Nat) (cI cZ : ClassId) (v : S0) (j : Int32) (hk : xk v ≤ 30) : zM l yX0_debtOf wsX0_debtOf 0 0 0 0 [.ref (hh 0), .int j] [(cI, .int), (cZ, .boolean)] D (wX0 hh cI cZ v) (wX0 hh cI cZ v) (some (.int (xdebt v j))) := by
  refine z_met (cc := cX0_debtOf) (maxL := 4) (ret := (some .int)) (by decide) rfl (Nat.le_of_ble_eq_true rfl) ?_
  intro p e s m args below meth c A C hr hlocks
  have inl : ∀ w ∈ u_ws RX0 TX0 14, w ∈ wsX0_debtOf := by decide +kernel
  have wd0 : Cond.fieldLink RX0 36 "SaltOrder" "throwCount" "I" ∈ wsX0_debtOf := by decide +kernel
  have wd1 : Cond.fieldLink RX0 19 "SaltOrder" "throwers" "[I" ∈ wsX0_debtOf := by decide +kernel
  have wd2 : Cond.fieldLink RX0 29 "SaltOrder" "excesses" "[I" ∈ wsX0_debtOf := by decide +kernel
  refine z_sub (L' := [(0, .ref (hh 0)), (1, .int j)]) [0, 1] rfl ?_
  have lp4 : ∀ (dd i : Nat), i + dd = xk v → zG p l e ({ frames := 0, cells := 0, slots := 0, locals := 0 } : Room) s m args below meth c D 4 A 0 0 (MQ below (zQ (some (.int (xdebt v j))) (fun t => va_P D vwCl (wX0 hh cI cZ v) t.heap) A) args s 0 0 A) 4 [(0, .ref (hh 0)), (1, .int j), (2, .int (xdebtN (xw v) (xx v) j i)), (3, .int (nI i))] [] (wX0 hh cI cZ v) := by
    intro dd
    induction dd with
    | zero =>
      intro i hi
      have hi : i = xk v := by omega
      subst hi
      refine z_iload_n C 3 dX0_debtOf_4 rfl rfl ?_
      refine z_aload_n C 0 dX0_debtOf_5 rfl rfl ?_
      refine z_get0 (v := .int (nI (xk v))) C inl 0 8 (by decide) rfl rfl wd0 dX0_debtOf_6 ?_
      refine z_icmp_ge (tgt := 39) C dX0_debtOf_9 (by decide) (fun _ => ?_) (fun h9 => absurd (nI_le (by omega) (by omega)) h9)
      refine z_iload_n C 2 dX0_debtOf_39 rfl rfl ?_
      exact z_iret C hr hlocks (Nat.le_of_ble_eq_true rfl) (Nat.le_of_ble_eq_true rfl) dX0_debtOf_40 (by rfl) rfl
    | succ dd ih =>
      intro i hi
      refine z_iload_n C 3 dX0_debtOf_4 rfl rfl ?_
      refine z_aload_n C 0 dX0_debtOf_5 rfl rfl ?_
      refine z_get0 (v := .int (nI (xk v))) C inl 0 8 (by decide) rfl rfl wd0 dX0_debtOf_6 ?_
      refine z_icmp_ge (tgt := 39) C dX0_debtOf_9 (by decide) (fun h9 => absurd h9 (nI_ge (by omega) (by omega))) (fun _ => ?_)
      refine z_aload_n C 0 dX0_debtOf_12 rfl rfl ?_
      refine z_get0 (v := .ref (hh 4)) C inl 0 4 (by decide) rfl rfl wd1 dX0_debtOf_13 ?_
      refine z_iload_n C 3 dX0_debtOf_16 rfl rfl ?_
      refine z_iald (f := xw v) C 4 0 rfl rfl i rfl (by omega) (by decide) dX0_debtOf_17 ?_
      refine z_iload_n C 1 dX0_debtOf_18 rfl rfl ?_
      refine z_icmp_ne (tgt := 33) C dX0_debtOf_19 (by decide) (fun c19 => ?_) (fun c19 => ?_)
      · skip
        refine z_iinc (v := nI (i + 1)) (L' := [(3, .int (nI (i + 1))), (0, .ref (hh 0)), (1, .int j), (2, .int (xdebtN (xw v) (xx v) j i))]) C 3 dX0_debtOf_33 rfl (z_inc _) (by decide) rfl ?_
        refine z_goto (tgt := 4) C dX0_debtOf_36 (by decide) ?_
        refine z_sub (L' := [(0, .ref (hh 0)), (1, .int j), (2, .int (xdebtN (xw v) (xx v) j i)), (3, .int (nI (i + 1)))]) [1, 2, 3, 0] rfl ?_
        exact (by have e9 := ih (i + 1) (by omega); simp only [xdebtN, c19, ↓reduceIte] at e9; exact e9)
      · skip
        refine z_iload_n C 2 dX0_debtOf_22 rfl rfl ?_
        refine z_iconst (v := 2) C dX0_debtOf_23 (by decide) ?_
        refine z_aload_n C 0 dX0_debtOf_24 rfl rfl ?_
        refine z_get0 (v := .ref (hh 7)) C inl 0 7 (by decide) rfl rfl wd2 dX0_debtOf_25 ?_
        refine z_iload_n C 3 dX0_debtOf_28 rfl rfl ?_
        refine z_iald (f := xx v) C 7 0 rfl rfl i rfl (by omega) (by decide) dX0_debtOf_29 ?_
        refine z_imul C dX0_debtOf_30 ?_
        refine z_iadd C dX0_debtOf_31 ?_
        refine z_istore_n (L' := [(2, .int ((xdebtN (xw v) (xx v) j i) + (2 * ((xx v) i)))), (0, .ref (hh 0)), (1, .int j), (3, .int (nI i))]) C dX0_debtOf_32 rfl (by decide) rfl ?_
        refine z_iinc (v := nI (i + 1)) (L' := [(3, .int (nI (i + 1))), (2, .int ((xdebtN (xw v) (xx v) j i) + (2 * ((xx v) i)))), (0, .ref (hh 0)), (1, .int j)]) C 3 dX0_debtOf_33 rfl (z_inc _) (by decide) rfl ?_
        refine z_goto (tgt := 4) C dX0_debtOf_36 (by decide) ?_
        refine z_sub (L' := [(0, .ref (hh 0)), (1, .int j), (2, .int ((xdebtN (xw v) (xx v) j i) + (2 * ((xx v) i)))), (3, .int (nI (i + 1)))]) [2, 3, 1, 0] rfl ?_
        exact (by have e9 := ih (i + 1) (by omega); simp only [xdebtN, c19, ↓reduceIte] at e9; exact e9)
  refine z_iconst (v := 0) C dX0_debtOf_0 (by decide) ?_
  refine z_istore_n (L' := [(2, .int 0), (0, .ref (hh 0)), (1, .int j)]) C dX0_debtOf_1 rfl (by decide) rfl ?_
  refine z_iconst (v := 0) C dX0_debtOf_2 (by decide) ?_
  refine z_istore_n (L' := [(3, .int 0), (2, .int 0), (0, .ref (hh 0)), (1, .int j)]) C dX0_debtOf_3 rfl (by decide) rfl ?_
  refine z_sub (L' := [(0, .ref (hh 0)), (1, .int j), (2, .int 0), (3, .int 0)]) [2, 3, 1, 0] rfl ?_
  exact lp4 (xk v) 0 (by omega)
set_option maxHeartbeats 4000000 in
set_option maxRecDepth 100000 in
theorem c_X0_faults (l : Launch) (D : va_G) (hh : Nat → Nat) (cI cZ : ClassId) (v : S0) (hk : xk v ≤ 30) : zM l yX0_faults wsX0_faults 0 0 0 0 [.ref (hh 0)] [(cI, .int), (cZ, .boolean)] D (wX0 hh cI cZ v) (wX0 hh cI cZ v) (some (.int (xflt v))) := by
  refine z_met (cc := cX0_faults) (maxL := 3) (ret := (some .int)) (by decide) rfl (Nat.le_of_ble_eq_true rfl) ?_
  intro p e s m args below meth c A C hr hlocks
  have inl : ∀ w ∈ u_ws RX0 TX0 14, w ∈ wsX0_faults := by decide +kernel
  have wd0 : Cond.fieldLink RX0 36 "SaltOrder" "throwCount" "I" ∈ wsX0_faults := by decide +kernel
  have wd1 : Cond.fieldLink RX0 29 "SaltOrder" "excesses" "[I" ∈ wsX0_faults := by decide +kernel
  refine z_sub (L' := [(0, .ref (hh 0))]) [0] rfl ?_
  have lp4 : ∀ (dd i : Nat), i + dd = xk v → zG p l e ({ frames := 0, cells := 0, slots := 0, locals := 0 } : Room) s m args below meth c D 3 A 0 0 (MQ below (zQ (some (.int (xflt v))) (fun t => va_P D vwCl (wX0 hh cI cZ v) t.heap) A) args s 0 0 A) 4 [(0, .ref (hh 0)), (1, .int (xfltN (xx v) i)), (2, .int (nI i))] [] (wX0 hh cI cZ v) := by
    intro dd
    induction dd with
    | zero =>
      intro i hi
      have hi : i = xk v := by omega
      subst hi
      refine z_iload_n C 2 dX0_faults_4 rfl rfl ?_
      refine z_aload_n C 0 dX0_faults_5 rfl rfl ?_
      refine z_get0 (v := .int (nI (xk v))) C inl 0 8 (by decide) rfl rfl wd0 dX0_faults_6 ?_
      refine z_icmp_ge (tgt := 30) C dX0_faults_9 (by decide) (fun _ => ?_) (fun h9 => absurd (nI_le (by omega) (by omega)) h9)
      refine z_iload_n C 1 dX0_faults_30 rfl rfl ?_
      exact z_iret C hr hlocks (Nat.le_of_ble_eq_true rfl) (Nat.le_of_ble_eq_true rfl) dX0_faults_31 (by rfl) rfl
    | succ dd ih =>
      intro i hi
      refine z_iload_n C 2 dX0_faults_4 rfl rfl ?_
      refine z_aload_n C 0 dX0_faults_5 rfl rfl ?_
      refine z_get0 (v := .int (nI (xk v))) C inl 0 8 (by decide) rfl rfl wd0 dX0_faults_6 ?_
      refine z_icmp_ge (tgt := 30) C dX0_faults_9 (by decide) (fun h9 => absurd h9 (nI_ge (by omega) (by omega))) (fun _ => ?_)
      refine z_aload_n C 0 dX0_faults_12 rfl rfl ?_
      refine z_get0 (v := .ref (hh 7)) C inl 0 7 (by decide) rfl rfl wd1 dX0_faults_13 ?_
      refine z_iload_n C 2 dX0_faults_16 rfl rfl ?_
      refine z_iald (f := xx v) C 7 0 rfl rfl i rfl (by omega) (by decide) dX0_faults_17 ?_
      refine z_if_le (tgt := 24) C dX0_faults_18 (by decide) (fun c18 => ?_) (fun c18 => ?_)
      · skip
        refine z_iinc (v := nI (i + 1)) (L' := [(2, .int (nI (i + 1))), (0, .ref (hh 0)), (1, .int (xfltN (xx v) i))]) C 2 dX0_faults_24 rfl (z_inc _) (by decide) rfl ?_
        refine z_goto (tgt := 4) C dX0_faults_27 (by decide) ?_
        refine z_sub (L' := [(0, .ref (hh 0)), (1, .int (xfltN (xx v) i)), (2, .int (nI (i + 1)))]) [1, 2, 0] rfl ?_
        exact (by have e9 := ih (i + 1) (by omega); simp only [xfltN, c18, ↓reduceIte] at e9; exact e9)
      · skip
        refine z_iinc (v := xfltN (xx v) i + 1) (L' := [(1, .int (xfltN (xx v) i + 1)), (0, .ref (hh 0)), (2, .int (nI i))]) C 1 dX0_faults_21 rfl rfl (by decide) rfl ?_
        refine z_iinc (v := nI (i + 1)) (L' := [(2, .int (nI (i + 1))), (1, .int (xfltN (xx v) i + 1)), (0, .ref (hh 0))]) C 2 dX0_faults_24 rfl (z_inc _) (by decide) rfl ?_
        refine z_goto (tgt := 4) C dX0_faults_27 (by decide) ?_
        refine z_sub (L' := [(0, .ref (hh 0)), (1, .int (xfltN (xx v) i + 1)), (2, .int (nI (i + 1)))]) [2, 1, 0] rfl ?_
        exact (by have e9 := ih (i + 1) (by omega); simp only [xfltN, c18, ↓reduceIte] at e9; exact e9)
  refine z_iconst (v := 0) C dX0_faults_0 (by decide) ?_
  refine z_istore_n (L' := [(1, .int 0), (0, .ref (hh 0))]) C dX0_faults_1 rfl (by decide) rfl ?_
  refine z_iconst (v := 0) C dX0_faults_2 (by decide) ?_
  refine z_istore_n (L' := [(2, .int 0), (1, .int 0), (0, .ref (hh 0))]) C dX0_faults_3 rfl (by decide) rfl ?_
  refine z_sub (L' := [(0, .ref (hh 0)), (1, .int 0), (2, .int 0)]) [2, 1, 0] rfl ?_
  exact lp4 (xk v) 0 (by omega)
set_option maxHeartbeats 4000000 in
set_option maxRecDepth 100000 in
theorem c_X0_audit (l : Launch) (D : va_G) (hh : Nat → Nat) (cI cZ : ClassId) (v : S0) (hn : xn v ≤ 8) (hk : xk v ≤ 30) : zM l yX0_audit wsX0_audit 2 37 0 0 [.ref (hh 0)] [(cI, .int), (cZ, .boolean)] D (wX0 hh cI cZ v) (wX0 hh cI cZ (xaud v)) (some (.int (xflt v))) := by
  refine z_met (cc := cX0_audit) (maxL := 3) (ret := (some .int)) (by decide) rfl (Nat.le_of_ble_eq_true rfl) ?_
  intro p e s m args below meth c A C hr hlocks
  have inl : ∀ w ∈ u_ws RX0 TX0 14, w ∈ wsX0_audit := by decide +kernel
  have wd0 : Cond.fieldLink RX0 32 "SaltOrder" "memberCount" "I" ∈ wsX0_audit := by decide +kernel
  have wd1 : Cond.fieldLink RX0 36 "SaltOrder" "throwCount" "I" ∈ wsX0_audit := by decide +kernel
  have wd2 : Cond.fieldLink RX0 45 "SaltOrder" "found" "I" ∈ wsX0_audit := by decide +kernel
  refine z_sub (L' := [(0, .ref (hh 0))]) [0] rfl ?_
  have lp7 : ∀ (dd i : Nat), i + dd = xn v → zG p l e ({ frames := 2, cells := 0, slots := 0, locals := 37 } : Room) s m args below meth c D 3 A 0 0 (MQ below (zQ (some (.int (xflt v))) (fun t => va_P D vwCl (wX0 hh cI cZ (xaud v)) t.heap) A) args s 0 0 A) 7 [(0, .ref (hh 0)), (1, .int (xflt v)), (2, .int (nI i))] [] (wX0 hh cI cZ (xaudN v i)) := by
    intro dd
    induction dd with
    | zero =>
      intro i hi
      have hi : i = xn v := by omega
      subst hi
      have hn1 := xaudN_n v (xn v)
      have hk1 := xaudN_k v (xn v)
      refine z_iload_n C 2 dX0_audit_7 rfl rfl ?_
      refine z_aload_n C 0 dX0_audit_8 rfl rfl ?_
      refine z_get0 (v := .int (nI (xn (xaudN v (xn v))))) C inl 0 3 (by decide) rfl rfl wd0 dX0_audit_9 ?_
      refine z_icmp_ge (tgt := 31) C dX0_audit_12 (by decide) (fun _ => ?_) (fun h9 => absurd (nI_le (by omega) (by omega)) h9)
      refine z_aload_n C 0 dX0_audit_31 rfl rfl ?_
      refine z_iconst (v := 0) C dX0_audit_32 (by decide) ?_
      refine z_put0 (ws' := (wX0 hh cI cZ (xl (xaudN v (xn v)), xa (xaudN v (xn v)), xe (xaudN v (xn v)), xn (xaudN v (xn v)), xw (xaudN v (xn v)), xf (xaudN v (xn v)), xg (xaudN v (xn v)), xx (xaudN v (xn v)), 0, xc (xaudN v (xn v)), xd (xaudN v (xn v)), xo (xaudN v (xn v)), xy (xaudN v (xn v)), xb (xaudN v (xn v))))) C inl 0 8 (by decide) rfl rfl (by decide) rfl wd1 dX0_audit_33 ?_
      refine z_aload_n C 0 dX0_audit_36 rfl rfl ?_
      refine z_dup C dX0_audit_37 rfl ?_
      refine z_get0 (v := .int (xo (xaudN v (xn v)))) C inl 0 11 (by decide) rfl rfl wd2 dX0_audit_38 ?_
      refine z_iload_n C 1 dX0_audit_41 rfl rfl ?_
      refine z_iadd C dX0_audit_42 ?_
      refine z_put0 (ws' := (wX0 hh cI cZ (xl (xaudN v (xn v)), xa (xaudN v (xn v)), xe (xaudN v (xn v)), xn (xaudN v (xn v)), xw (xaudN v (xn v)), xf (xaudN v (xn v)), xg (xaudN v (xn v)), xx (xaudN v (xn v)), 0, xc (xaudN v (xn v)), xd (xaudN v (xn v)), (xo (xaudN v (xn v))) + (xflt v), xy (xaudN v (xn v)), xb (xaudN v (xn v))))) C inl 0 11 (by decide) rfl rfl (by decide) rfl wd2 dX0_audit_43 ?_
      refine z_iload_n C 1 dX0_audit_46 rfl rfl ?_
      exact z_iret C hr hlocks (Nat.le_of_ble_eq_true rfl) (Nat.le_of_ble_eq_true rfl) dX0_audit_47 rfl (congrArg (wX0 hh cI cZ) (by first | rfl | (simp only [xaud, ↓reduceIte]; done) | (simp only [xaud, ↓reduceIte]; rfl)))
    | succ dd ih =>
      intro i hi
      have hn1 := xaudN_n v i
      have hk1 := xaudN_k v i
      refine z_iload_n C 2 dX0_audit_7 rfl rfl ?_
      refine z_aload_n C 0 dX0_audit_8 rfl rfl ?_
      refine z_get0 (v := .int (nI (xn (xaudN v i)))) C inl 0 3 (by decide) rfl rfl wd0 dX0_audit_9 ?_
      refine z_icmp_ge (tgt := 31) C dX0_audit_12 (by decide) (fun h9 => absurd h9 (nI_ge (by omega) (by omega))) (fun _ => ?_)
      refine z_aload_n C 0 dX0_audit_15 rfl rfl ?_
      refine z_iload_n C 2 dX0_audit_16 rfl rfl ?_
      refine z_aload_n C 0 dX0_audit_17 rfl rfl ?_
      refine z_iload_n C 2 dX0_audit_18 rfl rfl ?_
      refine z_callV (w := (wX0 hh cI cZ (xaudN v i))) (w' := (wX0 hh cI cZ (xaudN v i))) (w1 := ([] : va_W)) (w2 := ([] : va_W)) (ws' := (wX0 hh cI cZ (xaudN v i))) (As := [.int (nI i)]) (rest := [.int (nI i), .ref (hh 0)]) (st' := [.int (xdebt (xaudN v i) (nI i)), .int (nI i), .ref (hh 0)]) (rv := some (.int (xdebt (xaudN v i) (nI i)))) C (c_X0_debtOf l D hh cI cZ (xaudN v i) (nI i) (by omega)) (cwV 1 C.words gX0_audit_X0_debtOf rfl rfl rfl (by decide +kernel) ⟨(Nat.le_of_ble_eq_true rfl), (Nat.le_of_ble_eq_true rfl)⟩) (q0 := 0) (ci := 0) rfl rfl rfl [0, 1] rfl rfl (Nat.le_of_ble_eq_true rfl) ⟨(Nat.le_of_ble_eq_true rfl), (Nat.le_of_ble_eq_true rfl)⟩ rfl rfl rfl rfl rfl dX0_audit_19 ?_
      obtain ⟨v1, hv1⟩ : ∃ z, z = xadd (xaudN v i) i (xdebt (xaudN v i) (nI i)) := ⟨_, rfl⟩
      have hv1k0 : xn v1 = xn (xaudN v i) := by rw [hv1]; exact (rfl : xn (xadd (xaudN v i) i (xdebt (xaudN v i) (nI i))) = xn (xaudN v i))
      have hv1k1 : xk v1 = xk (xaudN v i) := by rw [hv1]; exact (rfl : xk (xadd (xaudN v i) i (xdebt (xaudN v i) (nI i))) = xk (xaudN v i))
      refine z_callV (w := (wX0 hh cI cZ (xaudN v i))) (w' := (wX0 hh cI cZ v1)) (w1 := ([] : va_W)) (w2 := ([] : va_W)) (ws' := (wX0 hh cI cZ v1)) (As := [.int (nI i), .int (xdebt (xaudN v i) (nI i))]) (rest := []) (st' := []) (rv := none) C (by rw [hv1]; exact c_X0_addArrears l D hh cI cZ (xaudN v i) i (xdebt (xaudN v i) (nI i)) (by omega)) (cwV 2 C.words gX0_audit_X0_addArrears rfl rfl rfl (by decide +kernel) ⟨(Nat.le_of_ble_eq_true rfl), (Nat.le_of_ble_eq_true rfl)⟩) (q0 := 0) (ci := 0) rfl rfl rfl [0, 1] rfl rfl (Nat.le_of_ble_eq_true rfl) ⟨(Nat.le_of_ble_eq_true rfl), (Nat.le_of_ble_eq_true rfl)⟩ rfl rfl rfl rfl rfl dX0_audit_22 ?_
      refine z_iinc (v := nI (i + 1)) (L' := [(2, .int (nI (i + 1))), (0, .ref (hh 0)), (1, .int (xflt v))]) C 2 dX0_audit_25 rfl (z_inc _) (by decide) rfl ?_
      refine z_goto (tgt := 7) C dX0_audit_28 (by decide) ?_
      refine z_sub (L' := [(0, .ref (hh 0)), (1, .int (xflt v)), (2, .int (nI (i + 1)))]) [1, 2, 0] rfl ?_
      subst hv1
      exact ih (i + 1) (by omega)
  refine z_aload_n C 0 dX0_audit_0 rfl rfl ?_
  refine z_callV (w := (wX0 hh cI cZ v)) (w' := (wX0 hh cI cZ v)) (w1 := ([] : va_W)) (w2 := ([] : va_W)) (ws' := (wX0 hh cI cZ v)) (As := []) (rest := []) (st' := [.int (xflt v)]) (rv := some (.int (xflt v))) C (c_X0_faults l D hh cI cZ v (by omega)) (cwV 0 C.words gX0_audit_X0_faults rfl rfl rfl (by decide +kernel) ⟨(Nat.le_of_ble_eq_true rfl), (Nat.le_of_ble_eq_true rfl)⟩) (q0 := 0) (ci := 0) rfl rfl rfl [0, 1] rfl rfl (Nat.le_of_ble_eq_true rfl) ⟨(Nat.le_of_ble_eq_true rfl), (Nat.le_of_ble_eq_true rfl)⟩ rfl rfl rfl rfl rfl dX0_audit_1 ?_
  refine z_istore_n (L' := [(1, .int (xflt v)), (0, .ref (hh 0))]) C dX0_audit_4 rfl (by decide) rfl ?_
  refine z_iconst (v := 0) C dX0_audit_5 (by decide) ?_
  refine z_istore_n (L' := [(2, .int 0), (1, .int (xflt v)), (0, .ref (hh 0))]) C dX0_audit_6 rfl (by decide) rfl ?_
  refine z_sub (L' := [(0, .ref (hh 0)), (1, .int (xflt v)), (2, .int 0)]) [2, 1, 0] rfl ?_
  exact lp7 (xn v) 0 (by omega)
set_option maxHeartbeats 4000000 in
set_option maxRecDepth 100000 in
theorem c_X0_passOneDay (l : Launch) (D : va_G) (hh : Nat → Nat) (cI cZ : ClassId) (v : S0) (hn : xn v ≤ 8) (hk : xk v ≤ 30) : zM l yX0_passOneDay wsX0_passOneDay 3 59 0 0 [.ref (hh 0)] [(cI, .int), (cZ, .boolean)] D (wX0 hh cI cZ v) (wX0 hh cI cZ (xday v)) (some (.int (xdayF v))) := by
  refine z_met (cc := cX0_passOneDay) (maxL := 3) (ret := (some .int)) (by decide) rfl (Nat.le_of_ble_eq_true rfl) ?_
  intro p e s m args below meth c A C hr hlocks
  have inl : ∀ w ∈ u_ws RX0 TX0 14, w ∈ wsX0_passOneDay := by decide +kernel
  have wd0 : Cond.fieldLink RX0 32 "SaltOrder" "memberCount" "I" ∈ wsX0_passOneDay := by decide +kernel
  have wd1 : Cond.fieldLink RX0 42 "SaltOrder" "today" "I" ∈ wsX0_passOneDay := by decide +kernel
  refine z_sub (L' := [(0, .ref (hh 0))]) [0] rfl ?_
  have lp21 : ∀ (dd i : Nat), i + dd = xn v → zG p l e ({ frames := 3, cells := 0, slots := 0, locals := 59 } : Room) s m args below meth c D 3 A 0 0 (MQ below (zQ (some (.int (xdayF v))) (fun t => va_P D vwCl (wX0 hh cI cZ (xday v)) t.heap) A) args s 0 0 A) 21 [(0, .ref (hh 0)), (1, .int (xdayF v)), (2, .int (nI i))] [] (wX0 hh cI cZ (xeatN (xday1 v) i)) := by
    intro dd
    induction dd with
    | zero =>
      intro i hi
      have hi : i = xn v := by omega
      subst hi
      have hn1 : xn (xeatN (xday1 v) (xn v)) = xn v := (xeatN_n _ _).trans (xday1_n v)
      refine z_iload_n C 2 dX0_passOneDay_21 rfl rfl ?_
      refine z_aload_n C 0 dX0_passOneDay_22 rfl rfl ?_
      refine z_get0 (v := .int (nI (xn (xeatN (xday1 v) (xn v))))) C inl 0 3 (by decide) rfl rfl wd0 dX0_passOneDay_23 ?_
      refine z_icmp_ge (tgt := 40) C dX0_passOneDay_26 (by decide) (fun _ => ?_) (fun h9 => absurd (nI_le (by omega) (by omega)) h9)
      refine z_aload_n C 0 dX0_passOneDay_40 rfl rfl ?_
      refine z_dup C dX0_passOneDay_41 rfl ?_
      refine z_get0 (v := .int (xd (xeatN (xday1 v) (xn v)))) C inl 0 10 (by decide) rfl rfl wd1 dX0_passOneDay_42 ?_
      refine z_iconst (v := 1) C dX0_passOneDay_45 (by decide) ?_
      refine z_iadd C dX0_passOneDay_46 ?_
      refine z_put0 (ws' := (wX0 hh cI cZ (xl (xeatN (xday1 v) (xn v)), xa (xeatN (xday1 v) (xn v)), xe (xeatN (xday1 v) (xn v)), xn (xeatN (xday1 v) (xn v)), xw (xeatN (xday1 v) (xn v)), xf (xeatN (xday1 v) (xn v)), xg (xeatN (xday1 v) (xn v)), xx (xeatN (xday1 v) (xn v)), xk (xeatN (xday1 v) (xn v)), xc (xeatN (xday1 v) (xn v)), (xd (xeatN (xday1 v) (xn v))) + 1, xo (xeatN (xday1 v) (xn v)), xy (xeatN (xday1 v) (xn v)), xb (xeatN (xday1 v) (xn v))))) C inl 0 10 (by decide) rfl rfl (by decide) rfl wd1 dX0_passOneDay_47 ?_
      refine z_iload_n C 1 dX0_passOneDay_50 rfl rfl ?_
      exact z_iret C hr hlocks (Nat.le_of_ble_eq_true rfl) (Nat.le_of_ble_eq_true rfl) dX0_passOneDay_51 rfl (congrArg (wX0 hh cI cZ) (by first | rfl | (simp only [xday, xdayF, xday1, ↓reduceIte]; done) | (simp only [xday, xdayF, xday1, ↓reduceIte]; rfl)))
    | succ dd ih =>
      intro i hi
      have hn1 : xn (xeatN (xday1 v) i) = xn v := (xeatN_n _ i).trans (xday1_n v)
      refine z_iload_n C 2 dX0_passOneDay_21 rfl rfl ?_
      refine z_aload_n C 0 dX0_passOneDay_22 rfl rfl ?_
      refine z_get0 (v := .int (nI (xn (xeatN (xday1 v) i)))) C inl 0 3 (by decide) rfl rfl wd0 dX0_passOneDay_23 ?_
      refine z_icmp_ge (tgt := 40) C dX0_passOneDay_26 (by decide) (fun h9 => absurd h9 (nI_ge (by omega) (by omega))) (fun _ => ?_)
      refine z_aload_n C 0 dX0_passOneDay_29 rfl rfl ?_
      refine z_iload_n C 2 dX0_passOneDay_30 rfl rfl ?_
      obtain ⟨v1, hv1⟩ : ∃ z, z = xeat (xeatN (xday1 v) i) i := ⟨_, rfl⟩
      have hv1k0 : xn v1 = xn (xeatN (xday1 v) i) := by rw [hv1]; exact xeat_n (xeatN (xday1 v) i) i
      have hv1k1 : xk v1 = xk (xeatN (xday1 v) i) := by rw [hv1]; exact xeat_k (xeatN (xday1 v) i) i
      refine z_callV (w := (wX0 hh cI cZ (xeatN (xday1 v) i))) (w' := (wX0 hh cI cZ v1)) (w1 := ([] : va_W)) (w2 := ([] : va_W)) (ws' := (wX0 hh cI cZ v1)) (As := [.int (nI i)]) (rest := []) (st' := []) (rv := none) C (by rw [hv1]; exact c_X0_eatOrFeelLuck l D hh cI cZ (xeatN (xday1 v) i) i (by omega)) (cwV 1 C.words gX0_passOneDay_X0_eatOrFeelLuck rfl rfl rfl (by decide +kernel) ⟨(Nat.le_of_ble_eq_true rfl), (Nat.le_of_ble_eq_true rfl)⟩) (q0 := 0) (ci := 0) rfl rfl rfl [0, 1] rfl rfl (Nat.le_of_ble_eq_true rfl) ⟨(Nat.le_of_ble_eq_true rfl), (Nat.le_of_ble_eq_true rfl)⟩ rfl rfl rfl rfl rfl dX0_passOneDay_31 ?_
      refine z_iinc (v := nI (i + 1)) (L' := [(2, .int (nI (i + 1))), (0, .ref (hh 0)), (1, .int (xdayF v))]) C 2 dX0_passOneDay_34 rfl (z_inc _) (by decide) rfl ?_
      refine z_goto (tgt := 21) C dX0_passOneDay_37 (by decide) ?_
      refine z_sub (L' := [(0, .ref (hh 0)), (1, .int (xdayF v)), (2, .int (nI (i + 1)))]) [1, 2, 0] rfl ?_
      subst hv1
      exact ih (i + 1) (by omega)
  refine z_aload_n C 0 dX0_passOneDay_0 rfl rfl ?_
  refine z_get0 (v := .int (xd v)) C inl 0 10 (by decide) rfl rfl wd1 dX0_passOneDay_1 ?_
  refine z_callS (w := ([] : va_W)) (w' := ([] : va_W)) (w1 := (wX0 hh cI cZ v)) (w2 := ([] : va_W)) (ws' := (wX0 hh cI cZ v)) (As := [.int (xd v)]) (rest := []) (st' := [.int (isA (xd v))]) (rv := some (.int (isA (xd v)))) C (c_X0_isAuditDay l D (xd v)) (va_cwS 1 C.words gX0_passOneDay_X0_isAuditDay rfl rfl rfl (by decide +kernel) ⟨(Nat.le_of_ble_eq_true rfl), (Nat.le_of_ble_eq_true rfl)⟩) [] rfl rfl (Nat.le_of_ble_eq_true rfl) ⟨(Nat.le_of_ble_eq_true rfl), (Nat.le_of_ble_eq_true rfl)⟩ rfl rfl rfl rfl rfl dX0_passOneDay_4 ?_
  refine z_if_eq (tgt := 17) C dX0_passOneDay_7 (by decide) (fun c7 => ?_) (fun c7 => ?_)
  · skip
    refine z_iconst (v := 0) C dX0_passOneDay_17 (by decide) ?_
    refine z_istore_n (L' := [(1, .int 0), (0, .ref (hh 0))]) C dX0_passOneDay_18 rfl (by decide) rfl ?_
    refine z_iconst (v := 0) C dX0_passOneDay_19 (by decide) ?_
    refine z_istore_n (L' := [(2, .int 0), (1, .int 0), (0, .ref (hh 0))]) C dX0_passOneDay_20 rfl (by decide) rfl ?_
    refine z_sub (L' := [(0, .ref (hh 0)), (1, .int 0), (2, .int 0)]) [2, 1, 0] rfl ?_
    exact (by have e9 := lp21 (xn v) 0 (by omega); simp only [xeatN, xday1, xdayF, c7, ↓reduceIte] at e9 ⊢; exact e9)
  · skip
    refine z_aload_n C 0 dX0_passOneDay_10 rfl rfl ?_
    obtain ⟨v2, hv2⟩ : ∃ z, z = xaud v := ⟨_, rfl⟩
    have hv2k0 : xn v2 = xn v := by rw [hv2]; exact xaud_n v
    refine z_callV (w := (wX0 hh cI cZ v)) (w' := (wX0 hh cI cZ v2)) (w1 := ([] : va_W)) (w2 := ([] : va_W)) (ws' := (wX0 hh cI cZ v2)) (As := []) (rest := []) (st' := [.int (xflt v)]) (rv := some (.int (xflt v))) C (by rw [hv2]; exact c_X0_audit l D hh cI cZ v (by omega) (by omega)) (cwV 0 C.words gX0_passOneDay_X0_audit rfl rfl rfl (by decide +kernel) ⟨(Nat.le_of_ble_eq_true rfl), (Nat.le_of_ble_eq_true rfl)⟩) (q0 := 0) (ci := 0) rfl rfl rfl [0, 1] rfl rfl (Nat.le_of_ble_eq_true rfl) ⟨(Nat.le_of_ble_eq_true rfl), (Nat.le_of_ble_eq_true rfl)⟩ rfl rfl rfl rfl rfl dX0_passOneDay_11 ?_
    refine z_goto (tgt := 18) C dX0_passOneDay_14 (by decide) ?_
    refine z_istore_n (L' := [(1, .int (xflt v)), (0, .ref (hh 0))]) C dX0_passOneDay_18 rfl (by decide) rfl ?_
    refine z_iconst (v := 0) C dX0_passOneDay_19 (by decide) ?_
    refine z_istore_n (L' := [(2, .int 0), (1, .int (xflt v)), (0, .ref (hh 0))]) C dX0_passOneDay_20 rfl (by decide) rfl ?_
    refine z_sub (L' := [(0, .ref (hh 0)), (1, .int (xflt v)), (2, .int 0)]) [2, 1, 0] rfl ?_
    subst hv2
    exact (by have e9 := lp21 (xn v) 0 (by omega); simp only [xeatN, xday1, xdayF, c7, ↓reduceIte] at e9 ⊢; exact e9)
end
section
set_option maxHeartbeats 4000000 in
set_option maxRecDepth 100000 in
theorem c_X0_checkAmount (l : Launch) (D : va_G) (x mo : Int32) (h1 : ¬ x < 1) (h2 : x ≤ mo) : zM l yX0_checkAmount wsX0_checkAmount 0 0 0 0 [.int x, .int mo] [] D ([] : va_W) ([] : va_W) none := by
  refine z_met (cc := cX0_checkAmount) (maxL := 2) (ret := none) (by decide) rfl (Nat.le_of_ble_eq_true rfl) ?_
  intro p e s m args below meth c A C hr hlocks
  refine z_sub (L' := [(0, .int x), (1, .int mo)]) [0, 1] rfl ?_
  refine z_iload_n C 0 dX0_checkAmount_0 rfl rfl ?_
  refine z_iconst (v := 1) C dX0_checkAmount_1 (by decide) ?_
  refine z_icmp_lt (tgt := 10) C dX0_checkAmount_2 (by decide) (fun h9 => absurd h9 (h1)) (fun _ => ?_)
  refine z_iload_n C 0 dX0_checkAmount_5 rfl rfl ?_
  refine z_iload_n C 1 dX0_checkAmount_6 rfl rfl ?_
  refine z_icmp_le (tgt := 20) C dX0_checkAmount_7 (by decide) (fun _ => ?_) (fun h9 => absurd (h2) h9)
  exact z_vret C hr hlocks (Nat.le_of_ble_eq_true rfl) (Nat.le_of_ble_eq_true rfl) dX0_checkAmount_20 rfl
set_option maxHeartbeats 4000000 in
set_option maxRecDepth 100000 in
theorem c_X0_checkMember (l : Launch) (D : va_G) (hh : Nat → Nat) (cI cZ : ClassId) (v : S0) (j : Nat) (hj : j < xn v) (hn : xn v ≤ 8) : zM l yX0_checkMember wsX0_checkMember 0 0 0 0 [.ref (hh 0), .int (nI j)] [(cI, .int), (cZ, .boolean)] D (wX0 hh cI cZ v) (wX0 hh cI cZ v) none := by
  refine z_met (cc := cX0_checkMember) (maxL := 2) (ret := none) (by decide) rfl (Nat.le_of_ble_eq_true rfl) ?_
  intro p e s m args below meth c A C hr hlocks
  have inl : ∀ w ∈ u_ws RX0 TX0 14, w ∈ wsX0_checkMember := by decide +kernel
  have wd0 : Cond.fieldLink RX0 32 "SaltOrder" "memberCount" "I" ∈ wsX0_checkMember := by decide +kernel
  refine z_sub (L' := [(0, .ref (hh 0)), (1, .int (nI j))]) [0, 1] rfl ?_
  refine z_iload_n C 1 dX0_checkMember_0 rfl rfl ?_
  refine z_if_lt (tgt := 12) C dX0_checkMember_1 (by decide) (fun h9 => absurd h9 (nI_pos (by omega))) (fun _ => ?_)
  refine z_iload_n C 1 dX0_checkMember_4 rfl rfl ?_
  refine z_aload_n C 0 dX0_checkMember_5 rfl rfl ?_
  refine z_get0 (v := .int (nI (xn v))) C inl 0 3 (by decide) rfl rfl wd0 dX0_checkMember_6 ?_
  refine z_icmp_lt (tgt := 22) C dX0_checkMember_9 (by decide) (fun _ => ?_) (fun h9 => absurd (nI_lt (by omega) (by omega)) h9)
  exact z_vret C hr hlocks (Nat.le_of_ble_eq_true rfl) (Nat.le_of_ble_eq_true rfl) dX0_checkMember_22 rfl
set_option maxHeartbeats 4000000 in
set_option maxRecDepth 100000 in
theorem c_X0_checkEntry (l : Launch) (D : va_G) (hh : Nat → Nat) (cI cZ : ClassId) (v : S0) (j : Nat) (hj : j < xk v) (hk : xk v ≤ 30) : zM l yX0_checkEntry wsX0_checkEntry 0 0 0 0 [.ref (hh 0), .int (nI j)] [(cI, .int), (cZ, .boolean)] D (wX0 hh cI cZ v) (wX0 hh cI cZ v) none := by
  refine z_met (cc := cX0_checkEntry) (maxL := 2) (ret := none) (by decide) rfl (Nat.le_of_ble_eq_true rfl) ?_
  intro p e s m args below meth c A C hr hlocks
  have inl : ∀ w ∈ u_ws RX0 TX0 14, w ∈ wsX0_checkEntry := by decide +kernel
  have wd0 : Cond.fieldLink RX0 36 "SaltOrder" "throwCount" "I" ∈ wsX0_checkEntry := by decide +kernel
  refine z_sub (L' := [(0, .ref (hh 0)), (1, .int (nI j))]) [0, 1] rfl ?_
  refine z_iload_n C 1 dX0_checkEntry_0 rfl rfl ?_
  refine z_if_lt (tgt := 12) C dX0_checkEntry_1 (by decide) (fun h9 => absurd h9 (nI_pos (by omega))) (fun _ => ?_)
  refine z_iload_n C 1 dX0_checkEntry_4 rfl rfl ?_
  refine z_aload_n C 0 dX0_checkEntry_5 rfl rfl ?_
  refine z_get0 (v := .int (nI (xk v))) C inl 0 8 (by decide) rfl rfl wd0 dX0_checkEntry_6 ?_
  refine z_icmp_lt (tgt := 22) C dX0_checkEntry_9 (by decide) (fun _ => ?_) (fun h9 => absurd (nI_lt (by omega) (by omega)) h9)
  exact z_vret C hr hlocks (Nat.le_of_ble_eq_true rfl) (Nat.le_of_ble_eq_true rfl) dX0_checkEntry_22 rfl
set_option maxHeartbeats 4000000 in
set_option maxRecDepth 100000 in
theorem c_X0_checkShoulder (l : Launch) (D : va_G) (b : Int32) (hb : b = 0 ∨ b = 1) : zM l yX0_checkShoulder wsX0_checkShoulder 0 0 0 0 [.int b] [] D ([] : va_W) ([] : va_W) none := by
  refine z_met (cc := cX0_checkShoulder) (maxL := 1) (ret := none) (by decide) rfl (Nat.le_of_ble_eq_true rfl) ?_
  intro p e s m args below meth c A C hr hlocks
  refine z_sub (L' := [(0, .int b)]) [0] rfl ?_
  refine z_iload_n C 0 dX0_checkShoulder_0 rfl rfl ?_
  refine z_if_eq (tgt := 19) C dX0_checkShoulder_1 (by decide) (fun c1 => ?_) (fun c1 => ?_)
  · skip
    exact z_vret C hr hlocks (Nat.le_of_ble_eq_true rfl) (Nat.le_of_ble_eq_true rfl) dX0_checkShoulder_19 rfl
  · skip
    refine z_iload_n C 0 dX0_checkShoulder_4 rfl rfl ?_
    refine z_iconst (v := 1) C dX0_checkShoulder_5 (by decide) ?_
    refine z_icmp_eq (tgt := 19) C dX0_checkShoulder_6 (by decide) (fun _ => ?_) (fun h9 => absurd (hb.resolve_left c1) h9)
    exact z_vret C hr hlocks (Nat.le_of_ble_eq_true rfl) (Nat.le_of_ble_eq_true rfl) dX0_checkShoulder_19 rfl
set_option maxHeartbeats 4000000 in
set_option maxRecDepth 100000 in
theorem c_X0_checkCellar (l : Launch) (D : va_G) (hh : Nat → Nat) (cI cZ : ClassId) (v : S0) (g : Int32) (hg : g ≤ nI (xc v)) : zM l yX0_checkCellar wsX0_checkCellar 0 0 0 0 [.ref (hh 0), .int g] [(cI, .int), (cZ, .boolean)] D (wX0 hh cI cZ v) (wX0 hh cI cZ v) none := by
  refine z_met (cc := cX0_checkCellar) (maxL := 2) (ret := none) (by decide) rfl (Nat.le_of_ble_eq_true rfl) ?_
  intro p e s m args below meth c A C hr hlocks
  have inl : ∀ w ∈ u_ws RX0 TX0 14, w ∈ wsX0_checkCellar := by decide +kernel
  have wd0 : Cond.fieldLink RX0 39 "SaltOrder" "cellar" "I" ∈ wsX0_checkCellar := by decide +kernel
  refine z_sub (L' := [(0, .ref (hh 0)), (1, .int g)]) [0, 1] rfl ?_
  refine z_aload_n C 0 dX0_checkCellar_0 rfl rfl ?_
  refine z_get0 (v := .int (nI (xc v))) C inl 0 9 (by decide) rfl rfl wd0 dX0_checkCellar_1 ?_
  refine z_iload_n C 1 dX0_checkCellar_4 rfl rfl ?_
  refine z_icmp_ge (tgt := 18) C dX0_checkCellar_5 (by decide) (fun _ => ?_) (fun h9 => absurd (hg) h9)
  exact z_vret C hr hlocks (Nat.le_of_ble_eq_true rfl) (Nat.le_of_ble_eq_true rfl) dX0_checkCellar_18 rfl
set_option maxHeartbeats 4000000 in
set_option maxRecDepth 100000 in
theorem c_X0_checkLedgerHasRoom (l : Launch) (D : va_G) (hh : Nat → Nat) (cI cZ : ClassId) (v : S0) (hk : xk v < 30) : zM l yX0_checkLedgerHasRoom wsX0_checkLedgerHasRoom 0 0 0 0 [.ref (hh 0)] [(cI, .int), (cZ, .boolean)] D (wX0 hh cI cZ v) (wX0 hh cI cZ v) none := by
  refine z_met (cc := cX0_checkLedgerHasRoom) (maxL := 1) (ret := none) (by decide) rfl (Nat.le_of_ble_eq_true rfl) ?_
  intro p e s m args below meth c A C hr hlocks
  have inl : ∀ w ∈ u_ws RX0 TX0 14, w ∈ wsX0_checkLedgerHasRoom := by decide +kernel
  have wd0 : Cond.fieldLink RX0 36 "SaltOrder" "throwCount" "I" ∈ wsX0_checkLedgerHasRoom := by decide +kernel
  refine z_sub (L' := [(0, .ref (hh 0))]) [0] rfl ?_
  refine z_aload_n C 0 dX0_checkLedgerHasRoom_0 rfl rfl ?_
  refine z_get0 (v := .int (nI (xk v))) C inl 0 8 (by decide) rfl rfl wd0 dX0_checkLedgerHasRoom_1 ?_
  refine z_bipush (v := 30) C dX0_checkLedgerHasRoom_4 (by decide) ?_
  refine z_icmp_lt (tgt := 19) C dX0_checkLedgerHasRoom_6 (by decide) (fun _ => ?_) (fun h9 => absurd (nI_lt (b := 30) (by omega) (by omega)) h9)
  exact z_vret C hr hlocks (Nat.le_of_ble_eq_true rfl) (Nat.le_of_ble_eq_true rfl) dX0_checkLedgerHasRoom_19 rfl
set_option maxHeartbeats 4000000 in
set_option maxRecDepth 100000 in
theorem c_X0_pass (l : Launch) (D : va_G) (hh : Nat → Nat) (cI cZ : ClassId) (v : S0) (d : Nat) (h1 : 1 ≤ d) (h2 : d ≤ 60) (hn : xn v ≤ 8) (hk : xk v ≤ 30) : zM l yX0_pass wsX0_pass 4 81 0 0 [.ref (hh 0), .int (nI d)] [(cI, .int), (cZ, .boolean)] D (wX0 hh cI cZ v) (wX0 hh cI cZ (xpass v d)) (some (.int (xpassF v d))) := by
  refine z_met (cc := cX0_pass) (maxL := 4) (ret := (some .int)) (by decide) rfl (Nat.le_of_ble_eq_true rfl) ?_
  intro p e s m args below meth c A C hr hlocks
  have inl : ∀ w ∈ u_ws RX0 TX0 14, w ∈ wsX0_pass := by decide +kernel
  refine z_sub (L' := [(0, .ref (hh 0)), (1, .int (nI d))]) [0, 1] rfl ?_
  have lp10 : ∀ (dd i : Nat), i + dd = d → zG p l e ({ frames := 4, cells := 0, slots := 0, locals := 81 } : Room) s m args below meth c D 4 A 0 0 (MQ below (zQ (some (.int (xpassF v d))) (fun t => va_P D vwCl (wX0 hh cI cZ (xpass v d)) t.heap) A) args s 0 0 A) 10 [(0, .ref (hh 0)), (1, .int (nI d)), (2, .int (xpassF v i)), (3, .int (nI i))] [] (wX0 hh cI cZ (xpass v i)) := by
    intro dd
    induction dd with
    | zero =>
      intro i hi
      obtain rfl : i = d := by omega
      refine z_iload_n C 3 dX0_pass_10 rfl rfl ?_
      refine z_iload_n C 1 dX0_pass_11 rfl rfl ?_
      refine z_icmp_ge (tgt := 28) C dX0_pass_12 (by decide) (fun _ => ?_) (fun h9 => absurd (nI_le (by omega) (by omega)) h9)
      refine z_iload_n C 2 dX0_pass_28 rfl rfl ?_
      exact z_iret C hr hlocks (Nat.le_of_ble_eq_true rfl) (Nat.le_of_ble_eq_true rfl) dX0_pass_29 rfl rfl
    | succ dd ih =>
      intro i hi
      have hn1 := xpass_n v i
      have hk1 := xpass_k v i
      refine z_iload_n C 3 dX0_pass_10 rfl rfl ?_
      refine z_iload_n C 1 dX0_pass_11 rfl rfl ?_
      refine z_icmp_ge (tgt := 28) C dX0_pass_12 (by decide) (fun h9 => absurd h9 (nI_ge (by omega) (by omega))) (fun _ => ?_)
      refine z_iload_n C 2 dX0_pass_15 rfl rfl ?_
      refine z_aload_n C 0 dX0_pass_16 rfl rfl ?_
      obtain ⟨v1, hv1⟩ : ∃ z, z = xday (xpass v i) := ⟨_, rfl⟩
      have hv1k0 : xn v1 = xn (xpass v i) := by rw [hv1]; exact xday_n (xpass v i)
      refine z_callV (w := (wX0 hh cI cZ (xpass v i))) (w' := (wX0 hh cI cZ v1)) (w1 := ([] : va_W)) (w2 := ([] : va_W)) (ws' := (wX0 hh cI cZ v1)) (As := []) (rest := [.int (xpassF v i)]) (st' := [.int (xdayF (xpass v i)), .int (xpassF v i)]) (rv := some (.int (xdayF (xpass v i)))) C (by rw [hv1]; exact c_X0_passOneDay l D hh cI cZ (xpass v i) (by omega) (by omega)) (cwV 0 C.words gX0_pass_X0_passOneDay rfl rfl rfl (by decide +kernel) ⟨(Nat.le_of_ble_eq_true rfl), (Nat.le_of_ble_eq_true rfl)⟩) (q0 := 0) (ci := 0) rfl rfl rfl [0, 1] rfl rfl (Nat.le_of_ble_eq_true rfl) ⟨(Nat.le_of_ble_eq_true rfl), (Nat.le_of_ble_eq_true rfl)⟩ rfl rfl rfl rfl rfl dX0_pass_17 ?_
      refine z_iadd C dX0_pass_20 ?_
      refine z_istore_n (L' := [(2, .int ((xpassF v i) + (xdayF (xpass v i)))), (0, .ref (hh 0)), (1, .int (nI d)), (3, .int (nI i))]) C dX0_pass_21 rfl (by decide) rfl ?_
      refine z_iinc (v := nI (i + 1)) (L' := [(3, .int (nI (i + 1))), (2, .int ((xpassF v i) + (xdayF (xpass v i)))), (0, .ref (hh 0)), (1, .int (nI d))]) C 3 dX0_pass_22 rfl (z_inc _) (by decide) rfl ?_
      refine z_goto (tgt := 10) C dX0_pass_25 (by decide) ?_
      refine z_sub (L' := [(0, .ref (hh 0)), (1, .int (nI d)), (2, .int ((xpassF v i) + (xdayF (xpass v i)))), (3, .int (nI (i + 1)))]) [2, 3, 1, 0] rfl ?_
      subst hv1
      exact ih (i + 1) (by omega)
  refine z_iload_n C 1 dX0_pass_0 rfl rfl ?_
  refine z_bipush (v := 60) C dX0_pass_1 (by decide) ?_
  refine z_callS (w := ([] : va_W)) (w' := ([] : va_W)) (w1 := (wX0 hh cI cZ v)) (w2 := ([] : va_W)) (ws' := (wX0 hh cI cZ v)) (As := [.int (nI d), .int 60]) (rest := []) (st' := []) (rv := none) C (c_X0_checkAmount l D (nI d) 60 (nI_nlt (by omega) (by omega)) (nI_le (b := 60) (by omega) (by omega))) (va_cwS 2 C.words gX0_pass_X0_checkAmount rfl rfl rfl (by decide +kernel) ⟨(Nat.le_of_ble_eq_true rfl), (Nat.le_of_ble_eq_true rfl)⟩) [] rfl rfl (Nat.le_of_ble_eq_true rfl) ⟨(Nat.le_of_ble_eq_true rfl), (Nat.le_of_ble_eq_true rfl)⟩ rfl rfl rfl rfl rfl dX0_pass_3 ?_
  refine z_iconst (v := 0) C dX0_pass_6 (by decide) ?_
  refine z_istore_n (L' := [(2, .int 0), (0, .ref (hh 0)), (1, .int (nI d))]) C dX0_pass_7 rfl (by decide) rfl ?_
  refine z_iconst (v := 0) C dX0_pass_8 (by decide) ?_
  refine z_istore_n (L' := [(3, .int 0), (2, .int 0), (0, .ref (hh 0)), (1, .int (nI d))]) C dX0_pass_9 rfl (by decide) rfl ?_
  refine z_sub (L' := [(0, .ref (hh 0)), (1, .int (nI d)), (2, .int 0), (3, .int 0)]) [2, 3, 1, 0] rfl ?_
  exact lp10 d 0 (by omega)
set_option maxHeartbeats 4000000 in
set_option maxRecDepth 100000 in
theorem c_X0_writeThrow (l : Launch) (D : va_G) (hh : Nat → Nat) (cI cZ : ClassId) (v : S0) (j b g z : Int32) (hk : xk v < 30) (hb : b = 0 ∨ b = 1) : zM l yX0_writeThrow wsX0_writeThrow 0 0 0 0 [.ref (hh 0), .int j, .int b, .int g, .int z] [(cI, .int), (cZ, .boolean)] D (wX0 hh cI cZ v) (wX0 hh cI cZ (xwrite v j b g z)) none := by
  refine z_met (cc := cX0_writeThrow) (maxL := 5) (ret := none) (by decide) rfl (Nat.le_of_ble_eq_true rfl) ?_
  intro p e s m args below meth c A C hr hlocks
  have inl : ∀ w ∈ u_ws RX0 TX0 14, w ∈ wsX0_writeThrow := by decide +kernel
  have wd0 : Cond.fieldLink RX0 19 "SaltOrder" "throwers" "[I" ∈ wsX0_writeThrow := by decide +kernel
  have wd1 : Cond.fieldLink RX0 36 "SaltOrder" "throwCount" "I" ∈ wsX0_writeThrow := by decide +kernel
  have wd2 : Cond.fieldLink RX0 22 "SaltOrder" "lefts" "[Z" ∈ wsX0_writeThrow := by decide +kernel
  have wd3 : Cond.fieldLink RX0 26 "SaltOrder" "thrown" "[I" ∈ wsX0_writeThrow := by decide +kernel
  have wd4 : Cond.fieldLink RX0 29 "SaltOrder" "excesses" "[I" ∈ wsX0_writeThrow := by decide +kernel
  refine z_sub (L' := [(0, .ref (hh 0)), (1, .int j), (2, .int b), (3, .int g), (4, .int z)]) [0, 1, 2, 3, 4] rfl ?_
  refine z_aload_n C 0 dX0_writeThrow_0 rfl rfl ?_
  refine z_get0 (v := .ref (hh 4)) C inl 0 4 (by decide) rfl rfl wd0 dX0_writeThrow_1 ?_
  refine z_aload_n C 0 dX0_writeThrow_4 rfl rfl ?_
  refine z_get0 (v := .int (nI (xk v))) C inl 0 8 (by decide) rfl rfl wd1 dX0_writeThrow_5 ?_
  refine z_iload_n C 1 dX0_writeThrow_8 rfl rfl ?_
  refine z_iast (ws' := (wX0 hh cI cZ (xl v, xa v, xe v, xn v, upd (xw v) (xk v) j, xf v, xg v, xx v, xk v, xc v, xd v, xo v, xy v, xb v))) C 4 0 rfl rfl (xk v) rfl (by omega) (by decide) rfl dX0_writeThrow_9 ?_
  refine z_aload_n C 0 dX0_writeThrow_10 rfl rfl ?_
  refine z_get0 (v := .ref (hh 5)) C inl 0 5 (by decide) rfl rfl wd2 dX0_writeThrow_11 ?_
  refine z_aload_n C 0 dX0_writeThrow_14 rfl rfl ?_
  refine z_get0 (v := .int (nI (xk v))) C inl 0 8 (by decide) rfl rfl wd1 dX0_writeThrow_15 ?_
  refine z_iload_n C 2 dX0_writeThrow_18 rfl rfl ?_
  refine z_zast (ws' := (wX0 hh cI cZ (xl v, xa v, xe v, xn v, upd (xw v) (xk v) j, upd (xf v) (xk v) b, xg v, xx v, xk v, xc v, xd v, xo v, xy v, xb v))) C 5 1 rfl rfl (xk v) rfl (by omega) (by decide) hb rfl dX0_writeThrow_19 ?_
  refine z_aload_n C 0 dX0_writeThrow_20 rfl rfl ?_
  refine z_get0 (v := .ref (hh 6)) C inl 0 6 (by decide) rfl rfl wd3 dX0_writeThrow_21 ?_
  refine z_aload_n C 0 dX0_writeThrow_24 rfl rfl ?_
  refine z_get0 (v := .int (nI (xk v))) C inl 0 8 (by decide) rfl rfl wd1 dX0_writeThrow_25 ?_
  refine z_iload_n C 3 dX0_writeThrow_28 rfl rfl ?_
  refine z_iast (ws' := (wX0 hh cI cZ (xl v, xa v, xe v, xn v, upd (xw v) (xk v) j, upd (xf v) (xk v) b, upd (xg v) (xk v) g, xx v, xk v, xc v, xd v, xo v, xy v, xb v))) C 6 0 rfl rfl (xk v) rfl (by omega) (by decide) rfl dX0_writeThrow_29 ?_
  refine z_aload_n C 0 dX0_writeThrow_30 rfl rfl ?_
  refine z_get0 (v := .ref (hh 7)) C inl 0 7 (by decide) rfl rfl wd4 dX0_writeThrow_31 ?_
  refine z_aload_n C 0 dX0_writeThrow_34 rfl rfl ?_
  refine z_get0 (v := .int (nI (xk v))) C inl 0 8 (by decide) rfl rfl wd1 dX0_writeThrow_35 ?_
  refine z_iload C 4 dX0_writeThrow_38 rfl ?_
  refine z_iast (ws' := (wX0 hh cI cZ (xl v, xa v, xe v, xn v, upd (xw v) (xk v) j, upd (xf v) (xk v) b, upd (xg v) (xk v) g, upd (xx v) (xk v) z, xk v, xc v, xd v, xo v, xy v, xb v))) C 7 0 rfl rfl (xk v) rfl (by omega) (by decide) rfl dX0_writeThrow_40 ?_
  refine z_aload_n C 0 dX0_writeThrow_41 rfl rfl ?_
  refine z_dup C dX0_writeThrow_42 rfl ?_
  refine z_get0 (v := .int (nI (xk v))) C inl 0 8 (by decide) rfl rfl wd1 dX0_writeThrow_43 ?_
  refine z_iconst (v := 1) C dX0_writeThrow_46 (by decide) ?_
  refine z_iadd C dX0_writeThrow_47 ?_
  refine z_top (y := nI ((xk v) + 1)) (z_1 _) ?_
  refine z_put0 (ws' := (wX0 hh cI cZ (xl v, xa v, xe v, xn v, upd (xw v) (xk v) j, upd (xf v) (xk v) b, upd (xg v) (xk v) g, upd (xx v) (xk v) z, ((xk v) + 1), xc v, xd v, xo v, xy v, xb v))) C inl 0 8 (by decide) rfl rfl (by decide) rfl wd1 dX0_writeThrow_48 ?_
  exact z_vret C hr hlocks (Nat.le_of_ble_eq_true rfl) (Nat.le_of_ble_eq_true rfl) dX0_writeThrow_51 (congrArg (wX0 hh cI cZ) (by first | rfl | (simp only [xwrite, ↓reduceIte]; done) | (simp only [xwrite, ↓reduceIte]; rfl)))
set_option maxHeartbeats 4000000 in
set_option maxRecDepth 100000 in
theorem c_X0_beginTrial (l : Launch) (D : va_G) (hh : Nat → Nat) (cI cZ : ClassId) (v : S0) (j : Nat) (hj : j < 8) (hk : xk v ≤ 30) : zM l yX0_beginTrial wsX0_beginTrial 1 23 0 0 [.ref (hh 0), .int (nI j)] [(cI, .int), (cZ, .boolean)] D (wX0 hh cI cZ v) (wX0 hh cI cZ (xbegin v j)) none := by
  refine z_met (cc := cX0_beginTrial) (maxL := 2) (ret := none) (by decide) rfl (Nat.le_of_ble_eq_true rfl) ?_
  intro p e s m args below meth c A C hr hlocks
  have inl : ∀ w ∈ u_ws RX0 TX0 14, w ∈ wsX0_beginTrial := by decide +kernel
  have wd0 : Cond.fieldLink RX0 9 "SaltOrder" "luck" "[I" ∈ wsX0_beginTrial := by decide +kernel
  have wd1 : Cond.fieldLink RX0 13 "SaltOrder" "arrears" "[I" ∈ wsX0_beginTrial := by decide +kernel
  have wd2 : Cond.fieldLink RX0 16 "SaltOrder" "toEat" "[I" ∈ wsX0_beginTrial := by decide +kernel
  have wd3 : Cond.fieldLink RX0 42 "SaltOrder" "today" "I" ∈ wsX0_beginTrial := by decide +kernel
  have wd4 : Cond.fieldLink RX0 225 "SaltOrder" "trialDay" "I" ∈ wsX0_beginTrial := by decide +kernel
  have wd5 : Cond.fieldLink RX0 228 "SaltOrder" "trialDebt" "I" ∈ wsX0_beginTrial := by decide +kernel
  refine z_sub (L' := [(0, .ref (hh 0)), (1, .int (nI j))]) [0, 1] rfl ?_
  refine z_aload_n C 0 dX0_beginTrial_0 rfl rfl ?_
  refine z_get0 (v := .ref (hh 1)) C inl 0 0 (by decide) rfl rfl wd0 dX0_beginTrial_1 ?_
  refine z_bipush (v := 8) C dX0_beginTrial_4 (by decide) ?_
  refine z_aload_n C 0 dX0_beginTrial_6 rfl rfl ?_
  refine z_get0 (v := .ref (hh 1)) C inl 0 0 (by decide) rfl rfl wd0 dX0_beginTrial_7 ?_
  refine z_iload_n C 1 dX0_beginTrial_10 rfl rfl ?_
  refine z_iald (f := xl v) C 1 0 rfl rfl j rfl (by omega) (by decide) dX0_beginTrial_11 ?_
  refine z_iast (ws' := (wX0 hh cI cZ (upd (xl v) 8 ((xl v) j), xa v, xe v, xn v, xw v, xf v, xg v, xx v, xk v, xc v, xd v, xo v, xy v, xb v))) C 1 0 rfl rfl 8 rfl (by omega) (by decide) rfl dX0_beginTrial_12 ?_
  refine z_aload_n C 0 dX0_beginTrial_13 rfl rfl ?_
  refine z_get0 (v := .ref (hh 2)) C inl 0 1 (by decide) rfl rfl wd1 dX0_beginTrial_14 ?_
  refine z_bipush (v := 8) C dX0_beginTrial_17 (by decide) ?_
  refine z_aload_n C 0 dX0_beginTrial_19 rfl rfl ?_
  refine z_get0 (v := .ref (hh 2)) C inl 0 1 (by decide) rfl rfl wd1 dX0_beginTrial_20 ?_
  refine z_iload_n C 1 dX0_beginTrial_23 rfl rfl ?_
  refine z_iald (f := xa v) C 2 0 rfl rfl j rfl (by omega) (by decide) dX0_beginTrial_24 ?_
  refine z_iast (ws' := (wX0 hh cI cZ (upd (xl v) 8 ((xl v) j), upd (xa v) 8 ((xa v) j), xe v, xn v, xw v, xf v, xg v, xx v, xk v, xc v, xd v, xo v, xy v, xb v))) C 2 0 rfl rfl 8 rfl (by omega) (by decide) rfl dX0_beginTrial_25 ?_
  refine z_aload_n C 0 dX0_beginTrial_26 rfl rfl ?_
  refine z_get0 (v := .ref (hh 3)) C inl 0 2 (by decide) rfl rfl wd2 dX0_beginTrial_27 ?_
  refine z_bipush (v := 8) C dX0_beginTrial_30 (by decide) ?_
  refine z_aload_n C 0 dX0_beginTrial_32 rfl rfl ?_
  refine z_get0 (v := .ref (hh 3)) C inl 0 2 (by decide) rfl rfl wd2 dX0_beginTrial_33 ?_
  refine z_iload_n C 1 dX0_beginTrial_36 rfl rfl ?_
  refine z_iald (f := xe v) C 3 0 rfl rfl j rfl (by omega) (by decide) dX0_beginTrial_37 ?_
  refine z_iast (ws' := (wX0 hh cI cZ (upd (xl v) 8 ((xl v) j), upd (xa v) 8 ((xa v) j), upd (xe v) 8 ((xe v) j), xn v, xw v, xf v, xg v, xx v, xk v, xc v, xd v, xo v, xy v, xb v))) C 3 0 rfl rfl 8 rfl (by omega) (by decide) rfl dX0_beginTrial_38 ?_
  refine z_aload_n C 0 dX0_beginTrial_39 rfl rfl ?_
  refine z_aload_n C 0 dX0_beginTrial_40 rfl rfl ?_
  refine z_get0 (v := .int (xd v)) C inl 0 10 (by decide) rfl rfl wd3 dX0_beginTrial_41 ?_
  refine z_put0 (ws' := (wX0 hh cI cZ (upd (xl v) 8 ((xl v) j), upd (xa v) 8 ((xa v) j), upd (xe v) 8 ((xe v) j), xn v, xw v, xf v, xg v, xx v, xk v, xc v, xd v, xo v, xd v, xb v))) C inl 0 12 (by decide) rfl rfl (by decide) rfl wd4 dX0_beginTrial_44 ?_
  refine z_aload_n C 0 dX0_beginTrial_47 rfl rfl ?_
  refine z_aload_n C 0 dX0_beginTrial_48 rfl rfl ?_
  refine z_iload_n C 1 dX0_beginTrial_49 rfl rfl ?_
  refine z_callV (w := (wX0 hh cI cZ (upd (xl v) 8 ((xl v) j), upd (xa v) 8 ((xa v) j), upd (xe v) 8 ((xe v) j), xn v, xw v, xf v, xg v, xx v, xk v, xc v, xd v, xo v, xd v, xb v))) (w' := (wX0 hh cI cZ (upd (xl v) 8 ((xl v) j), upd (xa v) 8 ((xa v) j), upd (xe v) 8 ((xe v) j), xn v, xw v, xf v, xg v, xx v, xk v, xc v, xd v, xo v, xd v, xb v))) (w1 := ([] : va_W)) (w2 := ([] : va_W)) (ws' := (wX0 hh cI cZ (upd (xl v) 8 ((xl v) j), upd (xa v) 8 ((xa v) j), upd (xe v) 8 ((xe v) j), xn v, xw v, xf v, xg v, xx v, xk v, xc v, xd v, xo v, xd v, xb v))) (As := [.int (nI j)]) (rest := [.ref (hh 0)]) (st' := [.int (xdebt (upd (xl v) 8 ((xl v) j), upd (xa v) 8 ((xa v) j), upd (xe v) 8 ((xe v) j), xn v, xw v, xf v, xg v, xx v, xk v, xc v, xd v, xo v, xd v, xb v) (nI j)), .ref (hh 0)]) (rv := some (.int (xdebt (upd (xl v) 8 ((xl v) j), upd (xa v) 8 ((xa v) j), upd (xe v) 8 ((xe v) j), xn v, xw v, xf v, xg v, xx v, xk v, xc v, xd v, xo v, xd v, xb v) (nI j)))) C (c_X0_debtOf l D hh cI cZ (upd (xl v) 8 ((xl v) j), upd (xa v) 8 ((xa v) j), upd (xe v) 8 ((xe v) j), xn v, xw v, xf v, xg v, xx v, xk v, xc v, xd v, xo v, xd v, xb v) (nI j) (by omega)) (cwV 1 C.words gX0_beginTrial_X0_debtOf rfl rfl rfl (by decide +kernel) ⟨(Nat.le_of_ble_eq_true rfl), (Nat.le_of_ble_eq_true rfl)⟩) (q0 := 0) (ci := 0) rfl rfl rfl [0, 1] rfl rfl (Nat.le_of_ble_eq_true rfl) ⟨(Nat.le_of_ble_eq_true rfl), (Nat.le_of_ble_eq_true rfl)⟩ rfl rfl rfl rfl rfl dX0_beginTrial_50 ?_
  refine z_put0 (ws' := (wX0 hh cI cZ (upd (xl v) 8 ((xl v) j), upd (xa v) 8 ((xa v) j), upd (xe v) 8 ((xe v) j), xn v, xw v, xf v, xg v, xx v, xk v, xc v, xd v, xo v, xd v, xdebt (upd (xl v) 8 ((xl v) j), upd (xa v) 8 ((xa v) j), upd (xe v) 8 ((xe v) j), xn v, xw v, xf v, xg v, xx v, xk v, xc v, xd v, xo v, xd v, xb v) (nI j)))) C inl 0 13 (by decide) rfl rfl (by decide) rfl wd5 dX0_beginTrial_53 ?_
  exact z_vret C hr hlocks (Nat.le_of_ble_eq_true rfl) (Nat.le_of_ble_eq_true rfl) dX0_beginTrial_56 (congrArg (wX0 hh cI cZ) (by first | rfl | (simp only [xbegin, ↓reduceIte]; done) | (simp only [xbegin, ↓reduceIte]; rfl)))
set_option maxHeartbeats 4000000 in
set_option maxRecDepth 100000 in
theorem c_X0_beginTrialWithPinch (l : Launch) (D : va_G) (hh : Nat → Nat) (cI cZ : ClassId) (v : S0) (j : Nat) (g : Int32) (hj : j < 8) (hk : xk v ≤ 30) : zM l yX0_beginTrialWithPinch wsX0_beginTrialWithPinch 2 44 0 0 [.ref (hh 0), .int (nI j), .int g] [(cI, .int), (cZ, .boolean)] D (wX0 hh cI cZ v) (wX0 hh cI cZ (xbpin v j g)) none := by
  refine z_met (cc := cX0_beginTrialWithPinch) (maxL := 3) (ret := none) (by decide) rfl (Nat.le_of_ble_eq_true rfl) ?_
  intro p e s m args below meth c A C hr hlocks
  have inl : ∀ w ∈ u_ws RX0 TX0 14, w ∈ wsX0_beginTrialWithPinch := by decide +kernel
  have wd0 : Cond.fieldLink RX0 228 "SaltOrder" "trialDebt" "I" ∈ wsX0_beginTrialWithPinch := by decide +kernel
  refine z_sub (L' := [(0, .ref (hh 0)), (1, .int (nI j)), (2, .int g)]) [0, 1, 2] rfl ?_
  refine z_aload_n C 0 dX0_beginTrialWithPinch_0 rfl rfl ?_
  refine z_iload_n C 1 dX0_beginTrialWithPinch_1 rfl rfl ?_
  obtain ⟨v1, hv1⟩ : ∃ z, z = xbegin v j := ⟨_, rfl⟩
  have hv1k0 : xk v1 = xk v := by rw [hv1]; exact (rfl : xk (xbegin v j) = xk v)
  refine z_callV (w := (wX0 hh cI cZ v)) (w' := (wX0 hh cI cZ v1)) (w1 := ([] : va_W)) (w2 := ([] : va_W)) (ws' := (wX0 hh cI cZ v1)) (As := [.int (nI j)]) (rest := []) (st' := []) (rv := none) C (by rw [hv1]; exact c_X0_beginTrial l D hh cI cZ v j (by omega) (by omega)) (cwV 1 C.words gX0_beginTrialWithPinch_X0_beginTrial rfl rfl rfl (by decide +kernel) ⟨(Nat.le_of_ble_eq_true rfl), (Nat.le_of_ble_eq_true rfl)⟩) (q0 := 0) (ci := 0) rfl rfl rfl [0, 1] rfl rfl (Nat.le_of_ble_eq_true rfl) ⟨(Nat.le_of_ble_eq_true rfl), (Nat.le_of_ble_eq_true rfl)⟩ rfl rfl rfl rfl rfl dX0_beginTrialWithPinch_2 ?_
  refine z_aload_n C 0 dX0_beginTrialWithPinch_5 rfl rfl ?_
  refine z_dup C dX0_beginTrialWithPinch_6 rfl ?_
  refine z_get0 (v := .int (xb v1)) C inl 0 13 (by decide) rfl rfl wd0 dX0_beginTrialWithPinch_7 ?_
  refine z_iconst (v := 2) C dX0_beginTrialWithPinch_10 (by decide) ?_
  refine z_aload_n C 0 dX0_beginTrialWithPinch_11 rfl rfl ?_
  refine z_bipush (v := 8) C dX0_beginTrialWithPinch_12 (by decide) ?_
  refine z_iload_n C 2 dX0_beginTrialWithPinch_14 rfl rfl ?_
  refine z_callV (w := (wX0 hh cI cZ v1)) (w' := (wX0 hh cI cZ v1)) (w1 := ([] : va_W)) (w2 := ([] : va_W)) (ws' := (wX0 hh cI cZ v1)) (As := [.int 8, .int g]) (rest := [.int 2, .int (xb v1), .ref (hh 0)]) (st' := [.int (xlexc v1 8 g), .int 2, .int (xb v1), .ref (hh 0)]) (rv := some (.int (xlexc v1 8 g))) C (c_X0_leftExcess l D hh cI cZ v1 8 g (by omega)) (cwV 2 C.words gX0_beginTrialWithPinch_X0_leftExcess rfl rfl rfl (by decide +kernel) ⟨(Nat.le_of_ble_eq_true rfl), (Nat.le_of_ble_eq_true rfl)⟩) (q0 := 0) (ci := 0) rfl rfl rfl [0, 1] rfl rfl (Nat.le_of_ble_eq_true rfl) ⟨(Nat.le_of_ble_eq_true rfl), (Nat.le_of_ble_eq_true rfl)⟩ rfl rfl rfl rfl rfl dX0_beginTrialWithPinch_15 ?_
  refine z_imul C dX0_beginTrialWithPinch_18 ?_
  refine z_iadd C dX0_beginTrialWithPinch_19 ?_
  refine z_put0 (ws' := (wX0 hh cI cZ (xl v1, xa v1, xe v1, xn v1, xw v1, xf v1, xg v1, xx v1, xk v1, xc v1, xd v1, xo v1, xy v1, (xb v1) + (2 * (xlexc v1 8 g))))) C inl 0 13 (by decide) rfl rfl (by decide) rfl wd0 dX0_beginTrialWithPinch_20 ?_
  refine z_aload_n C 0 dX0_beginTrialWithPinch_23 rfl rfl ?_
  refine z_bipush (v := 8) C dX0_beginTrialWithPinch_24 (by decide) ?_
  refine z_iload_n C 2 dX0_beginTrialWithPinch_26 rfl rfl ?_
  obtain ⟨v2, hv2⟩ : ∃ z, z = xless (xl v1, xa v1, xe v1, xn v1, xw v1, xf v1, xg v1, xx v1, xk v1, xc v1, xd v1, xo v1, xy v1, (xb v1) + (2 * (xlexc v1 8 g))) 8 g := ⟨_, rfl⟩
  have hv2k0 : xn v2 = xn (xl v1, xa v1, xe v1, xn v1, xw v1, xf v1, xg v1, xx v1, xk v1, xc v1, xd v1, xo v1, xy v1, (xb v1) + (2 * (xlexc v1 8 g))) := by rw [hv2]; exact (rfl : xn (xless (xl v1, xa v1, xe v1, xn v1, xw v1, xf v1, xg v1, xx v1, xk v1, xc v1, xd v1, xo v1, xy v1, (xb v1) + (2 * (xlexc v1 8 g))) 8 g) = xn (xl v1, xa v1, xe v1, xn v1, xw v1, xf v1, xg v1, xx v1, xk v1, xc v1, xd v1, xo v1, xy v1, (xb v1) + (2 * (xlexc v1 8 g))))
  have hv2k1 : xk v2 = xk (xl v1, xa v1, xe v1, xn v1, xw v1, xf v1, xg v1, xx v1, xk v1, xc v1, xd v1, xo v1, xy v1, (xb v1) + (2 * (xlexc v1 8 g))) := by rw [hv2]; exact (rfl : xk (xless (xl v1, xa v1, xe v1, xn v1, xw v1, xf v1, xg v1, xx v1, xk v1, xc v1, xd v1, xo v1, xy v1, (xb v1) + (2 * (xlexc v1 8 g))) 8 g) = xk (xl v1, xa v1, xe v1, xn v1, xw v1, xf v1, xg v1, xx v1, xk v1, xc v1, xd v1, xo v1, xy v1, (xb v1) + (2 * (xlexc v1 8 g))))
  have hv2k2 : xc v2 = xc (xl v1, xa v1, xe v1, xn v1, xw v1, xf v1, xg v1, xx v1, xk v1, xc v1, xd v1, xo v1, xy v1, (xb v1) + (2 * (xlexc v1 8 g))) := by rw [hv2]; exact (rfl : xc (xless (xl v1, xa v1, xe v1, xn v1, xw v1, xf v1, xg v1, xx v1, xk v1, xc v1, xd v1, xo v1, xy v1, (xb v1) + (2 * (xlexc v1 8 g))) 8 g) = xc (xl v1, xa v1, xe v1, xn v1, xw v1, xf v1, xg v1, xx v1, xk v1, xc v1, xd v1, xo v1, xy v1, (xb v1) + (2 * (xlexc v1 8 g))))
  refine z_callV (w := (wX0 hh cI cZ (xl v1, xa v1, xe v1, xn v1, xw v1, xf v1, xg v1, xx v1, xk v1, xc v1, xd v1, xo v1, xy v1, (xb v1) + (2 * (xlexc v1 8 g))))) (w' := (wX0 hh cI cZ v2)) (w1 := ([] : va_W)) (w2 := ([] : va_W)) (ws' := (wX0 hh cI cZ v2)) (As := [.int 8, .int g]) (rest := []) (st' := []) (rv := none) C (by rw [hv2]; exact c_X0_lessenArrears l D hh cI cZ (xl v1, xa v1, xe v1, xn v1, xw v1, xf v1, xg v1, xx v1, xk v1, xc v1, xd v1, xo v1, xy v1, (xb v1) + (2 * (xlexc v1 8 g))) 8 g (by omega)) (cwV 2 C.words gX0_beginTrialWithPinch_X0_lessenArrears rfl rfl rfl (by decide +kernel) ⟨(Nat.le_of_ble_eq_true rfl), (Nat.le_of_ble_eq_true rfl)⟩) (q0 := 0) (ci := 0) rfl rfl rfl [0, 1] rfl rfl (Nat.le_of_ble_eq_true rfl) ⟨(Nat.le_of_ble_eq_true rfl), (Nat.le_of_ble_eq_true rfl)⟩ rfl rfl rfl rfl rfl dX0_beginTrialWithPinch_27 ?_
  subst hv2
  subst hv1
  exact z_vret C hr hlocks (Nat.le_of_ble_eq_true rfl) (Nat.le_of_ble_eq_true rfl) dX0_beginTrialWithPinch_30 (congrArg (wX0 hh cI cZ) (by first | rfl | (simp only [xbpin, ↓reduceIte]; done) | (simp only [xbpin, ↓reduceIte]; rfl)))
set_option maxHeartbeats 4000000 in
set_option maxRecDepth 100000 in
theorem c_X0_beginTrialWithPenance (l : Launch) (D : va_G) (hh : Nat → Nat) (cI cZ : ClassId) (v : S0) (j : Nat) (g : Int32) (hj : j < 8) (hk : xk v ≤ 30) : zM l yX0_beginTrialWithPenance wsX0_beginTrialWithPenance 2 44 0 0 [.ref (hh 0), .int (nI j), .int g] [(cI, .int), (cZ, .boolean)] D (wX0 hh cI cZ v) (wX0 hh cI cZ (xbpen v j g)) none := by
  refine z_met (cc := cX0_beginTrialWithPenance) (maxL := 3) (ret := none) (by decide) rfl (Nat.le_of_ble_eq_true rfl) ?_
  intro p e s m args below meth c A C hr hlocks
  have inl : ∀ w ∈ u_ws RX0 TX0 14, w ∈ wsX0_beginTrialWithPenance := by decide +kernel
  refine z_sub (L' := [(0, .ref (hh 0)), (1, .int (nI j)), (2, .int g)]) [0, 1, 2] rfl ?_
  refine z_aload_n C 0 dX0_beginTrialWithPenance_0 rfl rfl ?_
  refine z_iload_n C 1 dX0_beginTrialWithPenance_1 rfl rfl ?_
  obtain ⟨v1, hv1⟩ : ∃ z, z = xbegin v j := ⟨_, rfl⟩
  have hv1k0 : xk v1 = xk v := by rw [hv1]; exact (rfl : xk (xbegin v j) = xk v)
  refine z_callV (w := (wX0 hh cI cZ v)) (w' := (wX0 hh cI cZ v1)) (w1 := ([] : va_W)) (w2 := ([] : va_W)) (ws' := (wX0 hh cI cZ v1)) (As := [.int (nI j)]) (rest := []) (st' := []) (rv := none) C (by rw [hv1]; exact c_X0_beginTrial l D hh cI cZ v j (by omega) (by omega)) (cwV 1 C.words gX0_beginTrialWithPenance_X0_beginTrial rfl rfl rfl (by decide +kernel) ⟨(Nat.le_of_ble_eq_true rfl), (Nat.le_of_ble_eq_true rfl)⟩) (q0 := 0) (ci := 0) rfl rfl rfl [0, 1] rfl rfl (Nat.le_of_ble_eq_true rfl) ⟨(Nat.le_of_ble_eq_true rfl), (Nat.le_of_ble_eq_true rfl)⟩ rfl rfl rfl rfl rfl dX0_beginTrialWithPenance_2 ?_
  refine z_aload_n C 0 dX0_beginTrialWithPenance_5 rfl rfl ?_
  refine z_bipush (v := 8) C dX0_beginTrialWithPenance_6 (by decide) ?_
  refine z_iload_n C 2 dX0_beginTrialWithPenance_8 rfl rfl ?_
  obtain ⟨v2, hv2⟩ : ∃ z, z = xlump v1 8 g := ⟨_, rfl⟩
  have hv2k0 : xn v2 = xn v1 := by rw [hv2]; exact (rfl : xn (xlump v1 8 g) = xn v1)
  have hv2k1 : xk v2 = xk v1 := by rw [hv2]; exact (rfl : xk (xlump v1 8 g) = xk v1)
  refine z_callV (w := (wX0 hh cI cZ v1)) (w' := (wX0 hh cI cZ v2)) (w1 := ([] : va_W)) (w2 := ([] : va_W)) (ws' := (wX0 hh cI cZ v2)) (As := [.int 8, .int g]) (rest := []) (st' := []) (rv := none) C (by rw [hv2]; exact c_X0_addLumps l D hh cI cZ v1 8 g (by omega)) (cwV 2 C.words gX0_beginTrialWithPenance_X0_addLumps rfl rfl rfl (by decide +kernel) ⟨(Nat.le_of_ble_eq_true rfl), (Nat.le_of_ble_eq_true rfl)⟩) (q0 := 0) (ci := 0) rfl rfl rfl [0, 1] rfl rfl (Nat.le_of_ble_eq_true rfl) ⟨(Nat.le_of_ble_eq_true rfl), (Nat.le_of_ble_eq_true rfl)⟩ rfl rfl rfl rfl rfl dX0_beginTrialWithPenance_9 ?_
  subst hv2
  subst hv1
  exact z_vret C hr hlocks (Nat.le_of_ble_eq_true rfl) (Nat.le_of_ble_eq_true rfl) dX0_beginTrialWithPenance_12 (congrArg (wX0 hh cI cZ) (by first | rfl | (simp only [xbpen, ↓reduceIte]; done) | (simp only [xbpen, ↓reduceIte]; rfl)))
set_option maxHeartbeats 4000000 in
set_option maxRecDepth 100000 in
theorem c_X0_passTrialDay (l : Launch) (D : va_G) (hh : Nat → Nat) (cI cZ : ClassId) (v : S0) : zM l yX0_passTrialDay wsX0_passTrialDay 3 58 0 0 [.ref (hh 0)] [(cI, .int), (cZ, .boolean)] D (wX0 hh cI cZ v) (wX0 hh cI cZ (xtd v)) none := by
  refine z_met (cc := cX0_passTrialDay) (maxL := 1) (ret := none) (by decide) rfl (Nat.le_of_ble_eq_true rfl) ?_
  intro p e s m args below meth c A C hr hlocks
  have inl : ∀ w ∈ u_ws RX0 TX0 14, w ∈ wsX0_passTrialDay := by decide +kernel
  have wd0 : Cond.fieldLink RX0 225 "SaltOrder" "trialDay" "I" ∈ wsX0_passTrialDay := by decide +kernel
  have wd1 : Cond.fieldLink RX0 228 "SaltOrder" "trialDebt" "I" ∈ wsX0_passTrialDay := by decide +kernel
  refine z_sub (L' := [(0, .ref (hh 0))]) [0] rfl ?_
  refine z_aload_n C 0 dX0_passTrialDay_0 rfl rfl ?_
  refine z_get0 (v := .int (xy v)) C inl 0 12 (by decide) rfl rfl wd0 dX0_passTrialDay_1 ?_
  refine z_callS (w := ([] : va_W)) (w' := ([] : va_W)) (w1 := (wX0 hh cI cZ v)) (w2 := ([] : va_W)) (ws' := (wX0 hh cI cZ v)) (As := [.int (xy v)]) (rest := []) (st' := [.int (isA (xy v))]) (rv := some (.int (isA (xy v)))) C (c_X0_isAuditDay l D (xy v)) (va_cwS 1 C.words gX0_passTrialDay_X0_isAuditDay rfl rfl rfl (by decide +kernel) ⟨(Nat.le_of_ble_eq_true rfl), (Nat.le_of_ble_eq_true rfl)⟩) [] rfl rfl (Nat.le_of_ble_eq_true rfl) ⟨(Nat.le_of_ble_eq_true rfl), (Nat.le_of_ble_eq_true rfl)⟩ rfl rfl rfl rfl rfl dX0_passTrialDay_4 ?_
  refine z_if_eq (tgt := 25) C dX0_passTrialDay_7 (by decide) (fun c7 => ?_) (fun c7 => ?_)
  · skip
    refine z_aload_n C 0 dX0_passTrialDay_25 rfl rfl ?_
    refine z_bipush (v := 8) C dX0_passTrialDay_26 (by decide) ?_
    obtain ⟨v1, hv1⟩ : ∃ z, z = xeat v 8 := ⟨_, rfl⟩
    have hv1k0 : xn v1 = xn v := by rw [hv1]; exact xeat_n v 8
    have hv1k1 : xk v1 = xk v := by rw [hv1]; exact xeat_k v 8
    refine z_callV (w := (wX0 hh cI cZ v)) (w' := (wX0 hh cI cZ v1)) (w1 := ([] : va_W)) (w2 := ([] : va_W)) (ws' := (wX0 hh cI cZ v1)) (As := [.int 8]) (rest := []) (st' := []) (rv := none) C (by rw [hv1]; exact c_X0_eatOrFeelLuck l D hh cI cZ v 8 (by omega)) (cwV 1 C.words gX0_passTrialDay_X0_eatOrFeelLuck rfl rfl rfl (by decide +kernel) ⟨(Nat.le_of_ble_eq_true rfl), (Nat.le_of_ble_eq_true rfl)⟩) (q0 := 0) (ci := 0) rfl rfl rfl [0, 1] rfl rfl (Nat.le_of_ble_eq_true rfl) ⟨(Nat.le_of_ble_eq_true rfl), (Nat.le_of_ble_eq_true rfl)⟩ rfl rfl rfl rfl rfl dX0_passTrialDay_28 ?_
    refine z_aload_n C 0 dX0_passTrialDay_31 rfl rfl ?_
    refine z_dup C dX0_passTrialDay_32 rfl ?_
    refine z_get0 (v := .int (xy v1)) C inl 0 12 (by decide) rfl rfl wd0 dX0_passTrialDay_33 ?_
    refine z_iconst (v := 1) C dX0_passTrialDay_36 (by decide) ?_
    refine z_iadd C dX0_passTrialDay_37 ?_
    refine z_put0 (ws' := (wX0 hh cI cZ (xl v1, xa v1, xe v1, xn v1, xw v1, xf v1, xg v1, xx v1, xk v1, xc v1, xd v1, xo v1, (xy v1) + 1, xb v1))) C inl 0 12 (by decide) rfl rfl (by decide) rfl wd0 dX0_passTrialDay_38 ?_
    subst hv1
    exact z_vret C hr hlocks (Nat.le_of_ble_eq_true rfl) (Nat.le_of_ble_eq_true rfl) dX0_passTrialDay_41 (congrArg (wX0 hh cI cZ) (by first | rfl | (simp only [xtd, xtd1, c7, ↓reduceIte]; done) | (simp only [xtd, xtd1, c7, ↓reduceIte]; rfl)))
  · skip
    refine z_aload_n C 0 dX0_passTrialDay_10 rfl rfl ?_
    refine z_bipush (v := 8) C dX0_passTrialDay_11 (by decide) ?_
    refine z_aload_n C 0 dX0_passTrialDay_13 rfl rfl ?_
    refine z_get0 (v := .int (xb v)) C inl 0 13 (by decide) rfl rfl wd1 dX0_passTrialDay_14 ?_
    obtain ⟨v2, hv2⟩ : ∃ z, z = xadd v 8 (xb v) := ⟨_, rfl⟩
    have hv2k0 : xn v2 = xn v := by rw [hv2]; exact (rfl : xn (xadd v 8 (xb v)) = xn v)
    have hv2k1 : xk v2 = xk v := by rw [hv2]; exact (rfl : xk (xadd v 8 (xb v)) = xk v)
    refine z_callV (w := (wX0 hh cI cZ v)) (w' := (wX0 hh cI cZ v2)) (w1 := ([] : va_W)) (w2 := ([] : va_W)) (ws' := (wX0 hh cI cZ v2)) (As := [.int 8, .int (xb v)]) (rest := []) (st' := []) (rv := none) C (by rw [hv2]; exact c_X0_addArrears l D hh cI cZ v 8 (xb v) (by omega)) (cwV 2 C.words gX0_passTrialDay_X0_addArrears rfl rfl rfl (by decide +kernel) ⟨(Nat.le_of_ble_eq_true rfl), (Nat.le_of_ble_eq_true rfl)⟩) (q0 := 0) (ci := 0) rfl rfl rfl [0, 1] rfl rfl (Nat.le_of_ble_eq_true rfl) ⟨(Nat.le_of_ble_eq_true rfl), (Nat.le_of_ble_eq_true rfl)⟩ rfl rfl rfl rfl rfl dX0_passTrialDay_17 ?_
    refine z_aload_n C 0 dX0_passTrialDay_20 rfl rfl ?_
    refine z_iconst (v := 0) C dX0_passTrialDay_21 (by decide) ?_
    refine z_put0 (ws' := (wX0 hh cI cZ (xl v2, xa v2, xe v2, xn v2, xw v2, xf v2, xg v2, xx v2, xk v2, xc v2, xd v2, xo v2, xy v2, 0))) C inl 0 13 (by decide) rfl rfl (by decide) rfl wd1 dX0_passTrialDay_22 ?_
    refine z_aload_n C 0 dX0_passTrialDay_25 rfl rfl ?_
    refine z_bipush (v := 8) C dX0_passTrialDay_26 (by decide) ?_
    obtain ⟨v3, hv3⟩ : ∃ z, z = xeat (xl v2, xa v2, xe v2, xn v2, xw v2, xf v2, xg v2, xx v2, xk v2, xc v2, xd v2, xo v2, xy v2, 0) 8 := ⟨_, rfl⟩
    have hv3k0 : xn v3 = xn (xl v2, xa v2, xe v2, xn v2, xw v2, xf v2, xg v2, xx v2, xk v2, xc v2, xd v2, xo v2, xy v2, 0) := by rw [hv3]; exact xeat_n (xl v2, xa v2, xe v2, xn v2, xw v2, xf v2, xg v2, xx v2, xk v2, xc v2, xd v2, xo v2, xy v2, 0) 8
    have hv3k1 : xk v3 = xk (xl v2, xa v2, xe v2, xn v2, xw v2, xf v2, xg v2, xx v2, xk v2, xc v2, xd v2, xo v2, xy v2, 0) := by rw [hv3]; exact xeat_k (xl v2, xa v2, xe v2, xn v2, xw v2, xf v2, xg v2, xx v2, xk v2, xc v2, xd v2, xo v2, xy v2, 0) 8
    refine z_callV (w := (wX0 hh cI cZ (xl v2, xa v2, xe v2, xn v2, xw v2, xf v2, xg v2, xx v2, xk v2, xc v2, xd v2, xo v2, xy v2, 0))) (w' := (wX0 hh cI cZ v3)) (w1 := ([] : va_W)) (w2 := ([] : va_W)) (ws' := (wX0 hh cI cZ v3)) (As := [.int 8]) (rest := []) (st' := []) (rv := none) C (by rw [hv3]; exact c_X0_eatOrFeelLuck l D hh cI cZ (xl v2, xa v2, xe v2, xn v2, xw v2, xf v2, xg v2, xx v2, xk v2, xc v2, xd v2, xo v2, xy v2, 0) 8 (by omega)) (cwV 1 C.words gX0_passTrialDay_X0_eatOrFeelLuck rfl rfl rfl (by decide +kernel) ⟨(Nat.le_of_ble_eq_true rfl), (Nat.le_of_ble_eq_true rfl)⟩) (q0 := 0) (ci := 0) rfl rfl rfl [0, 1] rfl rfl (Nat.le_of_ble_eq_true rfl) ⟨(Nat.le_of_ble_eq_true rfl), (Nat.le_of_ble_eq_true rfl)⟩ rfl rfl rfl rfl rfl dX0_passTrialDay_28 ?_
    refine z_aload_n C 0 dX0_passTrialDay_31 rfl rfl ?_
    refine z_dup C dX0_passTrialDay_32 rfl ?_
    refine z_get0 (v := .int (xy v3)) C inl 0 12 (by decide) rfl rfl wd0 dX0_passTrialDay_33 ?_
    refine z_iconst (v := 1) C dX0_passTrialDay_36 (by decide) ?_
    refine z_iadd C dX0_passTrialDay_37 ?_
    refine z_put0 (ws' := (wX0 hh cI cZ (xl v3, xa v3, xe v3, xn v3, xw v3, xf v3, xg v3, xx v3, xk v3, xc v3, xd v3, xo v3, (xy v3) + 1, xb v3))) C inl 0 12 (by decide) rfl rfl (by decide) rfl wd0 dX0_passTrialDay_38 ?_
    subst hv3
    subst hv2
    exact z_vret C hr hlocks (Nat.le_of_ble_eq_true rfl) (Nat.le_of_ble_eq_true rfl) dX0_passTrialDay_41 (congrArg (wX0 hh cI cZ) (by first | rfl | (simp only [xtd, xtd1, c7, ↓reduceIte]; done) | (simp only [xtd, xtd1, c7, ↓reduceIte]; rfl)))
set_option maxHeartbeats 4000000 in
set_option maxRecDepth 100000 in
theorem c_X0_trialLuckBehind (l : Launch) (D : va_G) (hh : Nat → Nat) (cI cZ : ClassId) (v : S0) (d : Nat) (hd : d ≤ 60) : zM l yX0_trialLuckBehind wsX0_trialLuckBehind 4 78 0 0 [.ref (hh 0), .int (nI d)] [(cI, .int), (cZ, .boolean)] D (wX0 hh cI cZ v) (wX0 hh cI cZ (xtdN v d)) (some (.int (xl (xtdN v d) 8))) := by
  refine z_met (cc := cX0_trialLuckBehind) (maxL := 3) (ret := (some .int)) (by decide) rfl (Nat.le_of_ble_eq_true rfl) ?_
  intro p e s m args below meth c A C hr hlocks
  have inl : ∀ w ∈ u_ws RX0 TX0 14, w ∈ wsX0_trialLuckBehind := by decide +kernel
  have wd0 : Cond.fieldLink RX0 9 "SaltOrder" "luck" "[I" ∈ wsX0_trialLuckBehind := by decide +kernel
  refine z_sub (L' := [(0, .ref (hh 0)), (1, .int (nI d))]) [0, 1] rfl ?_
  have lp2 : ∀ (dd i : Nat), i + dd = d → zG p l e ({ frames := 4, cells := 0, slots := 0, locals := 78 } : Room) s m args below meth c D 3 A 0 0 (MQ below (zQ (some (.int (xl (xtdN v d) 8))) (fun t => va_P D vwCl (wX0 hh cI cZ (xtdN v d)) t.heap) A) args s 0 0 A) 2 [(0, .ref (hh 0)), (1, .int (nI d)), (2, .int (nI i))] [] (wX0 hh cI cZ (xtdN v i)) := by
    intro dd
    induction dd with
    | zero =>
      intro i hi
      obtain rfl : i = d := by omega
      refine z_iload_n C 2 dX0_trialLuckBehind_2 rfl rfl ?_
      refine z_iload_n C 1 dX0_trialLuckBehind_3 rfl rfl ?_
      refine z_icmp_ge (tgt := 17) C dX0_trialLuckBehind_4 (by decide) (fun _ => ?_) (fun h9 => absurd (nI_le (by omega) (by omega)) h9)
      refine z_aload_n C 0 dX0_trialLuckBehind_17 rfl rfl ?_
      refine z_get0 (v := .ref (hh 1)) C inl 0 0 (by decide) rfl rfl wd0 dX0_trialLuckBehind_18 ?_
      refine z_bipush (v := 8) C dX0_trialLuckBehind_21 (by decide) ?_
      refine z_iald (f := xl (xtdN v d)) C 1 0 rfl rfl 8 rfl (by omega) (by decide) dX0_trialLuckBehind_23 ?_
      exact z_iret C hr hlocks (Nat.le_of_ble_eq_true rfl) (Nat.le_of_ble_eq_true rfl) dX0_trialLuckBehind_24 (by rfl) rfl
    | succ dd ih =>
      intro i hi
      refine z_iload_n C 2 dX0_trialLuckBehind_2 rfl rfl ?_
      refine z_iload_n C 1 dX0_trialLuckBehind_3 rfl rfl ?_
      refine z_icmp_ge (tgt := 17) C dX0_trialLuckBehind_4 (by decide) (fun h9 => absurd h9 (nI_ge (by omega) (by omega))) (fun _ => ?_)
      refine z_aload_n C 0 dX0_trialLuckBehind_7 rfl rfl ?_
      obtain ⟨v1, hv1⟩ : ∃ z, z = xtd (xtdN v i) := ⟨_, rfl⟩
      refine z_callV (w := (wX0 hh cI cZ (xtdN v i))) (w' := (wX0 hh cI cZ v1)) (w1 := ([] : va_W)) (w2 := ([] : va_W)) (ws' := (wX0 hh cI cZ v1)) (As := []) (rest := []) (st' := []) (rv := none) C (by rw [hv1]; exact c_X0_passTrialDay l D hh cI cZ (xtdN v i)) (cwV 0 C.words gX0_trialLuckBehind_X0_passTrialDay rfl rfl rfl (by decide +kernel) ⟨(Nat.le_of_ble_eq_true rfl), (Nat.le_of_ble_eq_true rfl)⟩) (q0 := 0) (ci := 0) rfl rfl rfl [0, 1] rfl rfl (Nat.le_of_ble_eq_true rfl) ⟨(Nat.le_of_ble_eq_true rfl), (Nat.le_of_ble_eq_true rfl)⟩ rfl rfl rfl rfl rfl dX0_trialLuckBehind_8 ?_
      refine z_iinc (v := nI (i + 1)) (L' := [(2, .int (nI (i + 1))), (0, .ref (hh 0)), (1, .int (nI d))]) C 2 dX0_trialLuckBehind_11 rfl (z_inc _) (by decide) rfl ?_
      refine z_goto (tgt := 2) C dX0_trialLuckBehind_14 (by decide) ?_
      refine z_sub (L' := [(0, .ref (hh 0)), (1, .int (nI d)), (2, .int (nI (i + 1)))]) [1, 2, 0] rfl ?_
      subst hv1
      exact ih (i + 1) (by omega)
  refine z_iconst (v := 0) C dX0_trialLuckBehind_0 (by decide) ?_
  refine z_istore_n (L' := [(2, .int 0), (0, .ref (hh 0)), (1, .int (nI d))]) C dX0_trialLuckBehind_1 rfl (by decide) rfl ?_
  refine z_sub (L' := [(0, .ref (hh 0)), (1, .int (nI d)), (2, .int 0)]) [1, 2, 0] rfl ?_
  exact lp2 d 0 (by omega)
end
