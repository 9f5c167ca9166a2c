theorem fa_nlt {a b : Int32} (h : b ≤ a) : ¬ a < b := by
  rw [Int32.lt_iff_toInt_lt]
  rw [Int32.le_iff_toInt_le] at h
  omega
set_option maxHeartbeats 4000000 in
set_option maxRecDepth 100000 in
theorem c_X0_checkMember_bad (l : Launch) (hst : l.stackTraces = false) (D : va_G) (hh : Nat → Nat) (cI cZ : ClassId) (v : S0) (x : Int32) (hm : x < 0 ∨ nI (xn v) ≤ x) : zX l yX0_checkMember wsX0_checkMember 6 82 [.ref (hh 0), .int x] [(cI, .int), (cZ, .boolean)] D (wX0 hh cI cZ v) zI := by
  refine z_xmet (cc := cX0_checkMember) (maxL := 2) (ret := none) (by decide) rfl (Nat.le_of_ble_eq_true rfl) ?_
  intro p e s m args below meth c A C hT hlocks hout
  have inl : ∀ w ∈ u_ws RX0 TX0 14, w ∈ wsX0_checkMember := by decide +kernel
  have wd0 : Cond.fieldLink RX0 32 "SaltOrder" "memberCount" "I" ∈ wsX0_checkMember := by decide +kernel
  refine z_sub (L' := [(0, .ref (hh 0)), (1, .int x)]) [0, 1] rfl ?_
  refine z_iload_n C 1 dX0_checkMember_0 rfl rfl ?_
  refine z_if_lt (tgt := 12) C dX0_checkMember_1 (by decide) (fun c1 => ?_) (fun c1 => ?_)
  · skip
    exact z_throw (E := zI) (text := "no such member") C hT hst (by decide +kernel) (by decide +kernel) zw_I dX0_checkMember_12 dX0_checkMember_15 dX0_checkMember_16 dX0_checkMember_18 dX0_checkMember_21 hout hlocks (Nat.le_of_ble_eq_true rfl) (Nat.le_of_ble_eq_true rfl) (Nat.le_of_ble_eq_true rfl) (Nat.le_of_ble_eq_true rfl) (Nat.le_of_ble_eq_true rfl) (Nat.le_of_ble_eq_true rfl)
  · skip
    refine z_iload_n C 1 dX0_checkMember_4 rfl rfl ?_
    refine z_aload_n C 0 dX0_checkMember_5 rfl rfl ?_
    refine z_get0 (v := .int (nI (xn v))) C inl 0 3 (by decide) rfl rfl wd0 dX0_checkMember_6 ?_
    refine z_icmp_lt (tgt := 22) C dX0_checkMember_9 (by decide) (fun h9 => absurd h9 ((fa_nlt (hm.resolve_left c1)))) (fun _ => ?_)
    exact z_throw (E := zI) (text := "no such member") C hT hst (by decide +kernel) (by decide +kernel) zw_I dX0_checkMember_12 dX0_checkMember_15 dX0_checkMember_16 dX0_checkMember_18 dX0_checkMember_21 hout hlocks (Nat.le_of_ble_eq_true rfl) (Nat.le_of_ble_eq_true rfl) (Nat.le_of_ble_eq_true rfl) (Nat.le_of_ble_eq_true rfl) (Nat.le_of_ble_eq_true rfl) (Nat.le_of_ble_eq_true rfl)
set_option maxHeartbeats 4000000 in
set_option maxRecDepth 100000 in
theorem c_X0_checkEntry_bad (l : Launch) (hst : l.stackTraces = false) (D : va_G) (hh : Nat → Nat) (cI cZ : ClassId) (v : S0) (x : Int32) (hm : x < 0 ∨ nI (xk v) ≤ x) : zX l yX0_checkEntry wsX0_checkEntry 6 82 [.ref (hh 0), .int x] [(cI, .int), (cZ, .boolean)] D (wX0 hh cI cZ v) zI := by
  refine z_xmet (cc := cX0_checkEntry) (maxL := 2) (ret := none) (by decide) rfl (Nat.le_of_ble_eq_true rfl) ?_
  intro p e s m args below meth c A C hT hlocks hout
  have inl : ∀ w ∈ u_ws RX0 TX0 14, w ∈ wsX0_checkEntry := by decide +kernel
  have wd0 : Cond.fieldLink RX0 36 "SaltOrder" "throwCount" "I" ∈ wsX0_checkEntry := by decide +kernel
  refine z_sub (L' := [(0, .ref (hh 0)), (1, .int x)]) [0, 1] rfl ?_
  refine z_iload_n C 1 dX0_checkEntry_0 rfl rfl ?_
  refine z_if_lt (tgt := 12) C dX0_checkEntry_1 (by decide) (fun c1 => ?_) (fun c1 => ?_)
  · skip
    exact z_throw (E := zI) (text := "no such throw") C hT hst (by decide +kernel) (by decide +kernel) zw_I dX0_checkEntry_12 dX0_checkEntry_15 dX0_checkEntry_16 dX0_checkEntry_18 dX0_checkEntry_21 hout hlocks (Nat.le_of_ble_eq_true rfl) (Nat.le_of_ble_eq_true rfl) (Nat.le_of_ble_eq_true rfl) (Nat.le_of_ble_eq_true rfl) (Nat.le_of_ble_eq_true rfl) (Nat.le_of_ble_eq_true rfl)
  · skip
    refine z_iload_n C 1 dX0_checkEntry_4 rfl rfl ?_
    refine z_aload_n C 0 dX0_checkEntry_5 rfl rfl ?_
    refine z_get0 (v := .int (nI (xk v))) C inl 0 8 (by decide) rfl rfl wd0 dX0_checkEntry_6 ?_
    refine z_icmp_lt (tgt := 22) C dX0_checkEntry_9 (by decide) (fun h9 => absurd h9 ((fa_nlt (hm.resolve_left c1)))) (fun _ => ?_)
    exact z_throw (E := zI) (text := "no such throw") C hT hst (by decide +kernel) (by decide +kernel) zw_I dX0_checkEntry_12 dX0_checkEntry_15 dX0_checkEntry_16 dX0_checkEntry_18 dX0_checkEntry_21 hout hlocks (Nat.le_of_ble_eq_true rfl) (Nat.le_of_ble_eq_true rfl) (Nat.le_of_ble_eq_true rfl) (Nat.le_of_ble_eq_true rfl) (Nat.le_of_ble_eq_true rfl) (Nat.le_of_ble_eq_true rfl)
set_option maxHeartbeats 4000000 in
set_option maxRecDepth 100000 in
theorem c_X0_checkShoulder_bad (l : Launch) (hst : l.stackTraces = false) (D : va_G) (b : Int32) (hb : ¬ (b = 0 ∨ b = 1)) : zX l yX0_checkShoulder wsX0_checkShoulder 6 82 [.int b] [] D ([] : va_W) zI := by
  refine z_xmet (cc := cX0_checkShoulder) (maxL := 1) (ret := none) (by decide) rfl (Nat.le_of_ble_eq_true rfl) ?_
  intro p e s m args below meth c A C hT hlocks hout
  refine z_sub (L' := [(0, .int b)]) [0] rfl ?_
  refine z_iload_n C 0 dX0_checkShoulder_0 rfl rfl ?_
  refine z_if_eq (tgt := 19) C dX0_checkShoulder_1 (by decide) (fun h9 => absurd h9 ((fun h => hb (Or.inl h)))) (fun _ => ?_)
  refine z_iload_n C 0 dX0_checkShoulder_4 rfl rfl ?_
  refine z_iconst (v := 1) C dX0_checkShoulder_5 (by decide) ?_
  refine z_icmp_eq (tgt := 19) C dX0_checkShoulder_6 (by decide) (fun h9 => absurd h9 ((fun h => hb (Or.inr h)))) (fun _ => ?_)
  exact z_throw (E := zI) (text := "no such shoulder") C hT hst (by decide +kernel) (by decide +kernel) zw_I dX0_checkShoulder_9 dX0_checkShoulder_12 dX0_checkShoulder_13 dX0_checkShoulder_15 dX0_checkShoulder_18 hout hlocks (Nat.le_of_ble_eq_true rfl) (Nat.le_of_ble_eq_true rfl) (Nat.le_of_ble_eq_true rfl) (Nat.le_of_ble_eq_true rfl) (Nat.le_of_ble_eq_true rfl) (Nat.le_of_ble_eq_true rfl)
set_option maxHeartbeats 4000000 in
set_option maxRecDepth 100000 in
theorem c_X0_checkAmount_bad (l : Launch) (hst : l.stackTraces = false) (D : va_G) (x mo : Int32) (hb : x < 1 ∨ ¬ x ≤ mo) : zX l yX0_checkAmount wsX0_checkAmount 6 82 [.int x, .int mo] [] D ([] : va_W) zA := by
  refine z_xmet (cc := cX0_checkAmount) (maxL := 2) (ret := none) (by decide) rfl (Nat.le_of_ble_eq_true rfl) ?_
  intro p e s m args below meth c A C hT hlocks hout
  refine z_sub (L' := [(0, .int x), (1, .int mo)]) [0, 1] rfl ?_
  refine z_iload_n C 0 dX0_checkAmount_0 rfl rfl ?_
  refine z_iconst (v := 1) C dX0_checkAmount_1 (by decide) ?_
  refine z_icmp_lt (tgt := 10) C dX0_checkAmount_2 (by decide) (fun c2 => ?_) (fun c2 => ?_)
  · skip
    exact z_throw (E := zA) (text := "too few or too many") C hT hst (by decide +kernel) (by decide +kernel) zw_A dX0_checkAmount_10 dX0_checkAmount_13 dX0_checkAmount_14 dX0_checkAmount_16 dX0_checkAmount_19 hout hlocks (Nat.le_of_ble_eq_true rfl) (Nat.le_of_ble_eq_true rfl) (Nat.le_of_ble_eq_true rfl) (Nat.le_of_ble_eq_true rfl) (Nat.le_of_ble_eq_true rfl) (Nat.le_of_ble_eq_true rfl)
  · skip
    refine z_iload_n C 0 dX0_checkAmount_5 rfl rfl ?_
    refine z_iload_n C 1 dX0_checkAmount_6 rfl rfl ?_
    refine z_icmp_le (tgt := 20) C dX0_checkAmount_7 (by decide) (fun h9 => absurd h9 ((hb.resolve_left c2))) (fun _ => ?_)
    exact z_throw (E := zA) (text := "too few or too many") C hT hst (by decide +kernel) (by decide +kernel) zw_A dX0_checkAmount_10 dX0_checkAmount_13 dX0_checkAmount_14 dX0_checkAmount_16 dX0_checkAmount_19 hout hlocks (Nat.le_of_ble_eq_true rfl) (Nat.le_of_ble_eq_true rfl) (Nat.le_of_ble_eq_true rfl) (Nat.le_of_ble_eq_true rfl) (Nat.le_of_ble_eq_true rfl) (Nat.le_of_ble_eq_true rfl)
set_option maxHeartbeats 4000000 in
set_option maxRecDepth 100000 in
theorem c_X0_checkCellar_bad (l : Launch) (hst : l.stackTraces = false) (D : va_G) (hh : Nat → Nat) (cI cZ : ClassId) (v : S0) (g : Int32) (hg : ¬ g ≤ nI (xc v)) : zX l yX0_checkCellar wsX0_checkCellar 6 82 [.ref (hh 0), .int g] [(cI, .int), (cZ, .boolean)] D (wX0 hh cI cZ v) zS := by
  refine z_xmet (cc := cX0_checkCellar) (maxL := 2) (ret := none) (by decide) rfl (Nat.le_of_ble_eq_true rfl) ?_
  intro p e s m args below meth c A C hT hlocks hout
  have inl : ∀ w ∈ u_ws RX0 TX0 14, w ∈ wsX0_checkCellar := by decide +kernel
  have wd0 : Cond.fieldLink RX0 39 "SaltOrder" "cellar" "I" ∈ wsX0_checkCellar := by decide +kernel
  refine z_sub (L' := [(0, .ref (hh 0)), (1, .int g)]) [0, 1] rfl ?_
  refine z_aload_n C 0 dX0_checkCellar_0 rfl rfl ?_
  refine z_get0 (v := .int (nI (xc v))) C inl 0 9 (by decide) rfl rfl wd0 dX0_checkCellar_1 ?_
  refine z_iload_n C 1 dX0_checkCellar_4 rfl rfl ?_
  refine z_icmp_ge (tgt := 18) C dX0_checkCellar_5 (by decide) (fun h9 => absurd h9 (hg)) (fun _ => ?_)
  exact z_throw (E := zS) (text := "the cellar has less salt") C hT hst (by decide +kernel) (by decide +kernel) zw_S dX0_checkCellar_8 dX0_checkCellar_11 dX0_checkCellar_12 dX0_checkCellar_14 dX0_checkCellar_17 hout hlocks (Nat.le_of_ble_eq_true rfl) (Nat.le_of_ble_eq_true rfl) (Nat.le_of_ble_eq_true rfl) (Nat.le_of_ble_eq_true rfl) (Nat.le_of_ble_eq_true rfl) (Nat.le_of_ble_eq_true rfl)
set_option maxHeartbeats 4000000 in
set_option maxRecDepth 100000 in
theorem c_X0_checkLedgerHasRoom_bad (l : Launch) (hst : l.stackTraces = false) (D : va_G) (hh : Nat → Nat) (cI cZ : ClassId) (v : S0) (hk : ¬ nI (xk v) < 30) : zX l yX0_checkLedgerHasRoom wsX0_checkLedgerHasRoom 6 82 [.ref (hh 0)] [(cI, .int), (cZ, .boolean)] D (wX0 hh cI cZ v) zS := by
  refine z_xmet (cc := cX0_checkLedgerHasRoom) (maxL := 1) (ret := none) (by decide) rfl (Nat.le_of_ble_eq_true rfl) ?_
  intro p e s m args below meth c A C hT hlocks hout
  have inl : ∀ w ∈ u_ws RX0 TX0 14, w ∈ wsX0_checkLedgerHasRoom := by decide +kernel
  have wd0 : Cond.fieldLink RX0 36 "SaltOrder" "throwCount" "I" ∈ wsX0_checkLedgerHasRoom := by decide +kernel
  refine z_sub (L' := [(0, .ref (hh 0))]) [0] rfl ?_
  refine z_aload_n C 0 dX0_checkLedgerHasRoom_0 rfl rfl ?_
  refine z_get0 (v := .int (nI (xk v))) C inl 0 8 (by decide) rfl rfl wd0 dX0_checkLedgerHasRoom_1 ?_
  refine z_bipush (v := 30) C dX0_checkLedgerHasRoom_4 (by decide) ?_
  refine z_icmp_lt (tgt := 19) C dX0_checkLedgerHasRoom_6 (by decide) (fun h9 => absurd h9 (hk)) (fun _ => ?_)
  exact z_throw (E := zS) (text := "the ledger is full") C hT hst (by decide +kernel) (by decide +kernel) zw_S dX0_checkLedgerHasRoom_9 dX0_checkLedgerHasRoom_12 dX0_checkLedgerHasRoom_13 dX0_checkLedgerHasRoom_15 dX0_checkLedgerHasRoom_18 hout hlocks (Nat.le_of_ble_eq_true rfl) (Nat.le_of_ble_eq_true rfl) (Nat.le_of_ble_eq_true rfl) (Nat.le_of_ble_eq_true rfl) (Nat.le_of_ble_eq_true rfl) (Nat.le_of_ble_eq_true rfl)
set_option maxHeartbeats 4000000 in
set_option maxRecDepth 100000 in
theorem c_X0_join_bad (l : Launch) (hst : l.stackTraces = false) (D : va_G) (hh : Nat → Nat) (cI cZ : ClassId) (v : S0) (hk : ¬ nI (xn v) < 8) : zX l yX0_join wsX0_join 6 82 [.ref (hh 0)] [(cI, .int), (cZ, .boolean)] D (wX0 hh cI cZ v) zS := by
  refine z_xmet (cc := cX0_join) (maxL := 2) (ret := (some .int)) (by decide) rfl (Nat.le_of_ble_eq_true rfl) ?_
  intro p e s m args below meth c A C hT hlocks hout
  have inl : ∀ w ∈ u_ws RX0 TX0 14, w ∈ wsX0_join := by decide +kernel
  have wd0 : Cond.fieldLink RX0 32 "SaltOrder" "memberCount" "I" ∈ wsX0_join := by decide +kernel
  refine z_sub (L' := [(0, .ref (hh 0))]) [0] rfl ?_
  refine z_aload_n C 0 dX0_join_0 rfl rfl ?_
  refine z_get0 (v := .int (nI (xn v))) C inl 0 3 (by decide) rfl rfl wd0 dX0_join_1 ?_
  refine z_bipush (v := 8) C dX0_join_4 (by decide) ?_
  refine z_icmp_lt (tgt := 19) C dX0_join_6 (by decide) (fun h9 => absurd h9 (hk)) (fun _ => ?_)
  exact z_throw (E := zS) (text := "the order is full") C hT hst (by decide +kernel) (by decide +kernel) zw_S dX0_join_9 dX0_join_12 dX0_join_13 dX0_join_15 dX0_join_18 hout hlocks (Nat.le_of_ble_eq_true rfl) (Nat.le_of_ble_eq_true rfl) (Nat.le_of_ble_eq_true rfl) (Nat.le_of_ble_eq_true rfl) (Nat.le_of_ble_eq_true rfl) (Nat.le_of_ble_eq_true rfl)
set_option maxHeartbeats 4000000 in
set_option maxRecDepth 100000 in
theorem c_X0_spill_b1 (l : Launch) (hst : l.stackTraces = false) (D : va_G) (hh : Nat → Nat) (cI cZ : ClassId) (v : S0) (x g : Int32) (hm : x < 0 ∨ nI (xn v) ≤ x) : zX l yX0_spill wsX0_spill 7 103 [.ref (hh 0), .int x, .int g] [(cI, .int), (cZ, .boolean)] D (wX0 hh cI cZ v) zI := by
  refine z_xmet (cc := cX0_spill) (maxL := 3) (ret := (some .int)) (by decide) rfl (Nat.le_of_ble_eq_true rfl) ?_
  intro p e s m args below meth c A C hT hlocks hout
  have inl : ∀ w ∈ u_ws RX0 TX0 14, w ∈ wsX0_spill := by decide +kernel
  refine z_sub (L' := [(0, .ref (hh 0)), (1, .int x), (2, .int g)]) [0, 1, 2] rfl ?_
  refine z_aload_n C 0 dX0_spill_0 rfl rfl ?_
  refine z_iload_n C 1 dX0_spill_1 rfl rfl ?_
  exact z_xcallV (w := (wX0 hh cI cZ v)) (w1 := ([] : va_W)) (w2 := ([] : va_W)) (As := [.int x]) (rest := []) C hT (c_X0_checkMember_bad l hst D hh cI cZ v x hm) (cwV 1 C.words gX0_spill_X0_checkMember rfl rfl rfl (by decide +kernel) ⟨(Nat.le_of_ble_eq_true rfl), (Nat.le_of_ble_eq_true rfl)⟩) (q0 := 0) (ci := 0) rfl rfl rfl [0, 1] rfl rfl (Nat.le_of_ble_eq_true rfl) ⟨(Nat.le_of_ble_eq_true rfl), (Nat.le_of_ble_eq_true rfl)⟩ rfl rfl hout hlocks (Nat.le_of_ble_eq_true rfl) (Nat.le_of_ble_eq_true rfl) dX0_spill_2
set_option maxHeartbeats 4000000 in
set_option maxRecDepth 100000 in
theorem c_X0_spill_b2 (l : Launch) (hst : l.stackTraces = false) (D : va_G) (hh : Nat → Nat) (cI cZ : ClassId) (v : S0) (j : Nat) (g : Int32) (hj : j < xn v) (hn : xn v ≤ 8) (hg : g < 1 ∨ ¬ g ≤ 30) : zX l yX0_spill wsX0_spill 7 103 [.ref (hh 0), .int (nI j), .int g] [(cI, .int), (cZ, .boolean)] D (wX0 hh cI cZ v) zA := by
  refine z_xmet (cc := cX0_spill) (maxL := 3) (ret := (some .int)) (by decide) rfl (Nat.le_of_ble_eq_true rfl) ?_
  intro p e s m args below meth c A C hT hlocks hout
  have inl : ∀ w ∈ u_ws RX0 TX0 14, w ∈ wsX0_spill := by decide +kernel
  refine z_sub (L' := [(0, .ref (hh 0)), (1, .int (nI j)), (2, .int g)]) [0, 1, 2] rfl ?_
  refine z_aload_n C 0 dX0_spill_0 rfl rfl ?_
  refine z_iload_n C 1 dX0_spill_1 rfl rfl ?_
  refine z_callV (w := (wX0 hh cI cZ v)) (w' := (wX0 hh cI cZ v)) (w1 := ([] : va_W)) (w2 := ([] : va_W)) (ws' := (wX0 hh cI cZ v)) (As := [.int (nI j)]) (rest := []) (st' := []) (rv := none) C (c_X0_checkMember l D hh cI cZ v j (by omega) (by omega)) (cwV 1 C.words gX0_spill_X0_checkMember rfl rfl rfl (by decide +kernel) ⟨(Nat.le_of_ble_eq_true rfl), (Nat.le_of_ble_eq_true rfl)⟩) (q0 := 0) (ci := 0) rfl rfl rfl [0, 1] rfl rfl (Nat.le_of_ble_eq_true rfl) ⟨(Nat.le_of_ble_eq_true rfl), (Nat.le_of_ble_eq_true rfl)⟩ rfl rfl rfl rfl rfl dX0_spill_2 ?_
  refine z_iload_n C 2 dX0_spill_5 rfl rfl ?_
  refine z_bipush (v := 30) C dX0_spill_6 (by decide) ?_
  exact z_xcallS (w := ([] : va_W)) (w1 := (wX0 hh cI cZ v)) (w2 := ([] : va_W)) (As := [.int g, .int 30]) (rest := []) C hT (c_X0_checkAmount_bad l hst D g 30 hg) (va_cwS 2 C.words gX0_spill_X0_checkAmount rfl rfl rfl (by decide +kernel) ⟨(Nat.le_of_ble_eq_true rfl), (Nat.le_of_ble_eq_true rfl)⟩) [] rfl rfl (Nat.le_of_ble_eq_true rfl) ⟨(Nat.le_of_ble_eq_true rfl), (Nat.le_of_ble_eq_true rfl)⟩ rfl rfl hout hlocks (Nat.le_of_ble_eq_true rfl) (Nat.le_of_ble_eq_true rfl) dX0_spill_8
set_option maxHeartbeats 4000000 in
set_option maxRecDepth 100000 in
theorem c_X0_spill_b3 (l : Launch) (hst : l.stackTraces = false) (D : va_G) (hh : Nat → Nat) (cI cZ : ClassId) (v : S0) (j : Nat) (g : Int32) (hj : j < xn v) (hn : xn v ≤ 8) (h1 : ¬ g < 1) (h2 : g ≤ 30) (hg : ¬ g ≤ nI (xc v)) : zX l yX0_spill wsX0_spill 7 103 [.ref (hh 0), .int (nI j), .int g] [(cI, .int), (cZ, .boolean)] D (wX0 hh cI cZ v) zS := by
  refine z_xmet (cc := cX0_spill) (maxL := 3) (ret := (some .int)) (by decide) rfl (Nat.le_of_ble_eq_true rfl) ?_
  intro p e s m args below meth c A C hT hlocks hout
  have inl : ∀ w ∈ u_ws RX0 TX0 14, w ∈ wsX0_spill := by decide +kernel
  refine z_sub (L' := [(0, .ref (hh 0)), (1, .int (nI j)), (2, .int g)]) [0, 1, 2] rfl ?_
  refine z_aload_n C 0 dX0_spill_0 rfl rfl ?_
  refine z_iload_n C 1 dX0_spill_1 rfl rfl ?_
  refine z_callV (w := (wX0 hh cI cZ v)) (w' := (wX0 hh cI cZ v)) (w1 := ([] : va_W)) (w2 := ([] : va_W)) (ws' := (wX0 hh cI cZ v)) (As := [.int (nI j)]) (rest := []) (st' := []) (rv := none) C (c_X0_checkMember l D hh cI cZ v j (by omega) (by omega)) (cwV 1 C.words gX0_spill_X0_checkMember rfl rfl rfl (by decide +kernel) ⟨(Nat.le_of_ble_eq_true rfl), (Nat.le_of_ble_eq_true rfl)⟩) (q0 := 0) (ci := 0) rfl rfl rfl [0, 1] rfl rfl (Nat.le_of_ble_eq_true rfl) ⟨(Nat.le_of_ble_eq_true rfl), (Nat.le_of_ble_eq_true rfl)⟩ rfl rfl rfl rfl rfl dX0_spill_2 ?_
  refine z_iload_n C 2 dX0_spill_5 rfl rfl ?_
  refine z_bipush (v := 30) C dX0_spill_6 (by decide) ?_
  refine z_callS (w := ([] : va_W)) (w' := ([] : va_W)) (w1 := (wX0 hh cI cZ v)) (w2 := ([] : va_W)) (ws' := (wX0 hh cI cZ v)) (As := [.int g, .int 30]) (rest := []) (st' := []) (rv := none) C (c_X0_checkAmount l D g 30 h1 h2) (va_cwS 2 C.words gX0_spill_X0_checkAmount rfl rfl rfl (by decide +kernel) ⟨(Nat.le_of_ble_eq_true rfl), (Nat.le_of_ble_eq_true rfl)⟩) [] rfl rfl (Nat.le_of_ble_eq_true rfl) ⟨(Nat.le_of_ble_eq_true rfl), (Nat.le_of_ble_eq_true rfl)⟩ rfl rfl rfl rfl rfl dX0_spill_8 ?_
  refine z_aload_n C 0 dX0_spill_11 rfl rfl ?_
  refine z_iload_n C 2 dX0_spill_12 rfl rfl ?_
  exact z_xcallV (w := (wX0 hh cI cZ v)) (w1 := ([] : va_W)) (w2 := ([] : va_W)) (As := [.int g]) (rest := []) C hT (c_X0_checkCellar_bad l hst D hh cI cZ v g hg) (cwV 1 C.words gX0_spill_X0_checkCellar rfl rfl rfl (by decide +kernel) ⟨(Nat.le_of_ble_eq_true rfl), (Nat.le_of_ble_eq_true rfl)⟩) (q0 := 0) (ci := 0) rfl rfl rfl [0, 1] rfl rfl (Nat.le_of_ble_eq_true rfl) ⟨(Nat.le_of_ble_eq_true rfl), (Nat.le_of_ble_eq_true rfl)⟩ rfl rfl hout hlocks (Nat.le_of_ble_eq_true rfl) (Nat.le_of_ble_eq_true rfl) dX0_spill_13
set_option maxHeartbeats 4000000 in
set_option maxRecDepth 100000 in
theorem c_X0_throwSalt_b1 (l : Launch) (hst : l.stackTraces = false) (D : va_G) (hh : Nat → Nat) (cI cZ : ClassId) (v : S0) (x b g : Int32) (hm : x < 0 ∨ nI (xn v) ≤ x) : zX l yX0_throwSalt wsX0_throwSalt 7 103 [.ref (hh 0), .int x, .int b, .int g] [(cI, .int), (cZ, .boolean)] D (wX0 hh cI cZ v) zI := by
  refine z_xmet (cc := cX0_throwSalt) (maxL := 6) (ret := (some .int)) (by decide) rfl (Nat.le_of_ble_eq_true rfl) ?_
  intro p e s m args below meth c A C hT hlocks hout
  have inl : ∀ w ∈ u_ws RX0 TX0 14, w ∈ wsX0_throwSalt := by decide +kernel
  refine z_sub (L' := [(0, .ref (hh 0)), (1, .int x), (2, .int b), (3, .int g)]) [0, 1, 2, 3] rfl ?_
  refine z_aload_n C 0 dX0_throwSalt_0 rfl rfl ?_
  refine z_iload_n C 1 dX0_throwSalt_1 rfl rfl ?_
  exact z_xcallV (w := (wX0 hh cI cZ v)) (w1 := ([] : va_W)) (w2 := ([] : va_W)) (As := [.int x]) (rest := []) C hT (c_X0_checkMember_bad l hst D hh cI cZ v x hm) (cwV 1 C.words gX0_throwSalt_X0_checkMember rfl rfl rfl (by decide +kernel) ⟨(Nat.le_of_ble_eq_true rfl), (Nat.le_of_ble_eq_true rfl)⟩) (q0 := 0) (ci := 0) rfl rfl rfl [0, 1] rfl rfl (Nat.le_of_ble_eq_true rfl) ⟨(Nat.le_of_ble_eq_true rfl), (Nat.le_of_ble_eq_true rfl)⟩ rfl rfl hout hlocks (Nat.le_of_ble_eq_true rfl) (Nat.le_of_ble_eq_true rfl) dX0_throwSalt_2
set_option maxHeartbeats 4000000 in
set_option maxRecDepth 100000 in
theorem c_X0_throwSalt_b1b (l : Launch) (hst : l.stackTraces = false) (D : va_G) (hh : Nat → Nat) (cI cZ : ClassId) (v : S0) (j : Nat) (b g : Int32) (hj : j < xn v) (hn : xn v ≤ 8) (hb : ¬ (b = 0 ∨ b = 1)) : zX l yX0_throwSalt wsX0_throwSalt 7 103 [.ref (hh 0), .int (nI j), .int b, .int g] [(cI, .int), (cZ, .boolean)] D (wX0 hh cI cZ v) zI := by
  refine z_xmet (cc := cX0_throwSalt) (maxL := 6) (ret := (some .int)) (by decide) rfl (Nat.le_of_ble_eq_true rfl) ?_
  intro p e s m args below meth c A C hT hlocks hout
  have inl : ∀ w ∈ u_ws RX0 TX0 14, w ∈ wsX0_throwSalt := by decide +kernel
  refine z_sub (L' := [(0, .ref (hh 0)), (1, .int (nI j)), (2, .int b), (3, .int g)]) [0, 1, 2, 3] rfl ?_
  refine z_aload_n C 0 dX0_throwSalt_0 rfl rfl ?_
  refine z_iload_n C 1 dX0_throwSalt_1 rfl rfl ?_
  refine z_callV (w := (wX0 hh cI cZ v)) (w' := (wX0 hh cI cZ v)) (w1 := ([] : va_W)) (w2 := ([] : va_W)) (ws' := (wX0 hh cI cZ v)) (As := [.int (nI j)]) (rest := []) (st' := []) (rv := none) C (c_X0_checkMember l D hh cI cZ v j (by omega) (by omega)) (cwV 1 C.words gX0_throwSalt_X0_checkMember rfl rfl rfl (by decide +kernel) ⟨(Nat.le_of_ble_eq_true rfl), (Nat.le_of_ble_eq_true rfl)⟩) (q0 := 0) (ci := 0) rfl rfl rfl [0, 1] rfl rfl (Nat.le_of_ble_eq_true rfl) ⟨(Nat.le_of_ble_eq_true rfl), (Nat.le_of_ble_eq_true rfl)⟩ rfl rfl rfl rfl rfl dX0_throwSalt_2 ?_
  refine z_iload_n C 2 dX0_throwSalt_5 rfl rfl ?_
  exact z_xcallS (w := ([] : va_W)) (w1 := (wX0 hh cI cZ v)) (w2 := ([] : va_W)) (As := [.int b]) (rest := []) C hT (c_X0_checkShoulder_bad l hst D b hb) (va_cwS 1 C.words gX0_throwSalt_X0_checkShoulder rfl rfl rfl (by decide +kernel) ⟨(Nat.le_of_ble_eq_true rfl), (Nat.le_of_ble_eq_true rfl)⟩) [] rfl rfl (Nat.le_of_ble_eq_true rfl) ⟨(Nat.le_of_ble_eq_true rfl), (Nat.le_of_ble_eq_true rfl)⟩ rfl rfl hout hlocks (Nat.le_of_ble_eq_true rfl) (Nat.le_of_ble_eq_true rfl) dX0_throwSalt_6
set_option maxHeartbeats 4000000 in
set_option maxRecDepth 100000 in
theorem c_X0_throwSalt_b2 (l : Launch) (hst : l.stackTraces = false) (D : va_G) (hh : Nat → Nat) (cI cZ : ClassId) (v : S0) (j : Nat) (b g : Int32) (hj : j < xn v) (hn : xn v ≤ 8) (hb : b = 0 ∨ b = 1) (hg : g < 1 ∨ ¬ g ≤ 9) : zX l yX0_throwSalt wsX0_throwSalt 7 103 [.ref (hh 0), .int (nI j), .int b, .int g] [(cI, .int), (cZ, .boolean)] D (wX0 hh cI cZ v) zA := by
  refine z_xmet (cc := cX0_throwSalt) (maxL := 6) (ret := (some .int)) (by decide) rfl (Nat.le_of_ble_eq_true rfl) ?_
  intro p e s m args below meth c A C hT hlocks hout
  have inl : ∀ w ∈ u_ws RX0 TX0 14, w ∈ wsX0_throwSalt := by decide +kernel
  refine z_sub (L' := [(0, .ref (hh 0)), (1, .int (nI j)), (2, .int b), (3, .int g)]) [0, 1, 2, 3] rfl ?_
  refine z_aload_n C 0 dX0_throwSalt_0 rfl rfl ?_
  refine z_iload_n C 1 dX0_throwSalt_1 rfl rfl ?_
  refine z_callV (w := (wX0 hh cI cZ v)) (w' := (wX0 hh cI cZ v)) (w1 := ([] : va_W)) (w2 := ([] : va_W)) (ws' := (wX0 hh cI cZ v)) (As := [.int (nI j)]) (rest := []) (st' := []) (rv := none) C (c_X0_checkMember l D hh cI cZ v j (by omega) (by omega)) (cwV 1 C.words gX0_throwSalt_X0_checkMember rfl rfl rfl (by decide +kernel) ⟨(Nat.le_of_ble_eq_true rfl), (Nat.le_of_ble_eq_true rfl)⟩) (q0 := 0) (ci := 0) rfl rfl rfl [0, 1] rfl rfl (Nat.le_of_ble_eq_true rfl) ⟨(Nat.le_of_ble_eq_true rfl), (Nat.le_of_ble_eq_true rfl)⟩ rfl rfl rfl rfl rfl dX0_throwSalt_2 ?_
  refine z_iload_n C 2 dX0_throwSalt_5 rfl rfl ?_
  refine z_callS (w := ([] : va_W)) (w' := ([] : va_W)) (w1 := (wX0 hh cI cZ v)) (w2 := ([] : va_W)) (ws' := (wX0 hh cI cZ v)) (As := [.int b]) (rest := []) (st' := []) (rv := none) C (c_X0_checkShoulder l D b hb) (va_cwS 1 C.words gX0_throwSalt_X0_checkShoulder rfl rfl rfl (by decide +kernel) ⟨(Nat.le_of_ble_eq_true rfl), (Nat.le_of_ble_eq_true rfl)⟩) [] rfl rfl (Nat.le_of_ble_eq_true rfl) ⟨(Nat.le_of_ble_eq_true rfl), (Nat.le_of_ble_eq_true rfl)⟩ rfl rfl rfl rfl rfl dX0_throwSalt_6 ?_
  refine z_iload_n C 3 dX0_throwSalt_9 rfl rfl ?_
  refine z_bipush (v := 9) C dX0_throwSalt_10 (by decide) ?_
  exact z_xcallS (w := ([] : va_W)) (w1 := (wX0 hh cI cZ v)) (w2 := ([] : va_W)) (As := [.int g, .int 9]) (rest := []) C hT (c_X0_checkAmount_bad l hst D g 9 hg) (va_cwS 2 C.words gX0_throwSalt_X0_checkAmount rfl rfl rfl (by decide +kernel) ⟨(Nat.le_of_ble_eq_true rfl), (Nat.le_of_ble_eq_true rfl)⟩) [] rfl rfl (Nat.le_of_ble_eq_true rfl) ⟨(Nat.le_of_ble_eq_true rfl), (Nat.le_of_ble_eq_true rfl)⟩ rfl rfl hout hlocks (Nat.le_of_ble_eq_true rfl) (Nat.le_of_ble_eq_true rfl) dX0_throwSalt_12
set_option maxHeartbeats 4000000 in
set_option maxRecDepth 100000 in
theorem c_X0_throwSalt_b3 (l : Launch) (hst : l.stackTraces = false) (D : va_G) (hh : Nat → Nat) (cI cZ : ClassId) (v : S0) (j : Nat) (b g : Int32) (hj : j < xn v) (hn : xn v ≤ 8) (hb : b = 0 ∨ b = 1) (h1 : ¬ g < 1) (h2 : g ≤ 9) (hg : ¬ g ≤ nI (xc v)) : zX l yX0_throwSalt wsX0_throwSalt 7 103 [.ref (hh 0), .int (nI j), .int b, .int g] [(cI, .int), (cZ, .boolean)] D (wX0 hh cI cZ v) zS := by
  refine z_xmet (cc := cX0_throwSalt) (maxL := 6) (ret := (some .int)) (by decide) rfl (Nat.le_of_ble_eq_true rfl) ?_
  intro p e s m args below meth c A C hT hlocks hout
  have inl : ∀ w ∈ u_ws RX0 TX0 14, w ∈ wsX0_throwSalt := by decide +kernel
  refine z_sub (L' := [(0, .ref (hh 0)), (1, .int (nI j)), (2, .int b), (3, .int g)]) [0, 1, 2, 3] rfl ?_
  refine z_aload_n C 0 dX0_throwSalt_0 rfl rfl ?_
  refine z_iload_n C 1 dX0_throwSalt_1 rfl rfl ?_
  refine z_callV (w := (wX0 hh cI cZ v)) (w' := (wX0 hh cI cZ v)) (w1 := ([] : va_W)) (w2 := ([] : va_W)) (ws' := (wX0 hh cI cZ v)) (As := [.int (nI j)]) (rest := []) (st' := []) (rv := none) C (c_X0_checkMember l D hh cI cZ v j (by omega) (by omega)) (cwV 1 C.words gX0_throwSalt_X0_checkMember rfl rfl rfl (by decide +kernel) ⟨(Nat.le_of_ble_eq_true rfl), (Nat.le_of_ble_eq_true rfl)⟩) (q0 := 0) (ci := 0) rfl rfl rfl [0, 1] rfl rfl (Nat.le_of_ble_eq_true rfl) ⟨(Nat.le_of_ble_eq_true rfl), (Nat.le_of_ble_eq_true rfl)⟩ rfl rfl rfl rfl rfl dX0_throwSalt_2 ?_
  refine z_iload_n C 2 dX0_throwSalt_5 rfl rfl ?_
  refine z_callS (w := ([] : va_W)) (w' := ([] : va_W)) (w1 := (wX0 hh cI cZ v)) (w2 := ([] : va_W)) (ws' := (wX0 hh cI cZ v)) (As := [.int b]) (rest := []) (st' := []) (rv := none) C (c_X0_checkShoulder l D b hb) (va_cwS 1 C.words gX0_throwSalt_X0_checkShoulder rfl rfl rfl (by decide +kernel) ⟨(Nat.le_of_ble_eq_true rfl), (Nat.le_of_ble_eq_true rfl)⟩) [] rfl rfl (Nat.le_of_ble_eq_true rfl) ⟨(Nat.le_of_ble_eq_true rfl), (Nat.le_of_ble_eq_true rfl)⟩ rfl rfl rfl rfl rfl dX0_throwSalt_6 ?_
  refine z_iload_n C 3 dX0_throwSalt_9 rfl rfl ?_
  refine z_bipush (v := 9) C dX0_throwSalt_10 (by decide) ?_
  refine z_callS (w := ([] : va_W)) (w' := ([] : va_W)) (w1 := (wX0 hh cI cZ v)) (w2 := ([] : va_W)) (ws' := (wX0 hh cI cZ v)) (As := [.int g, .int 9]) (rest := []) (st' := []) (rv := none) C (c_X0_checkAmount l D g 9 h1 h2) (va_cwS 2 C.words gX0_throwSalt_X0_checkAmount rfl rfl rfl (by decide +kernel) ⟨(Nat.le_of_ble_eq_true rfl), (Nat.le_of_ble_eq_true rfl)⟩) [] rfl rfl (Nat.le_of_ble_eq_true rfl) ⟨(Nat.le_of_ble_eq_true rfl), (Nat.le_of_ble_eq_true rfl)⟩ rfl rfl rfl rfl rfl dX0_throwSalt_12 ?_
  refine z_aload_n C 0 dX0_throwSalt_15 rfl rfl ?_
  refine z_iload_n C 3 dX0_throwSalt_16 rfl rfl ?_
  exact z_xcallV (w := (wX0 hh cI cZ v)) (w1 := ([] : va_W)) (w2 := ([] : va_W)) (As := [.int g]) (rest := []) C hT (c_X0_checkCellar_bad l hst D hh cI cZ v g hg) (cwV 1 C.words gX0_throwSalt_X0_checkCellar rfl rfl rfl (by decide +kernel) ⟨(Nat.le_of_ble_eq_true rfl), (Nat.le_of_ble_eq_true rfl)⟩) (q0 := 0) (ci := 0) rfl rfl rfl [0, 1] rfl rfl (Nat.le_of_ble_eq_true rfl) ⟨(Nat.le_of_ble_eq_true rfl), (Nat.le_of_ble_eq_true rfl)⟩ rfl rfl hout hlocks (Nat.le_of_ble_eq_true rfl) (Nat.le_of_ble_eq_true rfl) dX0_throwSalt_17
set_option maxHeartbeats 4000000 in
set_option maxRecDepth 100000 in
theorem c_X0_throwSalt_b3b (l : Launch) (hst : l.stackTraces = false) (D : va_G) (hh : Nat → Nat) (cI cZ : ClassId) (v : S0) (j : Nat) (b g : Int32) (hj : j < xn v) (hn : xn v ≤ 8) (hb : b = 0 ∨ b = 1) (h1 : ¬ g < 1) (h2 : g ≤ 9) (hg : g ≤ nI (xc v)) (hk : ¬ nI (xk v) < 30) : zX l yX0_throwSalt wsX0_throwSalt 7 103 [.ref (hh 0), .int (nI j), .int b, .int g] [(cI, .int), (cZ, .boolean)] D (wX0 hh cI cZ v) zS := by
  refine z_xmet (cc := cX0_throwSalt) (maxL := 6) (ret := (some .int)) (by decide) rfl (Nat.le_of_ble_eq_true rfl) ?_
  intro p e s m args below meth c A C hT hlocks hout
  have inl : ∀ w ∈ u_ws RX0 TX0 14, w ∈ wsX0_throwSalt := by decide +kernel
  refine z_sub (L' := [(0, .ref (hh 0)), (1, .int (nI j)), (2, .int b), (3, .int g)]) [0, 1, 2, 3] rfl ?_
  refine z_aload_n C 0 dX0_throwSalt_0 rfl rfl ?_
  refine z_iload_n C 1 dX0_throwSalt_1 rfl rfl ?_
  refine z_callV (w := (wX0 hh cI cZ v)) (w' := (wX0 hh cI cZ v)) (w1 := ([] : va_W)) (w2 := ([] : va_W)) (ws' := (wX0 hh cI cZ v)) (As := [.int (nI j)]) (rest := []) (st' := []) (rv := none) C (c_X0_checkMember l D hh cI cZ v j (by omega) (by omega)) (cwV 1 C.words gX0_throwSalt_X0_checkMember rfl rfl rfl (by decide +kernel) ⟨(Nat.le_of_ble_eq_true rfl), (Nat.le_of_ble_eq_true rfl)⟩) (q0 := 0) (ci := 0) rfl rfl rfl [0, 1] rfl rfl (Nat.le_of_ble_eq_true rfl) ⟨(Nat.le_of_ble_eq_true rfl), (Nat.le_of_ble_eq_true rfl)⟩ rfl rfl rfl rfl rfl dX0_throwSalt_2 ?_
  refine z_iload_n C 2 dX0_throwSalt_5 rfl rfl ?_
  refine z_callS (w := ([] : va_W)) (w' := ([] : va_W)) (w1 := (wX0 hh cI cZ v)) (w2 := ([] : va_W)) (ws' := (wX0 hh cI cZ v)) (As := [.int b]) (rest := []) (st' := []) (rv := none) C (c_X0_checkShoulder l D b hb) (va_cwS 1 C.words gX0_throwSalt_X0_checkShoulder rfl rfl rfl (by decide +kernel) ⟨(Nat.le_of_ble_eq_true rfl), (Nat.le_of_ble_eq_true rfl)⟩) [] rfl rfl (Nat.le_of_ble_eq_true rfl) ⟨(Nat.le_of_ble_eq_true rfl), (Nat.le_of_ble_eq_true rfl)⟩ rfl rfl rfl rfl rfl dX0_throwSalt_6 ?_
  refine z_iload_n C 3 dX0_throwSalt_9 rfl rfl ?_
  refine z_bipush (v := 9) C dX0_throwSalt_10 (by decide) ?_
  refine z_callS (w := ([] : va_W)) (w' := ([] : va_W)) (w1 := (wX0 hh cI cZ v)) (w2 := ([] : va_W)) (ws' := (wX0 hh cI cZ v)) (As := [.int g, .int 9]) (rest := []) (st' := []) (rv := none) C (c_X0_checkAmount l D g 9 h1 h2) (va_cwS 2 C.words gX0_throwSalt_X0_checkAmount rfl rfl rfl (by decide +kernel) ⟨(Nat.le_of_ble_eq_true rfl), (Nat.le_of_ble_eq_true rfl)⟩) [] rfl rfl (Nat.le_of_ble_eq_true rfl) ⟨(Nat.le_of_ble_eq_true rfl), (Nat.le_of_ble_eq_true rfl)⟩ rfl rfl rfl rfl rfl dX0_throwSalt_12 ?_
  refine z_aload_n C 0 dX0_throwSalt_15 rfl rfl ?_
  refine z_iload_n C 3 dX0_throwSalt_16 rfl rfl ?_
  refine z_callV (w := (wX0 hh cI cZ v)) (w' := (wX0 hh cI cZ v)) (w1 := ([] : va_W)) (w2 := ([] : va_W)) (ws' := (wX0 hh cI cZ v)) (As := [.int g]) (rest := []) (st' := []) (rv := none) C (c_X0_checkCellar l D hh cI cZ v g hg) (cwV 1 C.words gX0_throwSalt_X0_checkCellar rfl rfl rfl (by decide +kernel) ⟨(Nat.le_of_ble_eq_true rfl), (Nat.le_of_ble_eq_true rfl)⟩) (q0 := 0) (ci := 0) rfl rfl rfl [0, 1] rfl rfl (Nat.le_of_ble_eq_true rfl) ⟨(Nat.le_of_ble_eq_true rfl), (Nat.le_of_ble_eq_true rfl)⟩ rfl rfl rfl rfl rfl dX0_throwSalt_17 ?_
  refine z_aload_n C 0 dX0_throwSalt_20 rfl rfl ?_
  exact z_xcallV (w := (wX0 hh cI cZ v)) (w1 := ([] : va_W)) (w2 := ([] : va_W)) (As := []) (rest := []) C hT (c_X0_checkLedgerHasRoom_bad l hst D hh cI cZ v hk) (cwV 0 C.words gX0_throwSalt_X0_checkLedgerHasRoom rfl rfl rfl (by decide +kernel) ⟨(Nat.le_of_ble_eq_true rfl), (Nat.le_of_ble_eq_true rfl)⟩) (q0 := 0) (ci := 0) rfl rfl rfl [0, 1] rfl rfl (Nat.le_of_ble_eq_true rfl) ⟨(Nat.le_of_ble_eq_true rfl), (Nat.le_of_ble_eq_true rfl)⟩ rfl rfl hout hlocks (Nat.le_of_ble_eq_true rfl) (Nat.le_of_ble_eq_true rfl) dX0_throwSalt_21
set_option maxHeartbeats 4000000 in
set_option maxRecDepth 100000 in
theorem c_X0_doPenance_b1 (l : Launch) (hst : l.stackTraces = false) (D : va_G) (hh : Nat → Nat) (cI cZ : ClassId) (v : S0) (x g : Int32) (hm : x < 0 ∨ nI (xn v) ≤ x) : zX l yX0_doPenance wsX0_doPenance 7 103 [.ref (hh 0), .int x, .int g] [(cI, .int), (cZ, .boolean)] D (wX0 hh cI cZ v) zI := by
  refine z_xmet (cc := cX0_doPenance) (maxL := 3) (ret := (some .int)) (by decide) rfl (Nat.le_of_ble_eq_true rfl) ?_
  intro p e s m args below meth c A C hT hlocks hout
  have inl : ∀ w ∈ u_ws RX0 TX0 14, w ∈ wsX0_doPenance := by decide +kernel
  refine z_sub (L' := [(0, .ref (hh 0)), (1, .int x), (2, .int g)]) [0, 1, 2] rfl ?_
  refine z_aload_n C 0 dX0_doPenance_0 rfl rfl ?_
  refine z_iload_n C 1 dX0_doPenance_1 rfl rfl ?_
  exact z_xcallV (w := (wX0 hh cI cZ v)) (w1 := ([] : va_W)) (w2 := ([] : va_W)) (As := [.int x]) (rest := []) C hT (c_X0_checkMember_bad l hst D hh cI cZ v x hm) (cwV 1 C.words gX0_doPenance_X0_checkMember rfl rfl rfl (by decide +kernel) ⟨(Nat.le_of_ble_eq_true rfl), (Nat.le_of_ble_eq_true rfl)⟩) (q0 := 0) (ci := 0) rfl rfl rfl [0, 1] rfl rfl (Nat.le_of_ble_eq_true rfl) ⟨(Nat.le_of_ble_eq_true rfl), (Nat.le_of_ble_eq_true rfl)⟩ rfl rfl hout hlocks (Nat.le_of_ble_eq_true rfl) (Nat.le_of_ble_eq_true rfl) dX0_doPenance_2
set_option maxHeartbeats 4000000 in
set_option maxRecDepth 100000 in
theorem c_X0_doPenance_b2 (l : Launch) (hst : l.stackTraces = false) (D : va_G) (hh : Nat → Nat) (cI cZ : ClassId) (v : S0) (j : Nat) (g : Int32) (hj : j < xn v) (hn : xn v ≤ 8) (hg : g < 1 ∨ ¬ g ≤ 9) : zX l yX0_doPenance wsX0_doPenance 7 103 [.ref (hh 0), .int (nI j), .int g] [(cI, .int), (cZ, .boolean)] D (wX0 hh cI cZ v) zA := by
  refine z_xmet (cc := cX0_doPenance) (maxL := 3) (ret := (some .int)) (by decide) rfl (Nat.le_of_ble_eq_true rfl) ?_
  intro p e s m args below meth c A C hT hlocks hout
  have inl : ∀ w ∈ u_ws RX0 TX0 14, w ∈ wsX0_doPenance := by decide +kernel
  refine z_sub (L' := [(0, .ref (hh 0)), (1, .int (nI j)), (2, .int g)]) [0, 1, 2] rfl ?_
  refine z_aload_n C 0 dX0_doPenance_0 rfl rfl ?_
  refine z_iload_n C 1 dX0_doPenance_1 rfl rfl ?_
  refine z_callV (w := (wX0 hh cI cZ v)) (w' := (wX0 hh cI cZ v)) (w1 := ([] : va_W)) (w2 := ([] : va_W)) (ws' := (wX0 hh cI cZ v)) (As := [.int (nI j)]) (rest := []) (st' := []) (rv := none) C (c_X0_checkMember l D hh cI cZ v j (by omega) (by omega)) (cwV 1 C.words gX0_doPenance_X0_checkMember rfl rfl rfl (by decide +kernel) ⟨(Nat.le_of_ble_eq_true rfl), (Nat.le_of_ble_eq_true rfl)⟩) (q0 := 0) (ci := 0) rfl rfl rfl [0, 1] rfl rfl (Nat.le_of_ble_eq_true rfl) ⟨(Nat.le_of_ble_eq_true rfl), (Nat.le_of_ble_eq_true rfl)⟩ rfl rfl rfl rfl rfl dX0_doPenance_2 ?_
  refine z_iload_n C 2 dX0_doPenance_5 rfl rfl ?_
  refine z_bipush (v := 9) C dX0_doPenance_6 (by decide) ?_
  exact z_xcallS (w := ([] : va_W)) (w1 := (wX0 hh cI cZ v)) (w2 := ([] : va_W)) (As := [.int g, .int 9]) (rest := []) C hT (c_X0_checkAmount_bad l hst D g 9 hg) (va_cwS 2 C.words gX0_doPenance_X0_checkAmount rfl rfl rfl (by decide +kernel) ⟨(Nat.le_of_ble_eq_true rfl), (Nat.le_of_ble_eq_true rfl)⟩) [] rfl rfl (Nat.le_of_ble_eq_true rfl) ⟨(Nat.le_of_ble_eq_true rfl), (Nat.le_of_ble_eq_true rfl)⟩ rfl rfl hout hlocks (Nat.le_of_ble_eq_true rfl) (Nat.le_of_ble_eq_true rfl) dX0_doPenance_8
set_option maxHeartbeats 4000000 in
set_option maxRecDepth 100000 in
theorem c_X0_bringSalt_b1 (l : Launch) (hst : l.stackTraces = false) (D : va_G) (hh : Nat → Nat) (cI cZ : ClassId) (v : S0) (g : Int32) (hg : g < 1 ∨ ¬ g ≤ 500) : zX l yX0_bringSalt wsX0_bringSalt 7 103 [.ref (hh 0), .int g] [(cI, .int), (cZ, .boolean)] D (wX0 hh cI cZ v) zA := by
  refine z_xmet (cc := cX0_bringSalt) (maxL := 2) (ret := (some .int)) (by decide) rfl (Nat.le_of_ble_eq_true rfl) ?_
  intro p e s m args below meth c A C hT hlocks hout
  have inl : ∀ w ∈ u_ws RX0 TX0 14, w ∈ wsX0_bringSalt := by decide +kernel
  refine z_sub (L' := [(0, .ref (hh 0)), (1, .int g)]) [0, 1] rfl ?_
  refine z_iload_n C 1 dX0_bringSalt_0 rfl rfl ?_
  refine z_sipush (v := 500) C dX0_bringSalt_1 (by decide) ?_
  exact z_xcallS (w := ([] : va_W)) (w1 := (wX0 hh cI cZ v)) (w2 := ([] : va_W)) (As := [.int g, .int 500]) (rest := []) C hT (c_X0_checkAmount_bad l hst D g 500 hg) (va_cwS 2 C.words gX0_bringSalt_X0_checkAmount rfl rfl rfl (by decide +kernel) ⟨(Nat.le_of_ble_eq_true rfl), (Nat.le_of_ble_eq_true rfl)⟩) [] rfl rfl (Nat.le_of_ble_eq_true rfl) ⟨(Nat.le_of_ble_eq_true rfl), (Nat.le_of_ble_eq_true rfl)⟩ rfl rfl hout hlocks (Nat.le_of_ble_eq_true rfl) (Nat.le_of_ble_eq_true rfl) dX0_bringSalt_4
set_option maxHeartbeats 4000000 in
set_option maxRecDepth 100000 in
theorem c_X0_pass_b1 (l : Launch) (hst : l.stackTraces = false) (D : va_G) (hh : Nat → Nat) (cI cZ : ClassId) (v : S0) (g : Int32) (hg : g < 1 ∨ ¬ g ≤ 60) : zX l yX0_pass wsX0_pass 7 103 [.ref (hh 0), .int g] [(cI, .int), (cZ, .boolean)] D (wX0 hh cI cZ v) zA := by
  refine z_xmet (cc := cX0_pass) (maxL := 4) (ret := (some .int)) (by decide) rfl (Nat.le_of_ble_eq_true rfl) ?_
  intro p e s m args below meth c A C hT hlocks hout
  have inl : ∀ w ∈ u_ws RX0 TX0 14, w ∈ wsX0_pass := by decide +kernel
  refine z_sub (L' := [(0, .ref (hh 0)), (1, .int g)]) [0, 1] rfl ?_
  refine z_iload_n C 1 dX0_pass_0 rfl rfl ?_
  refine z_bipush (v := 60) C dX0_pass_1 (by decide) ?_
  exact z_xcallS (w := ([] : va_W)) (w1 := (wX0 hh cI cZ v)) (w2 := ([] : va_W)) (As := [.int g, .int 60]) (rest := []) C hT (c_X0_checkAmount_bad l hst D g 60 hg) (va_cwS 2 C.words gX0_pass_X0_checkAmount rfl rfl rfl (by decide +kernel) ⟨(Nat.le_of_ble_eq_true rfl), (Nat.le_of_ble_eq_true rfl)⟩) [] rfl rfl (Nat.le_of_ble_eq_true rfl) ⟨(Nat.le_of_ble_eq_true rfl), (Nat.le_of_ble_eq_true rfl)⟩ rfl rfl hout hlocks (Nat.le_of_ble_eq_true rfl) (Nat.le_of_ble_eq_true rfl) dX0_pass_3
set_option maxHeartbeats 4000000 in
set_option maxRecDepth 100000 in
theorem c_X0_luckOf_bad (l : Launch) (hst : l.stackTraces = false) (D : va_G) (hh : Nat → Nat) (cI cZ : ClassId) (v : S0) (x : Int32) (hm : x < 0 ∨ nI (xn v) ≤ x) : zX l yX0_luckOf wsX0_luckOf 7 103 [.ref (hh 0), .int x] [(cI, .int), (cZ, .boolean)] D (wX0 hh cI cZ v) zI := by
  refine z_xmet (cc := cX0_luckOf) (maxL := 2) (ret := (some .int)) (by decide) rfl (Nat.le_of_ble_eq_true rfl) ?_
  intro p e s m args below meth c A C hT hlocks hout
  have inl : ∀ w ∈ u_ws RX0 TX0 14, w ∈ wsX0_luckOf := by decide +kernel
  refine z_sub (L' := [(0, .ref (hh 0)), (1, .int x)]) [0, 1] rfl ?_
  refine z_aload_n C 0 dX0_luckOf_0 rfl rfl ?_
  refine z_iload_n C 1 dX0_luckOf_1 rfl rfl ?_
  exact z_xcallV (w := (wX0 hh cI cZ v)) (w1 := ([] : va_W)) (w2 := ([] : va_W)) (As := [.int x]) (rest := []) C hT (c_X0_checkMember_bad l hst D hh cI cZ v x hm) (cwV 1 C.words gX0_luckOf_X0_checkMember rfl rfl rfl (by decide +kernel) ⟨(Nat.le_of_ble_eq_true rfl), (Nat.le_of_ble_eq_true rfl)⟩) (q0 := 0) (ci := 0) rfl rfl rfl [0, 1] rfl rfl (Nat.le_of_ble_eq_true rfl) ⟨(Nat.le_of_ble_eq_true rfl), (Nat.le_of_ble_eq_true rfl)⟩ rfl rfl hout hlocks (Nat.le_of_ble_eq_true rfl) (Nat.le_of_ble_eq_true rfl) dX0_luckOf_2
set_option maxHeartbeats 4000000 in
set_option maxRecDepth 100000 in
theorem c_X0_arrearsOf_bad (l : Launch) (hst : l.stackTraces = false) (D : va_G) (hh : Nat → Nat) (cI cZ : ClassId) (v : S0) (x : Int32) (hm : x < 0 ∨ nI (xn v) ≤ x) : zX l yX0_arrearsOf wsX0_arrearsOf 7 103 [.ref (hh 0), .int x] [(cI, .int), (cZ, .boolean)] D (wX0 hh cI cZ v) zI := by
  refine z_xmet (cc := cX0_arrearsOf) (maxL := 2) (ret := (some .int)) (by decide) rfl (Nat.le_of_ble_eq_true rfl) ?_
  intro p e s m args below meth c A C hT hlocks hout
  have inl : ∀ w ∈ u_ws RX0 TX0 14, w ∈ wsX0_arrearsOf := by decide +kernel
  refine z_sub (L' := [(0, .ref (hh 0)), (1, .int x)]) [0, 1] rfl ?_
  refine z_aload_n C 0 dX0_arrearsOf_0 rfl rfl ?_
  refine z_iload_n C 1 dX0_arrearsOf_1 rfl rfl ?_
  exact z_xcallV (w := (wX0 hh cI cZ v)) (w1 := ([] : va_W)) (w2 := ([] : va_W)) (As := [.int x]) (rest := []) C hT (c_X0_checkMember_bad l hst D hh cI cZ v x hm) (cwV 1 C.words gX0_arrearsOf_X0_checkMember rfl rfl rfl (by decide +kernel) ⟨(Nat.le_of_ble_eq_true rfl), (Nat.le_of_ble_eq_true rfl)⟩) (q0 := 0) (ci := 0) rfl rfl rfl [0, 1] rfl rfl (Nat.le_of_ble_eq_true rfl) ⟨(Nat.le_of_ble_eq_true rfl), (Nat.le_of_ble_eq_true rfl)⟩ rfl rfl hout hlocks (Nat.le_of_ble_eq_true rfl) (Nat.le_of_ble_eq_true rfl) dX0_arrearsOf_2
set_option maxHeartbeats 4000000 in
set_option maxRecDepth 100000 in
theorem c_X0_lumpsOf_bad (l : Launch) (hst : l.stackTraces = false) (D : va_G) (hh : Nat → Nat) (cI cZ : ClassId) (v : S0) (x : Int32) (hm : x < 0 ∨ nI (xn v) ≤ x) : zX l yX0_lumpsOf wsX0_lumpsOf 7 103 [.ref (hh 0), .int x] [(cI, .int), (cZ, .boolean)] D (wX0 hh cI cZ v) zI := by
  refine z_xmet (cc := cX0_lumpsOf) (maxL := 2) (ret := (some .int)) (by decide) rfl (Nat.le_of_ble_eq_true rfl) ?_
  intro p e s m args below meth c A C hT hlocks hout
  have inl : ∀ w ∈ u_ws RX0 TX0 14, w ∈ wsX0_lumpsOf := by decide +kernel
  refine z_sub (L' := [(0, .ref (hh 0)), (1, .int x)]) [0, 1] rfl ?_
  refine z_aload_n C 0 dX0_lumpsOf_0 rfl rfl ?_
  refine z_iload_n C 1 dX0_lumpsOf_1 rfl rfl ?_
  exact z_xcallV (w := (wX0 hh cI cZ v)) (w1 := ([] : va_W)) (w2 := ([] : va_W)) (As := [.int x]) (rest := []) C hT (c_X0_checkMember_bad l hst D hh cI cZ v x hm) (cwV 1 C.words gX0_lumpsOf_X0_checkMember rfl rfl rfl (by decide +kernel) ⟨(Nat.le_of_ble_eq_true rfl), (Nat.le_of_ble_eq_true rfl)⟩) (q0 := 0) (ci := 0) rfl rfl rfl [0, 1] rfl rfl (Nat.le_of_ble_eq_true rfl) ⟨(Nat.le_of_ble_eq_true rfl), (Nat.le_of_ble_eq_true rfl)⟩ rfl rfl hout hlocks (Nat.le_of_ble_eq_true rfl) (Nat.le_of_ble_eq_true rfl) dX0_lumpsOf_2
set_option maxHeartbeats 4000000 in
set_option maxRecDepth 100000 in
theorem c_X0_dailyLoss_bad (l : Launch) (hst : l.stackTraces = false) (D : va_G) (hh : Nat → Nat) (cI cZ : ClassId) (v : S0) (x : Int32) (hm : x < 0 ∨ nI (xn v) ≤ x) : zX l yX0_dailyLoss wsX0_dailyLoss 7 103 [.ref (hh 0), .int x] [(cI, .int), (cZ, .boolean)] D (wX0 hh cI cZ v) zI := by
  refine z_xmet (cc := cX0_dailyLoss) (maxL := 2) (ret := (some .int)) (by decide) rfl (Nat.le_of_ble_eq_true rfl) ?_
  intro p e s m args below meth c A C hT hlocks hout
  have inl : ∀ w ∈ u_ws RX0 TX0 14, w ∈ wsX0_dailyLoss := by decide +kernel
  refine z_sub (L' := [(0, .ref (hh 0)), (1, .int x)]) [0, 1] rfl ?_
  refine z_aload_n C 0 dX0_dailyLoss_0 rfl rfl ?_
  refine z_iload_n C 1 dX0_dailyLoss_1 rfl rfl ?_
  exact z_xcallV (w := (wX0 hh cI cZ v)) (w1 := ([] : va_W)) (w2 := ([] : va_W)) (As := [.int x]) (rest := []) C hT (c_X0_checkMember_bad l hst D hh cI cZ v x hm) (cwV 1 C.words gX0_dailyLoss_X0_checkMember rfl rfl rfl (by decide +kernel) ⟨(Nat.le_of_ble_eq_true rfl), (Nat.le_of_ble_eq_true rfl)⟩) (q0 := 0) (ci := 0) rfl rfl rfl [0, 1] rfl rfl (Nat.le_of_ble_eq_true rfl) ⟨(Nat.le_of_ble_eq_true rfl), (Nat.le_of_ble_eq_true rfl)⟩ rfl rfl hout hlocks (Nat.le_of_ble_eq_true rfl) (Nat.le_of_ble_eq_true rfl) dX0_dailyLoss_2
set_option maxHeartbeats 4000000 in
set_option maxRecDepth 100000 in
theorem c_X0_arrearsByAudit_bad (l : Launch) (hst : l.stackTraces = false) (D : va_G) (hh : Nat → Nat) (cI cZ : ClassId) (v : S0) (x : Int32) (hm : x < 0 ∨ nI (xn v) ≤ x) : zX l yX0_arrearsByAudit wsX0_arrearsByAudit 7 103 [.ref (hh 0), .int x] [(cI, .int), (cZ, .boolean)] D (wX0 hh cI cZ v) zI := by
  refine z_xmet (cc := cX0_arrearsByAudit) (maxL := 2) (ret := (some .int)) (by decide) rfl (Nat.le_of_ble_eq_true rfl) ?_
  intro p e s m args below meth c A C hT hlocks hout
  have inl : ∀ w ∈ u_ws RX0 TX0 14, w ∈ wsX0_arrearsByAudit := by decide +kernel
  refine z_sub (L' := [(0, .ref (hh 0)), (1, .int x)]) [0, 1] rfl ?_
  refine z_aload_n C 0 dX0_arrearsByAudit_0 rfl rfl ?_
  refine z_iload_n C 1 dX0_arrearsByAudit_1 rfl rfl ?_
  exact z_xcallV (w := (wX0 hh cI cZ v)) (w1 := ([] : va_W)) (w2 := ([] : va_W)) (As := [.int x]) (rest := []) C hT (c_X0_checkMember_bad l hst D hh cI cZ v x hm) (cwV 1 C.words gX0_arrearsByAudit_X0_checkMember rfl rfl rfl (by decide +kernel) ⟨(Nat.le_of_ble_eq_true rfl), (Nat.le_of_ble_eq_true rfl)⟩) (q0 := 0) (ci := 0) rfl rfl rfl [0, 1] rfl rfl (Nat.le_of_ble_eq_true rfl) ⟨(Nat.le_of_ble_eq_true rfl), (Nat.le_of_ble_eq_true rfl)⟩ rfl rfl hout hlocks (Nat.le_of_ble_eq_true rfl) (Nat.le_of_ble_eq_true rfl) dX0_arrearsByAudit_2
set_option maxHeartbeats 4000000 in
set_option maxRecDepth 100000 in
theorem c_X0_daysUntilClear_bad (l : Launch) (hst : l.stackTraces = false) (D : va_G) (hh : Nat → Nat) (cI cZ : ClassId) (v : S0) (x : Int32) (hm : x < 0 ∨ nI (xn v) ≤ x) : zX l yX0_daysUntilClear wsX0_daysUntilClear 7 103 [.ref (hh 0), .int x] [(cI, .int), (cZ, .boolean)] D (wX0 hh cI cZ v) zI := by
  refine z_xmet (cc := cX0_daysUntilClear) (maxL := 3) (ret := (some .int)) (by decide) rfl (Nat.le_of_ble_eq_true rfl) ?_
  intro p e s m args below meth c A C hT hlocks hout
  have inl : ∀ w ∈ u_ws RX0 TX0 14, w ∈ wsX0_daysUntilClear := by decide +kernel
  refine z_sub (L' := [(0, .ref (hh 0)), (1, .int x)]) [0, 1] rfl ?_
  refine z_aload_n C 0 dX0_daysUntilClear_0 rfl rfl ?_
  refine z_iload_n C 1 dX0_daysUntilClear_1 rfl rfl ?_
  exact z_xcallV (w := (wX0 hh cI cZ v)) (w1 := ([] : va_W)) (w2 := ([] : va_W)) (As := [.int x]) (rest := []) C hT (c_X0_checkMember_bad l hst D hh cI cZ v x hm) (cwV 1 C.words gX0_daysUntilClear_X0_checkMember rfl rfl rfl (by decide +kernel) ⟨(Nat.le_of_ble_eq_true rfl), (Nat.le_of_ble_eq_true rfl)⟩) (q0 := 0) (ci := 0) rfl rfl rfl [0, 1] rfl rfl (Nat.le_of_ble_eq_true rfl) ⟨(Nat.le_of_ble_eq_true rfl), (Nat.le_of_ble_eq_true rfl)⟩ rfl rfl hout hlocks (Nat.le_of_ble_eq_true rfl) (Nat.le_of_ble_eq_true rfl) dX0_daysUntilClear_2
set_option maxHeartbeats 4000000 in
set_option maxRecDepth 100000 in
theorem c_X0_daysUntilUnlucky_bad (l : Launch) (hst : l.stackTraces = false) (D : va_G) (hh : Nat → Nat) (cI cZ : ClassId) (v : S0) (x : Int32) (hm : x < 0 ∨ nI (xn v) ≤ x) : zX l yX0_daysUntilUnlucky wsX0_daysUntilUnlucky 7 103 [.ref (hh 0), .int x] [(cI, .int), (cZ, .boolean)] D (wX0 hh cI cZ v) zI := by
  refine z_xmet (cc := cX0_daysUntilUnlucky) (maxL := 3) (ret := (some .int)) (by decide) rfl (Nat.le_of_ble_eq_true rfl) ?_
  intro p e s m args below meth c A C hT hlocks hout
  have inl : ∀ w ∈ u_ws RX0 TX0 14, w ∈ wsX0_daysUntilUnlucky := by decide +kernel
  refine z_sub (L' := [(0, .ref (hh 0)), (1, .int x)]) [0, 1] rfl ?_
  refine z_aload_n C 0 dX0_daysUntilUnlucky_0 rfl rfl ?_
  refine z_iload_n C 1 dX0_daysUntilUnlucky_1 rfl rfl ?_
  exact z_xcallV (w := (wX0 hh cI cZ v)) (w1 := ([] : va_W)) (w2 := ([] : va_W)) (As := [.int x]) (rest := []) C hT (c_X0_checkMember_bad l hst D hh cI cZ v x hm) (cwV 1 C.words gX0_daysUntilUnlucky_X0_checkMember rfl rfl rfl (by decide +kernel) ⟨(Nat.le_of_ble_eq_true rfl), (Nat.le_of_ble_eq_true rfl)⟩) (q0 := 0) (ci := 0) rfl rfl rfl [0, 1] rfl rfl (Nat.le_of_ble_eq_true rfl) ⟨(Nat.le_of_ble_eq_true rfl), (Nat.le_of_ble_eq_true rfl)⟩ rfl rfl hout hlocks (Nat.le_of_ble_eq_true rfl) (Nat.le_of_ble_eq_true rfl) dX0_daysUntilUnlucky_2
set_option maxHeartbeats 4000000 in
set_option maxRecDepth 100000 in
theorem c_X0_bestPinch_bad (l : Launch) (hst : l.stackTraces = false) (D : va_G) (hh : Nat → Nat) (cI cZ : ClassId) (v : S0) (x : Int32) (hm : x < 0 ∨ nI (xn v) ≤ x) : zX l yX0_bestPinch wsX0_bestPinch 7 103 [.ref (hh 0), .int x] [(cI, .int), (cZ, .boolean)] D (wX0 hh cI cZ v) zI := by
  refine z_xmet (cc := cX0_bestPinch) (maxL := 7) (ret := (some .int)) (by decide) rfl (Nat.le_of_ble_eq_true rfl) ?_
  intro p e s m args below meth c A C hT hlocks hout
  have inl : ∀ w ∈ u_ws RX0 TX0 14, w ∈ wsX0_bestPinch := by decide +kernel
  refine z_sub (L' := [(0, .ref (hh 0)), (1, .int x)]) [0, 1] rfl ?_
  refine z_aload_n C 0 dX0_bestPinch_0 rfl rfl ?_
  refine z_iload_n C 1 dX0_bestPinch_1 rfl rfl ?_
  exact z_xcallV (w := (wX0 hh cI cZ v)) (w1 := ([] : va_W)) (w2 := ([] : va_W)) (As := [.int x]) (rest := []) C hT (c_X0_checkMember_bad l hst D hh cI cZ v x hm) (cwV 1 C.words gX0_bestPinch_X0_checkMember rfl rfl rfl (by decide +kernel) ⟨(Nat.le_of_ble_eq_true rfl), (Nat.le_of_ble_eq_true rfl)⟩) (q0 := 0) (ci := 0) rfl rfl rfl [0, 1] rfl rfl (Nat.le_of_ble_eq_true rfl) ⟨(Nat.le_of_ble_eq_true rfl), (Nat.le_of_ble_eq_true rfl)⟩ rfl rfl hout hlocks (Nat.le_of_ble_eq_true rfl) (Nat.le_of_ble_eq_true rfl) dX0_bestPinch_2
set_option maxHeartbeats 4000000 in
set_option maxRecDepth 100000 in
theorem c_X0_bestPenance_bad (l : Launch) (hst : l.stackTraces = false) (D : va_G) (hh : Nat → Nat) (cI cZ : ClassId) (v : S0) (x : Int32) (hm : x < 0 ∨ nI (xn v) ≤ x) : zX l yX0_bestPenance wsX0_bestPenance 7 103 [.ref (hh 0), .int x] [(cI, .int), (cZ, .boolean)] D (wX0 hh cI cZ v) zI := by
  refine z_xmet (cc := cX0_bestPenance) (maxL := 6) (ret := (some .int)) (by decide) rfl (Nat.le_of_ble_eq_true rfl) ?_
  intro p e s m args below meth c A C hT hlocks hout
  have inl : ∀ w ∈ u_ws RX0 TX0 14, w ∈ wsX0_bestPenance := by decide +kernel
  refine z_sub (L' := [(0, .ref (hh 0)), (1, .int x)]) [0, 1] rfl ?_
  refine z_aload_n C 0 dX0_bestPenance_0 rfl rfl ?_
  refine z_iload_n C 1 dX0_bestPenance_1 rfl rfl ?_
  exact z_xcallV (w := (wX0 hh cI cZ v)) (w1 := ([] : va_W)) (w2 := ([] : va_W)) (As := [.int x]) (rest := []) C hT (c_X0_checkMember_bad l hst D hh cI cZ v x hm) (cwV 1 C.words gX0_bestPenance_X0_checkMember rfl rfl rfl (by decide +kernel) ⟨(Nat.le_of_ble_eq_true rfl), (Nat.le_of_ble_eq_true rfl)⟩) (q0 := 0) (ci := 0) rfl rfl rfl [0, 1] rfl rfl (Nat.le_of_ble_eq_true rfl) ⟨(Nat.le_of_ble_eq_true rfl), (Nat.le_of_ble_eq_true rfl)⟩ rfl rfl hout hlocks (Nat.le_of_ble_eq_true rfl) (Nat.le_of_ble_eq_true rfl) dX0_bestPenance_2
set_option maxHeartbeats 4000000 in
set_option maxRecDepth 100000 in
theorem c_X0_memberOf_bad (l : Launch) (hst : l.stackTraces = false) (D : va_G) (hh : Nat → Nat) (cI cZ : ClassId) (v : S0) (x : Int32) (hm : x < 0 ∨ nI (xk v) ≤ x) : zX l yX0_memberOf wsX0_memberOf 7 103 [.ref (hh 0), .int x] [(cI, .int), (cZ, .boolean)] D (wX0 hh cI cZ v) zI := by
  refine z_xmet (cc := cX0_memberOf) (maxL := 2) (ret := (some .int)) (by decide) rfl (Nat.le_of_ble_eq_true rfl) ?_
  intro p e s m args below meth c A C hT hlocks hout
  have inl : ∀ w ∈ u_ws RX0 TX0 14, w ∈ wsX0_memberOf := by decide +kernel
  refine z_sub (L' := [(0, .ref (hh 0)), (1, .int x)]) [0, 1] rfl ?_
  refine z_aload_n C 0 dX0_memberOf_0 rfl rfl ?_
  refine z_iload_n C 1 dX0_memberOf_1 rfl rfl ?_
  exact z_xcallV (w := (wX0 hh cI cZ v)) (w1 := ([] : va_W)) (w2 := ([] : va_W)) (As := [.int x]) (rest := []) C hT (c_X0_checkEntry_bad l hst D hh cI cZ v x hm) (cwV 1 C.words gX0_memberOf_X0_checkEntry rfl rfl rfl (by decide +kernel) ⟨(Nat.le_of_ble_eq_true rfl), (Nat.le_of_ble_eq_true rfl)⟩) (q0 := 0) (ci := 0) rfl rfl rfl [0, 1] rfl rfl (Nat.le_of_ble_eq_true rfl) ⟨(Nat.le_of_ble_eq_true rfl), (Nat.le_of_ble_eq_true rfl)⟩ rfl rfl hout hlocks (Nat.le_of_ble_eq_true rfl) (Nat.le_of_ble_eq_true rfl) dX0_memberOf_2
set_option maxHeartbeats 4000000 in
set_option maxRecDepth 100000 in
theorem c_X0_isLeft_bad (l : Launch) (hst : l.stackTraces = false) (D : va_G) (hh : Nat → Nat) (cI cZ : ClassId) (v : S0) (x : Int32) (hm : x < 0 ∨ nI (xk v) ≤ x) : zX l yX0_isLeft wsX0_isLeft 7 103 [.ref (hh 0), .int x] [(cI, .int), (cZ, .boolean)] D (wX0 hh cI cZ v) zI := by
  refine z_xmet (cc := cX0_isLeft) (maxL := 2) (ret := (some .boolean)) (by decide) rfl (Nat.le_of_ble_eq_true rfl) ?_
  intro p e s m args below meth c A C hT hlocks hout
  have inl : ∀ w ∈ u_ws RX0 TX0 14, w ∈ wsX0_isLeft := by decide +kernel
  refine z_sub (L' := [(0, .ref (hh 0)), (1, .int x)]) [0, 1] rfl ?_
  refine z_aload_n C 0 dX0_isLeft_0 rfl rfl ?_
  refine z_iload_n C 1 dX0_isLeft_1 rfl rfl ?_
  exact z_xcallV (w := (wX0 hh cI cZ v)) (w1 := ([] : va_W)) (w2 := ([] : va_W)) (As := [.int x]) (rest := []) C hT (c_X0_checkEntry_bad l hst D hh cI cZ v x hm) (cwV 1 C.words gX0_isLeft_X0_checkEntry rfl rfl rfl (by decide +kernel) ⟨(Nat.le_of_ble_eq_true rfl), (Nat.le_of_ble_eq_true rfl)⟩) (q0 := 0) (ci := 0) rfl rfl rfl [0, 1] rfl rfl (Nat.le_of_ble_eq_true rfl) ⟨(Nat.le_of_ble_eq_true rfl), (Nat.le_of_ble_eq_true rfl)⟩ rfl rfl hout hlocks (Nat.le_of_ble_eq_true rfl) (Nat.le_of_ble_eq_true rfl) dX0_isLeft_2
set_option maxHeartbeats 4000000 in
set_option maxRecDepth 100000 in
theorem c_X0_grainsOf_bad (l : Launch) (hst : l.stackTraces = false) (D : va_G) (hh : Nat → Nat) (cI cZ : ClassId) (v : S0) (x : Int32) (hm : x < 0 ∨ nI (xk v) ≤ x) : zX l yX0_grainsOf wsX0_grainsOf 7 103 [.ref (hh 0), .int x] [(cI, .int), (cZ, .boolean)] D (wX0 hh cI cZ v) zI := by
  refine z_xmet (cc := cX0_grainsOf) (maxL := 2) (ret := (some .int)) (by decide) rfl (Nat.le_of_ble_eq_true rfl) ?_
  intro p e s m args below meth c A C hT hlocks hout
  have inl : ∀ w ∈ u_ws RX0 TX0 14, w ∈ wsX0_grainsOf := by decide +kernel
  refine z_sub (L' := [(0, .ref (hh 0)), (1, .int x)]) [0, 1] rfl ?_
  refine z_aload_n C 0 dX0_grainsOf_0 rfl rfl ?_
  refine z_iload_n C 1 dX0_grainsOf_1 rfl rfl ?_
  exact z_xcallV (w := (wX0 hh cI cZ v)) (w1 := ([] : va_W)) (w2 := ([] : va_W)) (As := [.int x]) (rest := []) C hT (c_X0_checkEntry_bad l hst D hh cI cZ v x hm) (cwV 1 C.words gX0_grainsOf_X0_checkEntry rfl rfl rfl (by decide +kernel) ⟨(Nat.le_of_ble_eq_true rfl), (Nat.le_of_ble_eq_true rfl)⟩) (q0 := 0) (ci := 0) rfl rfl rfl [0, 1] rfl rfl (Nat.le_of_ble_eq_true rfl) ⟨(Nat.le_of_ble_eq_true rfl), (Nat.le_of_ble_eq_true rfl)⟩ rfl rfl hout hlocks (Nat.le_of_ble_eq_true rfl) (Nat.le_of_ble_eq_true rfl) dX0_grainsOf_2
set_option maxHeartbeats 4000000 in
set_option maxRecDepth 100000 in
theorem c_X0_excessOf_bad (l : Launch) (hst : l.stackTraces = false) (D : va_G) (hh : Nat → Nat) (cI cZ : ClassId) (v : S0) (x : Int32) (hm : x < 0 ∨ nI (xk v) ≤ x) : zX l yX0_excessOf wsX0_excessOf 7 103 [.ref (hh 0), .int x] [(cI, .int), (cZ, .boolean)] D (wX0 hh cI cZ v) zI := by
  refine z_xmet (cc := cX0_excessOf) (maxL := 2) (ret := (some .int)) (by decide) rfl (Nat.le_of_ble_eq_true rfl) ?_
  intro p e s m args below meth c A C hT hlocks hout
  have inl : ∀ w ∈ u_ws RX0 TX0 14, w ∈ wsX0_excessOf := by decide +kernel
  refine z_sub (L' := [(0, .ref (hh 0)), (1, .int x)]) [0, 1] rfl ?_
  refine z_aload_n C 0 dX0_excessOf_0 rfl rfl ?_
  refine z_iload_n C 1 dX0_excessOf_1 rfl rfl ?_
  exact z_xcallV (w := (wX0 hh cI cZ v)) (w1 := ([] : va_W)) (w2 := ([] : va_W)) (As := [.int x]) (rest := []) C hT (c_X0_checkEntry_bad l hst D hh cI cZ v x hm) (cwV 1 C.words gX0_excessOf_X0_checkEntry rfl rfl rfl (by decide +kernel) ⟨(Nat.le_of_ble_eq_true rfl), (Nat.le_of_ble_eq_true rfl)⟩) (q0 := 0) (ci := 0) rfl rfl rfl [0, 1] rfl rfl (Nat.le_of_ble_eq_true rfl) ⟨(Nat.le_of_ble_eq_true rfl), (Nat.le_of_ble_eq_true rfl)⟩ rfl rfl hout hlocks (Nat.le_of_ble_eq_true rfl) (Nat.le_of_ble_eq_true rfl) dX0_excessOf_2
set_option maxHeartbeats 4000000 in
set_option maxRecDepth 100000 in
theorem c_X0_luckIn_b1 (l : Launch) (hst : l.stackTraces = false) (D : va_G) (hh : Nat → Nat) (cI cZ : ClassId) (v : S0) (x g : Int32) (hm : x < 0 ∨ nI (xn v) ≤ x) : zX l yX0_luckIn wsX0_luckIn 7 103 [.ref (hh 0), .int x, .int g] [(cI, .int), (cZ, .boolean)] D (wX0 hh cI cZ v) zI := by
  refine z_xmet (cc := cX0_luckIn) (maxL := 3) (ret := (some .int)) (by decide) rfl (Nat.le_of_ble_eq_true rfl) ?_
  intro p e s m args below meth c A C hT hlocks hout
  have inl : ∀ w ∈ u_ws RX0 TX0 14, w ∈ wsX0_luckIn := by decide +kernel
  refine z_sub (L' := [(0, .ref (hh 0)), (1, .int x), (2, .int g)]) [0, 1, 2] rfl ?_
  refine z_aload_n C 0 dX0_luckIn_0 rfl rfl ?_
  refine z_iload_n C 1 dX0_luckIn_1 rfl rfl ?_
  exact z_xcallV (w := (wX0 hh cI cZ v)) (w1 := ([] : va_W)) (w2 := ([] : va_W)) (As := [.int x]) (rest := []) C hT (c_X0_checkMember_bad l hst D hh cI cZ v x hm) (cwV 1 C.words gX0_luckIn_X0_checkMember rfl rfl rfl (by decide +kernel) ⟨(Nat.le_of_ble_eq_true rfl), (Nat.le_of_ble_eq_true rfl)⟩) (q0 := 0) (ci := 0) rfl rfl rfl [0, 1] rfl rfl (Nat.le_of_ble_eq_true rfl) ⟨(Nat.le_of_ble_eq_true rfl), (Nat.le_of_ble_eq_true rfl)⟩ rfl rfl hout hlocks (Nat.le_of_ble_eq_true rfl) (Nat.le_of_ble_eq_true rfl) dX0_luckIn_2
set_option maxHeartbeats 4000000 in
set_option maxRecDepth 100000 in
theorem c_X0_luckIn_b2 (l : Launch) (hst : l.stackTraces = false) (D : va_G) (hh : Nat → Nat) (cI cZ : ClassId) (v : S0) (j : Nat) (g : Int32) (hj : j < xn v) (hn : xn v ≤ 8) (hg : g < 1 ∨ ¬ g ≤ 60) : zX l yX0_luckIn wsX0_luckIn 7 103 [.ref (hh 0), .int (nI j), .int g] [(cI, .int), (cZ, .boolean)] D (wX0 hh cI cZ v) zA := by
  refine z_xmet (cc := cX0_luckIn) (maxL := 3) (ret := (some .int)) (by decide) rfl (Nat.le_of_ble_eq_true rfl) ?_
  intro p e s m args below meth c A C hT hlocks hout
  have inl : ∀ w ∈ u_ws RX0 TX0 14, w ∈ wsX0_luckIn := by decide +kernel
  refine z_sub (L' := [(0, .ref (hh 0)), (1, .int (nI j)), (2, .int g)]) [0, 1, 2] rfl ?_
  refine z_aload_n C 0 dX0_luckIn_0 rfl rfl ?_
  refine z_iload_n C 1 dX0_luckIn_1 rfl rfl ?_
  refine z_callV (w := (wX0 hh cI cZ v)) (w' := (wX0 hh cI cZ v)) (w1 := ([] : va_W)) (w2 := ([] : va_W)) (ws' := (wX0 hh cI cZ v)) (As := [.int (nI j)]) (rest := []) (st' := []) (rv := none) C (c_X0_checkMember l D hh cI cZ v j (by omega) (by omega)) (cwV 1 C.words gX0_luckIn_X0_checkMember rfl rfl rfl (by decide +kernel) ⟨(Nat.le_of_ble_eq_true rfl), (Nat.le_of_ble_eq_true rfl)⟩) (q0 := 0) (ci := 0) rfl rfl rfl [0, 1] rfl rfl (Nat.le_of_ble_eq_true rfl) ⟨(Nat.le_of_ble_eq_true rfl), (Nat.le_of_ble_eq_true rfl)⟩ rfl rfl rfl rfl rfl dX0_luckIn_2 ?_
  refine z_iload_n C 2 dX0_luckIn_5 rfl rfl ?_
  refine z_bipush (v := 60) C dX0_luckIn_6 (by decide) ?_
  exact z_xcallS (w := ([] : va_W)) (w1 := (wX0 hh cI cZ v)) (w2 := ([] : va_W)) (As := [.int g, .int 60]) (rest := []) C hT (c_X0_checkAmount_bad l hst D g 60 hg) (va_cwS 2 C.words gX0_luckIn_X0_checkAmount rfl rfl rfl (by decide +kernel) ⟨(Nat.le_of_ble_eq_true rfl), (Nat.le_of_ble_eq_true rfl)⟩) [] rfl rfl (Nat.le_of_ble_eq_true rfl) ⟨(Nat.le_of_ble_eq_true rfl), (Nat.le_of_ble_eq_true rfl)⟩ rfl rfl hout hlocks (Nat.le_of_ble_eq_true rfl) (Nat.le_of_ble_eq_true rfl) dX0_luckIn_8
