set_option maxHeartbeats 4000000 in
set_option maxRecDepth 100000 in
theorem c_X0_checkAmount (l : Launch) (D : va_G) (x mo : Int32) (h1 : ¬ x < 1) (h2 : x ≤ mo) : zM l yX0_checkAmount wsX0_checkAmount 0 0 0 0 [.int x, .int mo] [] D ([] : va_W) ([] : va_W) none := by
  refine z_met (cc := cX0_checkAmount) (maxL := 2) (ret := none) (by decide) rfl (Nat.le_of_ble_eq_true rfl) ?_
  intro p e s m args below meth c A C hr hlocks
  refine z_sub (L' := [(0, .int x), (1, .int mo)]) [0, 1] rfl ?_
  refine z_iload_n C 0 dX0_checkAmount_0 rfl rfl ?_
  refine z_iconst (v := 1) C dX0_checkAmount_1 (by decide) ?_
  refine z_icmp_lt (tgt := 10) C dX0_checkAmount_2 (by decide) (fun h9 => absurd h9 (h1)) (fun _ => ?_)
  refine z_iload_n C 0 dX0_checkAmount_5 rfl rfl ?_
  refine z_iload_n C 1 dX0_checkAmount_6 rfl rfl ?_
  refine z_icmp_le (tgt := 20) C dX0_checkAmount_7 (by decide) (fun _ => ?_) (fun h9 => absurd (h2) h9)
  exact z_vret C hr hlocks (Nat.le_of_ble_eq_true rfl) (Nat.le_of_ble_eq_true rfl) dX0_checkAmount_20 rfl
set_option maxHeartbeats 4000000 in
set_option maxRecDepth 100000 in
theorem c_X0_checkMember (l : Launch) (D : va_G) (hh : Nat → Nat) (cI cZ : ClassId) (v : S0) (j : Nat) (hj : j < xn v) (hn : xn v ≤ 8) : zM l yX0_checkMember wsX0_checkMember 0 0 0 0 [.ref (hh 0), .int (nI j)] [(cI, .int), (cZ, .boolean)] D (wX0 hh cI cZ v) (wX0 hh cI cZ v) none := by
  refine z_met (cc := cX0_checkMember) (maxL := 2) (ret := none) (by decide) rfl (Nat.le_of_ble_eq_true rfl) ?_
  intro p e s m args below meth c A C hr hlocks
  have inl : ∀ w ∈ u_ws RX0 TX0 14, w ∈ wsX0_checkMember := by decide +kernel
  have wd0 : Cond.fieldLink RX0 32 "SaltOrder" "memberCount" "I" ∈ wsX0_checkMember := by decide +kernel
  refine z_sub (L' := [(0, .ref (hh 0)), (1, .int (nI j))]) [0, 1] rfl ?_
  refine z_iload_n C 1 dX0_checkMember_0 rfl rfl ?_
  refine z_if_lt (tgt := 12) C dX0_checkMember_1 (by decide) (fun h9 => absurd h9 (nI_pos (by omega))) (fun _ => ?_)
  refine z_iload_n C 1 dX0_checkMember_4 rfl rfl ?_
  refine z_aload_n C 0 dX0_checkMember_5 rfl rfl ?_
  refine z_get0 (v := .int (nI (xn v))) C inl 0 3 (by decide) rfl rfl wd0 dX0_checkMember_6 ?_
  refine z_icmp_lt (tgt := 22) C dX0_checkMember_9 (by decide) (fun _ => ?_) (fun h9 => absurd (nI_lt (by omega) (by omega)) h9)
  exact z_vret C hr hlocks (Nat.le_of_ble_eq_true rfl) (Nat.le_of_ble_eq_true rfl) dX0_checkMember_22 rfl
set_option maxHeartbeats 4000000 in
set_option maxRecDepth 100000 in
theorem c_X0_checkEntry (l : Launch) (D : va_G) (hh : Nat → Nat) (cI cZ : ClassId) (v : S0) (j : Nat) (hj : j < xk v) (hk : xk v ≤ 30) : zM l yX0_checkEntry wsX0_checkEntry 0 0 0 0 [.ref (hh 0), .int (nI j)] [(cI, .int), (cZ, .boolean)] D (wX0 hh cI cZ v) (wX0 hh cI cZ v) none := by
  refine z_met (cc := cX0_checkEntry) (maxL := 2) (ret := none) (by decide) rfl (Nat.le_of_ble_eq_true rfl) ?_
  intro p e s m args below meth c A C hr hlocks
  have inl : ∀ w ∈ u_ws RX0 TX0 14, w ∈ wsX0_checkEntry := by decide +kernel
  have wd0 : Cond.fieldLink RX0 36 "SaltOrder" "throwCount" "I" ∈ wsX0_checkEntry := by decide +kernel
  refine z_sub (L' := [(0, .ref (hh 0)), (1, .int (nI j))]) [0, 1] rfl ?_
  refine z_iload_n C 1 dX0_checkEntry_0 rfl rfl ?_
  refine z_if_lt (tgt := 12) C dX0_checkEntry_1 (by decide) (fun h9 => absurd h9 (nI_pos (by omega))) (fun _ => ?_)
  refine z_iload_n C 1 dX0_checkEntry_4 rfl rfl ?_
  refine z_aload_n C 0 dX0_checkEntry_5 rfl rfl ?_
  refine z_get0 (v := .int (nI (xk v))) C inl 0 8 (by decide) rfl rfl wd0 dX0_checkEntry_6 ?_
  refine z_icmp_lt (tgt := 22) C dX0_checkEntry_9 (by decide) (fun _ => ?_) (fun h9 => absurd (nI_lt (by omega) (by omega)) h9)
  exact z_vret C hr hlocks (Nat.le_of_ble_eq_true rfl) (Nat.le_of_ble_eq_true rfl) dX0_checkEntry_22 rfl
set_option maxHeartbeats 4000000 in
set_option maxRecDepth 100000 in
theorem c_X0_checkShoulder (l : Launch) (D : va_G) (b : Int32) (hb : b = 0 ∨ b = 1) : zM l yX0_checkShoulder wsX0_checkShoulder 0 0 0 0 [.int b] [] D ([] : va_W) ([] : va_W) none := by
  refine z_met (cc := cX0_checkShoulder) (maxL := 1) (ret := none) (by decide) rfl (Nat.le_of_ble_eq_true rfl) ?_
  intro p e s m args below meth c A C hr hlocks
  refine z_sub (L' := [(0, .int b)]) [0] rfl ?_
  refine z_iload_n C 0 dX0_checkShoulder_0 rfl rfl ?_
  refine z_if_eq (tgt := 19) C dX0_checkShoulder_1 (by decide) (fun c1 => ?_) (fun c1 => ?_)
  · skip
    exact z_vret C hr hlocks (Nat.le_of_ble_eq_true rfl) (Nat.le_of_ble_eq_true rfl) dX0_checkShoulder_19 rfl
  · skip
    refine z_iload_n C 0 dX0_checkShoulder_4 rfl rfl ?_
    refine z_iconst (v := 1) C dX0_checkShoulder_5 (by decide) ?_
    refine z_icmp_eq (tgt := 19) C dX0_checkShoulder_6 (by decide) (fun _ => ?_) (fun h9 => absurd (hb.resolve_left c1) h9)
    exact z_vret C hr hlocks (Nat.le_of_ble_eq_true rfl) (Nat.le_of_ble_eq_true rfl) dX0_checkShoulder_19 rfl
set_option maxHeartbeats 4000000 in
set_option maxRecDepth 100000 in
theorem c_X0_checkCellar (l : Launch) (D : va_G) (hh : Nat → Nat) (cI cZ : ClassId) (v : S0) (g : Int32) (hg : g ≤ nI (xc v)) : zM l yX0_checkCellar wsX0_checkCellar 0 0 0 0 [.ref (hh 0), .int g] [(cI, .int), (cZ, .boolean)] D (wX0 hh cI cZ v) (wX0 hh cI cZ v) none := by
  refine z_met (cc := cX0_checkCellar) (maxL := 2) (ret := none) (by decide) rfl (Nat.le_of_ble_eq_true rfl) ?_
  intro p e s m args below meth c A C hr hlocks
  have inl : ∀ w ∈ u_ws RX0 TX0 14, w ∈ wsX0_checkCellar := by decide +kernel
  have wd0 : Cond.fieldLink RX0 39 "SaltOrder" "cellar" "I" ∈ wsX0_checkCellar := by decide +kernel
  refine z_sub (L' := [(0, .ref (hh 0)), (1, .int g)]) [0, 1] rfl ?_
  refine z_aload_n C 0 dX0_checkCellar_0 rfl rfl ?_
  refine z_get0 (v := .int (nI (xc v))) C inl 0 9 (by decide) rfl rfl wd0 dX0_checkCellar_1 ?_
  refine z_iload_n C 1 dX0_checkCellar_4 rfl rfl ?_
  refine z_icmp_ge (tgt := 18) C dX0_checkCellar_5 (by decide) (fun _ => ?_) (fun h9 => absurd (hg) h9)
  exact z_vret C hr hlocks (Nat.le_of_ble_eq_true rfl) (Nat.le_of_ble_eq_true rfl) dX0_checkCellar_18 rfl
set_option maxHeartbeats 4000000 in
set_option maxRecDepth 100000 in
theorem c_X0_checkLedgerHasRoom (l : Launch) (D : va_G) (hh : Nat → Nat) (cI cZ : ClassId) (v : S0) (hk : xk v < 30) : zM l yX0_checkLedgerHasRoom wsX0_checkLedgerHasRoom 0 0 0 0 [.ref (hh 0)] [(cI, .int), (cZ, .boolean)] D (wX0 hh cI cZ v) (wX0 hh cI cZ v) none := by
  refine z_met (cc := cX0_checkLedgerHasRoom) (maxL := 1) (ret := none) (by decide) rfl (Nat.le_of_ble_eq_true rfl) ?_
  intro p e s m args below meth c A C hr hlocks
  have inl : ∀ w ∈ u_ws RX0 TX0 14, w ∈ wsX0_checkLedgerHasRoom := by decide +kernel
  have wd0 : Cond.fieldLink RX0 36 "SaltOrder" "throwCount" "I" ∈ wsX0_checkLedgerHasRoom := by decide +kernel
  refine z_sub (L' := [(0, .ref (hh 0))]) [0] rfl ?_
  refine z_aload_n C 0 dX0_checkLedgerHasRoom_0 rfl rfl ?_
  refine z_get0 (v := .int (nI (xk v))) C inl 0 8 (by decide) rfl rfl wd0 dX0_checkLedgerHasRoom_1 ?_
  refine z_bipush (v := 30) C dX0_checkLedgerHasRoom_4 (by decide) ?_
  refine z_icmp_lt (tgt := 19) C dX0_checkLedgerHasRoom_6 (by decide) (fun _ => ?_) (fun h9 => absurd (nI_lt (b := 30) (by omega) (by omega)) h9)
  exact z_vret C hr hlocks (Nat.le_of_ble_eq_true rfl) (Nat.le_of_ble_eq_true rfl) dX0_checkLedgerHasRoom_19 rfl
set_option maxHeartbeats 4000000 in
set_option maxRecDepth 100000 in
theorem c_X0_pass (l : Launch) (D : va_G) (hh : Nat → Nat) (cI cZ : ClassId) (v : S0) (d : Nat) (h1 : 1 ≤ d) (h2 : d ≤ 60) (hn : xn v ≤ 8) (hk : xk v ≤ 30) : zM l yX0_pass wsX0_pass 4 81 0 0 [.ref (hh 0), .int (nI d)] [(cI, .int), (cZ, .boolean)] D (wX0 hh cI cZ v) (wX0 hh cI cZ (xpass v d)) (some (.int (xpassF v d))) := by
  refine z_met (cc := cX0_pass) (maxL := 4) (ret := (some .int)) (by decide) rfl (Nat.le_of_ble_eq_true rfl) ?_
  intro p e s m args below meth c A C hr hlocks
  have inl : ∀ w ∈ u_ws RX0 TX0 14, w ∈ wsX0_pass := by decide +kernel
  refine z_sub (L' := [(0, .ref (hh 0)), (1, .int (nI d))]) [0, 1] rfl ?_
  have lp10 : ∀ (dd i : Nat), i + dd = d → zG p l e ({ frames := 4, cells := 0, slots := 0, locals := 81 } : Room) s m args below meth c D 4 A 0 0 (MQ below (zQ (some (.int (xpassF v d))) (fun t => va_P D vwCl (wX0 hh cI cZ (xpass v d)) t.heap) A) args s 0 0 A) 10 [(0, .ref (hh 0)), (1, .int (nI d)), (2, .int (xpassF v i)), (3, .int (nI i))] [] (wX0 hh cI cZ (xpass v i)) := by
    intro dd
    induction dd with
    | zero =>
      intro i hi
      obtain rfl : d = i := by omega
      refine z_iload_n C 3 dX0_pass_10 rfl rfl ?_
      refine z_iload_n C 1 dX0_pass_11 rfl rfl ?_
      refine z_icmp_ge (tgt := 28) C dX0_pass_12 (by decide) (fun _ => ?_) (fun h9 => absurd (nI_le (by omega) (by omega)) h9)
      refine z_iload_n C 2 dX0_pass_28 rfl rfl ?_
      exact z_iret C hr hlocks (Nat.le_of_ble_eq_true rfl) (Nat.le_of_ble_eq_true rfl) dX0_pass_29 rfl rfl
    | succ dd ih =>
      intro i hi
      have hn1 := xpass_n v i
      have hk1 := xpass_k v i
      refine z_iload_n C 3 dX0_pass_10 rfl rfl ?_
      refine z_iload_n C 1 dX0_pass_11 rfl rfl ?_
      refine z_icmp_ge (tgt := 28) C dX0_pass_12 (by decide) (fun h9 => absurd h9 (nI_ge (by omega) (by omega))) (fun _ => ?_)
      refine z_iload_n C 2 dX0_pass_15 rfl rfl ?_
      refine z_aload_n C 0 dX0_pass_16 rfl rfl ?_
      obtain ⟨v1, hv1⟩ : ∃ z, z = xday (xpass v i) := ⟨_, rfl⟩
      refine z_callV (w := (wX0 hh cI cZ (xpass v i))) (w' := (wX0 hh cI cZ v1)) (w1 := ([] : va_W)) (w2 := ([] : va_W)) (ws' := (wX0 hh cI cZ v1)) (As := []) (rest := [.int (xpassF v i)]) (st' := [.int (xdayF (xpass v i)), .int (xpassF v i)]) (rv := some (.int (xdayF (xpass v i)))) C (by rw [hv1]; exact c_X0_passOneDay l D hh cI cZ (xpass v i) (by omega) (by omega)) (cwV 0 C.words gX0_pass_X0_passOneDay rfl rfl rfl (by decide +kernel) ⟨(Nat.le_of_ble_eq_true rfl), (Nat.le_of_ble_eq_true rfl)⟩) (q0 := 0) (ci := 0) rfl rfl rfl [0, 1] rfl rfl (Nat.le_of_ble_eq_true rfl) ⟨(Nat.le_of_ble_eq_true rfl), (Nat.le_of_ble_eq_true rfl)⟩ rfl rfl rfl rfl rfl dX0_pass_17 ?_
      have hv1k0 : xn v1 = xn (xpass v i) := by rw [hv1]; exact xday_n (xpass v i)
      refine z_iadd C dX0_pass_20 ?_
      refine z_istore_n (L' := [(2, .int ((xpassF v i) + (xdayF (xpass v i)))), (0, .ref (hh 0)), (1, .int (nI d)), (3, .int (nI i))]) C dX0_pass_21 rfl (by decide) rfl ?_
      refine z_iinc (v := nI (i + 1)) (L' := [(3, .int (nI (i + 1))), (2, .int ((xpassF v i) + (xdayF (xpass v i)))), (0, .ref (hh 0)), (1, .int (nI d))]) C 3 dX0_pass_22 rfl (z_inc _) (by decide) rfl ?_
      refine z_goto (tgt := 10) C dX0_pass_25 (by decide) ?_
      refine z_sub (L' := [(0, .ref (hh 0)), (1, .int (nI d)), (2, .int ((xpassF v i) + (xdayF (xpass v i)))), (3, .int (nI (i + 1)))]) [2, 3, 1, 0] rfl ?_
      subst hv1
      exact ih (i + 1) (by omega)
  refine z_iload_n C 1 dX0_pass_0 rfl rfl ?_
  refine z_bipush (v := 60) C dX0_pass_1 (by decide) ?_
  refine z_callS (w := ([] : va_W)) (w' := ([] : va_W)) (w1 := (wX0 hh cI cZ v)) (w2 := ([] : va_W)) (ws' := (wX0 hh cI cZ v)) (As := [.int (nI d), .int 60]) (rest := []) (st' := []) (rv := none) C (c_X0_checkAmount l D (nI d) 60 (nI_nlt (by omega) (by omega)) (nI_le (b := 60) (by omega) (by omega))) (va_cwS 2 C.words gX0_pass_X0_checkAmount rfl rfl rfl (by decide +kernel) ⟨(Nat.le_of_ble_eq_true rfl), (Nat.le_of_ble_eq_true rfl)⟩) [] rfl rfl (Nat.le_of_ble_eq_true rfl) ⟨(Nat.le_of_ble_eq_true rfl), (Nat.le_of_ble_eq_true rfl)⟩ rfl rfl rfl rfl rfl dX0_pass_3 ?_
  refine z_iconst (v := 0) C dX0_pass_6 (by decide) ?_
  refine z_istore_n (L' := [(2, .int 0), (0, .ref (hh 0)), (1, .int (nI d))]) C dX0_pass_7 rfl (by decide) rfl ?_
  refine z_iconst (v := 0) C dX0_pass_8 (by decide) ?_
  refine z_istore_n (L' := [(3, .int 0), (2, .int 0), (0, .ref (hh 0)), (1, .int (nI d))]) C dX0_pass_9 rfl (by decide) rfl ?_
  refine z_sub (L' := [(0, .ref (hh 0)), (1, .int (nI d)), (2, .int 0), (3, .int 0)]) [2, 3, 1, 0] rfl ?_
  exact lp10 d 0 (by omega)
set_option maxHeartbeats 4000000 in
set_option maxRecDepth 100000 in
theorem c_X0_writeThrow (l : Launch) (D : va_G) (hh : Nat → Nat) (cI cZ : ClassId) (v : S0) (j b g z : Int32) (hk : xk v < 30) (hb : b = 0 ∨ b = 1) : zM l yX0_writeThrow wsX0_writeThrow 0 0 0 0 [.ref (hh 0), .int j, .int b, .int g, .int z] [(cI, .int), (cZ, .boolean)] D (wX0 hh cI cZ v) (wX0 hh cI cZ (xwrite v j b g z)) none := by
  refine z_met (cc := cX0_writeThrow) (maxL := 5) (ret := none) (by decide) rfl (Nat.le_of_ble_eq_true rfl) ?_
  intro p e s m args below meth c A C hr hlocks
  have inl : ∀ w ∈ u_ws RX0 TX0 14, w ∈ wsX0_writeThrow := by decide +kernel
  have wd0 : Cond.fieldLink RX0 19 "SaltOrder" "throwers" "[I" ∈ wsX0_writeThrow := by decide +kernel
  have wd1 : Cond.fieldLink RX0 36 "SaltOrder" "throwCount" "I" ∈ wsX0_writeThrow := by decide +kernel
  have wd2 : Cond.fieldLink RX0 22 "SaltOrder" "lefts" "[Z" ∈ wsX0_writeThrow := by decide +kernel
  have wd3 : Cond.fieldLink RX0 26 "SaltOrder" "thrown" "[I" ∈ wsX0_writeThrow := by decide +kernel
  have wd4 : Cond.fieldLink RX0 29 "SaltOrder" "excesses" "[I" ∈ wsX0_writeThrow := by decide +kernel
  refine z_sub (L' := [(0, .ref (hh 0)), (1, .int j), (2, .int b), (3, .int g), (4, .int z)]) [0, 1, 2, 3, 4] rfl ?_
  refine z_aload_n C 0 dX0_writeThrow_0 rfl rfl ?_
  refine z_get0 (v := .ref (hh 4)) C inl 0 4 (by decide) rfl rfl wd0 dX0_writeThrow_1 ?_
  refine z_aload_n C 0 dX0_writeThrow_4 rfl rfl ?_
  refine z_get0 (v := .int (nI (xk v))) C inl 0 8 (by decide) rfl rfl wd1 dX0_writeThrow_5 ?_
  refine z_iload_n C 1 dX0_writeThrow_8 rfl rfl ?_
  refine z_iast (ws' := (wX0 hh cI cZ (xl v, xa v, xe v, xn v, upd (xw v) (xk v) j, xf v, xg v, xx v, xk v, xc v, xd v, xo v, xy v, xb v))) C 4 0 rfl rfl (xk v) rfl (by omega) (by decide) rfl dX0_writeThrow_9 ?_
  refine z_aload_n C 0 dX0_writeThrow_10 rfl rfl ?_
  refine z_get0 (v := .ref (hh 5)) C inl 0 5 (by decide) rfl rfl wd2 dX0_writeThrow_11 ?_
  refine z_aload_n C 0 dX0_writeThrow_14 rfl rfl ?_
  refine z_get0 (v := .int (nI (xk v))) C inl 0 8 (by decide) rfl rfl wd1 dX0_writeThrow_15 ?_
  refine z_iload_n C 2 dX0_writeThrow_18 rfl rfl ?_
  refine z_zast (ws' := (wX0 hh cI cZ (xl v, xa v, xe v, xn v, upd (xw v) (xk v) j, upd (xf v) (xk v) b, xg v, xx v, xk v, xc v, xd v, xo v, xy v, xb v))) C 5 1 rfl rfl (xk v) rfl (by omega) (by decide) hb rfl dX0_writeThrow_19 ?_
  refine z_aload_n C 0 dX0_writeThrow_20 rfl rfl ?_
  refine z_get0 (v := .ref (hh 6)) C inl 0 6 (by decide) rfl rfl wd3 dX0_writeThrow_21 ?_
  refine z_aload_n C 0 dX0_writeThrow_24 rfl rfl ?_
  refine z_get0 (v := .int (nI (xk v))) C inl 0 8 (by decide) rfl rfl wd1 dX0_writeThrow_25 ?_
  refine z_iload_n C 3 dX0_writeThrow_28 rfl rfl ?_
  refine z_iast (ws' := (wX0 hh cI cZ (xl v, xa v, xe v, xn v, upd (xw v) (xk v) j, upd (xf v) (xk v) b, upd (xg v) (xk v) g, xx v, xk v, xc v, xd v, xo v, xy v, xb v))) C 6 0 rfl rfl (xk v) rfl (by omega) (by decide) rfl dX0_writeThrow_29 ?_
  refine z_aload_n C 0 dX0_writeThrow_30 rfl rfl ?_
  refine z_get0 (v := .ref (hh 7)) C inl 0 7 (by decide) rfl rfl wd4 dX0_writeThrow_31 ?_
  refine z_aload_n C 0 dX0_writeThrow_34 rfl rfl ?_
  refine z_get0 (v := .int (nI (xk v))) C inl 0 8 (by decide) rfl rfl wd1 dX0_writeThrow_35 ?_
  refine z_iload C 4 dX0_writeThrow_38 rfl ?_
  refine z_iast (ws' := (wX0 hh cI cZ (xl v, xa v, xe v, xn v, upd (xw v) (xk v) j, upd (xf v) (xk v) b, upd (xg v) (xk v) g, upd (xx v) (xk v) z, xk v, xc v, xd v, xo v, xy v, xb v))) C 7 0 rfl rfl (xk v) rfl (by omega) (by decide) rfl dX0_writeThrow_40 ?_
  refine z_aload_n C 0 dX0_writeThrow_41 rfl rfl ?_
  refine z_dup C dX0_writeThrow_42 rfl ?_
  refine z_get0 (v := .int (nI (xk v))) C inl 0 8 (by decide) rfl rfl wd1 dX0_writeThrow_43 ?_
  refine z_iconst (v := 1) C dX0_writeThrow_46 (by decide) ?_
  refine z_iadd C dX0_writeThrow_47 ?_
  refine z_top (y := nI ((xk v) + 1)) (z_1 _) ?_
  refine z_put0 (ws' := (wX0 hh cI cZ (xl v, xa v, xe v, xn v, upd (xw v) (xk v) j, upd (xf v) (xk v) b, upd (xg v) (xk v) g, upd (xx v) (xk v) z, ((xk v) + 1), xc v, xd v, xo v, xy v, xb v))) C inl 0 8 (by decide) rfl rfl (by decide) rfl wd1 dX0_writeThrow_48 ?_
  exact z_vret C hr hlocks (Nat.le_of_ble_eq_true rfl) (Nat.le_of_ble_eq_true rfl) dX0_writeThrow_51 (congrArg (wX0 hh cI cZ) (by first | rfl | (simp only [xwrite, ↓reduceIte]; done) | (simp only [xwrite, ↓reduceIte]; rfl)))
