set_option maxHeartbeats 4000000 in
set_option maxRecDepth 100000 in
theorem c_X0_daysUntilClear (l : Launch) (D : va_G) (hh : Nat → Nat) (cI cZ : ClassId) (v : S0) (j : Nat) (hj : j < xn v) (hn : xn v ≤ 8) (hk : xk v ≤ 30) : zM l yX0_daysUntilClear wsX0_daysUntilClear 4 78 0 0 [.ref (hh 0), .int (nI j)] [(cI, .int), (cZ, .boolean)] D (wX0 hh cI cZ v) (wX0 hh cI cZ (untS za8 (xbegin v j) 0 61)) (some (.int (untN za8 (xbegin v j) 0 61))) := by
  refine z_met (cc := cX0_daysUntilClear) (maxL := 3) (ret := (some .int)) (by decide) rfl (Nat.le_of_ble_eq_true rfl) ?_
  intro p e s m args below meth c A C hr hlocks
  have inl : ∀ w ∈ u_ws RX0 TX0 14, w ∈ wsX0_daysUntilClear := by decide +kernel
  have wd0 : Cond.fieldLink RX0 13 "SaltOrder" "arrears" "[I" ∈ wsX0_daysUntilClear := by decide +kernel
  refine z_sub (L' := [(0, .ref (hh 0)), (1, .int (nI j))]) [0, 1] rfl ?_
  have lp12 : ∀ (dd i : Nat), i + dd = 61 → untN za8 (xbegin v j) 0 61 = untN za8 (xbegin v j) i dd → untS za8 (xbegin v j) 0 61 = untS za8 (xbegin v j) i dd → zG p l e ({ frames := 4, cells := 0, slots := 0, locals := 78 } : Room) s m args below meth c D 3 A 0 0 (MQ below (zQ (some (.int (untN za8 (xbegin v j) 0 61))) (fun t => va_P D vwCl (wX0 hh cI cZ (untS za8 (xbegin v j) 0 61)) t.heap) A) args s 0 0 A) 12 [(0, .ref (hh 0)), (2, .int (nI i))] [] (wX0 hh cI cZ (xtdN (xbegin v j) i)) := by
    intro dd
    induction dd with
    | zero =>
      intro i hi h1 h2
      obtain rfl : 61 = i := by omega
      refine z_iload_n C 1 dX0_daysUntilClear_12 rfl rfl ?_
      refine z_bipush (v := 60) C dX0_daysUntilClear_13 (by decide) ?_
      refine z_icmp_gt (tgt := 40) C dX0_daysUntilClear_15 (by decide) (fun _ => ?_) (fun h9 => absurd (by decide) h9)
      refine z_iconst (v := -1) C dX0_daysUntilClear_40 (by decide) ?_
      exact z_iret C hr hlocks (Nat.le_of_ble_eq_true rfl) (Nat.le_of_ble_eq_true rfl) dX0_daysUntilClear_41 (by exact h1.symm) (congrArg (wX0 hh cI cZ) (by exact h2.symm))
    | succ dd ih =>
      intro i hi h1 h2
      refine z_iload_n C 1 dX0_daysUntilClear_12 rfl rfl ?_
      refine z_bipush (v := 60) C dX0_daysUntilClear_13 (by decide) ?_
      refine z_icmp_gt (tgt := 40) C dX0_daysUntilClear_15 (by decide) (fun h9 => absurd h9 (nI_nlt (a := 60) (b := i) (by omega) (by omega))) (fun _ => ?_)
      refine z_aload_n C 0 dX0_daysUntilClear_18 rfl rfl ?_
      refine z_get0 (v := .ref (hh 2)) C inl 0 1 (by decide) rfl rfl wd0 dX0_daysUntilClear_19 ?_
      refine z_bipush (v := 8) C dX0_daysUntilClear_22 (by decide) ?_
      refine z_iald (f := xa (xtdN (xbegin v j) i)) C 2 0 rfl rfl 8 rfl (by omega) (by decide) dX0_daysUntilClear_24 ?_
      refine z_if_ne (tgt := 30) C dX0_daysUntilClear_25 (by decide) (fun c25 => ?_) (fun c25 => ?_)
      · skip
        refine z_aload_n C 0 dX0_daysUntilClear_30 rfl rfl ?_
        obtain ⟨v1, hv1⟩ : ∃ z, z = xtd (xtdN (xbegin v j) i) := ⟨_, rfl⟩
        refine z_callV (w := (wX0 hh cI cZ (xtdN (xbegin v j) i))) (w' := (wX0 hh cI cZ v1)) (w1 := ([] : va_W)) (w2 := ([] : va_W)) (ws' := (wX0 hh cI cZ v1)) (As := []) (rest := []) (st' := []) (rv := none) C (by rw [hv1]; exact c_X0_passTrialDay l D hh cI cZ (xtdN (xbegin v j) i)) (cwV 0 C.words gX0_daysUntilClear_X0_passTrialDay rfl rfl rfl (by decide +kernel) ⟨(Nat.le_of_ble_eq_true rfl), (Nat.le_of_ble_eq_true rfl)⟩) (q0 := 0) (ci := 0) rfl rfl rfl [0, 1] rfl rfl (Nat.le_of_ble_eq_true rfl) ⟨(Nat.le_of_ble_eq_true rfl), (Nat.le_of_ble_eq_true rfl)⟩ rfl rfl rfl rfl rfl dX0_daysUntilClear_31 ?_
        refine z_iinc (v := nI (i + 1)) (L' := [(2, .int (nI (i + 1))), (0, .ref (hh 0))]) C 1 dX0_daysUntilClear_34 rfl (z_inc _) (by decide) rfl ?_
        refine z_goto (tgt := 12) C dX0_daysUntilClear_37 (by decide) ?_
        refine z_sub (L' := [(0, .ref (hh 0)), (2, .int (nI (i + 1)))]) [1, 0] rfl ?_
        subst hv1
        exact ih (i + 1) (by omega) (h1.trans (if_neg c25)) (h2.trans (if_neg c25))
      · skip
        refine z_iload_n C 1 dX0_daysUntilClear_28 rfl rfl ?_
        exact z_iret C hr hlocks (Nat.le_of_ble_eq_true rfl) (Nat.le_of_ble_eq_true rfl) dX0_daysUntilClear_29 (by exact (h1.trans (if_pos c25)).symm) (congrArg (wX0 hh cI cZ) (by exact (h2.trans (if_pos c25)).symm))
  refine z_aload_n C 0 dX0_daysUntilClear_0 rfl rfl ?_
  refine z_iload_n C 1 dX0_daysUntilClear_1 rfl rfl ?_
  refine z_callV (w := (wX0 hh cI cZ v)) (w' := (wX0 hh cI cZ v)) (w1 := ([] : va_W)) (w2 := ([] : va_W)) (ws' := (wX0 hh cI cZ v)) (As := [.int (nI j)]) (rest := []) (st' := []) (rv := none) C (c_X0_checkMember l D hh cI cZ v j (by omega) (by omega)) (cwV 1 C.words gX0_daysUntilClear_X0_checkMember rfl rfl rfl (by decide +kernel) ⟨(Nat.le_of_ble_eq_true rfl), (Nat.le_of_ble_eq_true rfl)⟩) (q0 := 0) (ci := 0) rfl rfl rfl [0, 1] rfl rfl (Nat.le_of_ble_eq_true rfl) ⟨(Nat.le_of_ble_eq_true rfl), (Nat.le_of_ble_eq_true rfl)⟩ rfl rfl rfl rfl rfl dX0_daysUntilClear_2 ?_
  refine z_aload_n C 0 dX0_daysUntilClear_5 rfl rfl ?_
  refine z_iload_n C 1 dX0_daysUntilClear_6 rfl rfl ?_
  obtain ⟨v2, hv2⟩ : ∃ z, z = xbegin v j := ⟨_, rfl⟩
  have hv2k0 : xk v2 = xk v := by rw [hv2]; exact (rfl : xk (xbegin v j) = xk v)
  refine z_callV (w := (wX0 hh cI cZ v)) (w' := (wX0 hh cI cZ v2)) (w1 := ([] : va_W)) (w2 := ([] : va_W)) (ws' := (wX0 hh cI cZ v2)) (As := [.int (nI j)]) (rest := []) (st' := []) (rv := none) C (by rw [hv2]; exact c_X0_beginTrial l D hh cI cZ v j (by omega) (by omega)) (cwV 1 C.words gX0_daysUntilClear_X0_beginTrial rfl rfl rfl (by decide +kernel) ⟨(Nat.le_of_ble_eq_true rfl), (Nat.le_of_ble_eq_true rfl)⟩) (q0 := 0) (ci := 0) rfl rfl rfl [0, 1] rfl rfl (Nat.le_of_ble_eq_true rfl) ⟨(Nat.le_of_ble_eq_true rfl), (Nat.le_of_ble_eq_true rfl)⟩ rfl rfl rfl rfl rfl dX0_daysUntilClear_7 ?_
  refine z_iconst (v := 0) C dX0_daysUntilClear_10 (by decide) ?_
  refine z_istore_n (L' := [(2, .int 0), (0, .ref (hh 0)), (1, .int (nI j))]) C dX0_daysUntilClear_11 rfl (by decide) rfl ?_
  refine z_sub (L' := [(0, .ref (hh 0)), (2, .int 0)]) [1, 0] rfl ?_
  subst hv2
  exact lp12 61 0 (by omega) rfl rfl
set_option maxHeartbeats 4000000 in
set_option maxRecDepth 100000 in
theorem c_X0_daysUntilUnlucky (l : Launch) (D : va_G) (hh : Nat → Nat) (cI cZ : ClassId) (v : S0) (j : Nat) (hj : j < xn v) (hn : xn v ≤ 8) (hk : xk v ≤ 30) : zM l yX0_daysUntilUnlucky wsX0_daysUntilUnlucky 4 78 0 0 [.ref (hh 0), .int (nI j)] [(cI, .int), (cZ, .boolean)] D (wX0 hh cI cZ v) (wX0 hh cI cZ (untS zl8 (xbegin v j) 0 61)) (some (.int (untN zl8 (xbegin v j) 0 61))) := by
  refine z_met (cc := cX0_daysUntilUnlucky) (maxL := 3) (ret := (some .int)) (by decide) rfl (Nat.le_of_ble_eq_true rfl) ?_
  intro p e s m args below meth c A C hr hlocks
  have inl : ∀ w ∈ u_ws RX0 TX0 14, w ∈ wsX0_daysUntilUnlucky := by decide +kernel
  have wd0 : Cond.fieldLink RX0 9 "SaltOrder" "luck" "[I" ∈ wsX0_daysUntilUnlucky := by decide +kernel
  refine z_sub (L' := [(0, .ref (hh 0)), (1, .int (nI j))]) [0, 1] rfl ?_
  have lp12 : ∀ (dd i : Nat), i + dd = 61 → untN zl8 (xbegin v j) 0 61 = untN zl8 (xbegin v j) i dd → untS zl8 (xbegin v j) 0 61 = untS zl8 (xbegin v j) i dd → zG p l e ({ frames := 4, cells := 0, slots := 0, locals := 78 } : Room) s m args below meth c D 3 A 0 0 (MQ below (zQ (some (.int (untN zl8 (xbegin v j) 0 61))) (fun t => va_P D vwCl (wX0 hh cI cZ (untS zl8 (xbegin v j) 0 61)) t.heap) A) args s 0 0 A) 12 [(0, .ref (hh 0)), (2, .int (nI i))] [] (wX0 hh cI cZ (xtdN (xbegin v j) i)) := by
    intro dd
    induction dd with
    | zero =>
      intro i hi h1 h2
      obtain rfl : 61 = i := by omega
      refine z_iload_n C 1 dX0_daysUntilUnlucky_12 rfl rfl ?_
      refine z_bipush (v := 60) C dX0_daysUntilUnlucky_13 (by decide) ?_
      refine z_icmp_gt (tgt := 40) C dX0_daysUntilUnlucky_15 (by decide) (fun _ => ?_) (fun h9 => absurd (by decide) h9)
      refine z_iconst (v := -1) C dX0_daysUntilUnlucky_40 (by decide) ?_
      exact z_iret C hr hlocks (Nat.le_of_ble_eq_true rfl) (Nat.le_of_ble_eq_true rfl) dX0_daysUntilUnlucky_41 (by exact h1.symm) (congrArg (wX0 hh cI cZ) (by exact h2.symm))
    | succ dd ih =>
      intro i hi h1 h2
      refine z_iload_n C 1 dX0_daysUntilUnlucky_12 rfl rfl ?_
      refine z_bipush (v := 60) C dX0_daysUntilUnlucky_13 (by decide) ?_
      refine z_icmp_gt (tgt := 40) C dX0_daysUntilUnlucky_15 (by decide) (fun h9 => absurd h9 (nI_nlt (a := 60) (b := i) (by omega) (by omega))) (fun _ => ?_)
      refine z_aload_n C 0 dX0_daysUntilUnlucky_18 rfl rfl ?_
      refine z_get0 (v := .ref (hh 1)) C inl 0 0 (by decide) rfl rfl wd0 dX0_daysUntilUnlucky_19 ?_
      refine z_bipush (v := 8) C dX0_daysUntilUnlucky_22 (by decide) ?_
      refine z_iald (f := xl (xtdN (xbegin v j) i)) C 1 0 rfl rfl 8 rfl (by omega) (by decide) dX0_daysUntilUnlucky_24 ?_
      refine z_if_ne (tgt := 30) C dX0_daysUntilUnlucky_25 (by decide) (fun c25 => ?_) (fun c25 => ?_)
      · skip
        refine z_aload_n C 0 dX0_daysUntilUnlucky_30 rfl rfl ?_
        obtain ⟨v1, hv1⟩ : ∃ z, z = xtd (xtdN (xbegin v j) i) := ⟨_, rfl⟩
        refine z_callV (w := (wX0 hh cI cZ (xtdN (xbegin v j) i))) (w' := (wX0 hh cI cZ v1)) (w1 := ([] : va_W)) (w2 := ([] : va_W)) (ws' := (wX0 hh cI cZ v1)) (As := []) (rest := []) (st' := []) (rv := none) C (by rw [hv1]; exact c_X0_passTrialDay l D hh cI cZ (xtdN (xbegin v j) i)) (cwV 0 C.words gX0_daysUntilUnlucky_X0_passTrialDay rfl rfl rfl (by decide +kernel) ⟨(Nat.le_of_ble_eq_true rfl), (Nat.le_of_ble_eq_true rfl)⟩) (q0 := 0) (ci := 0) rfl rfl rfl [0, 1] rfl rfl (Nat.le_of_ble_eq_true rfl) ⟨(Nat.le_of_ble_eq_true rfl), (Nat.le_of_ble_eq_true rfl)⟩ rfl rfl rfl rfl rfl dX0_daysUntilUnlucky_31 ?_
        refine z_iinc (v := nI (i + 1)) (L' := [(2, .int (nI (i + 1))), (0, .ref (hh 0))]) C 1 dX0_daysUntilUnlucky_34 rfl (z_inc _) (by decide) rfl ?_
        refine z_goto (tgt := 12) C dX0_daysUntilUnlucky_37 (by decide) ?_
        refine z_sub (L' := [(0, .ref (hh 0)), (2, .int (nI (i + 1)))]) [1, 0] rfl ?_
        subst hv1
        exact ih (i + 1) (by omega) (h1.trans (if_neg c25)) (h2.trans (if_neg c25))
      · skip
        refine z_iload_n C 1 dX0_daysUntilUnlucky_28 rfl rfl ?_
        exact z_iret C hr hlocks (Nat.le_of_ble_eq_true rfl) (Nat.le_of_ble_eq_true rfl) dX0_daysUntilUnlucky_29 (by exact (h1.trans (if_pos c25)).symm) (congrArg (wX0 hh cI cZ) (by exact (h2.trans (if_pos c25)).symm))
  refine z_aload_n C 0 dX0_daysUntilUnlucky_0 rfl rfl ?_
  refine z_iload_n C 1 dX0_daysUntilUnlucky_1 rfl rfl ?_
  refine z_callV (w := (wX0 hh cI cZ v)) (w' := (wX0 hh cI cZ v)) (w1 := ([] : va_W)) (w2 := ([] : va_W)) (ws' := (wX0 hh cI cZ v)) (As := [.int (nI j)]) (rest := []) (st' := []) (rv := none) C (c_X0_checkMember l D hh cI cZ v j (by omega) (by omega)) (cwV 1 C.words gX0_daysUntilUnlucky_X0_checkMember rfl rfl rfl (by decide +kernel) ⟨(Nat.le_of_ble_eq_true rfl), (Nat.le_of_ble_eq_true rfl)⟩) (q0 := 0) (ci := 0) rfl rfl rfl [0, 1] rfl rfl (Nat.le_of_ble_eq_true rfl) ⟨(Nat.le_of_ble_eq_true rfl), (Nat.le_of_ble_eq_true rfl)⟩ rfl rfl rfl rfl rfl dX0_daysUntilUnlucky_2 ?_
  refine z_aload_n C 0 dX0_daysUntilUnlucky_5 rfl rfl ?_
  refine z_iload_n C 1 dX0_daysUntilUnlucky_6 rfl rfl ?_
  obtain ⟨v2, hv2⟩ : ∃ z, z = xbegin v j := ⟨_, rfl⟩
  have hv2k0 : xk v2 = xk v := by rw [hv2]; exact (rfl : xk (xbegin v j) = xk v)
  refine z_callV (w := (wX0 hh cI cZ v)) (w' := (wX0 hh cI cZ v2)) (w1 := ([] : va_W)) (w2 := ([] : va_W)) (ws' := (wX0 hh cI cZ v2)) (As := [.int (nI j)]) (rest := []) (st' := []) (rv := none) C (by rw [hv2]; exact c_X0_beginTrial l D hh cI cZ v j (by omega) (by omega)) (cwV 1 C.words gX0_daysUntilUnlucky_X0_beginTrial rfl rfl rfl (by decide +kernel) ⟨(Nat.le_of_ble_eq_true rfl), (Nat.le_of_ble_eq_true rfl)⟩) (q0 := 0) (ci := 0) rfl rfl rfl [0, 1] rfl rfl (Nat.le_of_ble_eq_true rfl) ⟨(Nat.le_of_ble_eq_true rfl), (Nat.le_of_ble_eq_true rfl)⟩ rfl rfl rfl rfl rfl dX0_daysUntilUnlucky_7 ?_
  refine z_iconst (v := 0) C dX0_daysUntilUnlucky_10 (by decide) ?_
  refine z_istore_n (L' := [(2, .int 0), (0, .ref (hh 0)), (1, .int (nI j))]) C dX0_daysUntilUnlucky_11 rfl (by decide) rfl ?_
  refine z_sub (L' := [(0, .ref (hh 0)), (2, .int 0)]) [1, 0] rfl ?_
  subst hv2
  exact lp12 61 0 (by omega) rfl rfl
