set_option maxHeartbeats 4000000 in
set_option maxRecDepth 100000 in
theorem c_X0_luckIn (l : Launch) (D : va_G) (hh : Nat → Nat) (cI cZ : ClassId) (v : S0) (j d : Nat) (hj : j < xn v) (hn : xn v ≤ 8) (hk : xk v ≤ 30) (h1 : 1 ≤ d) (h2 : d ≤ 60) : zM l yX0_luckIn wsX0_luckIn 5 100 0 0 [.ref (hh 0), .int (nI j), .int (nI d)] [(cI, .int), (cZ, .boolean)] D (wX0 hh cI cZ v) (wX0 hh cI cZ (xtdN (xbegin v j) d)) (some (.int (xl (xtdN (xbegin v j) d) 8))) := by
  refine z_met (cc := cX0_luckIn) (maxL := 3) (ret := (some .int)) (by decide) rfl (Nat.le_of_ble_eq_true rfl) ?_
  intro p e s m args below meth c A C hr hlocks
  have inl : ∀ w ∈ u_ws RX0 TX0 14, w ∈ wsX0_luckIn := by decide +kernel
  refine z_sub (L' := [(0, .ref (hh 0)), (1, .int (nI j)), (2, .int (nI d))]) [0, 1, 2] rfl ?_
  refine z_aload_n C 0 dX0_luckIn_0 rfl rfl ?_
  refine z_iload_n C 1 dX0_luckIn_1 rfl rfl ?_
  refine z_callV (w := (wX0 hh cI cZ v)) (w' := (wX0 hh cI cZ v)) (w1 := ([] : va_W)) (w2 := ([] : va_W)) (ws' := (wX0 hh cI cZ v)) (As := [.int (nI j)]) (rest := []) (st' := []) (rv := none) C (c_X0_checkMember l D hh cI cZ v j (by omega) (by omega)) (cwV 1 C.words gX0_luckIn_X0_checkMember rfl rfl rfl (by decide +kernel) ⟨(Nat.le_of_ble_eq_true rfl), (Nat.le_of_ble_eq_true rfl)⟩) (q0 := 0) (ci := 0) rfl rfl rfl [0, 1] rfl rfl (Nat.le_of_ble_eq_true rfl) ⟨(Nat.le_of_ble_eq_true rfl), (Nat.le_of_ble_eq_true rfl)⟩ rfl rfl rfl rfl rfl dX0_luckIn_2 ?_
  refine z_iload_n C 2 dX0_luckIn_5 rfl rfl ?_
  refine z_bipush (v := 60) C dX0_luckIn_6 (by decide) ?_
  refine z_callS (w := ([] : va_W)) (w' := ([] : va_W)) (w1 := (wX0 hh cI cZ v)) (w2 := ([] : va_W)) (ws' := (wX0 hh cI cZ v)) (As := [.int (nI d), .int 60]) (rest := []) (st' := []) (rv := none) C (c_X0_checkAmount l D (nI d) 60 (nI_nlt (by omega) (by omega)) (nI_le (b := 60) (by omega) (by omega))) (va_cwS 2 C.words gX0_luckIn_X0_checkAmount rfl rfl rfl (by decide +kernel) ⟨(Nat.le_of_ble_eq_true rfl), (Nat.le_of_ble_eq_true rfl)⟩) [] rfl rfl (Nat.le_of_ble_eq_true rfl) ⟨(Nat.le_of_ble_eq_true rfl), (Nat.le_of_ble_eq_true rfl)⟩ rfl rfl rfl rfl rfl dX0_luckIn_8 ?_
  refine z_aload_n C 0 dX0_luckIn_11 rfl rfl ?_
  refine z_iload_n C 1 dX0_luckIn_12 rfl rfl ?_
  obtain ⟨v1, hv1⟩ : ∃ z, z = xbegin v j := ⟨_, rfl⟩
  have hv1k0 : xk v1 = xk v := by rw [hv1]; exact (rfl : xk (xbegin v j) = xk v)
  refine z_callV (w := (wX0 hh cI cZ v)) (w' := (wX0 hh cI cZ v1)) (w1 := ([] : va_W)) (w2 := ([] : va_W)) (ws' := (wX0 hh cI cZ v1)) (As := [.int (nI j)]) (rest := []) (st' := []) (rv := none) C (by rw [hv1]; exact c_X0_beginTrial l D hh cI cZ v j (by omega) (by omega)) (cwV 1 C.words gX0_luckIn_X0_beginTrial rfl rfl rfl (by decide +kernel) ⟨(Nat.le_of_ble_eq_true rfl), (Nat.le_of_ble_eq_true rfl)⟩) (q0 := 0) (ci := 0) rfl rfl rfl [0, 1] rfl rfl (Nat.le_of_ble_eq_true rfl) ⟨(Nat.le_of_ble_eq_true rfl), (Nat.le_of_ble_eq_true rfl)⟩ rfl rfl rfl rfl rfl dX0_luckIn_13 ?_
  refine z_aload_n C 0 dX0_luckIn_16 rfl rfl ?_
  refine z_iload_n C 2 dX0_luckIn_17 rfl rfl ?_
  obtain ⟨v2, hv2⟩ : ∃ z, z = xtdN v1 d := ⟨_, rfl⟩
  refine z_callV (w := (wX0 hh cI cZ v1)) (w' := (wX0 hh cI cZ v2)) (w1 := ([] : va_W)) (w2 := ([] : va_W)) (ws' := (wX0 hh cI cZ v2)) (As := [.int (nI d)]) (rest := []) (st' := [.int (xl v2 8)]) (rv := some (.int (xl v2 8))) C (by rw [hv2]; exact c_X0_trialLuckBehind l D hh cI cZ v1 d (by omega)) (cwV 1 C.words gX0_luckIn_X0_trialLuckBehind rfl rfl rfl (by decide +kernel) ⟨(Nat.le_of_ble_eq_true rfl), (Nat.le_of_ble_eq_true rfl)⟩) (q0 := 0) (ci := 0) rfl rfl rfl [0, 1] rfl rfl (Nat.le_of_ble_eq_true rfl) ⟨(Nat.le_of_ble_eq_true rfl), (Nat.le_of_ble_eq_true rfl)⟩ rfl rfl rfl rfl rfl dX0_luckIn_18 ?_
  subst hv2
  subst hv1
  exact z_iret C hr hlocks (Nat.le_of_ble_eq_true rfl) (Nat.le_of_ble_eq_true rfl) dX0_luckIn_21 (by rfl) (congrArg (wX0 hh cI cZ) (by rfl))
