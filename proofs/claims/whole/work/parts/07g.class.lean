set_option maxHeartbeats 4000000 in
set_option maxRecDepth 100000 in
theorem c_X0_bestPenance (l : Launch) (D : va_G) (hh : Nat → Nat) (cI cZ : ClassId) (v : S0) (j : Nat) (hj : j < xn v) (hn : xn v ≤ 8) (hk : xk v ≤ 30) : zM l yX0_bestPenance wsX0_bestPenance 5 100 0 0 [.ref (hh 0), .int (nI j)] [(cI, .int), (cZ, .boolean)] D (wX0 hh cI cZ v) (wX0 hh cI cZ (xpen v j)) (some (.int (xpenR v j))) := by
  refine z_met (cc := cX0_bestPenance) (maxL := 6) (ret := (some .int)) (by decide) rfl (Nat.le_of_ble_eq_true rfl) ?_
  intro p e s m args below meth c A C hr hlocks
  have inl : ∀ w ∈ u_ws RX0 TX0 14, w ∈ wsX0_bestPenance := by decide +kernel
  refine z_sub (L' := [(0, .ref (hh 0)), (1, .int (nI j))]) [0, 1] rfl ?_
  have lp12 : ∀ (dd i : Nat), i + dd = 10 → zG p l e ({ frames := 5, cells := 0, slots := 0, locals := 100 } : Room) s m args below meth c D 6 A 0 0 (MQ below (zQ (some (.int (xpenR v j))) (fun t => va_P D vwCl (wX0 hh cI cZ (xpen v j)) t.heap) A) args s 0 0 A) 12 [(0, .ref (hh 0)), (1, .int (nI j)), (2, .int ((penN v j i).1)), (3, .int ((penN v j i).2.1)), (4, .int (nI i))] [] (wX0 hh cI cZ ((penN v j i).2.2)) := by
    intro dd
    induction dd with
    | zero =>
      intro i hi
      obtain rfl : 10 = i := by omega
      refine z_iload C 4 dX0_bestPenance_12 rfl ?_
      refine z_bipush (v := 9) C dX0_bestPenance_14 (by decide) ?_
      refine z_icmp_gt (tgt := 52) C dX0_bestPenance_16 (by decide) (fun _ => ?_) (fun h9 => absurd (by decide) h9)
      refine z_iload_n C 2 dX0_bestPenance_52 rfl rfl ?_
      exact z_iret C hr hlocks (Nat.le_of_ble_eq_true rfl) (Nat.le_of_ble_eq_true rfl) dX0_bestPenance_53 (by unfold xpenR; rfl) (congrArg (wX0 hh cI cZ) (by unfold xpen; rfl))
    | succ dd ih =>
      intro i hi
      have hn1 := penN_n v j i
      have hk1 := penN_k v j i
      refine z_iload C 4 dX0_bestPenance_12 rfl ?_
      refine z_bipush (v := 9) C dX0_bestPenance_14 (by decide) ?_
      refine z_icmp_gt (tgt := 52) C dX0_bestPenance_16 (by decide) (fun h9 => absurd h9 (nI_nlt (a := 9) (b := i) (by omega) (by omega))) (fun _ => ?_)
      refine z_aload_n C 0 dX0_bestPenance_19 rfl rfl ?_
      refine z_iload_n C 1 dX0_bestPenance_20 rfl rfl ?_
      refine z_iload C 4 dX0_bestPenance_21 rfl ?_
      obtain ⟨v1, hv1⟩ : ∃ z, z = xbpen ((penN v j i).2.2) j (nI i) := ⟨_, rfl⟩
      refine z_callV (w := (wX0 hh cI cZ ((penN v j i).2.2))) (w' := (wX0 hh cI cZ v1)) (w1 := ([] : va_W)) (w2 := ([] : va_W)) (ws' := (wX0 hh cI cZ v1)) (As := [.int (nI j), .int (nI i)]) (rest := []) (st' := []) (rv := none) C (by rw [hv1]; exact c_X0_beginTrialWithPenance l D hh cI cZ ((penN v j i).2.2) j (nI i) (by omega) (by omega)) (cwV 2 C.words gX0_bestPenance_X0_beginTrialWithPenance rfl rfl rfl (by decide +kernel) ⟨(Nat.le_of_ble_eq_true rfl), (Nat.le_of_ble_eq_true rfl)⟩) (q0 := 0) (ci := 0) rfl rfl rfl [0, 1] rfl rfl (Nat.le_of_ble_eq_true rfl) ⟨(Nat.le_of_ble_eq_true rfl), (Nat.le_of_ble_eq_true rfl)⟩ rfl rfl rfl rfl rfl dX0_bestPenance_23 ?_
      refine z_aload_n C 0 dX0_bestPenance_26 rfl rfl ?_
      refine z_bipush (v := 20) C dX0_bestPenance_27 (by decide) ?_
      obtain ⟨v2, hv2⟩ : ∃ z, z = xtdN v1 20 := ⟨_, rfl⟩
      refine z_callV (w := (wX0 hh cI cZ v1)) (w' := (wX0 hh cI cZ v2)) (w1 := ([] : va_W)) (w2 := ([] : va_W)) (ws' := (wX0 hh cI cZ v2)) (As := [.int 20]) (rest := []) (st' := [.int (xl v2 8)]) (rv := some (.int (xl v2 8))) C (by rw [hv2]; exact c_X0_trialLuckBehind l D hh cI cZ v1 20 (by omega)) (cwV 1 C.words gX0_bestPenance_X0_trialLuckBehind rfl rfl rfl (by decide +kernel) ⟨(Nat.le_of_ble_eq_true rfl), (Nat.le_of_ble_eq_true rfl)⟩) (q0 := 0) (ci := 0) rfl rfl rfl [0, 1] rfl rfl (Nat.le_of_ble_eq_true rfl) ⟨(Nat.le_of_ble_eq_true rfl), (Nat.le_of_ble_eq_true rfl)⟩ rfl rfl rfl rfl rfl dX0_bestPenance_29 ?_
      refine z_istore (L' := [(5, .int (xl v2 8)), (0, .ref (hh 0)), (1, .int (nI j)), (2, .int ((penN v j i).1)), (3, .int ((penN v j i).2.1)), (4, .int (nI i))]) C dX0_bestPenance_32 (by decide) rfl ?_
      refine z_iload C 0 dX0_bestPenance_34 rfl ?_
      refine z_iload_n C 4 dX0_bestPenance_36 rfl rfl ?_
      refine z_icmp_le (tgt := 46) C dX0_bestPenance_37 (by decide) (fun c37 => ?_) (fun c37 => ?_)
      · skip
        refine z_iinc (v := nI (i + 1)) (L' := [(4, .int (nI (i + 1))), (5, .int (xl v2 8)), (0, .ref (hh 0)), (1, .int (nI j)), (2, .int ((penN v j i).1)), (3, .int ((penN v j i).2.1))]) C 5 dX0_bestPenance_46 rfl (z_inc _) (by decide) rfl ?_
        refine z_goto (tgt := 12) C dX0_bestPenance_49 (by decide) ?_
        refine z_sub (L' := [(0, .ref (hh 0)), (1, .int (nI j)), (2, .int ((penN v j i).1)), (3, .int ((penN v j i).2.1)), (4, .int (nI (i + 1)))]) [2, 3, 4, 5, 0] rfl ?_
        exact (by have e9 := ih (i + 1) (by omega); rw [penN_pos (by unfold penZ; rw [← hv1, ← hv2]) c37] at e9; exact e9)
      · skip
        have n37 := c37
        refine z_iload C 5 dX0_bestPenance_40 rfl ?_
        refine z_istore_n (L' := [(2, .int (nI i)), (5, .int (xl v2 8)), (0, .ref (hh 0)), (1, .int (nI j)), (3, .int ((penN v j i).2.1)), (4, .int (nI i))]) C dX0_bestPenance_42 rfl (by decide) rfl ?_
        refine z_iload C 1 dX0_bestPenance_43 rfl ?_
        refine z_istore_n (L' := [(3, .int (xl v2 8)), (2, .int (nI i)), (5, .int (xl v2 8)), (0, .ref (hh 0)), (1, .int (nI j)), (4, .int (nI i))]) C dX0_bestPenance_45 rfl (by decide) rfl ?_
        refine z_iinc (v := nI (i + 1)) (L' := [(4, .int (nI (i + 1))), (3, .int (xl v2 8)), (2, .int (nI i)), (5, .int (xl v2 8)), (0, .ref (hh 0)), (1, .int (nI j))]) C 5 dX0_bestPenance_46 rfl (z_inc _) (by decide) rfl ?_
        refine z_goto (tgt := 12) C dX0_bestPenance_49 (by decide) ?_
        refine z_sub (L' := [(0, .ref (hh 0)), (1, .int (nI j)), (2, .int (nI i)), (3, .int (xl v2 8)), (4, .int (nI (i + 1)))]) [4, 5, 2, 1, 0] rfl ?_
        exact (by have e9 := ih (i + 1) (by omega); rw [penN_neg (by unfold penZ; rw [← hv1, ← hv2]) c37] at e9; exact e9)
  refine z_aload_n C 0 dX0_bestPenance_0 rfl rfl ?_
  refine z_iload_n C 1 dX0_bestPenance_1 rfl rfl ?_
  refine z_callV (w := (wX0 hh cI cZ v)) (w' := (wX0 hh cI cZ v)) (w1 := ([] : va_W)) (w2 := ([] : va_W)) (ws' := (wX0 hh cI cZ v)) (As := [.int (nI j)]) (rest := []) (st' := []) (rv := none) C (c_X0_checkMember l D hh cI cZ v j (by omega) (by omega)) (cwV 1 C.words gX0_bestPenance_X0_checkMember rfl rfl rfl (by decide +kernel) ⟨(Nat.le_of_ble_eq_true rfl), (Nat.le_of_ble_eq_true rfl)⟩) (q0 := 0) (ci := 0) rfl rfl rfl [0, 1] rfl rfl (Nat.le_of_ble_eq_true rfl) ⟨(Nat.le_of_ble_eq_true rfl), (Nat.le_of_ble_eq_true rfl)⟩ rfl rfl rfl rfl rfl dX0_bestPenance_2 ?_
  refine z_iconst (v := 0) C dX0_bestPenance_5 (by decide) ?_
  refine z_istore_n (L' := [(2, .int 0), (0, .ref (hh 0)), (1, .int (nI j))]) C dX0_bestPenance_6 rfl (by decide) rfl ?_
  refine z_iconst (v := -1) C dX0_bestPenance_7 (by decide) ?_
  refine z_istore_n (L' := [(3, .int (-1)), (2, .int 0), (0, .ref (hh 0)), (1, .int (nI j))]) C dX0_bestPenance_8 rfl (by decide) rfl ?_
  refine z_iconst (v := 0) C dX0_bestPenance_9 (by decide) ?_
  refine z_istore (L' := [(4, .int 0), (3, .int (-1)), (2, .int 0), (0, .ref (hh 0)), (1, .int (nI j))]) C dX0_bestPenance_10 (by decide) rfl ?_
  refine z_sub (L' := [(0, .ref (hh 0)), (1, .int (nI j)), (2, .int 0), (3, .int (-1)), (4, .int 0)]) [3, 4, 2, 1, 0] rfl ?_
  exact lp12 10 0 (by omega)
