set_option maxHeartbeats 4000000 in
set_option maxRecDepth 100000 in
theorem c_X0_meanLuck (l : Launch) (D : va_G) (hh : Nat → Nat) (cI cZ : ClassId) (v : S0) (hn : xn v ≤ 8) (hf : ¬ nI (xn v) = 0 → vf_n64 (FP.ddiv (FP.i2d (sumI (xl v) (xn v))) (FP.i2d (nI (xn v))))) : zM l yX0_meanLuck wsX0_meanLuck 0 0 0 0 [.ref (hh 0)] [(cI, .int), (cZ, .boolean)] D (wX0 hh cI cZ v) (wX0 hh cI cZ v) (some (.double (xmean v))) := by
  refine z_met (cc := cX0_meanLuck) (maxL := 3) (ret := (some .double)) (by decide) rfl (Nat.le_of_ble_eq_true rfl) ?_
  intro p e s m args below meth c A C hr hlocks
  have inl : ∀ w ∈ u_ws RX0 TX0 14, w ∈ wsX0_meanLuck := by decide +kernel
  have wd0 : Cond.fieldLink RX0 32 "SaltOrder" "memberCount" "I" ∈ wsX0_meanLuck := by decide +kernel
  have wd1 : Cond.fieldLink RX0 9 "SaltOrder" "luck" "[I" ∈ wsX0_meanLuck := by decide +kernel
  refine z_sub (L' := [(0, .ref (hh 0))]) [0] rfl ?_
  have lp13 : ∀ (dd i : Nat), i + dd = xn v → ¬ nI (xn v) = 0 → zG p l e ({ frames := 0, cells := 0, slots := 0, locals := 0 } : Room) s m args below meth c D 3 A 0 0 (MQ below (zQ (some (.double (xmean v))) (fun t => va_P D vwCl (wX0 hh cI cZ v) t.heap) A) args s 0 0 A) 13 [(0, .ref (hh 0)), (1, .int (sumI (xl v) i)), (2, .int (nI i))] [] (wX0 hh cI cZ v) := by
    intro dd
    induction dd with
    | zero =>
      intro i hi h4
      have hi : i = xn v := by omega
      subst hi
      refine z_iload_n C 2 dX0_meanLuck_13 rfl rfl ?_
      refine z_aload_n C 0 dX0_meanLuck_14 rfl rfl ?_
      refine z_get0 (v := .int (nI (xn v))) C inl 0 3 (by decide) rfl rfl wd0 dX0_meanLuck_15 ?_
      refine z_icmp_ge (tgt := 36) C dX0_meanLuck_18 (by decide) (fun _ => ?_) (fun h9 => absurd (nI_le (by omega) (by omega)) h9)
      refine z_iload_n C 1 dX0_meanLuck_36 rfl rfl ?_
      refine z_i2d C dX0_meanLuck_37 ?_
      refine z_aload_n C 0 dX0_meanLuck_38 rfl rfl ?_
      refine z_get0 (v := .int (nI (xn v))) C inl 0 3 (by decide) rfl rfl wd0 dX0_meanLuck_39 ?_
      refine z_i2d C dX0_meanLuck_42 ?_
      refine z_ddiv C dX0_meanLuck_43 (hf h4) ?_
      exact z_dret C hr hlocks (Nat.le_of_ble_eq_true rfl) (Nat.le_of_ble_eq_true rfl) dX0_meanLuck_44 (by simp only [xmean, h4, ↓reduceIte]) rfl
    | succ dd ih =>
      intro i hi h4
      refine z_iload_n C 2 dX0_meanLuck_13 rfl rfl ?_
      refine z_aload_n C 0 dX0_meanLuck_14 rfl rfl ?_
      refine z_get0 (v := .int (nI (xn v))) C inl 0 3 (by decide) rfl rfl wd0 dX0_meanLuck_15 ?_
      refine z_icmp_ge (tgt := 36) C dX0_meanLuck_18 (by decide) (fun h9 => absurd h9 (nI_ge (by omega) (by omega))) (fun _ => ?_)
      refine z_iload_n C 1 dX0_meanLuck_21 rfl rfl ?_
      refine z_aload_n C 0 dX0_meanLuck_22 rfl rfl ?_
      refine z_get0 (v := .ref (hh 1)) C inl 0 0 (by decide) rfl rfl wd1 dX0_meanLuck_23 ?_
      refine z_iload_n C 2 dX0_meanLuck_26 rfl rfl ?_
      refine z_iald (f := xl v) C 1 0 rfl rfl i rfl (by omega) (by decide) dX0_meanLuck_27 ?_
      refine z_iadd C dX0_meanLuck_28 ?_
      refine z_istore_n (L' := [(1, .int ((sumI (xl v) i) + ((xl v) i))), (0, .ref (hh 0)), (2, .int (nI i))]) C dX0_meanLuck_29 rfl (by decide) rfl ?_
      refine z_iinc (v := nI (i + 1)) (L' := [(2, .int (nI (i + 1))), (1, .int ((sumI (xl v) i) + ((xl v) i))), (0, .ref (hh 0))]) C 2 dX0_meanLuck_30 rfl (z_inc _) (by decide) rfl ?_
      refine z_goto (tgt := 13) C dX0_meanLuck_33 (by decide) ?_
      refine z_sub (L' := [(0, .ref (hh 0)), (1, .int ((sumI (xl v) i) + ((xl v) i))), (2, .int (nI (i + 1)))]) [2, 1, 0] rfl ?_
      exact ih (i + 1) (by omega) h4
  refine z_aload_n C 0 dX0_meanLuck_0 rfl rfl ?_
  refine z_get0 (v := .int (nI (xn v))) C inl 0 3 (by decide) rfl rfl wd0 dX0_meanLuck_1 ?_
  refine z_if_ne (tgt := 9) C dX0_meanLuck_4 (by decide) (fun c4 => ?_) (fun c4 => ?_)
  · skip
    refine z_iconst (v := 0) C dX0_meanLuck_9 (by decide) ?_
    refine z_istore_n (L' := [(1, .int 0), (0, .ref (hh 0))]) C dX0_meanLuck_10 rfl (by decide) rfl ?_
    refine z_iconst (v := 0) C dX0_meanLuck_11 (by decide) ?_
    refine z_istore_n (L' := [(2, .int 0), (1, .int 0), (0, .ref (hh 0))]) C dX0_meanLuck_12 rfl (by decide) rfl ?_
    refine z_sub (L' := [(0, .ref (hh 0)), (1, .int 0), (2, .int 0)]) [2, 1, 0] rfl ?_
    exact lp13 (xn v) 0 (by omega) c4
  · skip
    refine z_dconst0 C dX0_meanLuck_7 ?_
    exact z_dret C hr hlocks (Nat.le_of_ble_eq_true rfl) (Nat.le_of_ble_eq_true rfl) dX0_meanLuck_8 (by first | rfl | (simp only [xmean, c4, ↓reduceIte]; done) | (simp only [xmean, c4, ↓reduceIte]; rfl)) rfl
set_option maxHeartbeats 4000000 in
set_option maxRecDepth 100000 in
theorem c_X0_withThrow (l : Launch) (D : va_G) (hh : Nat → Nat) (cI cZ : ClassId) (v : S0) (d : Int64) (t : Nat) (ht : t < xk v) (hk : xk v ≤ 30) (hf : xf v t = 0 ∨ xf v t = 1) : zM l yX0_withThrow wsX0_withThrow 2 42 0 0 [.ref (hh 0), .long d, .int (nI t)] [(cI, .int), (cZ, .boolean)] D (wX0 hh cI cZ v) (wX0 hh cI cZ v) (some (.long (xthD v d t))) := by
  refine z_met (cc := cX0_withThrow) (maxL := 6) (ret := (some .long)) (by decide) rfl (Nat.le_of_ble_eq_true rfl) ?_
  intro p e s m args below meth c A C hr hlocks
  have inl : ∀ w ∈ u_ws RX0 TX0 14, w ∈ wsX0_withThrow := by decide +kernel
  refine z_sub (L' := [(0, .ref (hh 0)), (1, .long d), (3, .int (nI t))]) [0, 1, 2] rfl ?_
  refine z_lload_n C 1 dX0_withThrow_0 rfl rfl ?_
  refine z_lstore (L' := [(4, .long d), (0, .ref (hh 0)), (1, .long d), (3, .int (nI t))]) C dX0_withThrow_1 (by decide) rfl ?_
  refine z_lload C 0 dX0_withThrow_3 rfl ?_
  refine z_aload_n C 1 dX0_withThrow_5 rfl rfl ?_
  refine z_iload_n C 3 dX0_withThrow_6 rfl rfl ?_
  refine z_callV (w := (wX0 hh cI cZ v)) (w' := (wX0 hh cI cZ v)) (w1 := ([] : va_W)) (w2 := ([] : va_W)) (ws' := (wX0 hh cI cZ v)) (As := [.int (nI t)]) (rest := [.long d]) (st' := [.int (xw v t), .long d]) (rv := some (.int (xw v t))) C (c_X0_memberOf l D hh cI cZ v t (by omega) (by omega)) (cwV 1 C.words gX0_withThrow_X0_memberOf rfl rfl rfl (by decide +kernel) ⟨(Nat.le_of_ble_eq_true rfl), (Nat.le_of_ble_eq_true rfl)⟩) (q0 := 0) (ci := 0) rfl rfl rfl [0, 1] rfl rfl (Nat.le_of_ble_eq_true rfl) ⟨(Nat.le_of_ble_eq_true rfl), (Nat.le_of_ble_eq_true rfl)⟩ rfl rfl rfl rfl rfl dX0_withThrow_7 ?_
  refine z_callS (w := ([] : va_W)) (w' := ([] : va_W)) (w1 := (wX0 hh cI cZ v)) (w2 := ([] : va_W)) (ws' := (wX0 hh cI cZ v)) (As := [.long d, .int (xw v t)]) (rest := []) (st' := [.long (mixd d (xw v t))]) (rv := some (.long (mixd d (xw v t)))) C (c_X0_mixed l D d (xw v t)) (va_cwS 2 C.words gX0_withThrow_X0_mixed rfl rfl rfl (by decide +kernel) ⟨(Nat.le_of_ble_eq_true rfl), (Nat.le_of_ble_eq_true rfl)⟩) [] rfl rfl (Nat.le_of_ble_eq_true rfl) ⟨(Nat.le_of_ble_eq_true rfl), (Nat.le_of_ble_eq_true rfl)⟩ rfl rfl rfl rfl rfl dX0_withThrow_10 ?_
  refine z_lstore (L' := [(4, .long (mixd d (xw v t))), (0, .ref (hh 0)), (1, .long d), (3, .int (nI t))]) C dX0_withThrow_13 (by decide) rfl ?_
  refine z_lload C 0 dX0_withThrow_15 rfl ?_
  refine z_aload_n C 1 dX0_withThrow_17 rfl rfl ?_
  refine z_iload_n C 3 dX0_withThrow_18 rfl rfl ?_
  refine z_callV (w := (wX0 hh cI cZ v)) (w' := (wX0 hh cI cZ v)) (w1 := ([] : va_W)) (w2 := ([] : va_W)) (ws' := (wX0 hh cI cZ v)) (As := [.int (nI t)]) (rest := [.long (mixd d (xw v t))]) (st' := [.int (xf v t), .long (mixd d (xw v t))]) (rv := some (.int (xf v t))) C (c_X0_isLeft l D hh cI cZ v t (by omega) (by omega) hf) (cwV 1 C.words gX0_withThrow_X0_isLeft rfl rfl rfl (by decide +kernel) ⟨(Nat.le_of_ble_eq_true rfl), (Nat.le_of_ble_eq_true rfl)⟩) (q0 := 0) (ci := 0) rfl rfl rfl [0, 1] rfl rfl (Nat.le_of_ble_eq_true rfl) ⟨(Nat.le_of_ble_eq_true rfl), (Nat.le_of_ble_eq_true rfl)⟩ rfl rfl rfl rfl rfl dX0_withThrow_19 ?_
  refine z_if_eq (tgt := 29) C dX0_withThrow_22 (by decide) (fun c22 => ?_) (fun c22 => ?_)
  · skip
    refine z_iconst (v := 0) C dX0_withThrow_29 (by decide) ?_
    refine z_callS (w := ([] : va_W)) (w' := ([] : va_W)) (w1 := (wX0 hh cI cZ v)) (w2 := ([] : va_W)) (ws' := (wX0 hh cI cZ v)) (As := [.long (mixd d (xw v t)), .int 0]) (rest := []) (st' := [.long (mixd (mixd d (xw v t)) 0)]) (rv := some (.long (mixd (mixd d (xw v t)) 0))) C (c_X0_mixed l D (mixd d (xw v t)) 0) (va_cwS 2 C.words gX0_withThrow_X0_mixed rfl rfl rfl (by decide +kernel) ⟨(Nat.le_of_ble_eq_true rfl), (Nat.le_of_ble_eq_true rfl)⟩) [] rfl rfl (Nat.le_of_ble_eq_true rfl) ⟨(Nat.le_of_ble_eq_true rfl), (Nat.le_of_ble_eq_true rfl)⟩ rfl rfl rfl rfl rfl dX0_withThrow_30 ?_
    refine z_lstore (L' := [(4, .long (mixd (mixd d (xw v t)) 0)), (0, .ref (hh 0)), (1, .long d), (3, .int (nI t))]) C dX0_withThrow_33 (by decide) rfl ?_
    refine z_lload C 0 dX0_withThrow_35 rfl ?_
    refine z_aload_n C 1 dX0_withThrow_37 rfl rfl ?_
    refine z_iload_n C 3 dX0_withThrow_38 rfl rfl ?_
    refine z_callV (w := (wX0 hh cI cZ v)) (w' := (wX0 hh cI cZ v)) (w1 := ([] : va_W)) (w2 := ([] : va_W)) (ws' := (wX0 hh cI cZ v)) (As := [.int (nI t)]) (rest := [.long (mixd (mixd d (xw v t)) 0)]) (st' := [.int (xg v t), .long (mixd (mixd d (xw v t)) 0)]) (rv := some (.int (xg v t))) C (c_X0_grainsOf l D hh cI cZ v t (by omega) (by omega)) (cwV 1 C.words gX0_withThrow_X0_grainsOf rfl rfl rfl (by decide +kernel) ⟨(Nat.le_of_ble_eq_true rfl), (Nat.le_of_ble_eq_true rfl)⟩) (q0 := 0) (ci := 0) rfl rfl rfl [0, 1] rfl rfl (Nat.le_of_ble_eq_true rfl) ⟨(Nat.le_of_ble_eq_true rfl), (Nat.le_of_ble_eq_true rfl)⟩ rfl rfl rfl rfl rfl dX0_withThrow_39 ?_
    refine z_callS (w := ([] : va_W)) (w' := ([] : va_W)) (w1 := (wX0 hh cI cZ v)) (w2 := ([] : va_W)) (ws' := (wX0 hh cI cZ v)) (As := [.long (mixd (mixd d (xw v t)) 0), .int (xg v t)]) (rest := []) (st' := [.long (mixd (mixd (mixd d (xw v t)) 0) (xg v t))]) (rv := some (.long (mixd (mixd (mixd d (xw v t)) 0) (xg v t)))) C (c_X0_mixed l D (mixd (mixd d (xw v t)) 0) (xg v t)) (va_cwS 2 C.words gX0_withThrow_X0_mixed rfl rfl rfl (by decide +kernel) ⟨(Nat.le_of_ble_eq_true rfl), (Nat.le_of_ble_eq_true rfl)⟩) [] rfl rfl (Nat.le_of_ble_eq_true rfl) ⟨(Nat.le_of_ble_eq_true rfl), (Nat.le_of_ble_eq_true rfl)⟩ rfl rfl rfl rfl rfl dX0_withThrow_42 ?_
    refine z_lstore (L' := [(4, .long (mixd (mixd (mixd d (xw v t)) 0) (xg v t))), (0, .ref (hh 0)), (1, .long d), (3, .int (nI t))]) C dX0_withThrow_45 (by decide) rfl ?_
    refine z_lload C 0 dX0_withThrow_47 rfl ?_
    refine z_aload_n C 1 dX0_withThrow_49 rfl rfl ?_
    refine z_iload_n C 3 dX0_withThrow_50 rfl rfl ?_
    refine z_callV (w := (wX0 hh cI cZ v)) (w' := (wX0 hh cI cZ v)) (w1 := ([] : va_W)) (w2 := ([] : va_W)) (ws' := (wX0 hh cI cZ v)) (As := [.int (nI t)]) (rest := [.long (mixd (mixd (mixd d (xw v t)) 0) (xg v t))]) (st' := [.int (xx v t), .long (mixd (mixd (mixd d (xw v t)) 0) (xg v t))]) (rv := some (.int (xx v t))) C (c_X0_excessOf l D hh cI cZ v t (by omega) (by omega)) (cwV 1 C.words gX0_withThrow_X0_excessOf rfl rfl rfl (by decide +kernel) ⟨(Nat.le_of_ble_eq_true rfl), (Nat.le_of_ble_eq_true rfl)⟩) (q0 := 0) (ci := 0) rfl rfl rfl [0, 1] rfl rfl (Nat.le_of_ble_eq_true rfl) ⟨(Nat.le_of_ble_eq_true rfl), (Nat.le_of_ble_eq_true rfl)⟩ rfl rfl rfl rfl rfl dX0_withThrow_51 ?_
    refine z_callS (w := ([] : va_W)) (w' := ([] : va_W)) (w1 := (wX0 hh cI cZ v)) (w2 := ([] : va_W)) (ws' := (wX0 hh cI cZ v)) (As := [.long (mixd (mixd (mixd d (xw v t)) 0) (xg v t)), .int (xx v t)]) (rest := []) (st' := [.long (mixd (mixd (mixd (mixd d (xw v t)) 0) (xg v t)) (xx v t))]) (rv := some (.long (mixd (mixd (mixd (mixd d (xw v t)) 0) (xg v t)) (xx v t)))) C (c_X0_mixed l D (mixd (mixd (mixd d (xw v t)) 0) (xg v t)) (xx v t)) (va_cwS 2 C.words gX0_withThrow_X0_mixed rfl rfl rfl (by decide +kernel) ⟨(Nat.le_of_ble_eq_true rfl), (Nat.le_of_ble_eq_true rfl)⟩) [] rfl rfl (Nat.le_of_ble_eq_true rfl) ⟨(Nat.le_of_ble_eq_true rfl), (Nat.le_of_ble_eq_true rfl)⟩ rfl rfl rfl rfl rfl dX0_withThrow_54 ?_
    refine z_lstore (L' := [(4, .long (mixd (mixd (mixd (mixd d (xw v t)) 0) (xg v t)) (xx v t))), (0, .ref (hh 0)), (1, .long d), (3, .int (nI t))]) C dX0_withThrow_57 (by decide) rfl ?_
    refine z_lload C 0 dX0_withThrow_59 rfl ?_
    exact z_lret C hr hlocks (Nat.le_of_ble_eq_true rfl) (Nat.le_of_ble_eq_true rfl) dX0_withThrow_61 (by first | rfl | (simp only [xthD, c22, ↓reduceIte]; done) | (simp only [xthD, c22, ↓reduceIte]; rfl)) rfl
  · skip
    refine z_iconst (v := 1) C dX0_withThrow_25 (by decide) ?_
    refine z_goto (tgt := 30) C dX0_withThrow_26 (by decide) ?_
    refine z_callS (w := ([] : va_W)) (w' := ([] : va_W)) (w1 := (wX0 hh cI cZ v)) (w2 := ([] : va_W)) (ws' := (wX0 hh cI cZ v)) (As := [.long (mixd d (xw v t)), .int 1]) (rest := []) (st' := [.long (mixd (mixd d (xw v t)) 1)]) (rv := some (.long (mixd (mixd d (xw v t)) 1))) C (c_X0_mixed l D (mixd d (xw v t)) 1) (va_cwS 2 C.words gX0_withThrow_X0_mixed rfl rfl rfl (by decide +kernel) ⟨(Nat.le_of_ble_eq_true rfl), (Nat.le_of_ble_eq_true rfl)⟩) [] rfl rfl (Nat.le_of_ble_eq_true rfl) ⟨(Nat.le_of_ble_eq_true rfl), (Nat.le_of_ble_eq_true rfl)⟩ rfl rfl rfl rfl rfl dX0_withThrow_30 ?_
    refine z_lstore (L' := [(4, .long (mixd (mixd d (xw v t)) 1)), (0, .ref (hh 0)), (1, .long d), (3, .int (nI t))]) C dX0_withThrow_33 (by decide) rfl ?_
    refine z_lload C 0 dX0_withThrow_35 rfl ?_
    refine z_aload_n C 1 dX0_withThrow_37 rfl rfl ?_
    refine z_iload_n C 3 dX0_withThrow_38 rfl rfl ?_
    refine z_callV (w := (wX0 hh cI cZ v)) (w' := (wX0 hh cI cZ v)) (w1 := ([] : va_W)) (w2 := ([] : va_W)) (ws' := (wX0 hh cI cZ v)) (As := [.int (nI t)]) (rest := [.long (mixd (mixd d (xw v t)) 1)]) (st' := [.int (xg v t), .long (mixd (mixd d (xw v t)) 1)]) (rv := some (.int (xg v t))) C (c_X0_grainsOf l D hh cI cZ v t (by omega) (by omega)) (cwV 1 C.words gX0_withThrow_X0_grainsOf rfl rfl rfl (by decide +kernel) ⟨(Nat.le_of_ble_eq_true rfl), (Nat.le_of_ble_eq_true rfl)⟩) (q0 := 0) (ci := 0) rfl rfl rfl [0, 1] rfl rfl (Nat.le_of_ble_eq_true rfl) ⟨(Nat.le_of_ble_eq_true rfl), (Nat.le_of_ble_eq_true rfl)⟩ rfl rfl rfl rfl rfl dX0_withThrow_39 ?_
    refine z_callS (w := ([] : va_W)) (w' := ([] : va_W)) (w1 := (wX0 hh cI cZ v)) (w2 := ([] : va_W)) (ws' := (wX0 hh cI cZ v)) (As := [.long (mixd (mixd d (xw v t)) 1), .int (xg v t)]) (rest := []) (st' := [.long (mixd (mixd (mixd d (xw v t)) 1) (xg v t))]) (rv := some (.long (mixd (mixd (mixd d (xw v t)) 1) (xg v t)))) C (c_X0_mixed l D (mixd (mixd d (xw v t)) 1) (xg v t)) (va_cwS 2 C.words gX0_withThrow_X0_mixed rfl rfl rfl (by decide +kernel) ⟨(Nat.le_of_ble_eq_true rfl), (Nat.le_of_ble_eq_true rfl)⟩) [] rfl rfl (Nat.le_of_ble_eq_true rfl) ⟨(Nat.le_of_ble_eq_true rfl), (Nat.le_of_ble_eq_true rfl)⟩ rfl rfl rfl rfl rfl dX0_withThrow_42 ?_
    refine z_lstore (L' := [(4, .long (mixd (mixd (mixd d (xw v t)) 1) (xg v t))), (0, .ref (hh 0)), (1, .long d), (3, .int (nI t))]) C dX0_withThrow_45 (by decide) rfl ?_
    refine z_lload C 0 dX0_withThrow_47 rfl ?_
    refine z_aload_n C 1 dX0_withThrow_49 rfl rfl ?_
    refine z_iload_n C 3 dX0_withThrow_50 rfl rfl ?_
    refine z_callV (w := (wX0 hh cI cZ v)) (w' := (wX0 hh cI cZ v)) (w1 := ([] : va_W)) (w2 := ([] : va_W)) (ws' := (wX0 hh cI cZ v)) (As := [.int (nI t)]) (rest := [.long (mixd (mixd (mixd d (xw v t)) 1) (xg v t))]) (st' := [.int (xx v t), .long (mixd (mixd (mixd d (xw v t)) 1) (xg v t))]) (rv := some (.int (xx v t))) C (c_X0_excessOf l D hh cI cZ v t (by omega) (by omega)) (cwV 1 C.words gX0_withThrow_X0_excessOf rfl rfl rfl (by decide +kernel) ⟨(Nat.le_of_ble_eq_true rfl), (Nat.le_of_ble_eq_true rfl)⟩) (q0 := 0) (ci := 0) rfl rfl rfl [0, 1] rfl rfl (Nat.le_of_ble_eq_true rfl) ⟨(Nat.le_of_ble_eq_true rfl), (Nat.le_of_ble_eq_true rfl)⟩ rfl rfl rfl rfl rfl dX0_withThrow_51 ?_
    refine z_callS (w := ([] : va_W)) (w' := ([] : va_W)) (w1 := (wX0 hh cI cZ v)) (w2 := ([] : va_W)) (ws' := (wX0 hh cI cZ v)) (As := [.long (mixd (mixd (mixd d (xw v t)) 1) (xg v t)), .int (xx v t)]) (rest := []) (st' := [.long (mixd (mixd (mixd (mixd d (xw v t)) 1) (xg v t)) (xx v t))]) (rv := some (.long (mixd (mixd (mixd (mixd d (xw v t)) 1) (xg v t)) (xx v t)))) C (c_X0_mixed l D (mixd (mixd (mixd d (xw v t)) 1) (xg v t)) (xx v t)) (va_cwS 2 C.words gX0_withThrow_X0_mixed rfl rfl rfl (by decide +kernel) ⟨(Nat.le_of_ble_eq_true rfl), (Nat.le_of_ble_eq_true rfl)⟩) [] rfl rfl (Nat.le_of_ble_eq_true rfl) ⟨(Nat.le_of_ble_eq_true rfl), (Nat.le_of_ble_eq_true rfl)⟩ rfl rfl rfl rfl rfl dX0_withThrow_54 ?_
    refine z_lstore (L' := [(4, .long (mixd (mixd (mixd (mixd d (xw v t)) 1) (xg v t)) (xx v t))), (0, .ref (hh 0)), (1, .long d), (3, .int (nI t))]) C dX0_withThrow_57 (by decide) rfl ?_
    refine z_lload C 0 dX0_withThrow_59 rfl ?_
    exact z_lret C hr hlocks (Nat.le_of_ble_eq_true rfl) (Nat.le_of_ble_eq_true rfl) dX0_withThrow_61 (by first | rfl | (simp only [xthD, c22, ↓reduceIte]; done) | (simp only [xthD, c22, ↓reduceIte]; rfl)) rfl
