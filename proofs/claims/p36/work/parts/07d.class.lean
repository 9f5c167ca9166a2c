set_option maxHeartbeats 4000000 in
set_option maxRecDepth 100000 in
theorem c_X0_meanLuck (l : Launch) (D : va_G) (hh : Nat → Nat) (cI cZ : ClassId) (v : S0) (hn : xn v ≤ 8) (hf : ¬ nI (xn v) = 0 → vf_n64 (FP.ddiv (FP.i2d (sumI (xl v) (xn v))) (FP.i2d (nI (xn v))))) : zM l yX0_meanLuck wsX0_meanLuck 0 0 0 0 [.ref (hh 0)] [(cI, .int), (cZ, .boolean)] D (wX0 hh cI cZ v) (wX0 hh cI cZ v) (some (.double (xmean v))) := by
  refine z_met (cc := cX0_meanLuck) (maxL := 3) (ret := (some .double)) (by decide) rfl (Nat.le_of_ble_eq_true rfl) ?_
  intro p e s m args below meth c A C hr hlocks
  have inl : ∀ w ∈ u_ws RX0 TX0 14, w ∈ wsX0_meanLuck := by decide +kernel
  have wd0 : Cond.fieldLink RX0 32 "SaltOrder" "memberCount" "I" ∈ wsX0_meanLuck := by decide +kernel
  have wd1 : Cond.fieldLink RX0 9 "SaltOrder" "luck" "[I" ∈ wsX0_meanLuck := by decide +kernel
  refine z_sub (L' := [(0, .ref (hh 0))]) [0] rfl ?_
  have lp13 : ∀ (dd i : Nat), i + dd = xn v → ¬ nI (xn v) = 0 → zG p l e ({ frames := 0, cells := 0, slots := 0, locals := 0 } : Room) s m args below meth c D 3 A 0 0 (MQ below (zQ (some (.double (xmean v))) (fun t => va_P D vwCl (wX0 hh cI cZ v) t.heap) A) args s 0 0 A) 13 [(0, .ref (hh 0)), (1, .int (sumI (xl v) i)), (2, .int (nI i))] [] (wX0 hh cI cZ v) := by
    intro dd
    induction dd with
    | zero =>
      intro i hi h4
      have hi : i = xn v := by omega
      subst hi
      refine z_iload_n C 2 dX0_meanLuck_13 rfl rfl ?_
      refine z_aload_n C 0 dX0_meanLuck_14 rfl rfl ?_
      refine z_get0 (v := .int (nI (xn v))) C inl 0 3 (by decide) rfl rfl wd0 dX0_meanLuck_15 ?_
      refine z_icmp_ge (tgt := 36) C dX0_meanLuck_18 (by decide) (fun _ => ?_) (fun h9 => absurd (nI_le (by omega) (by omega)) h9)
      refine z_iload_n C 1 dX0_meanLuck_36 rfl rfl ?_
      refine z_i2d C dX0_meanLuck_37 ?_
      refine z_aload_n C 0 dX0_meanLuck_38 rfl rfl ?_
      refine z_get0 (v := .int (nI (xn v))) C inl 0 3 (by decide) rfl rfl wd0 dX0_meanLuck_39 ?_
      refine z_i2d C dX0_meanLuck_42 ?_
      refine z_ddiv C dX0_meanLuck_43 (hf h4) ?_
      exact z_dret C hr hlocks (Nat.le_of_ble_eq_true rfl) (Nat.le_of_ble_eq_true rfl) dX0_meanLuck_44 (by simp only [xmean, h4, ↓reduceIte]) rfl
    | succ dd ih =>
      intro i hi h4
      refine z_iload_n C 2 dX0_meanLuck_13 rfl rfl ?_
      refine z_aload_n C 0 dX0_meanLuck_14 rfl rfl ?_
      refine z_get0 (v := .int (nI (xn v))) C inl 0 3 (by decide) rfl rfl wd0 dX0_meanLuck_15 ?_
      refine z_icmp_ge (tgt := 36) C dX0_meanLuck_18 (by decide) (fun h9 => absurd h9 (nI_ge (by omega) (by omega))) (fun _ => ?_)
      refine z_iload_n C 1 dX0_meanLuck_21 rfl rfl ?_
      refine z_aload_n C 0 dX0_meanLuck_22 rfl rfl ?_
      refine z_get0 (v := .ref (hh 1)) C inl 0 0 (by decide) rfl rfl wd1 dX0_meanLuck_23 ?_
      refine z_iload_n C 2 dX0_meanLuck_26 rfl rfl ?_
      refine z_iald (f := xl v) C 1 0 rfl rfl i rfl (by omega) (by decide) dX0_meanLuck_27 ?_
      refine z_iadd C dX0_meanLuck_28 ?_
      refine z_istore_n (L' := [(1, .int ((sumI (xl v) i) + ((xl v) i))), (0, .ref (hh 0)), (2, .int (nI i))]) C dX0_meanLuck_29 rfl (by decide) rfl ?_
      refine z_iinc (v := nI (i + 1)) (L' := [(2, .int (nI (i + 1))), (1, .int ((sumI (xl v) i) + ((xl v) i))), (0, .ref (hh 0))]) C 2 dX0_meanLuck_30 rfl (z_inc _) (by decide) rfl ?_
      refine z_goto (tgt := 13) C dX0_meanLuck_33 (by decide) ?_
      refine z_sub (L' := [(0, .ref (hh 0)), (1, .int ((sumI (xl v) i) + ((xl v) i))), (2, .int (nI (i + 1)))]) [2, 1, 0] rfl ?_
      exact ih (i + 1) (by omega) h4
  refine z_aload_n C 0 dX0_meanLuck_0 rfl rfl ?_
  refine z_get0 (v := .int (nI (xn v))) C inl 0 3 (by decide) rfl rfl wd0 dX0_meanLuck_1 ?_
  refine z_if_ne (tgt := 9) C dX0_meanLuck_4 (by decide) (fun c4 => ?_) (fun c4 => ?_)
  · skip
    refine z_iconst (v := 0) C dX0_meanLuck_9 (by decide) ?_
    refine z_istore_n (L' := [(1, .int 0), (0, .ref (hh 0))]) C dX0_meanLuck_10 rfl (by decide) rfl ?_
    refine z_iconst (v := 0) C dX0_meanLuck_11 (by decide) ?_
    refine z_istore_n (L' := [(2, .int 0), (1, .int 0), (0, .ref (hh 0))]) C dX0_meanLuck_12 rfl (by decide) rfl ?_
    refine z_sub (L' := [(0, .ref (hh 0)), (1, .int 0), (2, .int 0)]) [2, 1, 0] rfl ?_
    exact lp13 (xn v) 0 (by omega) c4
  · skip
    refine z_dconst0 C dX0_meanLuck_7 ?_
    exact z_dret C hr hlocks (Nat.le_of_ble_eq_true rfl) (Nat.le_of_ble_eq_true rfl) dX0_meanLuck_8 (by first | rfl | (simp only [xmean, c4, ↓reduceIte]; done) | (simp only [xmean, c4, ↓reduceIte]; rfl)) rfl
