set_option maxHeartbeats 4000000 in
set_option maxRecDepth 100000 in
theorem c_X0_bestPinch (l : Launch) (D : va_G) (hh : Nat → Nat) (cI cZ : ClassId) (v : S0) (j : Nat) (hj : j < xn v) (hn : xn v ≤ 8) (hk : xk v ≤ 30) (hc5 : xc v ≤ 500) : zM l yX0_bestPinch wsX0_bestPinch 5 100 0 0 [.ref (hh 0), .int (nI j)] [(cI, .int), (cZ, .boolean)] D (wX0 hh cI cZ v) (wX0 hh cI cZ (xpin v j)) (some (.int (xpinR v j))) := by
  refine z_met (cc := cX0_bestPinch) (maxL := 7) (ret := (some .int)) (by decide) rfl (Nat.le_of_ble_eq_true rfl) ?_
  intro p e s m args below meth c A C hr hlocks
  have inl : ∀ w ∈ u_ws RX0 TX0 14, w ∈ wsX0_bestPinch := by decide +kernel
  have wd0 : Cond.fieldLink RX0 36 "SaltOrder" "throwCount" "I" ∈ wsX0_bestPinch := by decide +kernel
  have wd1 : Cond.fieldLink RX0 39 "SaltOrder" "cellar" "I" ∈ wsX0_bestPinch := by decide +kernel
  have wd2 : Cond.methodLink RX0 89 Lib.Math.min.name ∈ wsX0_bestPinch := by decide +kernel
  have wd3 : Cond.static Lib.Math.min.name ∈ wsX0_bestPinch := by decide +kernel
  have wd4 : Cond.initialized "java/lang/Math" ∈ wsX0_bestPinch := by decide +kernel
  have wd5 : Cond.code Lib.Math.min.name Lib.Math.min.code 2 (some .int) ∈ wsX0_bestPinch := by decide +kernel
  refine z_sub (L' := [(0, .ref (hh 0)), (1, .int (nI j))]) [0, 1] rfl ?_
  have lp34 : ∀ (dd i : Nat), i + dd = min 9 (xc v) + 1 → nI (xk v) < 30 → zG p l e ({ frames := 5, cells := 0, slots := 0, locals := 100 } : Room) s m args below meth c D 7 A 0 0 (MQ below (zQ (some (.int (xpinR v j))) (fun t => va_P D vwCl (wX0 hh cI cZ (xpin v j)) t.heap) A) args s 0 0 A) 34 [(0, .ref (hh 0)), (1, .int (nI j)), (2, .int (nI (min 9 (xc v)))), (3, .int ((pinN v j i).1)), (4, .int ((pinN v j i).2.1)), (5, .int (nI i))] [] (wX0 hh cI cZ ((pinN v j i).2.2)) := by
    intro dd
    induction dd with
    | zero =>
      intro i hi h11
      have hi : i = min 9 (xc v) + 1 := by omega
      subst hi
      refine z_iload C 5 dX0_bestPinch_34 rfl ?_
      refine z_iload_n C 2 dX0_bestPinch_36 rfl rfl ?_
      refine z_icmp_gt (tgt := 75) C dX0_bestPinch_37 (by decide) (fun _ => ?_) (fun h9 => absurd (nI_lt (by omega) (by omega)) h9)
      refine z_iload_n C 3 dX0_bestPinch_75 rfl rfl ?_
      exact z_iret C hr hlocks (Nat.le_of_ble_eq_true rfl) (Nat.le_of_ble_eq_true rfl) dX0_bestPinch_76 (by simp only [xpinR, h11, ↓reduceIte]) (congrArg (wX0 hh cI cZ) (by simp only [xpin, h11, ↓reduceIte]))
    | succ dd ih =>
      intro i hi h11
      have hn1 := pinN_n v j i
      have hk1 := pinN_k v j i
      refine z_iload C 5 dX0_bestPinch_34 rfl ?_
      refine z_iload_n C 2 dX0_bestPinch_36 rfl rfl ?_
      refine z_icmp_gt (tgt := 75) C dX0_bestPinch_37 (by decide) (fun h9 => absurd h9 (nI_nlt (by omega) (by omega))) (fun _ => ?_)
      refine z_aload_n C 0 dX0_bestPinch_40 rfl rfl ?_
      refine z_iload_n C 1 dX0_bestPinch_41 rfl rfl ?_
      refine z_iload C 5 dX0_bestPinch_42 rfl ?_
      obtain ⟨v1, hv1⟩ : ∃ z, z = xbpin ((pinN v j i).2.2) j (nI i) := ⟨_, rfl⟩
      refine z_callV (w := (wX0 hh cI cZ ((pinN v j i).2.2))) (w' := (wX0 hh cI cZ v1)) (w1 := ([] : va_W)) (w2 := ([] : va_W)) (ws' := (wX0 hh cI cZ v1)) (As := [.int (nI j), .int (nI i)]) (rest := []) (st' := []) (rv := none) C (by rw [hv1]; exact c_X0_beginTrialWithPinch l D hh cI cZ ((pinN v j i).2.2) j (nI i) (by omega) (by omega)) (cwV 2 C.words gX0_bestPinch_X0_beginTrialWithPinch rfl rfl rfl (by decide +kernel) ⟨(Nat.le_of_ble_eq_true rfl), (Nat.le_of_ble_eq_true rfl)⟩) (q0 := 0) (ci := 0) rfl rfl rfl [0, 1] rfl rfl (Nat.le_of_ble_eq_true rfl) ⟨(Nat.le_of_ble_eq_true rfl), (Nat.le_of_ble_eq_true rfl)⟩ rfl rfl rfl rfl rfl dX0_bestPinch_44 ?_
      refine z_aload_n C 0 dX0_bestPinch_47 rfl rfl ?_
      refine z_bipush (v := 14) C dX0_bestPinch_48 (by decide) ?_
      obtain ⟨v2, hv2⟩ : ∃ z, z = xtdN v1 14 := ⟨_, rfl⟩
      refine z_callV (w := (wX0 hh cI cZ v1)) (w' := (wX0 hh cI cZ v2)) (w1 := ([] : va_W)) (w2 := ([] : va_W)) (ws' := (wX0 hh cI cZ v2)) (As := [.int 14]) (rest := []) (st' := [.int (xl v2 8)]) (rv := some (.int (xl v2 8))) C (by rw [hv2]; exact c_X0_trialLuckBehind l D hh cI cZ v1 14 (by omega)) (cwV 1 C.words gX0_bestPinch_X0_trialLuckBehind rfl rfl rfl (by decide +kernel) ⟨(Nat.le_of_ble_eq_true rfl), (Nat.le_of_ble_eq_true rfl)⟩) (q0 := 0) (ci := 0) rfl rfl rfl [0, 1] rfl rfl (Nat.le_of_ble_eq_true rfl) ⟨(Nat.le_of_ble_eq_true rfl), (Nat.le_of_ble_eq_true rfl)⟩ rfl rfl rfl rfl rfl dX0_bestPinch_50 ?_
      refine z_istore (L' := [(6, .int (xl v2 8)), (0, .ref (hh 0)), (1, .int (nI j)), (2, .int (nI (min 9 (xc v)))), (3, .int ((pinN v j i).1)), (4, .int ((pinN v j i).2.1)), (5, .int (nI i))]) C dX0_bestPinch_53 (by decide) rfl ?_
      refine z_iload C 0 dX0_bestPinch_55 rfl ?_
      refine z_iload C 5 dX0_bestPinch_57 rfl ?_
      refine z_icmp_le (tgt := 69) C dX0_bestPinch_59 (by decide) (fun c59 => ?_) (fun c59 => ?_)
      · skip
        refine z_iinc (v := nI (i + 1)) (L' := [(5, .int (nI (i + 1))), (6, .int (xl v2 8)), (0, .ref (hh 0)), (1, .int (nI j)), (2, .int (nI (min 9 (xc v)))), (3, .int ((pinN v j i).1)), (4, .int ((pinN v j i).2.1))]) C 6 dX0_bestPinch_69 rfl (z_inc _) (by decide) rfl ?_
        refine z_goto (tgt := 34) C dX0_bestPinch_72 (by decide) ?_
        refine z_sub (L' := [(0, .ref (hh 0)), (1, .int (nI j)), (2, .int (nI (min 9 (xc v)))), (3, .int ((pinN v j i).1)), (4, .int ((pinN v j i).2.1)), (5, .int (nI (i + 1)))]) [2, 3, 4, 5, 6, 0] rfl ?_
        exact (by have e9 := ih (i + 1) (by omega) h11; rw [pinN_pos (by unfold pinZ; rw [← hv1, ← hv2]) c59] at e9; exact e9)
      · skip
        have n59 := c59
        refine z_iload C 6 dX0_bestPinch_62 rfl ?_
        refine z_istore_n (L' := [(3, .int (nI i)), (6, .int (xl v2 8)), (0, .ref (hh 0)), (1, .int (nI j)), (2, .int (nI (min 9 (xc v)))), (4, .int ((pinN v j i).2.1)), (5, .int (nI i))]) C dX0_bestPinch_64 rfl (by decide) rfl ?_
        refine z_iload C 1 dX0_bestPinch_65 rfl ?_
        refine z_istore (L' := [(4, .int (xl v2 8)), (3, .int (nI i)), (6, .int (xl v2 8)), (0, .ref (hh 0)), (1, .int (nI j)), (2, .int (nI (min 9 (xc v)))), (5, .int (nI i))]) C dX0_bestPinch_67 (by decide) rfl ?_
        refine z_iinc (v := nI (i + 1)) (L' := [(5, .int (nI (i + 1))), (4, .int (xl v2 8)), (3, .int (nI i)), (6, .int (xl v2 8)), (0, .ref (hh 0)), (1, .int (nI j)), (2, .int (nI (min 9 (xc v))))]) C 6 dX0_bestPinch_69 rfl (z_inc _) (by decide) rfl ?_
        refine z_goto (tgt := 34) C dX0_bestPinch_72 (by decide) ?_
        refine z_sub (L' := [(0, .ref (hh 0)), (1, .int (nI j)), (2, .int (nI (min 9 (xc v)))), (3, .int (nI i)), (4, .int (xl v2 8)), (5, .int (nI (i + 1)))]) [4, 5, 6, 2, 1, 0] rfl ?_
        exact (by have e9 := ih (i + 1) (by omega) h11; rw [pinN_neg (by unfold pinZ; rw [← hv1, ← hv2]) c59] at e9; exact e9)
  refine z_aload_n C 0 dX0_bestPinch_0 rfl rfl ?_
  refine z_iload_n C 1 dX0_bestPinch_1 rfl rfl ?_
  refine z_callV (w := (wX0 hh cI cZ v)) (w' := (wX0 hh cI cZ v)) (w1 := ([] : va_W)) (w2 := ([] : va_W)) (ws' := (wX0 hh cI cZ v)) (As := [.int (nI j)]) (rest := []) (st' := []) (rv := none) C (c_X0_checkMember l D hh cI cZ v j (by omega) (by omega)) (cwV 1 C.words gX0_bestPinch_X0_checkMember rfl rfl rfl (by decide +kernel) ⟨(Nat.le_of_ble_eq_true rfl), (Nat.le_of_ble_eq_true rfl)⟩) (q0 := 0) (ci := 0) rfl rfl rfl [0, 1] rfl rfl (Nat.le_of_ble_eq_true rfl) ⟨(Nat.le_of_ble_eq_true rfl), (Nat.le_of_ble_eq_true rfl)⟩ rfl rfl rfl rfl rfl dX0_bestPinch_2 ?_
  refine z_aload_n C 0 dX0_bestPinch_5 rfl rfl ?_
  refine z_get0 (v := .int (nI (xk v))) C inl 0 8 (by decide) rfl rfl wd0 dX0_bestPinch_6 ?_
  refine z_bipush (v := 30) C dX0_bestPinch_9 (by decide) ?_
  refine z_icmp_lt (tgt := 16) C dX0_bestPinch_11 (by decide) (fun c11 => ?_) (fun c11 => ?_)
  · skip
    refine z_bipush (v := 9) C dX0_bestPinch_16 (by decide) ?_
    refine z_aload_n C 0 dX0_bestPinch_18 rfl rfl ?_
    refine z_get0 (v := .int (nI (xc v))) C inl 0 9 (by decide) rfl rfl wd1 dX0_bestPinch_19 ?_
    refine z_mmin C wd2 wd3 wd4 wd5 (Nat.le_of_ble_eq_true rfl) (Nat.le_of_ble_eq_true rfl) (Nat.le_of_ble_eq_true rfl) (Nat.le_of_ble_eq_true rfl) dX0_bestPinch_22 ?_
    refine z_top (y := nI (min 9 (xc v))) (imin_nI (a := 9) (by omega) (by omega)) ?_
    refine z_istore_n (L' := [(2, .int (nI (min 9 (xc v)))), (0, .ref (hh 0)), (1, .int (nI j))]) C dX0_bestPinch_25 rfl (by decide) rfl ?_
    refine z_iconst (v := 0) C dX0_bestPinch_26 (by decide) ?_
    refine z_istore_n (L' := [(3, .int 0), (2, .int (nI (min 9 (xc v)))), (0, .ref (hh 0)), (1, .int (nI j))]) C dX0_bestPinch_27 rfl (by decide) rfl ?_
    refine z_iconst (v := -1) C dX0_bestPinch_28 (by decide) ?_
    refine z_istore (L' := [(4, .int (-1)), (3, .int 0), (2, .int (nI (min 9 (xc v)))), (0, .ref (hh 0)), (1, .int (nI j))]) C dX0_bestPinch_29 (by decide) rfl ?_
    refine z_iconst (v := 0) C dX0_bestPinch_31 (by decide) ?_
    refine z_istore (L' := [(5, .int 0), (4, .int (-1)), (3, .int 0), (2, .int (nI (min 9 (xc v)))), (0, .ref (hh 0)), (1, .int (nI j))]) C dX0_bestPinch_32 (by decide) rfl ?_
    refine z_sub (L' := [(0, .ref (hh 0)), (1, .int (nI j)), (2, .int (nI (min 9 (xc v)))), (3, .int 0), (4, .int (-1)), (5, .int 0)]) [4, 5, 3, 2, 1, 0] rfl ?_
    exact lp34 (min 9 (xc v) + 1) 0 (by omega) c11
  · skip
    refine z_iconst (v := 0) C dX0_bestPinch_14 (by decide) ?_
    exact z_iret C hr hlocks (Nat.le_of_ble_eq_true rfl) (Nat.le_of_ble_eq_true rfl) dX0_bestPinch_15 (by first | rfl | (simp only [xpin, xpinR, c11, ↓reduceIte]; done) | (simp only [xpin, xpinR, c11, ↓reduceIte]; rfl)) (congrArg (wX0 hh cI cZ) (by first | rfl | (simp only [xpin, xpinR, c11, ↓reduceIte]; done) | (simp only [xpin, xpinR, c11, ↓reduceIte]; rfl)))
