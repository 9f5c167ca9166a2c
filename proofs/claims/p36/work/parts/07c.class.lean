set_option maxHeartbeats 4000000 in
set_option maxRecDepth 100000 in
theorem c_X0_join (l : Launch) (D : va_G) (hh : Nat → Nat) (cI cZ : ClassId) (v : S0) (hn : xn v < 8) : zM l yX0_join wsX0_join 0 0 0 0 [.ref (hh 0)] [(cI, .int), (cZ, .boolean)] D (wX0 hh cI cZ v) (wX0 hh cI cZ (xjoin v)) (some (.int (nI (xn v)))) := by
  refine z_met (cc := cX0_join) (maxL := 2) (ret := (some .int)) (by decide) rfl (Nat.le_of_ble_eq_true rfl) ?_
  intro p e s m args below meth c A C hr hlocks
  have inl : ∀ w ∈ u_ws RX0 TX0 14, w ∈ wsX0_join := by decide +kernel
  have wd0 : Cond.fieldLink RX0 32 "SaltOrder" "memberCount" "I" ∈ wsX0_join := by decide +kernel
  have wd1 : Cond.fieldLink RX0 9 "SaltOrder" "luck" "[I" ∈ wsX0_join := by decide +kernel
  have wd2 : Cond.fieldLink RX0 13 "SaltOrder" "arrears" "[I" ∈ wsX0_join := by decide +kernel
  have wd3 : Cond.fieldLink RX0 16 "SaltOrder" "toEat" "[I" ∈ wsX0_join := by decide +kernel
  refine z_sub (L' := [(0, .ref (hh 0))]) [0] rfl ?_
  refine z_aload_n C 0 dX0_join_0 rfl rfl ?_
  refine z_get0 (v := .int (nI (xn v))) C inl 0 3 (by decide) rfl rfl wd0 dX0_join_1 ?_
  refine z_bipush (v := 8) C dX0_join_4 (by decide) ?_
  refine z_icmp_lt (tgt := 19) C dX0_join_6 (by decide) (fun _ => ?_) (fun h9 => absurd (nI_lt (b := 8) (by omega) (by omega)) h9)
  refine z_aload_n C 0 dX0_join_19 rfl rfl ?_
  refine z_get0 (v := .int (nI (xn v))) C inl 0 3 (by decide) rfl rfl wd0 dX0_join_20 ?_
  refine z_istore_n (L' := [(1, .int (nI (xn v))), (0, .ref (hh 0))]) C dX0_join_23 rfl (by decide) rfl ?_
  refine z_aload_n C 1 dX0_join_24 rfl rfl ?_
  refine z_get0 (v := .ref (hh 1)) C inl 0 0 (by decide) rfl rfl wd1 dX0_join_25 ?_
  refine z_iload_n C 0 dX0_join_28 rfl rfl ?_
  refine z_bipush (v := 50) C dX0_join_29 (by decide) ?_
  refine z_iast (ws' := (wX0 hh cI cZ (upd (xl v) (xn v) 50, xa v, xe v, xn v, xw v, xf v, xg v, xx v, xk v, xc v, xd v, xo v, xy v, xb v))) C 1 0 rfl rfl (xn v) rfl (by omega) (by decide) rfl dX0_join_31 ?_
  refine z_aload_n C 1 dX0_join_32 rfl rfl ?_
  refine z_get0 (v := .ref (hh 2)) C inl 0 1 (by decide) rfl rfl wd2 dX0_join_33 ?_
  refine z_iload_n C 0 dX0_join_36 rfl rfl ?_
  refine z_iconst (v := 0) C dX0_join_37 (by decide) ?_
  refine z_iast (ws' := (wX0 hh cI cZ (upd (xl v) (xn v) 50, upd (xa v) (xn v) 0, xe v, xn v, xw v, xf v, xg v, xx v, xk v, xc v, xd v, xo v, xy v, xb v))) C 2 0 rfl rfl (xn v) rfl (by omega) (by decide) rfl dX0_join_38 ?_
  refine z_aload_n C 1 dX0_join_39 rfl rfl ?_
  refine z_get0 (v := .ref (hh 3)) C inl 0 2 (by decide) rfl rfl wd3 dX0_join_40 ?_
  refine z_iload_n C 0 dX0_join_43 rfl rfl ?_
  refine z_iconst (v := 0) C dX0_join_44 (by decide) ?_
  refine z_iast (ws' := (wX0 hh cI cZ (upd (xl v) (xn v) 50, upd (xa v) (xn v) 0, upd (xe v) (xn v) 0, xn v, xw v, xf v, xg v, xx v, xk v, xc v, xd v, xo v, xy v, xb v))) C 3 0 rfl rfl (xn v) rfl (by omega) (by decide) rfl dX0_join_45 ?_
  refine z_aload_n C 1 dX0_join_46 rfl rfl ?_
  refine z_dup C dX0_join_47 rfl ?_
  refine z_get0 (v := .int (nI (xn v))) C inl 0 3 (by decide) rfl rfl wd0 dX0_join_48 ?_
  refine z_iconst (v := 1) C dX0_join_51 (by decide) ?_
  refine z_iadd C dX0_join_52 ?_
  refine z_top (y := nI ((xn v) + 1)) (z_1 _) ?_
  refine z_put0 (ws' := (wX0 hh cI cZ (upd (xl v) (xn v) 50, upd (xa v) (xn v) 0, upd (xe v) (xn v) 0, ((xn v) + 1), xw v, xf v, xg v, xx v, xk v, xc v, xd v, xo v, xy v, xb v))) C inl 0 3 (by decide) rfl rfl (by decide) rfl wd0 dX0_join_53 ?_
  refine z_iload_n C 0 dX0_join_56 rfl rfl ?_
  exact z_iret C hr hlocks (Nat.le_of_ble_eq_true rfl) (Nat.le_of_ble_eq_true rfl) dX0_join_57 rfl (congrArg (wX0 hh cI cZ) (by first | rfl | (simp only [xjoin, ↓reduceIte]; done) | (simp only [xjoin, ↓reduceIte]; rfl)))
set_option maxHeartbeats 4000000 in
set_option maxRecDepth 100000 in
theorem c_X0_spill (l : Launch) (D : va_G) (hh : Nat → Nat) (cI cZ : ClassId) (v : S0) (j g : Nat) (hj : j < xn v) (hn : xn v ≤ 8) (h1 : 1 ≤ g) (h2 : g ≤ 30) (hc : g ≤ xc v) (hc5 : xc v ≤ 500) : zM l yX0_spill wsX0_spill 2 37 0 0 [.ref (hh 0), .int (nI j), .int (nI g)] [(cI, .int), (cZ, .boolean)] D (wX0 hh cI cZ v) (wX0 hh cI cZ (xspill v j g)) (some (.int (xa (xspill v j g) j))) := by
  refine z_met (cc := cX0_spill) (maxL := 3) (ret := (some .int)) (by decide) rfl (Nat.le_of_ble_eq_true rfl) ?_
  intro p e s m args below meth c A C hr hlocks
  have inl : ∀ w ∈ u_ws RX0 TX0 14, w ∈ wsX0_spill := by decide +kernel
  have wd0 : Cond.fieldLink RX0 39 "SaltOrder" "cellar" "I" ∈ wsX0_spill := by decide +kernel
  have wd1 : Cond.fieldLink RX0 13 "SaltOrder" "arrears" "[I" ∈ wsX0_spill := by decide +kernel
  refine z_sub (L' := [(0, .ref (hh 0)), (1, .int (nI j)), (2, .int (nI g))]) [0, 1, 2] rfl ?_
  refine z_aload_n C 0 dX0_spill_0 rfl rfl ?_
  refine z_iload_n C 1 dX0_spill_1 rfl rfl ?_
  refine z_callV (w := (wX0 hh cI cZ v)) (w' := (wX0 hh cI cZ v)) (w1 := ([] : va_W)) (w2 := ([] : va_W)) (ws' := (wX0 hh cI cZ v)) (As := [.int (nI j)]) (rest := []) (st' := []) (rv := none) C (c_X0_checkMember l D hh cI cZ v j (by omega) (by omega)) (cwV 1 C.words gX0_spill_X0_checkMember rfl rfl rfl (by decide +kernel) ⟨(Nat.le_of_ble_eq_true rfl), (Nat.le_of_ble_eq_true rfl)⟩) (q0 := 0) (ci := 0) rfl rfl rfl [0, 1] rfl rfl (Nat.le_of_ble_eq_true rfl) ⟨(Nat.le_of_ble_eq_true rfl), (Nat.le_of_ble_eq_true rfl)⟩ rfl rfl rfl rfl rfl dX0_spill_2 ?_
  refine z_iload_n C 2 dX0_spill_5 rfl rfl ?_
  refine z_bipush (v := 30) C dX0_spill_6 (by decide) ?_
  refine z_callS (w := ([] : va_W)) (w' := ([] : va_W)) (w1 := (wX0 hh cI cZ v)) (w2 := ([] : va_W)) (ws' := (wX0 hh cI cZ v)) (As := [.int (nI g), .int 30]) (rest := []) (st' := []) (rv := none) C (c_X0_checkAmount l D (nI g) 30 (nI_nlt (by omega) (by omega)) (nI_le (b := 30) (by omega) (by omega))) (va_cwS 2 C.words gX0_spill_X0_checkAmount rfl rfl rfl (by decide +kernel) ⟨(Nat.le_of_ble_eq_true rfl), (Nat.le_of_ble_eq_true rfl)⟩) [] rfl rfl (Nat.le_of_ble_eq_true rfl) ⟨(Nat.le_of_ble_eq_true rfl), (Nat.le_of_ble_eq_true rfl)⟩ rfl rfl rfl rfl rfl dX0_spill_8 ?_
  refine z_aload_n C 0 dX0_spill_11 rfl rfl ?_
  refine z_iload_n C 2 dX0_spill_12 rfl rfl ?_
  refine z_callV (w := (wX0 hh cI cZ v)) (w' := (wX0 hh cI cZ v)) (w1 := ([] : va_W)) (w2 := ([] : va_W)) (ws' := (wX0 hh cI cZ v)) (As := [.int (nI g)]) (rest := []) (st' := []) (rv := none) C (c_X0_checkCellar l D hh cI cZ v (nI g) (nI_le (by omega) (by omega))) (cwV 1 C.words gX0_spill_X0_checkCellar rfl rfl rfl (by decide +kernel) ⟨(Nat.le_of_ble_eq_true rfl), (Nat.le_of_ble_eq_true rfl)⟩) (q0 := 0) (ci := 0) rfl rfl rfl [0, 1] rfl rfl (Nat.le_of_ble_eq_true rfl) ⟨(Nat.le_of_ble_eq_true rfl), (Nat.le_of_ble_eq_true rfl)⟩ rfl rfl rfl rfl rfl dX0_spill_13 ?_
  refine z_aload_n C 0 dX0_spill_16 rfl rfl ?_
  refine z_dup C dX0_spill_17 rfl ?_
  refine z_get0 (v := .int (nI (xc v))) C inl 0 9 (by decide) rfl rfl wd0 dX0_spill_18 ?_
  refine z_iload_n C 2 dX0_spill_21 rfl rfl ?_
  refine z_isub C dX0_spill_22 ?_
  refine z_top (y := nI (xc v - g)) (pk_sub hc) ?_
  refine z_put0 (ws' := (wX0 hh cI cZ (xl v, xa v, xe v, xn v, xw v, xf v, xg v, xx v, xk v, (xc v - g), xd v, xo v, xy v, xb v))) C inl 0 9 (by decide) rfl rfl (by decide) rfl wd0 dX0_spill_23 ?_
  refine z_aload_n C 0 dX0_spill_26 rfl rfl ?_
  refine z_iload_n C 1 dX0_spill_27 rfl rfl ?_
  refine z_iload_n C 2 dX0_spill_28 rfl rfl ?_
  obtain ⟨v1, hv1⟩ : ∃ z, z = xadd (xl v, xa v, xe v, xn v, xw v, xf v, xg v, xx v, xk v, (xc v - g), xd v, xo v, xy v, xb v) j (nI g) := ⟨_, rfl⟩
  refine z_callV (w := (wX0 hh cI cZ (xl v, xa v, xe v, xn v, xw v, xf v, xg v, xx v, xk v, (xc v - g), xd v, xo v, xy v, xb v))) (w' := (wX0 hh cI cZ v1)) (w1 := ([] : va_W)) (w2 := ([] : va_W)) (ws' := (wX0 hh cI cZ v1)) (As := [.int (nI j), .int (nI g)]) (rest := []) (st' := []) (rv := none) C (by rw [hv1]; exact c_X0_addArrears l D hh cI cZ (xl v, xa v, xe v, xn v, xw v, xf v, xg v, xx v, xk v, (xc v - g), xd v, xo v, xy v, xb v) j (nI g) (by omega)) (cwV 2 C.words gX0_spill_X0_addArrears rfl rfl rfl (by decide +kernel) ⟨(Nat.le_of_ble_eq_true rfl), (Nat.le_of_ble_eq_true rfl)⟩) (q0 := 0) (ci := 0) rfl rfl rfl [0, 1] rfl rfl (Nat.le_of_ble_eq_true rfl) ⟨(Nat.le_of_ble_eq_true rfl), (Nat.le_of_ble_eq_true rfl)⟩ rfl rfl rfl rfl rfl dX0_spill_29 ?_
  have hv1k0 : xn v1 = xn (xl v, xa v, xe v, xn v, xw v, xf v, xg v, xx v, xk v, (xc v - g), xd v, xo v, xy v, xb v) := by rw [hv1]; exact (rfl : xn (xadd (xl v, xa v, xe v, xn v, xw v, xf v, xg v, xx v, xk v, (xc v - g), xd v, xo v, xy v, xb v) j (nI g)) = xn (xl v, xa v, xe v, xn v, xw v, xf v, xg v, xx v, xk v, (xc v - g), xd v, xo v, xy v, xb v))
  have hv1k1 : xk v1 = xk (xl v, xa v, xe v, xn v, xw v, xf v, xg v, xx v, xk v, (xc v - g), xd v, xo v, xy v, xb v) := by rw [hv1]; exact (rfl : xk (xadd (xl v, xa v, xe v, xn v, xw v, xf v, xg v, xx v, xk v, (xc v - g), xd v, xo v, xy v, xb v) j (nI g)) = xk (xl v, xa v, xe v, xn v, xw v, xf v, xg v, xx v, xk v, (xc v - g), xd v, xo v, xy v, xb v))
  refine z_aload_n C 0 dX0_spill_32 rfl rfl ?_
  refine z_get0 (v := .ref (hh 2)) C inl 0 1 (by decide) rfl rfl wd1 dX0_spill_33 ?_
  refine z_iload_n C 1 dX0_spill_36 rfl rfl ?_
  refine z_iald (f := xa v1) C 2 0 rfl rfl j rfl (by omega) (by decide) dX0_spill_37 ?_
  subst hv1
  exact z_iret C hr hlocks (Nat.le_of_ble_eq_true rfl) (Nat.le_of_ble_eq_true rfl) dX0_spill_38 (by first | rfl | (simp only [xspill, ↓reduceIte]; done) | (simp only [xspill, ↓reduceIte]; rfl)) (congrArg (wX0 hh cI cZ) (by first | rfl | (simp only [xspill, ↓reduceIte]; done) | (simp only [xspill, ↓reduceIte]; rfl)))
set_option maxHeartbeats 4000000 in
set_option maxRecDepth 100000 in
theorem c_X0_throwSalt (l : Launch) (D : va_G) (hh : Nat → Nat) (cI cZ : ClassId) (v : S0) (j : Nat) (b : Int32) (g : Nat) (hj : j < xn v) (hn : xn v ≤ 8) (hb : b = 0 ∨ b = 1) (h1 : 1 ≤ g) (h2 : g ≤ 9) (hc : g ≤ xc v) (hc5 : xc v ≤ 500) (hk : xk v < 30) : zM l yX0_throwSalt wsX0_throwSalt 2 37 0 0 [.ref (hh 0), .int (nI j), .int b, .int (nI g)] [(cI, .int), (cZ, .boolean)] D (wX0 hh cI cZ v) (wX0 hh cI cZ (xthrow v j b g)) (some (.int (xthrowR v j b g))) := by
  refine z_met (cc := cX0_throwSalt) (maxL := 6) (ret := (some .int)) (by decide) rfl (Nat.le_of_ble_eq_true rfl) ?_
  intro p e s m args below meth c A C hr hlocks
  have inl : ∀ w ∈ u_ws RX0 TX0 14, w ∈ wsX0_throwSalt := by decide +kernel
  have wd0 : Cond.fieldLink RX0 39 "SaltOrder" "cellar" "I" ∈ wsX0_throwSalt := by decide +kernel
  refine z_sub (L' := [(0, .ref (hh 0)), (1, .int (nI j)), (2, .int b), (3, .int (nI g))]) [0, 1, 2, 3] rfl ?_
  refine z_aload_n C 0 dX0_throwSalt_0 rfl rfl ?_
  refine z_iload_n C 1 dX0_throwSalt_1 rfl rfl ?_
  refine z_callV (w := (wX0 hh cI cZ v)) (w' := (wX0 hh cI cZ v)) (w1 := ([] : va_W)) (w2 := ([] : va_W)) (ws' := (wX0 hh cI cZ v)) (As := [.int (nI j)]) (rest := []) (st' := []) (rv := none) C (c_X0_checkMember l D hh cI cZ v j (by omega) (by omega)) (cwV 1 C.words gX0_throwSalt_X0_checkMember rfl rfl rfl (by decide +kernel) ⟨(Nat.le_of_ble_eq_true rfl), (Nat.le_of_ble_eq_true rfl)⟩) (q0 := 0) (ci := 0) rfl rfl rfl [0, 1] rfl rfl (Nat.le_of_ble_eq_true rfl) ⟨(Nat.le_of_ble_eq_true rfl), (Nat.le_of_ble_eq_true rfl)⟩ rfl rfl rfl rfl rfl dX0_throwSalt_2 ?_
  refine z_iload_n C 2 dX0_throwSalt_5 rfl rfl ?_
  refine z_callS (w := ([] : va_W)) (w' := ([] : va_W)) (w1 := (wX0 hh cI cZ v)) (w2 := ([] : va_W)) (ws' := (wX0 hh cI cZ v)) (As := [.int b]) (rest := []) (st' := []) (rv := none) C (c_X0_checkShoulder l D b hb) (va_cwS 1 C.words gX0_throwSalt_X0_checkShoulder rfl rfl rfl (by decide +kernel) ⟨(Nat.le_of_ble_eq_true rfl), (Nat.le_of_ble_eq_true rfl)⟩) [] rfl rfl (Nat.le_of_ble_eq_true rfl) ⟨(Nat.le_of_ble_eq_true rfl), (Nat.le_of_ble_eq_true rfl)⟩ rfl rfl rfl rfl rfl dX0_throwSalt_6 ?_
  refine z_iload_n C 3 dX0_throwSalt_9 rfl rfl ?_
  refine z_bipush (v := 9) C dX0_throwSalt_10 (by decide) ?_
  refine z_callS (w := ([] : va_W)) (w' := ([] : va_W)) (w1 := (wX0 hh cI cZ v)) (w2 := ([] : va_W)) (ws' := (wX0 hh cI cZ v)) (As := [.int (nI g), .int 9]) (rest := []) (st' := []) (rv := none) C (c_X0_checkAmount l D (nI g) 9 (nI_nlt (by omega) (by omega)) (nI_le (b := 9) (by omega) (by omega))) (va_cwS 2 C.words gX0_throwSalt_X0_checkAmount rfl rfl rfl (by decide +kernel) ⟨(Nat.le_of_ble_eq_true rfl), (Nat.le_of_ble_eq_true rfl)⟩) [] rfl rfl (Nat.le_of_ble_eq_true rfl) ⟨(Nat.le_of_ble_eq_true rfl), (Nat.le_of_ble_eq_true rfl)⟩ rfl rfl rfl rfl rfl dX0_throwSalt_12 ?_
  refine z_aload_n C 0 dX0_throwSalt_15 rfl rfl ?_
  refine z_iload_n C 3 dX0_throwSalt_16 rfl rfl ?_
  refine z_callV (w := (wX0 hh cI cZ v)) (w' := (wX0 hh cI cZ v)) (w1 := ([] : va_W)) (w2 := ([] : va_W)) (ws' := (wX0 hh cI cZ v)) (As := [.int (nI g)]) (rest := []) (st' := []) (rv := none) C (c_X0_checkCellar l D hh cI cZ v (nI g) (nI_le (by omega) (by omega))) (cwV 1 C.words gX0_throwSalt_X0_checkCellar rfl rfl rfl (by decide +kernel) ⟨(Nat.le_of_ble_eq_true rfl), (Nat.le_of_ble_eq_true rfl)⟩) (q0 := 0) (ci := 0) rfl rfl rfl [0, 1] rfl rfl (Nat.le_of_ble_eq_true rfl) ⟨(Nat.le_of_ble_eq_true rfl), (Nat.le_of_ble_eq_true rfl)⟩ rfl rfl rfl rfl rfl dX0_throwSalt_17 ?_
  refine z_aload_n C 0 dX0_throwSalt_20 rfl rfl ?_
  refine z_callV (w := (wX0 hh cI cZ v)) (w' := (wX0 hh cI cZ v)) (w1 := ([] : va_W)) (w2 := ([] : va_W)) (ws' := (wX0 hh cI cZ v)) (As := []) (rest := []) (st' := []) (rv := none) C (c_X0_checkLedgerHasRoom l D hh cI cZ v (by omega)) (cwV 0 C.words gX0_throwSalt_X0_checkLedgerHasRoom rfl rfl rfl (by decide +kernel) ⟨(Nat.le_of_ble_eq_true rfl), (Nat.le_of_ble_eq_true rfl)⟩) (q0 := 0) (ci := 0) rfl rfl rfl [0, 1] rfl rfl (Nat.le_of_ble_eq_true rfl) ⟨(Nat.le_of_ble_eq_true rfl), (Nat.le_of_ble_eq_true rfl)⟩ rfl rfl rfl rfl rfl dX0_throwSalt_21 ?_
  refine z_iload_n C 2 dX0_throwSalt_24 rfl rfl ?_
  refine z_if_ne (tgt := 32) C dX0_throwSalt_25 (by decide) (fun c25 => ?_) (fun c25 => ?_)
  · skip
    refine z_iconst (v := 0) C dX0_throwSalt_32 (by decide) ?_
    refine z_istore (L' := [(4, .int 0), (0, .ref (hh 0)), (1, .int (nI j)), (2, .int b), (3, .int (nI g))]) C dX0_throwSalt_33 (by decide) rfl ?_
    refine z_iload C 0 dX0_throwSalt_35 rfl ?_
    refine z_if_eq (tgt := 49) C dX0_throwSalt_37 (by decide) (fun _ => ?_) (fun h9 => absurd (by decide) h9)
    refine z_iload_n C 4 dX0_throwSalt_49 rfl rfl ?_
    refine z_istore (L' := [(5, .int (nI g)), (4, .int 0), (0, .ref (hh 0)), (1, .int (nI j)), (2, .int b), (3, .int (nI g))]) C dX0_throwSalt_50 (by decide) rfl ?_
    refine z_iload C 1 dX0_throwSalt_52 rfl ?_
    refine z_if_eq (tgt := 63) C dX0_throwSalt_54 (by decide) (fun _ => ?_) (fun h9 => absurd (by decide) h9)
    refine z_aload_n C 2 dX0_throwSalt_63 rfl rfl ?_
    refine z_dup C dX0_throwSalt_64 rfl ?_
    refine z_get0 (v := .int (nI (xc v))) C inl 0 9 (by decide) rfl rfl wd0 dX0_throwSalt_65 ?_
    refine z_iload_n C 5 dX0_throwSalt_68 rfl rfl ?_
    refine z_isub C dX0_throwSalt_69 ?_
    refine z_top (y := nI (xc v - g)) (pk_sub (by omega)) ?_
    refine z_put0 (ws' := (wX0 hh cI cZ (xl v, xa v, xe v, xn v, xw v, xf v, xg v, xx v, xk v, (xc v - g), xd v, xo v, xy v, xb v))) C inl 0 9 (by decide) rfl rfl (by decide) rfl wd0 dX0_throwSalt_70 ?_
    refine z_aload_n C 2 dX0_throwSalt_73 rfl rfl ?_
    refine z_iload_n C 3 dX0_throwSalt_74 rfl rfl ?_
    refine z_iload C 1 dX0_throwSalt_75 rfl ?_
    refine z_iload_n C 5 dX0_throwSalt_77 rfl rfl ?_
    refine z_iload C 0 dX0_throwSalt_78 rfl ?_
    obtain ⟨v1, hv1⟩ : ∃ z, z = xwrite (xl v, xa v, xe v, xn v, xw v, xf v, xg v, xx v, xk v, (xc v - g), xd v, xo v, xy v, xb v) (nI j) 0 (nI g) (nI g) := ⟨_, rfl⟩
    refine z_callV (w := (wX0 hh cI cZ (xl v, xa v, xe v, xn v, xw v, xf v, xg v, xx v, xk v, (xc v - g), xd v, xo v, xy v, xb v))) (w' := (wX0 hh cI cZ v1)) (w1 := ([] : va_W)) (w2 := ([] : va_W)) (ws' := (wX0 hh cI cZ v1)) (As := [.int (nI j), .int 0, .int (nI g), .int (nI g)]) (rest := []) (st' := []) (rv := none) C (by rw [hv1]; exact c_X0_writeThrow l D hh cI cZ (xl v, xa v, xe v, xn v, xw v, xf v, xg v, xx v, xk v, (xc v - g), xd v, xo v, xy v, xb v) (nI j) 0 (nI g) (nI g) (by first | omega | exact hk | (show xk v2 < 30; omega)) (by first | exact Or.inl rfl | exact Or.inr rfl)) (cwV 4 C.words gX0_throwSalt_X0_writeThrow rfl rfl rfl (by decide +kernel) ⟨(Nat.le_of_ble_eq_true rfl), (Nat.le_of_ble_eq_true rfl)⟩) (q0 := 0) (ci := 0) rfl rfl rfl [0, 1] rfl rfl (Nat.le_of_ble_eq_true rfl) ⟨(Nat.le_of_ble_eq_true rfl), (Nat.le_of_ble_eq_true rfl)⟩ rfl rfl rfl rfl rfl dX0_throwSalt_80 ?_
    refine z_iload C 0 dX0_throwSalt_83 rfl ?_
    subst hv1
    exact z_iret C hr hlocks (Nat.le_of_ble_eq_true rfl) (Nat.le_of_ble_eq_true rfl) dX0_throwSalt_85 (by first | rfl | (simp only [xthrow, xthrowR, c25, ↓reduceIte]; done) | (simp only [xthrow, xthrowR, c25, ↓reduceIte]; rfl)) (congrArg (wX0 hh cI cZ) (by first | rfl | (simp only [xthrow, xthrowR, c25, ↓reduceIte]; done) | (simp only [xthrow, xthrowR, c25, ↓reduceIte]; rfl)))
  · skip
    refine z_iconst (v := 1) C dX0_throwSalt_28 (by decide) ?_
    refine z_goto (tgt := 33) C dX0_throwSalt_29 (by decide) ?_
    refine z_istore (L' := [(4, .int 1), (0, .ref (hh 0)), (1, .int (nI j)), (2, .int b), (3, .int (nI g))]) C dX0_throwSalt_33 (by decide) rfl ?_
    refine z_iload C 0 dX0_throwSalt_35 rfl ?_
    refine z_if_eq (tgt := 49) C dX0_throwSalt_37 (by decide) (fun h9 => absurd h9 (by decide)) (fun _ => ?_)
    refine z_aload_n C 1 dX0_throwSalt_40 rfl rfl ?_
    refine z_iload_n C 2 dX0_throwSalt_41 rfl rfl ?_
    refine z_iload_n C 4 dX0_throwSalt_42 rfl rfl ?_
    refine z_callV (w := (wX0 hh cI cZ v)) (w' := (wX0 hh cI cZ v)) (w1 := ([] : va_W)) (w2 := ([] : va_W)) (ws' := (wX0 hh cI cZ v)) (As := [.int (nI j), .int (nI g)]) (rest := []) (st' := [.int (xlexc v j (nI g))]) (rv := some (.int (xlexc v j (nI g)))) C (c_X0_leftExcess l D hh cI cZ v j (nI g) (by omega)) (cwV 2 C.words gX0_throwSalt_X0_leftExcess rfl rfl rfl (by decide +kernel) ⟨(Nat.le_of_ble_eq_true rfl), (Nat.le_of_ble_eq_true rfl)⟩) (q0 := 0) (ci := 0) rfl rfl rfl [0, 1] rfl rfl (Nat.le_of_ble_eq_true rfl) ⟨(Nat.le_of_ble_eq_true rfl), (Nat.le_of_ble_eq_true rfl)⟩ rfl rfl rfl rfl rfl dX0_throwSalt_43 ?_
    refine z_goto (tgt := 50) C dX0_throwSalt_46 (by decide) ?_
    refine z_istore (L' := [(5, .int (xlexc v j (nI g))), (4, .int 1), (0, .ref (hh 0)), (1, .int (nI j)), (2, .int b), (3, .int (nI g))]) C dX0_throwSalt_50 (by decide) rfl ?_
    refine z_iload C 1 dX0_throwSalt_52 rfl ?_
    refine z_if_eq (tgt := 63) C dX0_throwSalt_54 (by decide) (fun h9 => absurd h9 (by decide)) (fun _ => ?_)
    refine z_aload_n C 2 dX0_throwSalt_57 rfl rfl ?_
    refine z_iload_n C 3 dX0_throwSalt_58 rfl rfl ?_
    refine z_iload_n C 5 dX0_throwSalt_59 rfl rfl ?_
    obtain ⟨v2, hv2⟩ : ∃ z, z = xless v j (nI g) := ⟨_, rfl⟩
    refine z_callV (w := (wX0 hh cI cZ v)) (w' := (wX0 hh cI cZ v2)) (w1 := ([] : va_W)) (w2 := ([] : va_W)) (ws' := (wX0 hh cI cZ v2)) (As := [.int (nI j), .int (nI g)]) (rest := []) (st' := []) (rv := none) C (by rw [hv2]; exact c_X0_lessenArrears l D hh cI cZ v j (nI g) (by omega)) (cwV 2 C.words gX0_throwSalt_X0_lessenArrears rfl rfl rfl (by decide +kernel) ⟨(Nat.le_of_ble_eq_true rfl), (Nat.le_of_ble_eq_true rfl)⟩) (q0 := 0) (ci := 0) rfl rfl rfl [0, 1] rfl rfl (Nat.le_of_ble_eq_true rfl) ⟨(Nat.le_of_ble_eq_true rfl), (Nat.le_of_ble_eq_true rfl)⟩ rfl rfl rfl rfl rfl dX0_throwSalt_60 ?_
    have hv2k0 : xn v2 = xn v := by rw [hv2]; exact (rfl : xn (xless v j (nI g)) = xn v)
    have hv2k1 : xk v2 = xk v := by rw [hv2]; exact (rfl : xk (xless v j (nI g)) = xk v)
    have hv2k2 : xc v2 = xc v := by rw [hv2]; exact (rfl : xc (xless v j (nI g)) = xc v)
    refine z_aload_n C 2 dX0_throwSalt_63 rfl rfl ?_
    refine z_dup C dX0_throwSalt_64 rfl ?_
    refine z_get0 (v := .int (nI (xc v2))) C inl 0 9 (by decide) rfl rfl wd0 dX0_throwSalt_65 ?_
    refine z_iload_n C 5 dX0_throwSalt_68 rfl rfl ?_
    refine z_isub C dX0_throwSalt_69 ?_
    refine z_top (y := nI (xc v2 - g)) (pk_sub (by omega)) ?_
    refine z_put0 (ws' := (wX0 hh cI cZ (xl v2, xa v2, xe v2, xn v2, xw v2, xf v2, xg v2, xx v2, xk v2, (xc v2 - g), xd v2, xo v2, xy v2, xb v2))) C inl 0 9 (by decide) rfl rfl (by decide) rfl wd0 dX0_throwSalt_70 ?_
    refine z_aload_n C 2 dX0_throwSalt_73 rfl rfl ?_
    refine z_iload_n C 3 dX0_throwSalt_74 rfl rfl ?_
    refine z_iload C 1 dX0_throwSalt_75 rfl ?_
    refine z_iload_n C 5 dX0_throwSalt_77 rfl rfl ?_
    refine z_iload C 0 dX0_throwSalt_78 rfl ?_
    obtain ⟨v3, hv3⟩ : ∃ z, z = xwrite (xl v2, xa v2, xe v2, xn v2, xw v2, xf v2, xg v2, xx v2, xk v2, (xc v2 - g), xd v2, xo v2, xy v2, xb v2) (nI j) 1 (nI g) (xlexc v j (nI g)) := ⟨_, rfl⟩
    refine z_callV (w := (wX0 hh cI cZ (xl v2, xa v2, xe v2, xn v2, xw v2, xf v2, xg v2, xx v2, xk v2, (xc v2 - g), xd v2, xo v2, xy v2, xb v2))) (w' := (wX0 hh cI cZ v3)) (w1 := ([] : va_W)) (w2 := ([] : va_W)) (ws' := (wX0 hh cI cZ v3)) (As := [.int (nI j), .int 1, .int (nI g), .int (xlexc v j (nI g))]) (rest := []) (st' := []) (rv := none) C (by rw [hv3]; exact c_X0_writeThrow l D hh cI cZ (xl v2, xa v2, xe v2, xn v2, xw v2, xf v2, xg v2, xx v2, xk v2, (xc v2 - g), xd v2, xo v2, xy v2, xb v2) (nI j) 1 (nI g) (xlexc v j (nI g)) (by first | omega | exact hk | (show xk v2 < 30; omega)) (by first | exact Or.inl rfl | exact Or.inr rfl)) (cwV 4 C.words gX0_throwSalt_X0_writeThrow rfl rfl rfl (by decide +kernel) ⟨(Nat.le_of_ble_eq_true rfl), (Nat.le_of_ble_eq_true rfl)⟩) (q0 := 0) (ci := 0) rfl rfl rfl [0, 1] rfl rfl (Nat.le_of_ble_eq_true rfl) ⟨(Nat.le_of_ble_eq_true rfl), (Nat.le_of_ble_eq_true rfl)⟩ rfl rfl rfl rfl rfl dX0_throwSalt_80 ?_
    refine z_iload C 0 dX0_throwSalt_83 rfl ?_
    subst hv3
    subst hv2
    exact z_iret C hr hlocks (Nat.le_of_ble_eq_true rfl) (Nat.le_of_ble_eq_true rfl) dX0_throwSalt_85 (by first | rfl | (simp only [xthrow, xthrowR, c25, ↓reduceIte]; done) | (simp only [xthrow, xthrowR, c25, ↓reduceIte]; rfl)) (congrArg (wX0 hh cI cZ) (by first | rfl | (simp only [xthrow, xthrowR, c25, ↓reduceIte]; done) | (simp only [xthrow, xthrowR, c25, ↓reduceIte]; rfl)))
set_option maxHeartbeats 4000000 in
set_option maxRecDepth 100000 in
theorem c_X0_doPenance (l : Launch) (D : va_G) (hh : Nat → Nat) (cI cZ : ClassId) (v : S0) (j g : Nat) (hj : j < xn v) (hn : xn v ≤ 8) (h1 : 1 ≤ g) (h2 : g ≤ 9) : zM l yX0_doPenance wsX0_doPenance 2 37 0 0 [.ref (hh 0), .int (nI j), .int (nI g)] [(cI, .int), (cZ, .boolean)] D (wX0 hh cI cZ v) (wX0 hh cI cZ (xlump v j (nI g))) (some (.int (xe (xlump v j (nI g)) j))) := by
  refine z_met (cc := cX0_doPenance) (maxL := 3) (ret := (some .int)) (by decide) rfl (Nat.le_of_ble_eq_true rfl) ?_
  intro p e s m args below meth c A C hr hlocks
  have inl : ∀ w ∈ u_ws RX0 TX0 14, w ∈ wsX0_doPenance := by decide +kernel
  have wd0 : Cond.fieldLink RX0 16 "SaltOrder" "toEat" "[I" ∈ wsX0_doPenance := by decide +kernel
  refine z_sub (L' := [(0, .ref (hh 0)), (1, .int (nI j)), (2, .int (nI g))]) [0, 1, 2] rfl ?_
  refine z_aload_n C 0 dX0_doPenance_0 rfl rfl ?_
  refine z_iload_n C 1 dX0_doPenance_1 rfl rfl ?_
  refine z_callV (w := (wX0 hh cI cZ v)) (w' := (wX0 hh cI cZ v)) (w1 := ([] : va_W)) (w2 := ([] : va_W)) (ws' := (wX0 hh cI cZ v)) (As := [.int (nI j)]) (rest := []) (st' := []) (rv := none) C (c_X0_checkMember l D hh cI cZ v j (by omega) (by omega)) (cwV 1 C.words gX0_doPenance_X0_checkMember rfl rfl rfl (by decide +kernel) ⟨(Nat.le_of_ble_eq_true rfl), (Nat.le_of_ble_eq_true rfl)⟩) (q0 := 0) (ci := 0) rfl rfl rfl [0, 1] rfl rfl (Nat.le_of_ble_eq_true rfl) ⟨(Nat.le_of_ble_eq_true rfl), (Nat.le_of_ble_eq_true rfl)⟩ rfl rfl rfl rfl rfl dX0_doPenance_2 ?_
  refine z_iload_n C 2 dX0_doPenance_5 rfl rfl ?_
  refine z_bipush (v := 9) C dX0_doPenance_6 (by decide) ?_
  refine z_callS (w := ([] : va_W)) (w' := ([] : va_W)) (w1 := (wX0 hh cI cZ v)) (w2 := ([] : va_W)) (ws' := (wX0 hh cI cZ v)) (As := [.int (nI g), .int 9]) (rest := []) (st' := []) (rv := none) C (c_X0_checkAmount l D (nI g) 9 (nI_nlt (by omega) (by omega)) (nI_le (b := 9) (by omega) (by omega))) (va_cwS 2 C.words gX0_doPenance_X0_checkAmount rfl rfl rfl (by decide +kernel) ⟨(Nat.le_of_ble_eq_true rfl), (Nat.le_of_ble_eq_true rfl)⟩) [] rfl rfl (Nat.le_of_ble_eq_true rfl) ⟨(Nat.le_of_ble_eq_true rfl), (Nat.le_of_ble_eq_true rfl)⟩ rfl rfl rfl rfl rfl dX0_doPenance_8 ?_
  refine z_aload_n C 0 dX0_doPenance_11 rfl rfl ?_
  refine z_iload_n C 1 dX0_doPenance_12 rfl rfl ?_
  refine z_iload_n C 2 dX0_doPenance_13 rfl rfl ?_
  obtain ⟨v1, hv1⟩ : ∃ z, z = xlump v j (nI g) := ⟨_, rfl⟩
  refine z_callV (w := (wX0 hh cI cZ v)) (w' := (wX0 hh cI cZ v1)) (w1 := ([] : va_W)) (w2 := ([] : va_W)) (ws' := (wX0 hh cI cZ v1)) (As := [.int (nI j), .int (nI g)]) (rest := []) (st' := []) (rv := none) C (by rw [hv1]; exact c_X0_addLumps l D hh cI cZ v j (nI g) (by omega)) (cwV 2 C.words gX0_doPenance_X0_addLumps rfl rfl rfl (by decide +kernel) ⟨(Nat.le_of_ble_eq_true rfl), (Nat.le_of_ble_eq_true rfl)⟩) (q0 := 0) (ci := 0) rfl rfl rfl [0, 1] rfl rfl (Nat.le_of_ble_eq_true rfl) ⟨(Nat.le_of_ble_eq_true rfl), (Nat.le_of_ble_eq_true rfl)⟩ rfl rfl rfl rfl rfl dX0_doPenance_14 ?_
  have hv1k0 : xn v1 = xn v := by rw [hv1]; exact (rfl : xn (xlump v j (nI g)) = xn v)
  have hv1k1 : xk v1 = xk v := by rw [hv1]; exact (rfl : xk (xlump v j (nI g)) = xk v)
  refine z_aload_n C 0 dX0_doPenance_17 rfl rfl ?_
  refine z_get0 (v := .ref (hh 3)) C inl 0 2 (by decide) rfl rfl wd0 dX0_doPenance_18 ?_
  refine z_iload_n C 1 dX0_doPenance_21 rfl rfl ?_
  refine z_iald (f := xe v1) C 3 0 rfl rfl j rfl (by omega) (by decide) dX0_doPenance_22 ?_
  subst hv1
  exact z_iret C hr hlocks (Nat.le_of_ble_eq_true rfl) (Nat.le_of_ble_eq_true rfl) dX0_doPenance_23 (by rfl) (congrArg (wX0 hh cI cZ) (by rfl))
set_option maxHeartbeats 4000000 in
set_option maxRecDepth 100000 in
theorem c_X0_bringSalt (l : Launch) (D : va_G) (hh : Nat → Nat) (cI cZ : ClassId) (v : S0) (g : Nat) (h1 : 1 ≤ g) (h2 : g ≤ 500) (hc5 : xc v ≤ 500) : zM l yX0_bringSalt wsX0_bringSalt 1 21 0 0 [.ref (hh 0), .int (nI g)] [(cI, .int), (cZ, .boolean)] D (wX0 hh cI cZ v) (wX0 hh cI cZ (uc v (min 500 (xc v + g)))) (some (.int (nI (min 500 (xc v + g))))) := by
  refine z_met (cc := cX0_bringSalt) (maxL := 2) (ret := (some .int)) (by decide) rfl (Nat.le_of_ble_eq_true rfl) ?_
  intro p e s m args below meth c A C hr hlocks
  have inl : ∀ w ∈ u_ws RX0 TX0 14, w ∈ wsX0_bringSalt := by decide +kernel
  have wd0 : Cond.fieldLink RX0 39 "SaltOrder" "cellar" "I" ∈ wsX0_bringSalt := by decide +kernel
  have wd1 : Cond.methodLink RX0 89 Lib.Math.min.name ∈ wsX0_bringSalt := by decide +kernel
  have wd2 : Cond.static Lib.Math.min.name ∈ wsX0_bringSalt := by decide +kernel
  have wd3 : Cond.initialized "java/lang/Math" ∈ wsX0_bringSalt := by decide +kernel
  have wd4 : Cond.code Lib.Math.min.name Lib.Math.min.code 2 (some .int) ∈ wsX0_bringSalt := by decide +kernel
  refine z_sub (L' := [(0, .ref (hh 0)), (1, .int (nI g))]) [0, 1] rfl ?_
  refine z_iload_n C 1 dX0_bringSalt_0 rfl rfl ?_
  refine z_sipush (v := 500) C dX0_bringSalt_1 (by decide) ?_
  refine z_callS (w := ([] : va_W)) (w' := ([] : va_W)) (w1 := (wX0 hh cI cZ v)) (w2 := ([] : va_W)) (ws' := (wX0 hh cI cZ v)) (As := [.int (nI g), .int 500]) (rest := []) (st' := []) (rv := none) C (c_X0_checkAmount l D (nI g) 500 (nI_nlt (by omega) (by omega)) (nI_le (b := 500) (by omega) (by omega))) (va_cwS 2 C.words gX0_bringSalt_X0_checkAmount rfl rfl rfl (by decide +kernel) ⟨(Nat.le_of_ble_eq_true rfl), (Nat.le_of_ble_eq_true rfl)⟩) [] rfl rfl (Nat.le_of_ble_eq_true rfl) ⟨(Nat.le_of_ble_eq_true rfl), (Nat.le_of_ble_eq_true rfl)⟩ rfl rfl rfl rfl rfl dX0_bringSalt_4 ?_
  refine z_aload_n C 0 dX0_bringSalt_7 rfl rfl ?_
  refine z_sipush (v := 500) C dX0_bringSalt_8 (by decide) ?_
  refine z_aload_n C 0 dX0_bringSalt_11 rfl rfl ?_
  refine z_get0 (v := .int (nI (xc v))) C inl 0 9 (by decide) rfl rfl wd0 dX0_bringSalt_12 ?_
  refine z_iload_n C 1 dX0_bringSalt_15 rfl rfl ?_
  refine z_iadd C dX0_bringSalt_16 ?_
  refine z_top (y := nI (xc v + g)) (nI_add _ _) ?_
  refine z_mmin C wd1 wd2 wd3 wd4 (Nat.le_of_ble_eq_true rfl) (Nat.le_of_ble_eq_true rfl) (Nat.le_of_ble_eq_true rfl) (Nat.le_of_ble_eq_true rfl) dX0_bringSalt_17 ?_
  refine z_top (y := nI (min 500 (xc v + g))) (imin_nI (a := 500) (by omega) (by omega)) ?_
  refine z_put0 (ws' := (wX0 hh cI cZ (xl v, xa v, xe v, xn v, xw v, xf v, xg v, xx v, xk v, (min 500 (xc v + g)), xd v, xo v, xy v, xb v))) C inl 0 9 (by decide) rfl rfl (by decide) rfl wd0 dX0_bringSalt_20 ?_
  refine z_aload_n C 0 dX0_bringSalt_23 rfl rfl ?_
  refine z_get0 (v := .int (nI (min 500 (xc v + g)))) C inl 0 9 (by decide) rfl rfl wd0 dX0_bringSalt_24 ?_
  exact z_iret C hr hlocks (Nat.le_of_ble_eq_true rfl) (Nat.le_of_ble_eq_true rfl) dX0_bringSalt_27 rfl (congrArg (wX0 hh cI cZ) (by first | rfl | (simp only [uc, ↓reduceIte]; done) | (simp only [uc, ↓reduceIte]; rfl)))
set_option maxHeartbeats 4000000 in
set_option maxRecDepth 100000 in
theorem c_X0_day (l : Launch) (D : va_G) (hh : Nat → Nat) (cI cZ : ClassId) (v : S0) : zM l yX0_day wsX0_day 0 0 0 0 [.ref (hh 0)] [(cI, .int), (cZ, .boolean)] D (wX0 hh cI cZ v) (wX0 hh cI cZ v) (some (.int (xd v))) := by
  refine z_met (cc := cX0_day) (maxL := 1) (ret := (some .int)) (by decide) rfl (Nat.le_of_ble_eq_true rfl) ?_
  intro p e s m args below meth c A C hr hlocks
  have inl : ∀ w ∈ u_ws RX0 TX0 14, w ∈ wsX0_day := by decide +kernel
  have wd0 : Cond.fieldLink RX0 42 "SaltOrder" "today" "I" ∈ wsX0_day := by decide +kernel
  refine z_sub (L' := [(0, .ref (hh 0))]) [0] rfl ?_
  refine z_aload_n C 0 dX0_day_0 rfl rfl ?_
  refine z_get0 (v := .int (xd v)) C inl 0 10 (by decide) rfl rfl wd0 dX0_day_1 ?_
  exact z_iret C hr hlocks (Nat.le_of_ble_eq_true rfl) (Nat.le_of_ble_eq_true rfl) dX0_day_4 rfl rfl
set_option maxHeartbeats 4000000 in
set_option maxRecDepth 100000 in
theorem c_X0_members (l : Launch) (D : va_G) (hh : Nat → Nat) (cI cZ : ClassId) (v : S0) : zM l yX0_members wsX0_members 0 0 0 0 [.ref (hh 0)] [(cI, .int), (cZ, .boolean)] D (wX0 hh cI cZ v) (wX0 hh cI cZ v) (some (.int (nI (xn v)))) := by
  refine z_met (cc := cX0_members) (maxL := 1) (ret := (some .int)) (by decide) rfl (Nat.le_of_ble_eq_true rfl) ?_
  intro p e s m args below meth c A C hr hlocks
  have inl : ∀ w ∈ u_ws RX0 TX0 14, w ∈ wsX0_members := by decide +kernel
  have wd0 : Cond.fieldLink RX0 32 "SaltOrder" "memberCount" "I" ∈ wsX0_members := by decide +kernel
  refine z_sub (L' := [(0, .ref (hh 0))]) [0] rfl ?_
  refine z_aload_n C 0 dX0_members_0 rfl rfl ?_
  refine z_get0 (v := .int (nI (xn v))) C inl 0 3 (by decide) rfl rfl wd0 dX0_members_1 ?_
  exact z_iret C hr hlocks (Nat.le_of_ble_eq_true rfl) (Nat.le_of_ble_eq_true rfl) dX0_members_4 rfl rfl
set_option maxHeartbeats 4000000 in
set_option maxRecDepth 100000 in
theorem c_X0_salt (l : Launch) (D : va_G) (hh : Nat → Nat) (cI cZ : ClassId) (v : S0) : zM l yX0_salt wsX0_salt 0 0 0 0 [.ref (hh 0)] [(cI, .int), (cZ, .boolean)] D (wX0 hh cI cZ v) (wX0 hh cI cZ v) (some (.int (nI (xc v)))) := by
  refine z_met (cc := cX0_salt) (maxL := 1) (ret := (some .int)) (by decide) rfl (Nat.le_of_ble_eq_true rfl) ?_
  intro p e s m args below meth c A C hr hlocks
  have inl : ∀ w ∈ u_ws RX0 TX0 14, w ∈ wsX0_salt := by decide +kernel
  have wd0 : Cond.fieldLink RX0 39 "SaltOrder" "cellar" "I" ∈ wsX0_salt := by decide +kernel
  refine z_sub (L' := [(0, .ref (hh 0))]) [0] rfl ?_
  refine z_aload_n C 0 dX0_salt_0 rfl rfl ?_
  refine z_get0 (v := .int (nI (xc v))) C inl 0 9 (by decide) rfl rfl wd0 dX0_salt_1 ?_
  exact z_iret C hr hlocks (Nat.le_of_ble_eq_true rfl) (Nat.le_of_ble_eq_true rfl) dX0_salt_4 rfl rfl
set_option maxHeartbeats 4000000 in
set_option maxRecDepth 100000 in
theorem c_X0_ledger (l : Launch) (D : va_G) (hh : Nat → Nat) (cI cZ : ClassId) (v : S0) : zM l yX0_ledger wsX0_ledger 0 0 0 0 [.ref (hh 0)] [(cI, .int), (cZ, .boolean)] D (wX0 hh cI cZ v) (wX0 hh cI cZ v) (some (.int (nI (xk v)))) := by
  refine z_met (cc := cX0_ledger) (maxL := 1) (ret := (some .int)) (by decide) rfl (Nat.le_of_ble_eq_true rfl) ?_
  intro p e s m args below meth c A C hr hlocks
  have inl : ∀ w ∈ u_ws RX0 TX0 14, w ∈ wsX0_ledger := by decide +kernel
  have wd0 : Cond.fieldLink RX0 36 "SaltOrder" "throwCount" "I" ∈ wsX0_ledger := by decide +kernel
  refine z_sub (L' := [(0, .ref (hh 0))]) [0] rfl ?_
  refine z_aload_n C 0 dX0_ledger_0 rfl rfl ?_
  refine z_get0 (v := .int (nI (xk v))) C inl 0 8 (by decide) rfl rfl wd0 dX0_ledger_1 ?_
  exact z_iret C hr hlocks (Nat.le_of_ble_eq_true rfl) (Nat.le_of_ble_eq_true rfl) dX0_ledger_4 rfl rfl
set_option maxHeartbeats 4000000 in
set_option maxRecDepth 100000 in
theorem c_X0_faultsFound (l : Launch) (D : va_G) (hh : Nat → Nat) (cI cZ : ClassId) (v : S0) : zM l yX0_faultsFound wsX0_faultsFound 0 0 0 0 [.ref (hh 0)] [(cI, .int), (cZ, .boolean)] D (wX0 hh cI cZ v) (wX0 hh cI cZ v) (some (.int (xo v))) := by
  refine z_met (cc := cX0_faultsFound) (maxL := 1) (ret := (some .int)) (by decide) rfl (Nat.le_of_ble_eq_true rfl) ?_
  intro p e s m args below meth c A C hr hlocks
  have inl : ∀ w ∈ u_ws RX0 TX0 14, w ∈ wsX0_faultsFound := by decide +kernel
  have wd0 : Cond.fieldLink RX0 45 "SaltOrder" "found" "I" ∈ wsX0_faultsFound := by decide +kernel
  refine z_sub (L' := [(0, .ref (hh 0))]) [0] rfl ?_
  refine z_aload_n C 0 dX0_faultsFound_0 rfl rfl ?_
  refine z_get0 (v := .int (xo v)) C inl 0 11 (by decide) rfl rfl wd0 dX0_faultsFound_1 ?_
  exact z_iret C hr hlocks (Nat.le_of_ble_eq_true rfl) (Nat.le_of_ble_eq_true rfl) dX0_faultsFound_4 rfl rfl
set_option maxHeartbeats 4000000 in
set_option maxRecDepth 100000 in
theorem c_X0_luckOf (l : Launch) (D : va_G) (hh : Nat → Nat) (cI cZ : ClassId) (v : S0) (j : Nat) (hj : j < xn v) (hn : xn v ≤ 8) : zM l yX0_luckOf wsX0_luckOf 1 21 0 0 [.ref (hh 0), .int (nI j)] [(cI, .int), (cZ, .boolean)] D (wX0 hh cI cZ v) (wX0 hh cI cZ v) (some (.int (xl v j))) := by
  refine z_met (cc := cX0_luckOf) (maxL := 2) (ret := (some .int)) (by decide) rfl (Nat.le_of_ble_eq_true rfl) ?_
  intro p e s m args below meth c A C hr hlocks
  have inl : ∀ w ∈ u_ws RX0 TX0 14, w ∈ wsX0_luckOf := by decide +kernel
  have wd0 : Cond.fieldLink RX0 9 "SaltOrder" "luck" "[I" ∈ wsX0_luckOf := by decide +kernel
  refine z_sub (L' := [(0, .ref (hh 0)), (1, .int (nI j))]) [0, 1] rfl ?_
  refine z_aload_n C 0 dX0_luckOf_0 rfl rfl ?_
  refine z_iload_n C 1 dX0_luckOf_1 rfl rfl ?_
  refine z_callV (w := (wX0 hh cI cZ v)) (w' := (wX0 hh cI cZ v)) (w1 := ([] : va_W)) (w2 := ([] : va_W)) (ws' := (wX0 hh cI cZ v)) (As := [.int (nI j)]) (rest := []) (st' := []) (rv := none) C (c_X0_checkMember l D hh cI cZ v j (by omega) (by omega)) (cwV 1 C.words gX0_luckOf_X0_checkMember rfl rfl rfl (by decide +kernel) ⟨(Nat.le_of_ble_eq_true rfl), (Nat.le_of_ble_eq_true rfl)⟩) (q0 := 0) (ci := 0) rfl rfl rfl [0, 1] rfl rfl (Nat.le_of_ble_eq_true rfl) ⟨(Nat.le_of_ble_eq_true rfl), (Nat.le_of_ble_eq_true rfl)⟩ rfl rfl rfl rfl rfl dX0_luckOf_2 ?_
  refine z_aload_n C 0 dX0_luckOf_5 rfl rfl ?_
  refine z_get0 (v := .ref (hh 1)) C inl 0 0 (by decide) rfl rfl wd0 dX0_luckOf_6 ?_
  refine z_iload_n C 1 dX0_luckOf_9 rfl rfl ?_
  refine z_iald (f := xl v) C 1 0 rfl rfl j rfl (by omega) (by decide) dX0_luckOf_10 ?_
  exact z_iret C hr hlocks (Nat.le_of_ble_eq_true rfl) (Nat.le_of_ble_eq_true rfl) dX0_luckOf_11 (by rfl) rfl
set_option maxHeartbeats 4000000 in
set_option maxRecDepth 100000 in
theorem c_X0_arrearsOf (l : Launch) (D : va_G) (hh : Nat → Nat) (cI cZ : ClassId) (v : S0) (j : Nat) (hj : j < xn v) (hn : xn v ≤ 8) : zM l yX0_arrearsOf wsX0_arrearsOf 1 21 0 0 [.ref (hh 0), .int (nI j)] [(cI, .int), (cZ, .boolean)] D (wX0 hh cI cZ v) (wX0 hh cI cZ v) (some (.int (xa v j))) := by
  refine z_met (cc := cX0_arrearsOf) (maxL := 2) (ret := (some .int)) (by decide) rfl (Nat.le_of_ble_eq_true rfl) ?_
  intro p e s m args below meth c A C hr hlocks
  have inl : ∀ w ∈ u_ws RX0 TX0 14, w ∈ wsX0_arrearsOf := by decide +kernel
  have wd0 : Cond.fieldLink RX0 13 "SaltOrder" "arrears" "[I" ∈ wsX0_arrearsOf := by decide +kernel
  refine z_sub (L' := [(0, .ref (hh 0)), (1, .int (nI j))]) [0, 1] rfl ?_
  refine z_aload_n C 0 dX0_arrearsOf_0 rfl rfl ?_
  refine z_iload_n C 1 dX0_arrearsOf_1 rfl rfl ?_
  refine z_callV (w := (wX0 hh cI cZ v)) (w' := (wX0 hh cI cZ v)) (w1 := ([] : va_W)) (w2 := ([] : va_W)) (ws' := (wX0 hh cI cZ v)) (As := [.int (nI j)]) (rest := []) (st' := []) (rv := none) C (c_X0_checkMember l D hh cI cZ v j (by omega) (by omega)) (cwV 1 C.words gX0_arrearsOf_X0_checkMember rfl rfl rfl (by decide +kernel) ⟨(Nat.le_of_ble_eq_true rfl), (Nat.le_of_ble_eq_true rfl)⟩) (q0 := 0) (ci := 0) rfl rfl rfl [0, 1] rfl rfl (Nat.le_of_ble_eq_true rfl) ⟨(Nat.le_of_ble_eq_true rfl), (Nat.le_of_ble_eq_true rfl)⟩ rfl rfl rfl rfl rfl dX0_arrearsOf_2 ?_
  refine z_aload_n C 0 dX0_arrearsOf_5 rfl rfl ?_
  refine z_get0 (v := .ref (hh 2)) C inl 0 1 (by decide) rfl rfl wd0 dX0_arrearsOf_6 ?_
  refine z_iload_n C 1 dX0_arrearsOf_9 rfl rfl ?_
  refine z_iald (f := xa v) C 2 0 rfl rfl j rfl (by omega) (by decide) dX0_arrearsOf_10 ?_
  exact z_iret C hr hlocks (Nat.le_of_ble_eq_true rfl) (Nat.le_of_ble_eq_true rfl) dX0_arrearsOf_11 (by rfl) rfl
set_option maxHeartbeats 4000000 in
set_option maxRecDepth 100000 in
theorem c_X0_lumpsOf (l : Launch) (D : va_G) (hh : Nat → Nat) (cI cZ : ClassId) (v : S0) (j : Nat) (hj : j < xn v) (hn : xn v ≤ 8) : zM l yX0_lumpsOf wsX0_lumpsOf 1 21 0 0 [.ref (hh 0), .int (nI j)] [(cI, .int), (cZ, .boolean)] D (wX0 hh cI cZ v) (wX0 hh cI cZ v) (some (.int (xe v j))) := by
  refine z_met (cc := cX0_lumpsOf) (maxL := 2) (ret := (some .int)) (by decide) rfl (Nat.le_of_ble_eq_true rfl) ?_
  intro p e s m args below meth c A C hr hlocks
  have inl : ∀ w ∈ u_ws RX0 TX0 14, w ∈ wsX0_lumpsOf := by decide +kernel
  have wd0 : Cond.fieldLink RX0 16 "SaltOrder" "toEat" "[I" ∈ wsX0_lumpsOf := by decide +kernel
  refine z_sub (L' := [(0, .ref (hh 0)), (1, .int (nI j))]) [0, 1] rfl ?_
  refine z_aload_n C 0 dX0_lumpsOf_0 rfl rfl ?_
  refine z_iload_n C 1 dX0_lumpsOf_1 rfl rfl ?_
  refine z_callV (w := (wX0 hh cI cZ v)) (w' := (wX0 hh cI cZ v)) (w1 := ([] : va_W)) (w2 := ([] : va_W)) (ws' := (wX0 hh cI cZ v)) (As := [.int (nI j)]) (rest := []) (st' := []) (rv := none) C (c_X0_checkMember l D hh cI cZ v j (by omega) (by omega)) (cwV 1 C.words gX0_lumpsOf_X0_checkMember rfl rfl rfl (by decide +kernel) ⟨(Nat.le_of_ble_eq_true rfl), (Nat.le_of_ble_eq_true rfl)⟩) (q0 := 0) (ci := 0) rfl rfl rfl [0, 1] rfl rfl (Nat.le_of_ble_eq_true rfl) ⟨(Nat.le_of_ble_eq_true rfl), (Nat.le_of_ble_eq_true rfl)⟩ rfl rfl rfl rfl rfl dX0_lumpsOf_2 ?_
  refine z_aload_n C 0 dX0_lumpsOf_5 rfl rfl ?_
  refine z_get0 (v := .ref (hh 3)) C inl 0 2 (by decide) rfl rfl wd0 dX0_lumpsOf_6 ?_
  refine z_iload_n C 1 dX0_lumpsOf_9 rfl rfl ?_
  refine z_iald (f := xe v) C 3 0 rfl rfl j rfl (by omega) (by decide) dX0_lumpsOf_10 ?_
  exact z_iret C hr hlocks (Nat.le_of_ble_eq_true rfl) (Nat.le_of_ble_eq_true rfl) dX0_lumpsOf_11 (by rfl) rfl
set_option maxHeartbeats 4000000 in
set_option maxRecDepth 100000 in
theorem c_X0_memberOf (l : Launch) (D : va_G) (hh : Nat → Nat) (cI cZ : ClassId) (v : S0) (j : Nat) (hj : j < xk v) (hk : xk v ≤ 30) : zM l yX0_memberOf wsX0_memberOf 1 21 0 0 [.ref (hh 0), .int (nI j)] [(cI, .int), (cZ, .boolean)] D (wX0 hh cI cZ v) (wX0 hh cI cZ v) (some (.int (xw v j))) := by
  refine z_met (cc := cX0_memberOf) (maxL := 2) (ret := (some .int)) (by decide) rfl (Nat.le_of_ble_eq_true rfl) ?_
  intro p e s m args below meth c A C hr hlocks
  have inl : ∀ w ∈ u_ws RX0 TX0 14, w ∈ wsX0_memberOf := by decide +kernel
  have wd0 : Cond.fieldLink RX0 19 "SaltOrder" "throwers" "[I" ∈ wsX0_memberOf := by decide +kernel
  refine z_sub (L' := [(0, .ref (hh 0)), (1, .int (nI j))]) [0, 1] rfl ?_
  refine z_aload_n C 0 dX0_memberOf_0 rfl rfl ?_
  refine z_iload_n C 1 dX0_memberOf_1 rfl rfl ?_
  refine z_callV (w := (wX0 hh cI cZ v)) (w' := (wX0 hh cI cZ v)) (w1 := ([] : va_W)) (w2 := ([] : va_W)) (ws' := (wX0 hh cI cZ v)) (As := [.int (nI j)]) (rest := []) (st' := []) (rv := none) C (c_X0_checkEntry l D hh cI cZ v j (by omega) (by omega)) (cwV 1 C.words gX0_memberOf_X0_checkEntry rfl rfl rfl (by decide +kernel) ⟨(Nat.le_of_ble_eq_true rfl), (Nat.le_of_ble_eq_true rfl)⟩) (q0 := 0) (ci := 0) rfl rfl rfl [0, 1] rfl rfl (Nat.le_of_ble_eq_true rfl) ⟨(Nat.le_of_ble_eq_true rfl), (Nat.le_of_ble_eq_true rfl)⟩ rfl rfl rfl rfl rfl dX0_memberOf_2 ?_
  refine z_aload_n C 0 dX0_memberOf_5 rfl rfl ?_
  refine z_get0 (v := .ref (hh 4)) C inl 0 4 (by decide) rfl rfl wd0 dX0_memberOf_6 ?_
  refine z_iload_n C 1 dX0_memberOf_9 rfl rfl ?_
  refine z_iald (f := xw v) C 4 0 rfl rfl j rfl (by omega) (by decide) dX0_memberOf_10 ?_
  exact z_iret C hr hlocks (Nat.le_of_ble_eq_true rfl) (Nat.le_of_ble_eq_true rfl) dX0_memberOf_11 (by rfl) rfl
set_option maxHeartbeats 4000000 in
set_option maxRecDepth 100000 in
theorem c_X0_grainsOf (l : Launch) (D : va_G) (hh : Nat → Nat) (cI cZ : ClassId) (v : S0) (j : Nat) (hj : j < xk v) (hk : xk v ≤ 30) : zM l yX0_grainsOf wsX0_grainsOf 1 21 0 0 [.ref (hh 0), .int (nI j)] [(cI, .int), (cZ, .boolean)] D (wX0 hh cI cZ v) (wX0 hh cI cZ v) (some (.int (xg v j))) := by
  refine z_met (cc := cX0_grainsOf) (maxL := 2) (ret := (some .int)) (by decide) rfl (Nat.le_of_ble_eq_true rfl) ?_
  intro p e s m args below meth c A C hr hlocks
  have inl : ∀ w ∈ u_ws RX0 TX0 14, w ∈ wsX0_grainsOf := by decide +kernel
  have wd0 : Cond.fieldLink RX0 26 "SaltOrder" "thrown" "[I" ∈ wsX0_grainsOf := by decide +kernel
  refine z_sub (L' := [(0, .ref (hh 0)), (1, .int (nI j))]) [0, 1] rfl ?_
  refine z_aload_n C 0 dX0_grainsOf_0 rfl rfl ?_
  refine z_iload_n C 1 dX0_grainsOf_1 rfl rfl ?_
  refine z_callV (w := (wX0 hh cI cZ v)) (w' := (wX0 hh cI cZ v)) (w1 := ([] : va_W)) (w2 := ([] : va_W)) (ws' := (wX0 hh cI cZ v)) (As := [.int (nI j)]) (rest := []) (st' := []) (rv := none) C (c_X0_checkEntry l D hh cI cZ v j (by omega) (by omega)) (cwV 1 C.words gX0_grainsOf_X0_checkEntry rfl rfl rfl (by decide +kernel) ⟨(Nat.le_of_ble_eq_true rfl), (Nat.le_of_ble_eq_true rfl)⟩) (q0 := 0) (ci := 0) rfl rfl rfl [0, 1] rfl rfl (Nat.le_of_ble_eq_true rfl) ⟨(Nat.le_of_ble_eq_true rfl), (Nat.le_of_ble_eq_true rfl)⟩ rfl rfl rfl rfl rfl dX0_grainsOf_2 ?_
  refine z_aload_n C 0 dX0_grainsOf_5 rfl rfl ?_
  refine z_get0 (v := .ref (hh 6)) C inl 0 6 (by decide) rfl rfl wd0 dX0_grainsOf_6 ?_
  refine z_iload_n C 1 dX0_grainsOf_9 rfl rfl ?_
  refine z_iald (f := xg v) C 6 0 rfl rfl j rfl (by omega) (by decide) dX0_grainsOf_10 ?_
  exact z_iret C hr hlocks (Nat.le_of_ble_eq_true rfl) (Nat.le_of_ble_eq_true rfl) dX0_grainsOf_11 (by rfl) rfl
set_option maxHeartbeats 4000000 in
set_option maxRecDepth 100000 in
theorem c_X0_excessOf (l : Launch) (D : va_G) (hh : Nat → Nat) (cI cZ : ClassId) (v : S0) (j : Nat) (hj : j < xk v) (hk : xk v ≤ 30) : zM l yX0_excessOf wsX0_excessOf 1 21 0 0 [.ref (hh 0), .int (nI j)] [(cI, .int), (cZ, .boolean)] D (wX0 hh cI cZ v) (wX0 hh cI cZ v) (some (.int (xx v j))) := by
  refine z_met (cc := cX0_excessOf) (maxL := 2) (ret := (some .int)) (by decide) rfl (Nat.le_of_ble_eq_true rfl) ?_
  intro p e s m args below meth c A C hr hlocks
  have inl : ∀ w ∈ u_ws RX0 TX0 14, w ∈ wsX0_excessOf := by decide +kernel
  have wd0 : Cond.fieldLink RX0 29 "SaltOrder" "excesses" "[I" ∈ wsX0_excessOf := by decide +kernel
  refine z_sub (L' := [(0, .ref (hh 0)), (1, .int (nI j))]) [0, 1] rfl ?_
  refine z_aload_n C 0 dX0_excessOf_0 rfl rfl ?_
  refine z_iload_n C 1 dX0_excessOf_1 rfl rfl ?_
  refine z_callV (w := (wX0 hh cI cZ v)) (w' := (wX0 hh cI cZ v)) (w1 := ([] : va_W)) (w2 := ([] : va_W)) (ws' := (wX0 hh cI cZ v)) (As := [.int (nI j)]) (rest := []) (st' := []) (rv := none) C (c_X0_checkEntry l D hh cI cZ v j (by omega) (by omega)) (cwV 1 C.words gX0_excessOf_X0_checkEntry rfl rfl rfl (by decide +kernel) ⟨(Nat.le_of_ble_eq_true rfl), (Nat.le_of_ble_eq_true rfl)⟩) (q0 := 0) (ci := 0) rfl rfl rfl [0, 1] rfl rfl (Nat.le_of_ble_eq_true rfl) ⟨(Nat.le_of_ble_eq_true rfl), (Nat.le_of_ble_eq_true rfl)⟩ rfl rfl rfl rfl rfl dX0_excessOf_2 ?_
  refine z_aload_n C 0 dX0_excessOf_5 rfl rfl ?_
  refine z_get0 (v := .ref (hh 7)) C inl 0 7 (by decide) rfl rfl wd0 dX0_excessOf_6 ?_
  refine z_iload_n C 1 dX0_excessOf_9 rfl rfl ?_
  refine z_iald (f := xx v) C 7 0 rfl rfl j rfl (by omega) (by decide) dX0_excessOf_10 ?_
  exact z_iret C hr hlocks (Nat.le_of_ble_eq_true rfl) (Nat.le_of_ble_eq_true rfl) dX0_excessOf_11 (by rfl) rfl
set_option maxHeartbeats 4000000 in
set_option maxRecDepth 100000 in
theorem c_X0_isLeft (l : Launch) (D : va_G) (hh : Nat → Nat) (cI cZ : ClassId) (v : S0) (j : Nat) (hj : j < xk v) (hk : xk v ≤ 30) (hf : xf v j = 0 ∨ xf v j = 1) : zM l yX0_isLeft wsX0_isLeft 1 21 0 0 [.ref (hh 0), .int (nI j)] [(cI, .int), (cZ, .boolean)] D (wX0 hh cI cZ v) (wX0 hh cI cZ v) (some (.int (xf v j))) := by
  refine z_met (cc := cX0_isLeft) (maxL := 2) (ret := (some .boolean)) (by decide) rfl (Nat.le_of_ble_eq_true rfl) ?_
  intro p e s m args below meth c A C hr hlocks
  have inl : ∀ w ∈ u_ws RX0 TX0 14, w ∈ wsX0_isLeft := by decide +kernel
  have wd0 : Cond.fieldLink RX0 22 "SaltOrder" "lefts" "[Z" ∈ wsX0_isLeft := by decide +kernel
  refine z_sub (L' := [(0, .ref (hh 0)), (1, .int (nI j))]) [0, 1] rfl ?_
  refine z_aload_n C 0 dX0_isLeft_0 rfl rfl ?_
  refine z_iload_n C 1 dX0_isLeft_1 rfl rfl ?_
  refine z_callV (w := (wX0 hh cI cZ v)) (w' := (wX0 hh cI cZ v)) (w1 := ([] : va_W)) (w2 := ([] : va_W)) (ws' := (wX0 hh cI cZ v)) (As := [.int (nI j)]) (rest := []) (st' := []) (rv := none) C (c_X0_checkEntry l D hh cI cZ v j (by omega) (by omega)) (cwV 1 C.words gX0_isLeft_X0_checkEntry rfl rfl rfl (by decide +kernel) ⟨(Nat.le_of_ble_eq_true rfl), (Nat.le_of_ble_eq_true rfl)⟩) (q0 := 0) (ci := 0) rfl rfl rfl [0, 1] rfl rfl (Nat.le_of_ble_eq_true rfl) ⟨(Nat.le_of_ble_eq_true rfl), (Nat.le_of_ble_eq_true rfl)⟩ rfl rfl rfl rfl rfl dX0_isLeft_2 ?_
  refine z_aload_n C 0 dX0_isLeft_5 rfl rfl ?_
  refine z_get0 (v := .ref (hh 5)) C inl 0 5 (by decide) rfl rfl wd0 dX0_isLeft_6 ?_
  refine z_iload_n C 1 dX0_isLeft_9 rfl rfl ?_
  refine z_zald (f := xf v) C 5 1 rfl rfl j rfl (by omega) (by decide) dX0_isLeft_10 ?_
  exact z_zret C hr hlocks (Nat.le_of_ble_eq_true rfl) (Nat.le_of_ble_eq_true rfl) hf dX0_isLeft_11 (by rfl) rfl
set_option maxHeartbeats 4000000 in
set_option maxRecDepth 100000 in
theorem c_X0_dailyLoss (l : Launch) (D : va_G) (hh : Nat → Nat) (cI cZ : ClassId) (v : S0) (j : Nat) (hj : j < xn v) (hn : xn v ≤ 8) : zM l yX0_dailyLoss wsX0_dailyLoss 1 21 0 0 [.ref (hh 0), .int (nI j)] [(cI, .int), (cZ, .boolean)] D (wX0 hh cI cZ v) (wX0 hh cI cZ v) (some (.int (xloss v j))) := by
  refine z_met (cc := cX0_dailyLoss) (maxL := 2) (ret := (some .int)) (by decide) rfl (Nat.le_of_ble_eq_true rfl) ?_
  intro p e s m args below meth c A C hr hlocks
  have inl : ∀ w ∈ u_ws RX0 TX0 14, w ∈ wsX0_dailyLoss := by decide +kernel
  refine z_sub (L' := [(0, .ref (hh 0)), (1, .int (nI j))]) [0, 1] rfl ?_
  refine z_aload_n C 0 dX0_dailyLoss_0 rfl rfl ?_
  refine z_iload_n C 1 dX0_dailyLoss_1 rfl rfl ?_
  refine z_callV (w := (wX0 hh cI cZ v)) (w' := (wX0 hh cI cZ v)) (w1 := ([] : va_W)) (w2 := ([] : va_W)) (ws' := (wX0 hh cI cZ v)) (As := [.int (nI j)]) (rest := []) (st' := []) (rv := none) C (c_X0_checkMember l D hh cI cZ v j (by omega) (by omega)) (cwV 1 C.words gX0_dailyLoss_X0_checkMember rfl rfl rfl (by decide +kernel) ⟨(Nat.le_of_ble_eq_true rfl), (Nat.le_of_ble_eq_true rfl)⟩) (q0 := 0) (ci := 0) rfl rfl rfl [0, 1] rfl rfl (Nat.le_of_ble_eq_true rfl) ⟨(Nat.le_of_ble_eq_true rfl), (Nat.le_of_ble_eq_true rfl)⟩ rfl rfl rfl rfl rfl dX0_dailyLoss_2 ?_
  refine z_aload_n C 0 dX0_dailyLoss_5 rfl rfl ?_
  refine z_iload_n C 1 dX0_dailyLoss_6 rfl rfl ?_
  refine z_callV (w := (wX0 hh cI cZ v)) (w' := (wX0 hh cI cZ v)) (w1 := ([] : va_W)) (w2 := ([] : va_W)) (ws' := (wX0 hh cI cZ v)) (As := [.int (nI j)]) (rest := []) (st' := [.int (xloss v j)]) (rv := some (.int (xloss v j))) C (c_X0_lossOf l D hh cI cZ v j (by omega)) (cwV 1 C.words gX0_dailyLoss_X0_lossOf rfl rfl rfl (by decide +kernel) ⟨(Nat.le_of_ble_eq_true rfl), (Nat.le_of_ble_eq_true rfl)⟩) (q0 := 0) (ci := 0) rfl rfl rfl [0, 1] rfl rfl (Nat.le_of_ble_eq_true rfl) ⟨(Nat.le_of_ble_eq_true rfl), (Nat.le_of_ble_eq_true rfl)⟩ rfl rfl rfl rfl rfl dX0_dailyLoss_7 ?_
  exact z_iret C hr hlocks (Nat.le_of_ble_eq_true rfl) (Nat.le_of_ble_eq_true rfl) dX0_dailyLoss_10 rfl rfl
set_option maxHeartbeats 4000000 in
set_option maxRecDepth 100000 in
theorem c_X0_arrearsByAudit (l : Launch) (D : va_G) (hh : Nat → Nat) (cI cZ : ClassId) (v : S0) (j : Nat) (hj : j < xn v) (hn : xn v ≤ 8) (hk : xk v ≤ 30) : zM l yX0_arrearsByAudit wsX0_arrearsByAudit 1 23 0 0 [.ref (hh 0), .int (nI j)] [(cI, .int), (cZ, .boolean)] D (wX0 hh cI cZ v) (wX0 hh cI cZ v) (some (.int (xdebt v (nI j)))) := by
  refine z_met (cc := cX0_arrearsByAudit) (maxL := 2) (ret := (some .int)) (by decide) rfl (Nat.le_of_ble_eq_true rfl) ?_
  intro p e s m args below meth c A C hr hlocks
  have inl : ∀ w ∈ u_ws RX0 TX0 14, w ∈ wsX0_arrearsByAudit := by decide +kernel
  refine z_sub (L' := [(0, .ref (hh 0)), (1, .int (nI j))]) [0, 1] rfl ?_
  refine z_aload_n C 0 dX0_arrearsByAudit_0 rfl rfl ?_
  refine z_iload_n C 1 dX0_arrearsByAudit_1 rfl rfl ?_
  refine z_callV (w := (wX0 hh cI cZ v)) (w' := (wX0 hh cI cZ v)) (w1 := ([] : va_W)) (w2 := ([] : va_W)) (ws' := (wX0 hh cI cZ v)) (As := [.int (nI j)]) (rest := []) (st' := []) (rv := none) C (c_X0_checkMember l D hh cI cZ v j (by omega) (by omega)) (cwV 1 C.words gX0_arrearsByAudit_X0_checkMember rfl rfl rfl (by decide +kernel) ⟨(Nat.le_of_ble_eq_true rfl), (Nat.le_of_ble_eq_true rfl)⟩) (q0 := 0) (ci := 0) rfl rfl rfl [0, 1] rfl rfl (Nat.le_of_ble_eq_true rfl) ⟨(Nat.le_of_ble_eq_true rfl), (Nat.le_of_ble_eq_true rfl)⟩ rfl rfl rfl rfl rfl dX0_arrearsByAudit_2 ?_
  refine z_aload_n C 0 dX0_arrearsByAudit_5 rfl rfl ?_
  refine z_iload_n C 1 dX0_arrearsByAudit_6 rfl rfl ?_
  refine z_callV (w := (wX0 hh cI cZ v)) (w' := (wX0 hh cI cZ v)) (w1 := ([] : va_W)) (w2 := ([] : va_W)) (ws' := (wX0 hh cI cZ v)) (As := [.int (nI j)]) (rest := []) (st' := [.int (xdebt v (nI j))]) (rv := some (.int (xdebt v (nI j)))) C (c_X0_debtOf l D hh cI cZ v (nI j) (by omega)) (cwV 1 C.words gX0_arrearsByAudit_X0_debtOf rfl rfl rfl (by decide +kernel) ⟨(Nat.le_of_ble_eq_true rfl), (Nat.le_of_ble_eq_true rfl)⟩) (q0 := 0) (ci := 0) rfl rfl rfl [0, 1] rfl rfl (Nat.le_of_ble_eq_true rfl) ⟨(Nat.le_of_ble_eq_true rfl), (Nat.le_of_ble_eq_true rfl)⟩ rfl rfl rfl rfl rfl dX0_arrearsByAudit_7 ?_
  exact z_iret C hr hlocks (Nat.le_of_ble_eq_true rfl) (Nat.le_of_ble_eq_true rfl) dX0_arrearsByAudit_10 rfl rfl
set_option maxHeartbeats 4000000 in
set_option maxRecDepth 100000 in
theorem c_X0_luckiest (l : Launch) (D : va_G) (hh : Nat → Nat) (cI cZ : ClassId) (v : S0) (hn : xn v ≤ 8) : zM l yX0_luckiest wsX0_luckiest 0 0 0 0 [.ref (hh 0)] [(cI, .int), (cZ, .boolean)] D (wX0 hh cI cZ v) (wX0 hh cI cZ v) (some (.int ((lukN (xl v) (xn v)).1))) := by
  refine z_met (cc := cX0_luckiest) (maxL := 4) (ret := (some .int)) (by decide) rfl (Nat.le_of_ble_eq_true rfl) ?_
  intro p e s m args below meth c A C hr hlocks
  have inl : ∀ w ∈ u_ws RX0 TX0 14, w ∈ wsX0_luckiest := by decide +kernel
  have wd0 : Cond.fieldLink RX0 32 "SaltOrder" "memberCount" "I" ∈ wsX0_luckiest := by decide +kernel
  have wd1 : Cond.fieldLink RX0 9 "SaltOrder" "luck" "[I" ∈ wsX0_luckiest := by decide +kernel
  refine z_sub (L' := [(0, .ref (hh 0))]) [0] rfl ?_
  have lp6 : ∀ (dd i : Nat), i + dd = xn v → zG p l e ({ frames := 0, cells := 0, slots := 0, locals := 0 } : Room) s m args below meth c D 4 A 0 0 (MQ below (zQ (some (.int ((lukN (xl v) (xn v)).1))) (fun t => va_P D vwCl (wX0 hh cI cZ v) t.heap) A) args s 0 0 A) 6 [(0, .ref (hh 0)), (1, .int ((lukN (xl v) i).1)), (2, .int ((lukN (xl v) i).2)), (3, .int (nI i))] [] (wX0 hh cI cZ v) := by
    intro dd
    induction dd with
    | zero =>
      intro i hi
      have hi : i = xn v := by omega
      subst hi
      refine z_iload_n C 3 dX0_luckiest_6 rfl rfl ?_
      refine z_aload_n C 0 dX0_luckiest_7 rfl rfl ?_
      refine z_get0 (v := .int (nI (xn v))) C inl 0 3 (by decide) rfl rfl wd0 dX0_luckiest_8 ?_
      refine z_icmp_ge (tgt := 39) C dX0_luckiest_11 (by decide) (fun _ => ?_) (fun h9 => absurd (nI_le (by omega) (by omega)) h9)
      refine z_iload_n C 1 dX0_luckiest_39 rfl rfl ?_
      exact z_iret C hr hlocks (Nat.le_of_ble_eq_true rfl) (Nat.le_of_ble_eq_true rfl) dX0_luckiest_40 rfl rfl
    | succ dd ih =>
      intro i hi
      refine z_iload_n C 3 dX0_luckiest_6 rfl rfl ?_
      refine z_aload_n C 0 dX0_luckiest_7 rfl rfl ?_
      refine z_get0 (v := .int (nI (xn v))) C inl 0 3 (by decide) rfl rfl wd0 dX0_luckiest_8 ?_
      refine z_icmp_ge (tgt := 39) C dX0_luckiest_11 (by decide) (fun h9 => absurd h9 (nI_ge (by omega) (by omega))) (fun _ => ?_)
      refine z_aload_n C 0 dX0_luckiest_14 rfl rfl ?_
      refine z_get0 (v := .ref (hh 1)) C inl 0 0 (by decide) rfl rfl wd1 dX0_luckiest_15 ?_
      refine z_iload_n C 3 dX0_luckiest_18 rfl rfl ?_
      refine z_iald (f := xl v) C 1 0 rfl rfl i rfl (by omega) (by decide) dX0_luckiest_19 ?_
      refine z_iload_n C 2 dX0_luckiest_20 rfl rfl ?_
      refine z_icmp_le (tgt := 33) C dX0_luckiest_21 (by decide) (fun c21 => ?_) (fun c21 => ?_)
      · skip
        refine z_iinc (v := nI (i + 1)) (L' := [(3, .int (nI (i + 1))), (0, .ref (hh 0)), (1, .int ((lukN (xl v) i).1)), (2, .int ((lukN (xl v) i).2))]) C 3 dX0_luckiest_33 rfl (z_inc _) (by decide) rfl ?_
        refine z_goto (tgt := 6) C dX0_luckiest_36 (by decide) ?_
        refine z_sub (L' := [(0, .ref (hh 0)), (1, .int ((lukN (xl v) i).1)), (2, .int ((lukN (xl v) i).2)), (3, .int (nI (i + 1)))]) [1, 2, 3, 0] rfl ?_
        exact (by have e9 := ih (i + 1) (by omega); simp only [lukN, c21, ↓reduceIte] at e9; exact e9)
      · skip
        refine z_iload_n C 3 dX0_luckiest_24 rfl rfl ?_
        refine z_istore_n (L' := [(1, .int (nI i)), (0, .ref (hh 0)), (2, .int ((lukN (xl v) i).2)), (3, .int (nI i))]) C dX0_luckiest_25 rfl (by decide) rfl ?_
        refine z_aload_n C 1 dX0_luckiest_26 rfl rfl ?_
        refine z_get0 (v := .ref (hh 1)) C inl 0 0 (by decide) rfl rfl wd1 dX0_luckiest_27 ?_
        refine z_iload_n C 3 dX0_luckiest_30 rfl rfl ?_
        refine z_iald (f := xl v) C 1 0 rfl rfl i rfl (by omega) (by decide) dX0_luckiest_31 ?_
        refine z_istore_n (L' := [(2, .int ((xl v) i)), (1, .int (nI i)), (0, .ref (hh 0)), (3, .int (nI i))]) C dX0_luckiest_32 rfl (by decide) rfl ?_
        refine z_iinc (v := nI (i + 1)) (L' := [(3, .int (nI (i + 1))), (2, .int ((xl v) i)), (1, .int (nI i)), (0, .ref (hh 0))]) C 3 dX0_luckiest_33 rfl (z_inc _) (by decide) rfl ?_
        refine z_goto (tgt := 6) C dX0_luckiest_36 (by decide) ?_
        refine z_sub (L' := [(0, .ref (hh 0)), (1, .int (nI i)), (2, .int ((xl v) i)), (3, .int (nI (i + 1)))]) [3, 2, 1, 0] rfl ?_
        exact (by have e9 := ih (i + 1) (by omega); simp only [lukN, c21, ↓reduceIte] at e9; exact e9)
  refine z_iconst (v := -1) C dX0_luckiest_0 (by decide) ?_
  refine z_istore_n (L' := [(1, .int (-1)), (0, .ref (hh 0))]) C dX0_luckiest_1 rfl (by decide) rfl ?_
  refine z_iconst (v := -1) C dX0_luckiest_2 (by decide) ?_
  refine z_istore_n (L' := [(2, .int (-1)), (1, .int (-1)), (0, .ref (hh 0))]) C dX0_luckiest_3 rfl (by decide) rfl ?_
  refine z_iconst (v := 0) C dX0_luckiest_4 (by decide) ?_
  refine z_istore_n (L' := [(3, .int 0), (2, .int (-1)), (1, .int (-1)), (0, .ref (hh 0))]) C dX0_luckiest_5 rfl (by decide) rfl ?_
  refine z_sub (L' := [(0, .ref (hh 0)), (1, .int (-1)), (2, .int (-1)), (3, .int 0)]) [3, 2, 1, 0] rfl ?_
  exact lp6 (xn v) 0 (by omega)
set_option maxHeartbeats 4000000 in
set_option maxRecDepth 100000 in
theorem c_X0_allArrears (l : Launch) (D : va_G) (hh : Nat → Nat) (cI cZ : ClassId) (v : S0) (hn : xn v ≤ 8) : zM l yX0_allArrears wsX0_allArrears 0 0 0 0 [.ref (hh 0)] [(cI, .int), (cZ, .boolean)] D (wX0 hh cI cZ v) (wX0 hh cI cZ v) (some (.int (sumI (xa v) (xn v)))) := by
  refine z_met (cc := cX0_allArrears) (maxL := 3) (ret := (some .int)) (by decide) rfl (Nat.le_of_ble_eq_true rfl) ?_
  intro p e s m args below meth c A C hr hlocks
  have inl : ∀ w ∈ u_ws RX0 TX0 14, w ∈ wsX0_allArrears := by decide +kernel
  have wd0 : Cond.fieldLink RX0 32 "SaltOrder" "memberCount" "I" ∈ wsX0_allArrears := by decide +kernel
  have wd1 : Cond.fieldLink RX0 13 "SaltOrder" "arrears" "[I" ∈ wsX0_allArrears := by decide +kernel
  refine z_sub (L' := [(0, .ref (hh 0))]) [0] rfl ?_
  have lp4 : ∀ (dd i : Nat), i + dd = xn v → zG p l e ({ frames := 0, cells := 0, slots := 0, locals := 0 } : Room) s m args below meth c D 3 A 0 0 (MQ below (zQ (some (.int (sumI (xa v) (xn v)))) (fun t => va_P D vwCl (wX0 hh cI cZ v) t.heap) A) args s 0 0 A) 4 [(0, .ref (hh 0)), (1, .int (sumI (xa v) i)), (2, .int (nI i))] [] (wX0 hh cI cZ v) := by
    intro dd
    induction dd with
    | zero =>
      intro i hi
      have hi : i = xn v := by omega
      subst hi
      refine z_iload_n C 2 dX0_allArrears_4 rfl rfl ?_
      refine z_aload_n C 0 dX0_allArrears_5 rfl rfl ?_
      refine z_get0 (v := .int (nI (xn v))) C inl 0 3 (by decide) rfl rfl wd0 dX0_allArrears_6 ?_
      refine z_icmp_ge (tgt := 27) C dX0_allArrears_9 (by decide) (fun _ => ?_) (fun h9 => absurd (nI_le (by omega) (by omega)) h9)
      refine z_iload_n C 1 dX0_allArrears_27 rfl rfl ?_
      exact z_iret C hr hlocks (Nat.le_of_ble_eq_true rfl) (Nat.le_of_ble_eq_true rfl) dX0_allArrears_28 rfl rfl
    | succ dd ih =>
      intro i hi
      refine z_iload_n C 2 dX0_allArrears_4 rfl rfl ?_
      refine z_aload_n C 0 dX0_allArrears_5 rfl rfl ?_
      refine z_get0 (v := .int (nI (xn v))) C inl 0 3 (by decide) rfl rfl wd0 dX0_allArrears_6 ?_
      refine z_icmp_ge (tgt := 27) C dX0_allArrears_9 (by decide) (fun h9 => absurd h9 (nI_ge (by omega) (by omega))) (fun _ => ?_)
      refine z_iload_n C 1 dX0_allArrears_12 rfl rfl ?_
      refine z_aload_n C 0 dX0_allArrears_13 rfl rfl ?_
      refine z_get0 (v := .ref (hh 2)) C inl 0 1 (by decide) rfl rfl wd1 dX0_allArrears_14 ?_
      refine z_iload_n C 2 dX0_allArrears_17 rfl rfl ?_
      refine z_iald (f := xa v) C 2 0 rfl rfl i rfl (by omega) (by decide) dX0_allArrears_18 ?_
      refine z_iadd C dX0_allArrears_19 ?_
      refine z_istore_n (L' := [(1, .int ((sumI (xa v) i) + ((xa v) i))), (0, .ref (hh 0)), (2, .int (nI i))]) C dX0_allArrears_20 rfl (by decide) rfl ?_
      refine z_iinc (v := nI (i + 1)) (L' := [(2, .int (nI (i + 1))), (1, .int ((sumI (xa v) i) + ((xa v) i))), (0, .ref (hh 0))]) C 2 dX0_allArrears_21 rfl (z_inc _) (by decide) rfl ?_
      refine z_goto (tgt := 4) C dX0_allArrears_24 (by decide) ?_
      refine z_sub (L' := [(0, .ref (hh 0)), (1, .int ((sumI (xa v) i) + ((xa v) i))), (2, .int (nI (i + 1)))]) [2, 1, 0] rfl ?_
      exact ih (i + 1) (by omega)
  refine z_iconst (v := 0) C dX0_allArrears_0 (by decide) ?_
  refine z_istore_n (L' := [(1, .int 0), (0, .ref (hh 0))]) C dX0_allArrears_1 rfl (by decide) rfl ?_
  refine z_iconst (v := 0) C dX0_allArrears_2 (by decide) ?_
  refine z_istore_n (L' := [(2, .int 0), (1, .int 0), (0, .ref (hh 0))]) C dX0_allArrears_3 rfl (by decide) rfl ?_
  refine z_sub (L' := [(0, .ref (hh 0)), (1, .int 0), (2, .int 0)]) [2, 1, 0] rfl ?_
  exact lp4 (xn v) 0 (by omega)
set_option maxHeartbeats 4000000 in
set_option maxRecDepth 100000 in
theorem c_X0_clearMembers (l : Launch) (D : va_G) (hh : Nat → Nat) (cI cZ : ClassId) (v : S0) (hn : xn v ≤ 8) : zM l yX0_clearMembers wsX0_clearMembers 0 0 0 0 [.ref (hh 0)] [(cI, .int), (cZ, .boolean)] D (wX0 hh cI cZ v) (wX0 hh cI cZ v) (some (.int (clrI (xa v) (xn v)))) := by
  refine z_met (cc := cX0_clearMembers) (maxL := 3) (ret := (some .int)) (by decide) rfl (Nat.le_of_ble_eq_true rfl) ?_
  intro p e s m args below meth c A C hr hlocks
  have inl : ∀ w ∈ u_ws RX0 TX0 14, w ∈ wsX0_clearMembers := by decide +kernel
  have wd0 : Cond.fieldLink RX0 32 "SaltOrder" "memberCount" "I" ∈ wsX0_clearMembers := by decide +kernel
  have wd1 : Cond.fieldLink RX0 13 "SaltOrder" "arrears" "[I" ∈ wsX0_clearMembers := by decide +kernel
  refine z_sub (L' := [(0, .ref (hh 0))]) [0] rfl ?_
  have lp4 : ∀ (dd i : Nat), i + dd = xn v → zG p l e ({ frames := 0, cells := 0, slots := 0, locals := 0 } : Room) s m args below meth c D 3 A 0 0 (MQ below (zQ (some (.int (clrI (xa v) (xn v)))) (fun t => va_P D vwCl (wX0 hh cI cZ v) t.heap) A) args s 0 0 A) 4 [(0, .ref (hh 0)), (1, .int (clrI (xa v) i)), (2, .int (nI i))] [] (wX0 hh cI cZ v) := by
    intro dd
    induction dd with
    | zero =>
      intro i hi
      have hi : i = xn v := by omega
      subst hi
      refine z_iload_n C 2 dX0_clearMembers_4 rfl rfl ?_
      refine z_aload_n C 0 dX0_clearMembers_5 rfl rfl ?_
      refine z_get0 (v := .int (nI (xn v))) C inl 0 3 (by decide) rfl rfl wd0 dX0_clearMembers_6 ?_
      refine z_icmp_ge (tgt := 30) C dX0_clearMembers_9 (by decide) (fun _ => ?_) (fun h9 => absurd (nI_le (by omega) (by omega)) h9)
      refine z_iload_n C 1 dX0_clearMembers_30 rfl rfl ?_
      exact z_iret C hr hlocks (Nat.le_of_ble_eq_true rfl) (Nat.le_of_ble_eq_true rfl) dX0_clearMembers_31 rfl rfl
    | succ dd ih =>
      intro i hi
      refine z_iload_n C 2 dX0_clearMembers_4 rfl rfl ?_
      refine z_aload_n C 0 dX0_clearMembers_5 rfl rfl ?_
      refine z_get0 (v := .int (nI (xn v))) C inl 0 3 (by decide) rfl rfl wd0 dX0_clearMembers_6 ?_
      refine z_icmp_ge (tgt := 30) C dX0_clearMembers_9 (by decide) (fun h9 => absurd h9 (nI_ge (by omega) (by omega))) (fun _ => ?_)
      refine z_aload_n C 0 dX0_clearMembers_12 rfl rfl ?_
      refine z_get0 (v := .ref (hh 2)) C inl 0 1 (by decide) rfl rfl wd1 dX0_clearMembers_13 ?_
      refine z_iload_n C 2 dX0_clearMembers_16 rfl rfl ?_
      refine z_iald (f := xa v) C 2 0 rfl rfl i rfl (by omega) (by decide) dX0_clearMembers_17 ?_
      refine z_if_ne (tgt := 24) C dX0_clearMembers_18 (by decide) (fun c18 => ?_) (fun c18 => ?_)
      · skip
        refine z_iinc (v := nI (i + 1)) (L' := [(2, .int (nI (i + 1))), (0, .ref (hh 0)), (1, .int (clrI (xa v) i))]) C 2 dX0_clearMembers_24 rfl (z_inc _) (by decide) rfl ?_
        refine z_goto (tgt := 4) C dX0_clearMembers_27 (by decide) ?_
        refine z_sub (L' := [(0, .ref (hh 0)), (1, .int (clrI (xa v) i)), (2, .int (nI (i + 1)))]) [1, 2, 0] rfl ?_
        exact (by have e9 := ih (i + 1) (by omega); simp only [clrI, c18, ↓reduceIte] at e9; exact e9)
      · skip
        refine z_iinc (v := clrI (xa v) i + 1) (L' := [(1, .int (clrI (xa v) i + 1)), (0, .ref (hh 0)), (2, .int (nI i))]) C 1 dX0_clearMembers_21 rfl rfl (by decide) rfl ?_
        refine z_iinc (v := nI (i + 1)) (L' := [(2, .int (nI (i + 1))), (1, .int (clrI (xa v) i + 1)), (0, .ref (hh 0))]) C 2 dX0_clearMembers_24 rfl (z_inc _) (by decide) rfl ?_
        refine z_goto (tgt := 4) C dX0_clearMembers_27 (by decide) ?_
        refine z_sub (L' := [(0, .ref (hh 0)), (1, .int (clrI (xa v) i + 1)), (2, .int (nI (i + 1)))]) [2, 1, 0] rfl ?_
        exact (by have e9 := ih (i + 1) (by omega); simp only [clrI, c18, ↓reduceIte] at e9; exact e9)
  refine z_iconst (v := 0) C dX0_clearMembers_0 (by decide) ?_
  refine z_istore_n (L' := [(1, .int 0), (0, .ref (hh 0))]) C dX0_clearMembers_1 rfl (by decide) rfl ?_
  refine z_iconst (v := 0) C dX0_clearMembers_2 (by decide) ?_
  refine z_istore_n (L' := [(2, .int 0), (1, .int 0), (0, .ref (hh 0))]) C dX0_clearMembers_3 rfl (by decide) rfl ?_
  refine z_sub (L' := [(0, .ref (hh 0)), (1, .int 0), (2, .int 0)]) [2, 1, 0] rfl ?_
  exact lp4 (xn v) 0 (by omega)
set_option maxHeartbeats 4000000 in
set_option maxRecDepth 100000 in
theorem c_X0_daysUntilAudit (l : Launch) (D : va_G) (hh : Nat → Nat) (cI cZ : ClassId) (v : S0) : zM l yX0_daysUntilAudit wsX0_daysUntilAudit 0 0 0 0 [.ref (hh 0)] [(cI, .int), (cZ, .boolean)] D (wX0 hh cI cZ v) (wX0 hh cI cZ v) (some (.int (6 - (xd v - xd v / 7 * 7)))) := by
  refine z_met (cc := cX0_daysUntilAudit) (maxL := 1) (ret := (some .int)) (by decide) rfl (Nat.le_of_ble_eq_true rfl) ?_
  intro p e s m args below meth c A C hr hlocks
  have inl : ∀ w ∈ u_ws RX0 TX0 14, w ∈ wsX0_daysUntilAudit := by decide +kernel
  have wd0 : Cond.fieldLink RX0 42 "SaltOrder" "today" "I" ∈ wsX0_daysUntilAudit := by decide +kernel
  refine z_sub (L' := [(0, .ref (hh 0))]) [0] rfl ?_
  refine z_bipush (v := 6) C dX0_daysUntilAudit_0 (by decide) ?_
  refine z_aload_n C 0 dX0_daysUntilAudit_2 rfl rfl ?_
  refine z_get0 (v := .int (xd v)) C inl 0 10 (by decide) rfl rfl wd0 dX0_daysUntilAudit_3 ?_
  refine z_bipush (v := 7) C dX0_daysUntilAudit_6 (by decide) ?_
  refine z_irem C dX0_daysUntilAudit_8 (by decide) ?_
  refine z_isub C dX0_daysUntilAudit_9 ?_
  exact z_iret C hr hlocks (Nat.le_of_ble_eq_true rfl) (Nat.le_of_ble_eq_true rfl) dX0_daysUntilAudit_10 (by rfl) rfl
