set_option maxHeartbeats 4000000 in
set_option maxRecDepth 100000 in
theorem c_X0_isAuditDay (l : Launch) (D : va_G) (d : Int32) : zM l yX0_isAuditDay wsX0_isAuditDay 0 0 0 0 [.int d] [] D ([] : va_W) ([] : va_W) (some (.int (isA d))) := by
  refine z_met (cc := cX0_isAuditDay) (maxL := 1) (ret := (some .boolean)) (by decide) rfl (Nat.le_of_ble_eq_true rfl) ?_
  intro p e s m args below meth c A C hr hlocks
  refine z_sub (L' := [(0, .int d)]) [0] rfl ?_
  refine z_iload_n C 0 dX0_isAuditDay_0 rfl rfl ?_
  refine z_bipush (v := 7) C dX0_isAuditDay_1 (by decide) ?_
  refine z_irem C dX0_isAuditDay_3 (by decide) ?_
  refine z_bipush (v := 6) C dX0_isAuditDay_4 (by decide) ?_
  refine z_icmp_ne (tgt := 13) C dX0_isAuditDay_6 (by decide) (fun c6 => ?_) (fun c6 => ?_)
  · skip
    refine z_iconst (v := 0) C dX0_isAuditDay_13 (by decide) ?_
    exact z_zret C hr hlocks (Nat.le_of_ble_eq_true rfl) (Nat.le_of_ble_eq_true rfl) (by first | exact Or.inl rfl | exact Or.inr rfl) dX0_isAuditDay_14 (by first | rfl | (simp only [isA, c6, ↓reduceIte]; done) | (simp only [isA, c6, ↓reduceIte]; rfl)) rfl
  · skip
    refine z_iconst (v := 1) C dX0_isAuditDay_9 (by decide) ?_
    refine z_goto (tgt := 14) C dX0_isAuditDay_10 (by decide) ?_
    exact z_zret C hr hlocks (Nat.le_of_ble_eq_true rfl) (Nat.le_of_ble_eq_true rfl) (by first | exact Or.inl rfl | exact Or.inr rfl) dX0_isAuditDay_14 (by first | rfl | (simp only [isA, c6, ↓reduceIte]; done) | (simp only [isA, c6, ↓reduceIte]; rfl)) rfl
set_option maxHeartbeats 4000000 in
set_option maxRecDepth 100000 in
theorem c_X0_addArrears (l : Launch) (D : va_G) (hh : Nat → Nat) (cI cZ : ClassId) (v : S0) (j : Nat) (g : Int32) (hj : j < 9) : zM l yX0_addArrears wsX0_addArrears 1 15 0 0 [.ref (hh 0), .int (nI j), .int g] [(cI, .int), (cZ, .boolean)] D (wX0 hh cI cZ v) (wX0 hh cI cZ (xadd v j g)) none := by
  refine z_met (cc := cX0_addArrears) (maxL := 3) (ret := none) (by decide) rfl (Nat.le_of_ble_eq_true rfl) ?_
  intro p e s m args below meth c A C hr hlocks
  have inl : ∀ w ∈ u_ws RX0 TX0 14, w ∈ wsX0_addArrears := by decide +kernel
  have wd0 : Cond.fieldLink RX0 13 "SaltOrder" "arrears" "[I" ∈ wsX0_addArrears := by decide +kernel
  have wd1 : Cond.methodLink RX0 89 Lib.Math.min.name ∈ wsX0_addArrears := by decide +kernel
  have wd2 : Cond.static Lib.Math.min.name ∈ wsX0_addArrears := by decide +kernel
  have wd3 : Cond.initialized "java/lang/Math" ∈ wsX0_addArrears := by decide +kernel
  have wd4 : Cond.code Lib.Math.min.name Lib.Math.min.code 2 (some .int) ∈ wsX0_addArrears := by decide +kernel
  refine z_sub (L' := [(0, .ref (hh 0)), (1, .int (nI j)), (2, .int g)]) [0, 1, 2] rfl ?_
  refine z_aload_n C 0 dX0_addArrears_0 rfl rfl ?_
  refine z_get0 (v := .ref (hh 2)) C inl 0 1 (by decide) rfl rfl wd0 dX0_addArrears_1 ?_
  refine z_iload_n C 1 dX0_addArrears_4 rfl rfl ?_
  refine z_bipush (v := 99) C dX0_addArrears_5 (by decide) ?_
  refine z_aload_n C 0 dX0_addArrears_7 rfl rfl ?_
  refine z_get0 (v := .ref (hh 2)) C inl 0 1 (by decide) rfl rfl wd0 dX0_addArrears_8 ?_
  refine z_iload_n C 1 dX0_addArrears_11 rfl rfl ?_
  refine z_iald (f := xa v) C 2 0 rfl rfl j rfl (by omega) (by decide) dX0_addArrears_12 ?_
  refine z_iload_n C 2 dX0_addArrears_13 rfl rfl ?_
  refine z_iadd C dX0_addArrears_14 ?_
  refine z_mmin C wd1 wd2 wd3 wd4 (Nat.le_of_ble_eq_true rfl) (Nat.le_of_ble_eq_true rfl) (Nat.le_of_ble_eq_true rfl) (Nat.le_of_ble_eq_true rfl) dX0_addArrears_15 ?_
  refine z_iast (ws' := (wX0 hh cI cZ (xl v, upd (xa v) j (imin 99 (((xa v) j) + g)), xe v, xn v, xw v, xf v, xg v, xx v, xk v, xc v, xd v, xo v, xy v, xb v))) C 2 0 rfl rfl j rfl (by omega) (by decide) rfl dX0_addArrears_18 ?_
  exact z_vret C hr hlocks (Nat.le_of_ble_eq_true rfl) (Nat.le_of_ble_eq_true rfl) dX0_addArrears_19 (congrArg (wX0 hh cI cZ) (by first | rfl | (simp only [xadd, ↓reduceIte]; done) | (simp only [xadd, ↓reduceIte]; rfl)))
set_option maxHeartbeats 4000000 in
set_option maxRecDepth 100000 in
theorem c_X0_lessenArrears (l : Launch) (D : va_G) (hh : Nat → Nat) (cI cZ : ClassId) (v : S0) (j : Nat) (g : Int32) (hj : j < 9) : zM l yX0_lessenArrears wsX0_lessenArrears 1 15 0 0 [.ref (hh 0), .int (nI j), .int g] [(cI, .int), (cZ, .boolean)] D (wX0 hh cI cZ v) (wX0 hh cI cZ (xless v j g)) none := by
  refine z_met (cc := cX0_lessenArrears) (maxL := 3) (ret := none) (by decide) rfl (Nat.le_of_ble_eq_true rfl) ?_
  intro p e s m args below meth c A C hr hlocks
  have inl : ∀ w ∈ u_ws RX0 TX0 14, w ∈ wsX0_lessenArrears := by decide +kernel
  have wd0 : Cond.fieldLink RX0 13 "SaltOrder" "arrears" "[I" ∈ wsX0_lessenArrears := by decide +kernel
  have wd1 : Cond.methodLink RX0 213 Lib.Math.max.name ∈ wsX0_lessenArrears := by decide +kernel
  have wd2 : Cond.static Lib.Math.max.name ∈ wsX0_lessenArrears := by decide +kernel
  have wd3 : Cond.initialized "java/lang/Math" ∈ wsX0_lessenArrears := by decide +kernel
  have wd4 : Cond.code Lib.Math.max.name Lib.Math.max.code 2 (some .int) ∈ wsX0_lessenArrears := by decide +kernel
  refine z_sub (L' := [(0, .ref (hh 0)), (1, .int (nI j)), (2, .int g)]) [0, 1, 2] rfl ?_
  refine z_aload_n C 0 dX0_lessenArrears_0 rfl rfl ?_
  refine z_get0 (v := .ref (hh 2)) C inl 0 1 (by decide) rfl rfl wd0 dX0_lessenArrears_1 ?_
  refine z_iload_n C 1 dX0_lessenArrears_4 rfl rfl ?_
  refine z_iconst (v := 0) C dX0_lessenArrears_5 (by decide) ?_
  refine z_aload_n C 0 dX0_lessenArrears_6 rfl rfl ?_
  refine z_get0 (v := .ref (hh 2)) C inl 0 1 (by decide) rfl rfl wd0 dX0_lessenArrears_7 ?_
  refine z_iload_n C 1 dX0_lessenArrears_10 rfl rfl ?_
  refine z_iald (f := xa v) C 2 0 rfl rfl j rfl (by omega) (by decide) dX0_lessenArrears_11 ?_
  refine z_iload_n C 2 dX0_lessenArrears_12 rfl rfl ?_
  refine z_isub C dX0_lessenArrears_13 ?_
  refine z_mmax C wd1 wd2 wd3 wd4 (Nat.le_of_ble_eq_true rfl) (Nat.le_of_ble_eq_true rfl) (Nat.le_of_ble_eq_true rfl) (Nat.le_of_ble_eq_true rfl) dX0_lessenArrears_14 ?_
  refine z_iast (ws' := (wX0 hh cI cZ (xl v, upd (xa v) j (imax 0 (((xa v) j) - g)), xe v, xn v, xw v, xf v, xg v, xx v, xk v, xc v, xd v, xo v, xy v, xb v))) C 2 0 rfl rfl j rfl (by omega) (by decide) rfl dX0_lessenArrears_17 ?_
  exact z_vret C hr hlocks (Nat.le_of_ble_eq_true rfl) (Nat.le_of_ble_eq_true rfl) dX0_lessenArrears_18 (congrArg (wX0 hh cI cZ) (by first | rfl | (simp only [xless, ↓reduceIte]; done) | (simp only [xless, ↓reduceIte]; rfl)))
set_option maxHeartbeats 4000000 in
set_option maxRecDepth 100000 in
theorem c_X0_addLumps (l : Launch) (D : va_G) (hh : Nat → Nat) (cI cZ : ClassId) (v : S0) (j : Nat) (g : Int32) (hj : j < 9) : zM l yX0_addLumps wsX0_addLumps 1 15 0 0 [.ref (hh 0), .int (nI j), .int g] [(cI, .int), (cZ, .boolean)] D (wX0 hh cI cZ v) (wX0 hh cI cZ (xlump v j g)) none := by
  refine z_met (cc := cX0_addLumps) (maxL := 3) (ret := none) (by decide) rfl (Nat.le_of_ble_eq_true rfl) ?_
  intro p e s m args below meth c A C hr hlocks
  have inl : ∀ w ∈ u_ws RX0 TX0 14, w ∈ wsX0_addLumps := by decide +kernel
  have wd0 : Cond.fieldLink RX0 16 "SaltOrder" "toEat" "[I" ∈ wsX0_addLumps := by decide +kernel
  have wd1 : Cond.methodLink RX0 89 Lib.Math.min.name ∈ wsX0_addLumps := by decide +kernel
  have wd2 : Cond.static Lib.Math.min.name ∈ wsX0_addLumps := by decide +kernel
  have wd3 : Cond.initialized "java/lang/Math" ∈ wsX0_addLumps := by decide +kernel
  have wd4 : Cond.code Lib.Math.min.name Lib.Math.min.code 2 (some .int) ∈ wsX0_addLumps := by decide +kernel
  refine z_sub (L' := [(0, .ref (hh 0)), (1, .int (nI j)), (2, .int g)]) [0, 1, 2] rfl ?_
  refine z_aload_n C 0 dX0_addLumps_0 rfl rfl ?_
  refine z_get0 (v := .ref (hh 3)) C inl 0 2 (by decide) rfl rfl wd0 dX0_addLumps_1 ?_
  refine z_iload_n C 1 dX0_addLumps_4 rfl rfl ?_
  refine z_bipush (v := 9) C dX0_addLumps_5 (by decide) ?_
  refine z_aload_n C 0 dX0_addLumps_7 rfl rfl ?_
  refine z_get0 (v := .ref (hh 3)) C inl 0 2 (by decide) rfl rfl wd0 dX0_addLumps_8 ?_
  refine z_iload_n C 1 dX0_addLumps_11 rfl rfl ?_
  refine z_iald (f := xe v) C 3 0 rfl rfl j rfl (by omega) (by decide) dX0_addLumps_12 ?_
  refine z_iload_n C 2 dX0_addLumps_13 rfl rfl ?_
  refine z_iadd C dX0_addLumps_14 ?_
  refine z_mmin C wd1 wd2 wd3 wd4 (Nat.le_of_ble_eq_true rfl) (Nat.le_of_ble_eq_true rfl) (Nat.le_of_ble_eq_true rfl) (Nat.le_of_ble_eq_true rfl) dX0_addLumps_15 ?_
  refine z_iast (ws' := (wX0 hh cI cZ (xl v, xa v, upd (xe v) j (imin 9 (((xe v) j) + g)), xn v, xw v, xf v, xg v, xx v, xk v, xc v, xd v, xo v, xy v, xb v))) C 3 0 rfl rfl j rfl (by omega) (by decide) rfl dX0_addLumps_18 ?_
  exact z_vret C hr hlocks (Nat.le_of_ble_eq_true rfl) (Nat.le_of_ble_eq_true rfl) dX0_addLumps_19 (congrArg (wX0 hh cI cZ) (by first | rfl | (simp only [xlump, ↓reduceIte]; done) | (simp only [xlump, ↓reduceIte]; rfl)))
set_option maxHeartbeats 4000000 in
set_option maxRecDepth 100000 in
theorem c_X0_leftExcess (l : Launch) (D : va_G) (hh : Nat → Nat) (cI cZ : ClassId) (v : S0) (j : Nat) (g : Int32) (hj : j < 9) : zM l yX0_leftExcess wsX0_leftExcess 1 13 0 0 [.ref (hh 0), .int (nI j), .int g] [(cI, .int), (cZ, .boolean)] D (wX0 hh cI cZ v) (wX0 hh cI cZ v) (some (.int (xlexc v j g))) := by
  refine z_met (cc := cX0_leftExcess) (maxL := 3) (ret := (some .int)) (by decide) rfl (Nat.le_of_ble_eq_true rfl) ?_
  intro p e s m args below meth c A C hr hlocks
  have inl : ∀ w ∈ u_ws RX0 TX0 14, w ∈ wsX0_leftExcess := by decide +kernel
  have wd0 : Cond.fieldLink RX0 13 "SaltOrder" "arrears" "[I" ∈ wsX0_leftExcess := by decide +kernel
  have wd1 : Cond.methodLink RX0 213 Lib.Math.max.name ∈ wsX0_leftExcess := by decide +kernel
  have wd2 : Cond.static Lib.Math.max.name ∈ wsX0_leftExcess := by decide +kernel
  have wd3 : Cond.initialized "java/lang/Math" ∈ wsX0_leftExcess := by decide +kernel
  have wd4 : Cond.code Lib.Math.max.name Lib.Math.max.code 2 (some .int) ∈ wsX0_leftExcess := by decide +kernel
  refine z_sub (L' := [(0, .ref (hh 0)), (1, .int (nI j)), (2, .int g)]) [0, 1, 2] rfl ?_
  refine z_iconst (v := 0) C dX0_leftExcess_0 (by decide) ?_
  refine z_iload_n C 2 dX0_leftExcess_1 rfl rfl ?_
  refine z_aload_n C 0 dX0_leftExcess_2 rfl rfl ?_
  refine z_get0 (v := .ref (hh 2)) C inl 0 1 (by decide) rfl rfl wd0 dX0_leftExcess_3 ?_
  refine z_iload_n C 1 dX0_leftExcess_6 rfl rfl ?_
  refine z_iald (f := xa v) C 2 0 rfl rfl j rfl (by omega) (by decide) dX0_leftExcess_7 ?_
  refine z_isub C dX0_leftExcess_8 ?_
  refine z_mmax C wd1 wd2 wd3 wd4 (Nat.le_of_ble_eq_true rfl) (Nat.le_of_ble_eq_true rfl) (Nat.le_of_ble_eq_true rfl) (Nat.le_of_ble_eq_true rfl) dX0_leftExcess_9 ?_
  exact z_iret C hr hlocks (Nat.le_of_ble_eq_true rfl) (Nat.le_of_ble_eq_true rfl) dX0_leftExcess_12 (by first | rfl | (simp only [xlexc, ↓reduceIte]; done) | (simp only [xlexc, ↓reduceIte]; rfl)) rfl
set_option maxHeartbeats 4000000 in
set_option maxRecDepth 100000 in
theorem c_X0_lossOf (l : Launch) (D : va_G) (hh : Nat → Nat) (cI cZ : ClassId) (v : S0) (j : Nat) (hj : j < 9) : zM l yX0_lossOf wsX0_lossOf 0 0 0 0 [.ref (hh 0), .int (nI j)] [(cI, .int), (cZ, .boolean)] D (wX0 hh cI cZ v) (wX0 hh cI cZ v) (some (.int (xloss v j))) := by
  refine z_met (cc := cX0_lossOf) (maxL := 2) (ret := (some .int)) (by decide) rfl (Nat.le_of_ble_eq_true rfl) ?_
  intro p e s m args below meth c A C hr hlocks
  have inl : ∀ w ∈ u_ws RX0 TX0 14, w ∈ wsX0_lossOf := by decide +kernel
  have wd0 : Cond.fieldLink RX0 16 "SaltOrder" "toEat" "[I" ∈ wsX0_lossOf := by decide +kernel
  have wd1 : Cond.fieldLink RX0 13 "SaltOrder" "arrears" "[I" ∈ wsX0_lossOf := by decide +kernel
  refine z_sub (L' := [(0, .ref (hh 0)), (1, .int (nI j))]) [0, 1] rfl ?_
  refine z_aload_n C 0 dX0_lossOf_0 rfl rfl ?_
  refine z_get0 (v := .ref (hh 3)) C inl 0 2 (by decide) rfl rfl wd0 dX0_lossOf_1 ?_
  refine z_iload_n C 1 dX0_lossOf_4 rfl rfl ?_
  refine z_iald (f := xe v) C 3 0 rfl rfl j rfl (by omega) (by decide) dX0_lossOf_5 ?_
  refine z_if_le (tgt := 11) C dX0_lossOf_6 (by decide) (fun c6 => ?_) (fun c6 => ?_)
  · skip
    refine z_aload_n C 0 dX0_lossOf_11 rfl rfl ?_
    refine z_get0 (v := .ref (hh 2)) C inl 0 1 (by decide) rfl rfl wd1 dX0_lossOf_12 ?_
    refine z_iload_n C 1 dX0_lossOf_15 rfl rfl ?_
    refine z_iald (f := xa v) C 2 0 rfl rfl j rfl (by omega) (by decide) dX0_lossOf_16 ?_
    refine z_bipush (v := 10) C dX0_lossOf_17 (by decide) ?_
    refine z_iadd C dX0_lossOf_19 ?_
    refine z_iconst (v := 1) C dX0_lossOf_20 (by decide) ?_
    refine z_isub C dX0_lossOf_21 ?_
    refine z_bipush (v := 10) C dX0_lossOf_22 (by decide) ?_
    refine z_idiv C dX0_lossOf_24 (by decide) ?_
    exact z_iret C hr hlocks (Nat.le_of_ble_eq_true rfl) (Nat.le_of_ble_eq_true rfl) dX0_lossOf_25 (by first | rfl | (simp only [xloss, c6, ↓reduceIte]; done) | (simp only [xloss, c6, ↓reduceIte]; rfl)) rfl
  · skip
    refine z_iconst (v := 0) C dX0_lossOf_9 (by decide) ?_
    exact z_iret C hr hlocks (Nat.le_of_ble_eq_true rfl) (Nat.le_of_ble_eq_true rfl) dX0_lossOf_10 (by first | rfl | (simp only [xloss, c6, ↓reduceIte]; done) | (simp only [xloss, c6, ↓reduceIte]; rfl)) rfl
set_option maxHeartbeats 4000000 in
set_option maxRecDepth 100000 in
theorem c_X0_eatOrFeelLuck (l : Launch) (D : va_G) (hh : Nat → Nat) (cI cZ : ClassId) (v : S0) (j : Nat) (hj : j < 9) : zM l yX0_eatOrFeelLuck wsX0_eatOrFeelLuck 2 37 0 0 [.ref (hh 0), .int (nI j)] [(cI, .int), (cZ, .boolean)] D (wX0 hh cI cZ v) (wX0 hh cI cZ (xeat v j)) none := by
  refine z_met (cc := cX0_eatOrFeelLuck) (maxL := 2) (ret := none) (by decide) rfl (Nat.le_of_ble_eq_true rfl) ?_
  intro p e s m args below meth c A C hr hlocks
  have inl : ∀ w ∈ u_ws RX0 TX0 14, w ∈ wsX0_eatOrFeelLuck := by decide +kernel
  have wd0 : Cond.fieldLink RX0 16 "SaltOrder" "toEat" "[I" ∈ wsX0_eatOrFeelLuck := by decide +kernel
  have wd1 : Cond.fieldLink RX0 13 "SaltOrder" "arrears" "[I" ∈ wsX0_eatOrFeelLuck := by decide +kernel
  have wd2 : Cond.fieldLink RX0 9 "SaltOrder" "luck" "[I" ∈ wsX0_eatOrFeelLuck := by decide +kernel
  have wd3 : Cond.methodLink RX0 89 Lib.Math.min.name ∈ wsX0_eatOrFeelLuck := by decide +kernel
  have wd4 : Cond.static Lib.Math.min.name ∈ wsX0_eatOrFeelLuck := by decide +kernel
  have wd5 : Cond.initialized "java/lang/Math" ∈ wsX0_eatOrFeelLuck := by decide +kernel
  have wd6 : Cond.code Lib.Math.min.name Lib.Math.min.code 2 (some .int) ∈ wsX0_eatOrFeelLuck := by decide +kernel
  have wd7 : Cond.methodLink RX0 213 Lib.Math.max.name ∈ wsX0_eatOrFeelLuck := by decide +kernel
  have wd8 : Cond.static Lib.Math.max.name ∈ wsX0_eatOrFeelLuck := by decide +kernel
  have wd9 : Cond.code Lib.Math.max.name Lib.Math.max.code 2 (some .int) ∈ wsX0_eatOrFeelLuck := by decide +kernel
  refine z_sub (L' := [(0, .ref (hh 0)), (1, .int (nI j))]) [0, 1] rfl ?_
  refine z_aload_n C 0 dX0_eatOrFeelLuck_0 rfl rfl ?_
  refine z_get0 (v := .ref (hh 3)) C inl 0 2 (by decide) rfl rfl wd0 dX0_eatOrFeelLuck_1 ?_
  refine z_iload_n C 1 dX0_eatOrFeelLuck_4 rfl rfl ?_
  refine z_iald (f := xe v) C 3 0 rfl rfl j rfl (by omega) (by decide) dX0_eatOrFeelLuck_5 ?_
  refine z_if_le (tgt := 28) C dX0_eatOrFeelLuck_6 (by decide) (fun c6 => ?_) (fun c6 => ?_)
  · skip
    refine z_aload_n C 0 dX0_eatOrFeelLuck_28 rfl rfl ?_
    refine z_get0 (v := .ref (hh 2)) C inl 0 1 (by decide) rfl rfl wd1 dX0_eatOrFeelLuck_29 ?_
    refine z_iload_n C 1 dX0_eatOrFeelLuck_32 rfl rfl ?_
    refine z_iald (f := xa v) C 2 0 rfl rfl j rfl (by omega) (by decide) dX0_eatOrFeelLuck_33 ?_
    refine z_if_le (tgt := 62) C dX0_eatOrFeelLuck_34 (by decide) (fun c34 => ?_) (fun c34 => ?_)
    · skip
      refine z_aload_n C 0 dX0_eatOrFeelLuck_62 rfl rfl ?_
      refine z_get0 (v := .ref (hh 1)) C inl 0 0 (by decide) rfl rfl wd2 dX0_eatOrFeelLuck_63 ?_
      refine z_iload_n C 1 dX0_eatOrFeelLuck_66 rfl rfl ?_
      refine z_bipush (v := 100) C dX0_eatOrFeelLuck_67 (by decide) ?_
      refine z_aload_n C 0 dX0_eatOrFeelLuck_69 rfl rfl ?_
      refine z_get0 (v := .ref (hh 1)) C inl 0 0 (by decide) rfl rfl wd2 dX0_eatOrFeelLuck_70 ?_
      refine z_iload_n C 1 dX0_eatOrFeelLuck_73 rfl rfl ?_
      refine z_iald (f := xl v) C 1 0 rfl rfl j rfl (by omega) (by decide) dX0_eatOrFeelLuck_74 ?_
      refine z_iconst (v := 1) C dX0_eatOrFeelLuck_75 (by decide) ?_
      refine z_iadd C dX0_eatOrFeelLuck_76 ?_
      refine z_mmin C wd3 wd4 wd5 wd6 (Nat.le_of_ble_eq_true rfl) (Nat.le_of_ble_eq_true rfl) (Nat.le_of_ble_eq_true rfl) (Nat.le_of_ble_eq_true rfl) dX0_eatOrFeelLuck_77 ?_
      refine z_iast (ws' := (wX0 hh cI cZ (upd (xl v) j (imin 100 (((xl v) j) + 1)), xa v, xe v, xn v, xw v, xf v, xg v, xx v, xk v, xc v, xd v, xo v, xy v, xb v))) C 1 0 rfl rfl j rfl (by omega) (by decide) rfl dX0_eatOrFeelLuck_80 ?_
      exact z_vret C hr hlocks (Nat.le_of_ble_eq_true rfl) (Nat.le_of_ble_eq_true rfl) dX0_eatOrFeelLuck_81 (congrArg (wX0 hh cI cZ) (by first | rfl | (simp only [xeat, c6, c34, ↓reduceIte]; done) | (simp only [xeat, c6, c34, ↓reduceIte]; rfl)))
    · skip
      refine z_aload_n C 0 dX0_eatOrFeelLuck_37 rfl rfl ?_
      refine z_get0 (v := .ref (hh 1)) C inl 0 0 (by decide) rfl rfl wd2 dX0_eatOrFeelLuck_38 ?_
      refine z_iload_n C 1 dX0_eatOrFeelLuck_41 rfl rfl ?_
      refine z_iconst (v := 0) C dX0_eatOrFeelLuck_42 (by decide) ?_
      refine z_aload_n C 0 dX0_eatOrFeelLuck_43 rfl rfl ?_
      refine z_get0 (v := .ref (hh 1)) C inl 0 0 (by decide) rfl rfl wd2 dX0_eatOrFeelLuck_44 ?_
      refine z_iload_n C 1 dX0_eatOrFeelLuck_47 rfl rfl ?_
      refine z_iald (f := xl v) C 1 0 rfl rfl j rfl (by omega) (by decide) dX0_eatOrFeelLuck_48 ?_
      refine z_aload_n C 0 dX0_eatOrFeelLuck_49 rfl rfl ?_
      refine z_iload_n C 1 dX0_eatOrFeelLuck_50 rfl rfl ?_
      refine z_callV (w := (wX0 hh cI cZ v)) (w' := (wX0 hh cI cZ v)) (w1 := ([] : va_W)) (w2 := ([] : va_W)) (ws' := (wX0 hh cI cZ v)) (As := [.int (nI j)]) (rest := [.int ((xl v) j), .int 0, .int (nI j), .ref (hh 1)]) (st' := [.int (xloss v j), .int ((xl v) j), .int 0, .int (nI j), .ref (hh 1)]) (rv := some (.int (xloss v j))) C (c_X0_lossOf l D hh cI cZ v j (by omega)) (cwV 1 C.words gX0_eatOrFeelLuck_X0_lossOf rfl rfl rfl (by decide +kernel) ⟨(Nat.le_of_ble_eq_true rfl), (Nat.le_of_ble_eq_true rfl)⟩) (q0 := 0) (ci := 0) rfl rfl rfl [0, 1] rfl rfl (Nat.le_of_ble_eq_true rfl) ⟨(Nat.le_of_ble_eq_true rfl), (Nat.le_of_ble_eq_true rfl)⟩ rfl rfl rfl rfl rfl dX0_eatOrFeelLuck_51 ?_
      refine z_isub C dX0_eatOrFeelLuck_54 ?_
      refine z_mmax C wd7 wd8 wd5 wd9 (Nat.le_of_ble_eq_true rfl) (Nat.le_of_ble_eq_true rfl) (Nat.le_of_ble_eq_true rfl) (Nat.le_of_ble_eq_true rfl) dX0_eatOrFeelLuck_55 ?_
      refine z_iast (ws' := (wX0 hh cI cZ (upd (xl v) j (imax 0 (((xl v) j) - (xloss v j))), xa v, xe v, xn v, xw v, xf v, xg v, xx v, xk v, xc v, xd v, xo v, xy v, xb v))) C 1 0 rfl rfl j rfl (by omega) (by decide) rfl dX0_eatOrFeelLuck_58 ?_
      refine z_goto (tgt := 81) C dX0_eatOrFeelLuck_59 (by decide) ?_
      exact z_vret C hr hlocks (Nat.le_of_ble_eq_true rfl) (Nat.le_of_ble_eq_true rfl) dX0_eatOrFeelLuck_81 (congrArg (wX0 hh cI cZ) (by first | rfl | (simp only [xeat, c6, c34, ↓reduceIte]; done) | (simp only [xeat, c6, c34, ↓reduceIte]; rfl)))
  · skip
    refine z_aload_n C 0 dX0_eatOrFeelLuck_9 rfl rfl ?_
    refine z_get0 (v := .ref (hh 3)) C inl 0 2 (by decide) rfl rfl wd0 dX0_eatOrFeelLuck_10 ?_
    refine z_iload_n C 1 dX0_eatOrFeelLuck_13 rfl rfl ?_
    refine z_dup2 C dX0_eatOrFeelLuck_14 rfl rfl ?_
    refine z_iald (f := xe v) C 3 0 rfl rfl j rfl (by omega) (by decide) dX0_eatOrFeelLuck_15 ?_
    refine z_iconst (v := 1) C dX0_eatOrFeelLuck_16 (by decide) ?_
    refine z_isub C dX0_eatOrFeelLuck_17 ?_
    refine z_iast (ws' := (wX0 hh cI cZ (xl v, xa v, upd (xe v) j (((xe v) j) - 1), xn v, xw v, xf v, xg v, xx v, xk v, xc v, xd v, xo v, xy v, xb v))) C 3 0 rfl rfl j rfl (by omega) (by decide) rfl dX0_eatOrFeelLuck_18 ?_
    refine z_aload_n C 0 dX0_eatOrFeelLuck_19 rfl rfl ?_
    refine z_iload_n C 1 dX0_eatOrFeelLuck_20 rfl rfl ?_
    refine z_iconst (v := 3) C dX0_eatOrFeelLuck_21 (by decide) ?_
    obtain ⟨v1, hv1⟩ : ∃ z, z = xless (xl v, xa v, upd (xe v) j (((xe v) j) - 1), xn v, xw v, xf v, xg v, xx v, xk v, xc v, xd v, xo v, xy v, xb v) j 3 := ⟨_, rfl⟩
    refine z_callV (w := (wX0 hh cI cZ (xl v, xa v, upd (xe v) j (((xe v) j) - 1), xn v, xw v, xf v, xg v, xx v, xk v, xc v, xd v, xo v, xy v, xb v))) (w' := (wX0 hh cI cZ v1)) (w1 := ([] : va_W)) (w2 := ([] : va_W)) (ws' := (wX0 hh cI cZ v1)) (As := [.int (nI j), .int 3]) (rest := []) (st' := []) (rv := none) C (by rw [hv1]; exact c_X0_lessenArrears l D hh cI cZ (xl v, xa v, upd (xe v) j (((xe v) j) - 1), xn v, xw v, xf v, xg v, xx v, xk v, xc v, xd v, xo v, xy v, xb v) j 3 (by omega)) (cwV 2 C.words gX0_eatOrFeelLuck_X0_lessenArrears rfl rfl rfl (by decide +kernel) ⟨(Nat.le_of_ble_eq_true rfl), (Nat.le_of_ble_eq_true rfl)⟩) (q0 := 0) (ci := 0) rfl rfl rfl [0, 1] rfl rfl (Nat.le_of_ble_eq_true rfl) ⟨(Nat.le_of_ble_eq_true rfl), (Nat.le_of_ble_eq_true rfl)⟩ rfl rfl rfl rfl rfl dX0_eatOrFeelLuck_22 ?_
    have hv1k0 : xn v1 = xn (xl v, xa v, upd (xe v) j (((xe v) j) - 1), xn v, xw v, xf v, xg v, xx v, xk v, xc v, xd v, xo v, xy v, xb v) := by rw [hv1]; exact (rfl : xn (xless (xl v, xa v, upd (xe v) j (((xe v) j) - 1), xn v, xw v, xf v, xg v, xx v, xk v, xc v, xd v, xo v, xy v, xb v) j 3) = xn (xl v, xa v, upd (xe v) j (((xe v) j) - 1), xn v, xw v, xf v, xg v, xx v, xk v, xc v, xd v, xo v, xy v, xb v))
    have hv1k1 : xk v1 = xk (xl v, xa v, upd (xe v) j (((xe v) j) - 1), xn v, xw v, xf v, xg v, xx v, xk v, xc v, xd v, xo v, xy v, xb v) := by rw [hv1]; exact (rfl : xk (xless (xl v, xa v, upd (xe v) j (((xe v) j) - 1), xn v, xw v, xf v, xg v, xx v, xk v, xc v, xd v, xo v, xy v, xb v) j 3) = xk (xl v, xa v, upd (xe v) j (((xe v) j) - 1), xn v, xw v, xf v, xg v, xx v, xk v, xc v, xd v, xo v, xy v, xb v))
    have hv1k2 : xc v1 = xc (xl v, xa v, upd (xe v) j (((xe v) j) - 1), xn v, xw v, xf v, xg v, xx v, xk v, xc v, xd v, xo v, xy v, xb v) := by rw [hv1]; exact (rfl : xc (xless (xl v, xa v, upd (xe v) j (((xe v) j) - 1), xn v, xw v, xf v, xg v, xx v, xk v, xc v, xd v, xo v, xy v, xb v) j 3) = xc (xl v, xa v, upd (xe v) j (((xe v) j) - 1), xn v, xw v, xf v, xg v, xx v, xk v, xc v, xd v, xo v, xy v, xb v))
    refine z_goto (tgt := 81) C dX0_eatOrFeelLuck_25 (by decide) ?_
    subst hv1
    exact z_vret C hr hlocks (Nat.le_of_ble_eq_true rfl) (Nat.le_of_ble_eq_true rfl) dX0_eatOrFeelLuck_81 (congrArg (wX0 hh cI cZ) (by first | rfl | (simp only [xeat, c6, ↓reduceIte]; done) | (simp only [xeat, c6, ↓reduceIte]; rfl)))
set_option maxHeartbeats 4000000 in
set_option maxRecDepth 100000 in
theorem c_X0_debtOf (l : Launch) (D : va_G) (hh : Nat → Nat) (cI cZ : ClassId) (v : S0) (j : Int32) (hk : xk v ≤ 30) : zM l yX0_debtOf wsX0_debtOf 0 0 0 0 [.ref (hh 0), .int j] [(cI, .int), (cZ, .boolean)] D (wX0 hh cI cZ v) (wX0 hh cI cZ v) (some (.int (xdebt v j))) := by
  refine z_met (cc := cX0_debtOf) (maxL := 4) (ret := (some .int)) (by decide) rfl (Nat.le_of_ble_eq_true rfl) ?_
  intro p e s m args below meth c A C hr hlocks
  have inl : ∀ w ∈ u_ws RX0 TX0 14, w ∈ wsX0_debtOf := by decide +kernel
  have wd0 : Cond.fieldLink RX0 36 "SaltOrder" "throwCount" "I" ∈ wsX0_debtOf := by decide +kernel
  have wd1 : Cond.fieldLink RX0 19 "SaltOrder" "throwers" "[I" ∈ wsX0_debtOf := by decide +kernel
  have wd2 : Cond.fieldLink RX0 29 "SaltOrder" "excesses" "[I" ∈ wsX0_debtOf := by decide +kernel
  refine z_sub (L' := [(0, .ref (hh 0)), (1, .int j)]) [0, 1] rfl ?_
  have lp4 : ∀ (dd i : Nat), i + dd = xk v → zG p l e ({ frames := 0, cells := 0, slots := 0, locals := 0 } : Room) s m args below meth c D 4 A 0 0 (MQ below (zQ (some (.int (xdebt v j))) (fun t => va_P D vwCl (wX0 hh cI cZ v) t.heap) A) args s 0 0 A) 4 [(0, .ref (hh 0)), (1, .int j), (2, .int (xdebtN (xw v) (xx v) j i)), (3, .int (nI i))] [] (wX0 hh cI cZ v) := by
    intro dd
    induction dd with
    | zero =>
      intro i hi
      have hi : i = xk v := by omega
      subst hi
      refine z_iload_n C 3 dX0_debtOf_4 rfl rfl ?_
      refine z_aload_n C 0 dX0_debtOf_5 rfl rfl ?_
      refine z_get0 (v := .int (nI (xk v))) C inl 0 8 (by decide) rfl rfl wd0 dX0_debtOf_6 ?_
      refine z_icmp_ge (tgt := 39) C dX0_debtOf_9 (by decide) (fun _ => ?_) (fun h9 => absurd (nI_le (by omega) (by omega)) h9)
      refine z_iload_n C 2 dX0_debtOf_39 rfl rfl ?_
      exact z_iret C hr hlocks (Nat.le_of_ble_eq_true rfl) (Nat.le_of_ble_eq_true rfl) dX0_debtOf_40 (by rfl) rfl
    | succ dd ih =>
      intro i hi
      refine z_iload_n C 3 dX0_debtOf_4 rfl rfl ?_
      refine z_aload_n C 0 dX0_debtOf_5 rfl rfl ?_
      refine z_get0 (v := .int (nI (xk v))) C inl 0 8 (by decide) rfl rfl wd0 dX0_debtOf_6 ?_
      refine z_icmp_ge (tgt := 39) C dX0_debtOf_9 (by decide) (fun h9 => absurd h9 (nI_ge (by omega) (by omega))) (fun _ => ?_)
      refine z_aload_n C 0 dX0_debtOf_12 rfl rfl ?_
      refine z_get0 (v := .ref (hh 4)) C inl 0 4 (by decide) rfl rfl wd1 dX0_debtOf_13 ?_
      refine z_iload_n C 3 dX0_debtOf_16 rfl rfl ?_
      refine z_iald (f := xw v) C 4 0 rfl rfl i rfl (by omega) (by decide) dX0_debtOf_17 ?_
      refine z_iload_n C 1 dX0_debtOf_18 rfl rfl ?_
      refine z_icmp_ne (tgt := 33) C dX0_debtOf_19 (by decide) (fun c19 => ?_) (fun c19 => ?_)
      · skip
        refine z_iinc (v := nI (i + 1)) (L' := [(3, .int (nI (i + 1))), (0, .ref (hh 0)), (1, .int j), (2, .int (xdebtN (xw v) (xx v) j i))]) C 3 dX0_debtOf_33 rfl (z_inc _) (by decide) rfl ?_
        refine z_goto (tgt := 4) C dX0_debtOf_36 (by decide) ?_
        refine z_sub (L' := [(0, .ref (hh 0)), (1, .int j), (2, .int (xdebtN (xw v) (xx v) j i)), (3, .int (nI (i + 1)))]) [1, 2, 3, 0] rfl ?_
        exact (by have e9 := ih (i + 1) (by omega); simp only [xdebtN, c19, ↓reduceIte] at e9; exact e9)
      · skip
        refine z_iload_n C 2 dX0_debtOf_22 rfl rfl ?_
        refine z_iconst (v := 2) C dX0_debtOf_23 (by decide) ?_
        refine z_aload_n C 0 dX0_debtOf_24 rfl rfl ?_
        refine z_get0 (v := .ref (hh 7)) C inl 0 7 (by decide) rfl rfl wd2 dX0_debtOf_25 ?_
        refine z_iload_n C 3 dX0_debtOf_28 rfl rfl ?_
        refine z_iald (f := xx v) C 7 0 rfl rfl i rfl (by omega) (by decide) dX0_debtOf_29 ?_
        refine z_imul C dX0_debtOf_30 ?_
        refine z_iadd C dX0_debtOf_31 ?_
        refine z_istore_n (L' := [(2, .int ((xdebtN (xw v) (xx v) j i) + (2 * ((xx v) i)))), (0, .ref (hh 0)), (1, .int j), (3, .int (nI i))]) C dX0_debtOf_32 rfl (by decide) rfl ?_
        refine z_iinc (v := nI (i + 1)) (L' := [(3, .int (nI (i + 1))), (2, .int ((xdebtN (xw v) (xx v) j i) + (2 * ((xx v) i)))), (0, .ref (hh 0)), (1, .int j)]) C 3 dX0_debtOf_33 rfl (z_inc _) (by decide) rfl ?_
        refine z_goto (tgt := 4) C dX0_debtOf_36 (by decide) ?_
        refine z_sub (L' := [(0, .ref (hh 0)), (1, .int j), (2, .int ((xdebtN (xw v) (xx v) j i) + (2 * ((xx v) i)))), (3, .int (nI (i + 1)))]) [2, 3, 1, 0] rfl ?_
        exact (by have e9 := ih (i + 1) (by omega); simp only [xdebtN, c19, ↓reduceIte] at e9; exact e9)
  refine z_iconst (v := 0) C dX0_debtOf_0 (by decide) ?_
  refine z_istore_n (L' := [(2, .int 0), (0, .ref (hh 0)), (1, .int j)]) C dX0_debtOf_1 rfl (by decide) rfl ?_
  refine z_iconst (v := 0) C dX0_debtOf_2 (by decide) ?_
  refine z_istore_n (L' := [(3, .int 0), (2, .int 0), (0, .ref (hh 0)), (1, .int j)]) C dX0_debtOf_3 rfl (by decide) rfl ?_
  refine z_sub (L' := [(0, .ref (hh 0)), (1, .int j), (2, .int 0), (3, .int 0)]) [2, 3, 1, 0] rfl ?_
  exact lp4 (xk v) 0 (by omega)
set_option maxHeartbeats 4000000 in
set_option maxRecDepth 100000 in
theorem c_X0_faults (l : Launch) (D : va_G) (hh : Nat → Nat) (cI cZ : ClassId) (v : S0) (hk : xk v ≤ 30) : zM l yX0_faults wsX0_faults 0 0 0 0 [.ref (hh 0)] [(cI, .int), (cZ, .boolean)] D (wX0 hh cI cZ v) (wX0 hh cI cZ v) (some (.int (xflt v))) := by
  refine z_met (cc := cX0_faults) (maxL := 3) (ret := (some .int)) (by decide) rfl (Nat.le_of_ble_eq_true rfl) ?_
  intro p e s m args below meth c A C hr hlocks
  have inl : ∀ w ∈ u_ws RX0 TX0 14, w ∈ wsX0_faults := by decide +kernel
  have wd0 : Cond.fieldLink RX0 36 "SaltOrder" "throwCount" "I" ∈ wsX0_faults := by decide +kernel
  have wd1 : Cond.fieldLink RX0 29 "SaltOrder" "excesses" "[I" ∈ wsX0_faults := by decide +kernel
  refine z_sub (L' := [(0, .ref (hh 0))]) [0] rfl ?_
  have lp4 : ∀ (dd i : Nat), i + dd = xk v → zG p l e ({ frames := 0, cells := 0, slots := 0, locals := 0 } : Room) s m args below meth c D 3 A 0 0 (MQ below (zQ (some (.int (xflt v))) (fun t => va_P D vwCl (wX0 hh cI cZ v) t.heap) A) args s 0 0 A) 4 [(0, .ref (hh 0)), (1, .int (xfltN (xx v) i)), (2, .int (nI i))] [] (wX0 hh cI cZ v) := by
    intro dd
    induction dd with
    | zero =>
      intro i hi
      have hi : i = xk v := by omega
      subst hi
      refine z_iload_n C 2 dX0_faults_4 rfl rfl ?_
      refine z_aload_n C 0 dX0_faults_5 rfl rfl ?_
      refine z_get0 (v := .int (nI (xk v))) C inl 0 8 (by decide) rfl rfl wd0 dX0_faults_6 ?_
      refine z_icmp_ge (tgt := 30) C dX0_faults_9 (by decide) (fun _ => ?_) (fun h9 => absurd (nI_le (by omega) (by omega)) h9)
      refine z_iload_n C 1 dX0_faults_30 rfl rfl ?_
      exact z_iret C hr hlocks (Nat.le_of_ble_eq_true rfl) (Nat.le_of_ble_eq_true rfl) dX0_faults_31 (by rfl) rfl
    | succ dd ih =>
      intro i hi
      refine z_iload_n C 2 dX0_faults_4 rfl rfl ?_
      refine z_aload_n C 0 dX0_faults_5 rfl rfl ?_
      refine z_get0 (v := .int (nI (xk v))) C inl 0 8 (by decide) rfl rfl wd0 dX0_faults_6 ?_
      refine z_icmp_ge (tgt := 30) C dX0_faults_9 (by decide) (fun h9 => absurd h9 (nI_ge (by omega) (by omega))) (fun _ => ?_)
      refine z_aload_n C 0 dX0_faults_12 rfl rfl ?_
      refine z_get0 (v := .ref (hh 7)) C inl 0 7 (by decide) rfl rfl wd1 dX0_faults_13 ?_
      refine z_iload_n C 2 dX0_faults_16 rfl rfl ?_
      refine z_iald (f := xx v) C 7 0 rfl rfl i rfl (by omega) (by decide) dX0_faults_17 ?_
      refine z_if_le (tgt := 24) C dX0_faults_18 (by decide) (fun c18 => ?_) (fun c18 => ?_)
      · skip
        refine z_iinc (v := nI (i + 1)) (L' := [(2, .int (nI (i + 1))), (0, .ref (hh 0)), (1, .int (xfltN (xx v) i))]) C 2 dX0_faults_24 rfl (z_inc _) (by decide) rfl ?_
        refine z_goto (tgt := 4) C dX0_faults_27 (by decide) ?_
        refine z_sub (L' := [(0, .ref (hh 0)), (1, .int (xfltN (xx v) i)), (2, .int (nI (i + 1)))]) [1, 2, 0] rfl ?_
        exact (by have e9 := ih (i + 1) (by omega); simp only [xfltN, c18, ↓reduceIte] at e9; exact e9)
      · skip
        refine z_iinc (v := xfltN (xx v) i + 1) (L' := [(1, .int (xfltN (xx v) i + 1)), (0, .ref (hh 0)), (2, .int (nI i))]) C 1 dX0_faults_21 rfl rfl (by decide) rfl ?_
        refine z_iinc (v := nI (i + 1)) (L' := [(2, .int (nI (i + 1))), (1, .int (xfltN (xx v) i + 1)), (0, .ref (hh 0))]) C 2 dX0_faults_24 rfl (z_inc _) (by decide) rfl ?_
        refine z_goto (tgt := 4) C dX0_faults_27 (by decide) ?_
        refine z_sub (L' := [(0, .ref (hh 0)), (1, .int (xfltN (xx v) i + 1)), (2, .int (nI (i + 1)))]) [2, 1, 0] rfl ?_
        exact (by have e9 := ih (i + 1) (by omega); simp only [xfltN, c18, ↓reduceIte] at e9; exact e9)
  refine z_iconst (v := 0) C dX0_faults_0 (by decide) ?_
  refine z_istore_n (L' := [(1, .int 0), (0, .ref (hh 0))]) C dX0_faults_1 rfl (by decide) rfl ?_
  refine z_iconst (v := 0) C dX0_faults_2 (by decide) ?_
  refine z_istore_n (L' := [(2, .int 0), (1, .int 0), (0, .ref (hh 0))]) C dX0_faults_3 rfl (by decide) rfl ?_
  refine z_sub (L' := [(0, .ref (hh 0)), (1, .int 0), (2, .int 0)]) [2, 1, 0] rfl ?_
  exact lp4 (xk v) 0 (by omega)
set_option maxHeartbeats 4000000 in
set_option maxRecDepth 100000 in
theorem c_X0_audit (l : Launch) (D : va_G) (hh : Nat → Nat) (cI cZ : ClassId) (v : S0) (hn : xn v ≤ 8) (hk : xk v ≤ 30) : zM l yX0_audit wsX0_audit 2 37 0 0 [.ref (hh 0)] [(cI, .int), (cZ, .boolean)] D (wX0 hh cI cZ v) (wX0 hh cI cZ (xaud v)) (some (.int (xflt v))) := by
  refine z_met (cc := cX0_audit) (maxL := 3) (ret := (some .int)) (by decide) rfl (Nat.le_of_ble_eq_true rfl) ?_
  intro p e s m args below meth c A C hr hlocks
  have inl : ∀ w ∈ u_ws RX0 TX0 14, w ∈ wsX0_audit := by decide +kernel
  have wd0 : Cond.fieldLink RX0 32 "SaltOrder" "memberCount" "I" ∈ wsX0_audit := by decide +kernel
  have wd1 : Cond.fieldLink RX0 36 "SaltOrder" "throwCount" "I" ∈ wsX0_audit := by decide +kernel
  have wd2 : Cond.fieldLink RX0 45 "SaltOrder" "found" "I" ∈ wsX0_audit := by decide +kernel
  refine z_sub (L' := [(0, .ref (hh 0))]) [0] rfl ?_
  have lp7 : ∀ (dd i : Nat), i + dd = xn v → zG p l e ({ frames := 2, cells := 0, slots := 0, locals := 37 } : Room) s m args below meth c D 3 A 0 0 (MQ below (zQ (some (.int (xflt v))) (fun t => va_P D vwCl (wX0 hh cI cZ (xaud v)) t.heap) A) args s 0 0 A) 7 [(0, .ref (hh 0)), (1, .int (xflt v)), (2, .int (nI i))] [] (wX0 hh cI cZ (xaudN v i)) := by
    intro dd
    induction dd with
    | zero =>
      intro i hi
      have hi : i = xn v := by omega
      subst hi
      have hn1 := xaudN_n v (xn v)
      have hk1 := xaudN_k v (xn v)
      refine z_iload_n C 2 dX0_audit_7 rfl rfl ?_
      refine z_aload_n C 0 dX0_audit_8 rfl rfl ?_
      refine z_get0 (v := .int (nI (xn (xaudN v (xn v))))) C inl 0 3 (by decide) rfl rfl wd0 dX0_audit_9 ?_
      refine z_icmp_ge (tgt := 31) C dX0_audit_12 (by decide) (fun _ => ?_) (fun h9 => absurd (nI_le (by omega) (by omega)) h9)
      refine z_aload_n C 0 dX0_audit_31 rfl rfl ?_
      refine z_iconst (v := 0) C dX0_audit_32 (by decide) ?_
      refine z_put0 (ws' := (wX0 hh cI cZ (xl (xaudN v (xn v)), xa (xaudN v (xn v)), xe (xaudN v (xn v)), xn (xaudN v (xn v)), xw (xaudN v (xn v)), xf (xaudN v (xn v)), xg (xaudN v (xn v)), xx (xaudN v (xn v)), 0, xc (xaudN v (xn v)), xd (xaudN v (xn v)), xo (xaudN v (xn v)), xy (xaudN v (xn v)), xb (xaudN v (xn v))))) C inl 0 8 (by decide) rfl rfl (by decide) rfl wd1 dX0_audit_33 ?_
      refine z_aload_n C 0 dX0_audit_36 rfl rfl ?_
      refine z_dup C dX0_audit_37 rfl ?_
      refine z_get0 (v := .int (xo (xaudN v (xn v)))) C inl 0 11 (by decide) rfl rfl wd2 dX0_audit_38 ?_
      refine z_iload_n C 1 dX0_audit_41 rfl rfl ?_
      refine z_iadd C dX0_audit_42 ?_
      refine z_put0 (ws' := (wX0 hh cI cZ (xl (xaudN v (xn v)), xa (xaudN v (xn v)), xe (xaudN v (xn v)), xn (xaudN v (xn v)), xw (xaudN v (xn v)), xf (xaudN v (xn v)), xg (xaudN v (xn v)), xx (xaudN v (xn v)), 0, xc (xaudN v (xn v)), xd (xaudN v (xn v)), (xo (xaudN v (xn v))) + (xflt v), xy (xaudN v (xn v)), xb (xaudN v (xn v))))) C inl 0 11 (by decide) rfl rfl (by decide) rfl wd2 dX0_audit_43 ?_
      refine z_iload_n C 1 dX0_audit_46 rfl rfl ?_
      exact z_iret C hr hlocks (Nat.le_of_ble_eq_true rfl) (Nat.le_of_ble_eq_true rfl) dX0_audit_47 rfl (congrArg (wX0 hh cI cZ) (by first | rfl | (simp only [xaud, ↓reduceIte]; done) | (simp only [xaud, ↓reduceIte]; rfl)))
    | succ dd ih =>
      intro i hi
      have hn1 := xaudN_n v i
      have hk1 := xaudN_k v i
      refine z_iload_n C 2 dX0_audit_7 rfl rfl ?_
      refine z_aload_n C 0 dX0_audit_8 rfl rfl ?_
      refine z_get0 (v := .int (nI (xn (xaudN v i)))) C inl 0 3 (by decide) rfl rfl wd0 dX0_audit_9 ?_
      refine z_icmp_ge (tgt := 31) C dX0_audit_12 (by decide) (fun h9 => absurd h9 (nI_ge (by omega) (by omega))) (fun _ => ?_)
      refine z_aload_n C 0 dX0_audit_15 rfl rfl ?_
      refine z_iload_n C 2 dX0_audit_16 rfl rfl ?_
      refine z_aload_n C 0 dX0_audit_17 rfl rfl ?_
      refine z_iload_n C 2 dX0_audit_18 rfl rfl ?_
      refine z_callV (w := (wX0 hh cI cZ (xaudN v i))) (w' := (wX0 hh cI cZ (xaudN v i))) (w1 := ([] : va_W)) (w2 := ([] : va_W)) (ws' := (wX0 hh cI cZ (xaudN v i))) (As := [.int (nI i)]) (rest := [.int (nI i), .ref (hh 0)]) (st' := [.int (xdebt (xaudN v i) (nI i)), .int (nI i), .ref (hh 0)]) (rv := some (.int (xdebt (xaudN v i) (nI i)))) C (c_X0_debtOf l D hh cI cZ (xaudN v i) (nI i) (by omega)) (cwV 1 C.words gX0_audit_X0_debtOf rfl rfl rfl (by decide +kernel) ⟨(Nat.le_of_ble_eq_true rfl), (Nat.le_of_ble_eq_true rfl)⟩) (q0 := 0) (ci := 0) rfl rfl rfl [0, 1] rfl rfl (Nat.le_of_ble_eq_true rfl) ⟨(Nat.le_of_ble_eq_true rfl), (Nat.le_of_ble_eq_true rfl)⟩ rfl rfl rfl rfl rfl dX0_audit_19 ?_
      obtain ⟨v1, hv1⟩ : ∃ z, z = xadd (xaudN v i) i (xdebt (xaudN v i) (nI i)) := ⟨_, rfl⟩
      refine z_callV (w := (wX0 hh cI cZ (xaudN v i))) (w' := (wX0 hh cI cZ v1)) (w1 := ([] : va_W)) (w2 := ([] : va_W)) (ws' := (wX0 hh cI cZ v1)) (As := [.int (nI i), .int (xdebt (xaudN v i) (nI i))]) (rest := []) (st' := []) (rv := none) C (by rw [hv1]; exact c_X0_addArrears l D hh cI cZ (xaudN v i) i (xdebt (xaudN v i) (nI i)) (by omega)) (cwV 2 C.words gX0_audit_X0_addArrears rfl rfl rfl (by decide +kernel) ⟨(Nat.le_of_ble_eq_true rfl), (Nat.le_of_ble_eq_true rfl)⟩) (q0 := 0) (ci := 0) rfl rfl rfl [0, 1] rfl rfl (Nat.le_of_ble_eq_true rfl) ⟨(Nat.le_of_ble_eq_true rfl), (Nat.le_of_ble_eq_true rfl)⟩ rfl rfl rfl rfl rfl dX0_audit_22 ?_
      have hv1k0 : xn v1 = xn (xaudN v i) := by rw [hv1]; exact (rfl : xn (xadd (xaudN v i) i (xdebt (xaudN v i) (nI i))) = xn (xaudN v i))
      have hv1k1 : xk v1 = xk (xaudN v i) := by rw [hv1]; exact (rfl : xk (xadd (xaudN v i) i (xdebt (xaudN v i) (nI i))) = xk (xaudN v i))
      refine z_iinc (v := nI (i + 1)) (L' := [(2, .int (nI (i + 1))), (0, .ref (hh 0)), (1, .int (xflt v))]) C 2 dX0_audit_25 rfl (z_inc _) (by decide) rfl ?_
      refine z_goto (tgt := 7) C dX0_audit_28 (by decide) ?_
      refine z_sub (L' := [(0, .ref (hh 0)), (1, .int (xflt v)), (2, .int (nI (i + 1)))]) [1, 2, 0] rfl ?_
      subst hv1
      exact ih (i + 1) (by omega)
  refine z_aload_n C 0 dX0_audit_0 rfl rfl ?_
  refine z_callV (w := (wX0 hh cI cZ v)) (w' := (wX0 hh cI cZ v)) (w1 := ([] : va_W)) (w2 := ([] : va_W)) (ws' := (wX0 hh cI cZ v)) (As := []) (rest := []) (st' := [.int (xflt v)]) (rv := some (.int (xflt v))) C (c_X0_faults l D hh cI cZ v (by omega)) (cwV 0 C.words gX0_audit_X0_faults rfl rfl rfl (by decide +kernel) ⟨(Nat.le_of_ble_eq_true rfl), (Nat.le_of_ble_eq_true rfl)⟩) (q0 := 0) (ci := 0) rfl rfl rfl [0, 1] rfl rfl (Nat.le_of_ble_eq_true rfl) ⟨(Nat.le_of_ble_eq_true rfl), (Nat.le_of_ble_eq_true rfl)⟩ rfl rfl rfl rfl rfl dX0_audit_1 ?_
  refine z_istore_n (L' := [(1, .int (xflt v)), (0, .ref (hh 0))]) C dX0_audit_4 rfl (by decide) rfl ?_
  refine z_iconst (v := 0) C dX0_audit_5 (by decide) ?_
  refine z_istore_n (L' := [(2, .int 0), (1, .int (xflt v)), (0, .ref (hh 0))]) C dX0_audit_6 rfl (by decide) rfl ?_
  refine z_sub (L' := [(0, .ref (hh 0)), (1, .int (xflt v)), (2, .int 0)]) [2, 1, 0] rfl ?_
  exact lp7 (xn v) 0 (by omega)
set_option maxHeartbeats 4000000 in
set_option maxRecDepth 100000 in
theorem c_X0_passOneDay (l : Launch) (D : va_G) (hh : Nat → Nat) (cI cZ : ClassId) (v : S0) (hn : xn v ≤ 8) (hk : xk v ≤ 30) : zM l yX0_passOneDay wsX0_passOneDay 3 59 0 0 [.ref (hh 0)] [(cI, .int), (cZ, .boolean)] D (wX0 hh cI cZ v) (wX0 hh cI cZ (xday v)) (some (.int (xdayF v))) := by
  refine z_met (cc := cX0_passOneDay) (maxL := 3) (ret := (some .int)) (by decide) rfl (Nat.le_of_ble_eq_true rfl) ?_
  intro p e s m args below meth c A C hr hlocks
  have inl : ∀ w ∈ u_ws RX0 TX0 14, w ∈ wsX0_passOneDay := by decide +kernel
  have wd0 : Cond.fieldLink RX0 32 "SaltOrder" "memberCount" "I" ∈ wsX0_passOneDay := by decide +kernel
  have wd1 : Cond.fieldLink RX0 42 "SaltOrder" "today" "I" ∈ wsX0_passOneDay := by decide +kernel
  refine z_sub (L' := [(0, .ref (hh 0))]) [0] rfl ?_
  have lp21 : ∀ (dd i : Nat), i + dd = xn v → zG p l e ({ frames := 3, cells := 0, slots := 0, locals := 59 } : Room) s m args below meth c D 3 A 0 0 (MQ below (zQ (some (.int (xdayF v))) (fun t => va_P D vwCl (wX0 hh cI cZ (xday v)) t.heap) A) args s 0 0 A) 21 [(0, .ref (hh 0)), (1, .int (xdayF v)), (2, .int (nI i))] [] (wX0 hh cI cZ (xeatN (xday1 v) i)) := by
    intro dd
    induction dd with
    | zero =>
      intro i hi
      have hi : i = xn v := by omega
      subst hi
      have hn1 : xn (xeatN (xday1 v) (xn v)) = xn v := (xeatN_n _ _).trans (xday1_n v)
      refine z_iload_n C 2 dX0_passOneDay_21 rfl rfl ?_
      refine z_aload_n C 0 dX0_passOneDay_22 rfl rfl ?_
      refine z_get0 (v := .int (nI (xn (xeatN (xday1 v) (xn v))))) C inl 0 3 (by decide) rfl rfl wd0 dX0_passOneDay_23 ?_
      refine z_icmp_ge (tgt := 40) C dX0_passOneDay_26 (by decide) (fun _ => ?_) (fun h9 => absurd (nI_le (by omega) (by omega)) h9)
      refine z_aload_n C 0 dX0_passOneDay_40 rfl rfl ?_
      refine z_dup C dX0_passOneDay_41 rfl ?_
      refine z_get0 (v := .int (xd (xeatN (xday1 v) (xn v)))) C inl 0 10 (by decide) rfl rfl wd1 dX0_passOneDay_42 ?_
      refine z_iconst (v := 1) C dX0_passOneDay_45 (by decide) ?_
      refine z_iadd C dX0_passOneDay_46 ?_
      refine z_put0 (ws' := (wX0 hh cI cZ (xl (xeatN (xday1 v) (xn v)), xa (xeatN (xday1 v) (xn v)), xe (xeatN (xday1 v) (xn v)), xn (xeatN (xday1 v) (xn v)), xw (xeatN (xday1 v) (xn v)), xf (xeatN (xday1 v) (xn v)), xg (xeatN (xday1 v) (xn v)), xx (xeatN (xday1 v) (xn v)), xk (xeatN (xday1 v) (xn v)), xc (xeatN (xday1 v) (xn v)), (xd (xeatN (xday1 v) (xn v))) + 1, xo (xeatN (xday1 v) (xn v)), xy (xeatN (xday1 v) (xn v)), xb (xeatN (xday1 v) (xn v))))) C inl 0 10 (by decide) rfl rfl (by decide) rfl wd1 dX0_passOneDay_47 ?_
      refine z_iload_n C 1 dX0_passOneDay_50 rfl rfl ?_
      exact z_iret C hr hlocks (Nat.le_of_ble_eq_true rfl) (Nat.le_of_ble_eq_true rfl) dX0_passOneDay_51 rfl (congrArg (wX0 hh cI cZ) (by first | rfl | (simp only [xday, xdayF, xday1, ↓reduceIte]; done) | (simp only [xday, xdayF, xday1, ↓reduceIte]; rfl)))
    | succ dd ih =>
      intro i hi
      have hn1 : xn (xeatN (xday1 v) i) = xn v := (xeatN_n _ i).trans (xday1_n v)
      refine z_iload_n C 2 dX0_passOneDay_21 rfl rfl ?_
      refine z_aload_n C 0 dX0_passOneDay_22 rfl rfl ?_
      refine z_get0 (v := .int (nI (xn (xeatN (xday1 v) i)))) C inl 0 3 (by decide) rfl rfl wd0 dX0_passOneDay_23 ?_
      refine z_icmp_ge (tgt := 40) C dX0_passOneDay_26 (by decide) (fun h9 => absurd h9 (nI_ge (by omega) (by omega))) (fun _ => ?_)
      refine z_aload_n C 0 dX0_passOneDay_29 rfl rfl ?_
      refine z_iload_n C 2 dX0_passOneDay_30 rfl rfl ?_
      obtain ⟨v1, hv1⟩ : ∃ z, z = xeat (xeatN (xday1 v) i) i := ⟨_, rfl⟩
      refine z_callV (w := (wX0 hh cI cZ (xeatN (xday1 v) i))) (w' := (wX0 hh cI cZ v1)) (w1 := ([] : va_W)) (w2 := ([] : va_W)) (ws' := (wX0 hh cI cZ v1)) (As := [.int (nI i)]) (rest := []) (st' := []) (rv := none) C (by rw [hv1]; exact c_X0_eatOrFeelLuck l D hh cI cZ (xeatN (xday1 v) i) i (by omega)) (cwV 1 C.words gX0_passOneDay_X0_eatOrFeelLuck rfl rfl rfl (by decide +kernel) ⟨(Nat.le_of_ble_eq_true rfl), (Nat.le_of_ble_eq_true rfl)⟩) (q0 := 0) (ci := 0) rfl rfl rfl [0, 1] rfl rfl (Nat.le_of_ble_eq_true rfl) ⟨(Nat.le_of_ble_eq_true rfl), (Nat.le_of_ble_eq_true rfl)⟩ rfl rfl rfl rfl rfl dX0_passOneDay_31 ?_
      have hv1k0 : xn v1 = xn (xeatN (xday1 v) i) := by rw [hv1]; exact xeat_n (xeatN (xday1 v) i) i
      have hv1k1 : xk v1 = xk (xeatN (xday1 v) i) := by rw [hv1]; exact xeat_k (xeatN (xday1 v) i) i
      refine z_iinc (v := nI (i + 1)) (L' := [(2, .int (nI (i + 1))), (0, .ref (hh 0)), (1, .int (xdayF v))]) C 2 dX0_passOneDay_34 rfl (z_inc _) (by decide) rfl ?_
      refine z_goto (tgt := 21) C dX0_passOneDay_37 (by decide) ?_
      refine z_sub (L' := [(0, .ref (hh 0)), (1, .int (xdayF v)), (2, .int (nI (i + 1)))]) [1, 2, 0] rfl ?_
      subst hv1
      exact ih (i + 1) (by omega)
  refine z_aload_n C 0 dX0_passOneDay_0 rfl rfl ?_
  refine z_get0 (v := .int (xd v)) C inl 0 10 (by decide) rfl rfl wd1 dX0_passOneDay_1 ?_
  refine z_callS (w := ([] : va_W)) (w' := ([] : va_W)) (w1 := (wX0 hh cI cZ v)) (w2 := ([] : va_W)) (ws' := (wX0 hh cI cZ v)) (As := [.int (xd v)]) (rest := []) (st' := [.int (isA (xd v))]) (rv := some (.int (isA (xd v)))) C (c_X0_isAuditDay l D (xd v)) (va_cwS 1 C.words gX0_passOneDay_X0_isAuditDay rfl rfl rfl (by decide +kernel) ⟨(Nat.le_of_ble_eq_true rfl), (Nat.le_of_ble_eq_true rfl)⟩) [] rfl rfl (Nat.le_of_ble_eq_true rfl) ⟨(Nat.le_of_ble_eq_true rfl), (Nat.le_of_ble_eq_true rfl)⟩ rfl rfl rfl rfl rfl dX0_passOneDay_4 ?_
  refine z_if_eq (tgt := 17) C dX0_passOneDay_7 (by decide) (fun c7 => ?_) (fun c7 => ?_)
  · skip
    refine z_iconst (v := 0) C dX0_passOneDay_17 (by decide) ?_
    refine z_istore_n (L' := [(1, .int 0), (0, .ref (hh 0))]) C dX0_passOneDay_18 rfl (by decide) rfl ?_
    refine z_iconst (v := 0) C dX0_passOneDay_19 (by decide) ?_
    refine z_istore_n (L' := [(2, .int 0), (1, .int 0), (0, .ref (hh 0))]) C dX0_passOneDay_20 rfl (by decide) rfl ?_
    refine z_sub (L' := [(0, .ref (hh 0)), (1, .int 0), (2, .int 0)]) [2, 1, 0] rfl ?_
    exact (by have e9 := lp21 (xn v) 0 (by omega); simp only [xeatN, xday1, xdayF, c7, ↓reduceIte] at e9 ⊢; exact e9)
  · skip
    refine z_aload_n C 0 dX0_passOneDay_10 rfl rfl ?_
    obtain ⟨v2, hv2⟩ : ∃ z, z = xaud v := ⟨_, rfl⟩
    refine z_callV (w := (wX0 hh cI cZ v)) (w' := (wX0 hh cI cZ v2)) (w1 := ([] : va_W)) (w2 := ([] : va_W)) (ws' := (wX0 hh cI cZ v2)) (As := []) (rest := []) (st' := [.int (xflt v)]) (rv := some (.int (xflt v))) C (by rw [hv2]; exact c_X0_audit l D hh cI cZ v (by omega) (by omega)) (cwV 0 C.words gX0_passOneDay_X0_audit rfl rfl rfl (by decide +kernel) ⟨(Nat.le_of_ble_eq_true rfl), (Nat.le_of_ble_eq_true rfl)⟩) (q0 := 0) (ci := 0) rfl rfl rfl [0, 1] rfl rfl (Nat.le_of_ble_eq_true rfl) ⟨(Nat.le_of_ble_eq_true rfl), (Nat.le_of_ble_eq_true rfl)⟩ rfl rfl rfl rfl rfl dX0_passOneDay_11 ?_
    have hv2k0 : xn v2 = xn v := by rw [hv2]; exact xaud_n v
    refine z_goto (tgt := 18) C dX0_passOneDay_14 (by decide) ?_
    refine z_istore_n (L' := [(1, .int (xflt v)), (0, .ref (hh 0))]) C dX0_passOneDay_18 rfl (by decide) rfl ?_
    refine z_iconst (v := 0) C dX0_passOneDay_19 (by decide) ?_
    refine z_istore_n (L' := [(2, .int 0), (1, .int (xflt v)), (0, .ref (hh 0))]) C dX0_passOneDay_20 rfl (by decide) rfl ?_
    refine z_sub (L' := [(0, .ref (hh 0)), (1, .int (xflt v)), (2, .int 0)]) [2, 1, 0] rfl ?_
    subst hv2
    exact (by have e9 := lp21 (xn v) 0 (by omega); simp only [xeatN, xday1, xdayF, c7, ↓reduceIte] at e9 ⊢; exact e9)
