set_option maxHeartbeats 4000000 in
set_option maxRecDepth 100000 in
theorem c_X1_isIn (l : Launch) (D : va_G) (x lo hi : Int32) : zM l yX1_isIn wsX1_isIn 0 0 0 0 [.int x, .int lo, .int hi] [] D ([] : va_W) ([] : va_W) (some (.int (isin x lo hi))) := by
  refine z_met (cc := cX1_isIn) (maxL := 3) (ret := (some .boolean)) (by decide) rfl (Nat.le_of_ble_eq_true rfl) ?_
  intro p e s m args below meth c A C hr hlocks
  refine z_sub (L' := [(0, .int x), (1, .int lo), (2, .int hi)]) [0, 1, 2] rfl ?_
  refine z_iload_n C 0 dX1_isIn_0 rfl rfl ?_
  refine z_iload_n C 1 dX1_isIn_1 rfl rfl ?_
  refine z_icmp_lt (tgt := 14) C dX1_isIn_2 (by decide) (fun c2 => ?_) (fun c2 => ?_)
  · skip
    refine z_iconst (v := 0) C dX1_isIn_14 (by decide) ?_
    exact z_zret C hr hlocks (Nat.le_of_ble_eq_true rfl) (Nat.le_of_ble_eq_true rfl) (by first | exact Or.inl rfl | exact Or.inr rfl) dX1_isIn_15 (by first | rfl | (simp only [isin, c2, ↓reduceIte]; done) | (simp only [isin, c2, ↓reduceIte]; rfl)) rfl
  · skip
    refine z_iload_n C 0 dX1_isIn_5 rfl rfl ?_
    refine z_iload_n C 2 dX1_isIn_6 rfl rfl ?_
    refine z_icmp_gt (tgt := 14) C dX1_isIn_7 (by decide) (fun c7 => ?_) (fun c7 => ?_)
    · skip
      refine z_iconst (v := 0) C dX1_isIn_14 (by decide) ?_
      exact z_zret C hr hlocks (Nat.le_of_ble_eq_true rfl) (Nat.le_of_ble_eq_true rfl) (by first | exact Or.inl rfl | exact Or.inr rfl) dX1_isIn_15 (by first | rfl | (simp only [isin, c2, c7, ↓reduceIte]; done) | (simp only [isin, c2, c7, ↓reduceIte]; rfl)) rfl
    · skip
      refine z_iconst (v := 1) C dX1_isIn_10 (by decide) ?_
      refine z_goto (tgt := 15) C dX1_isIn_11 (by decide) ?_
      exact z_zret C hr hlocks (Nat.le_of_ble_eq_true rfl) (Nat.le_of_ble_eq_true rfl) (by first | exact Or.inl rfl | exact Or.inr rfl) dX1_isIn_15 (by first | rfl | (simp only [isin, c2, c7, ↓reduceIte]; done) | (simp only [isin, c2, c7, ↓reduceIte]; rfl)) rfl
set_option maxHeartbeats 4000000 in
set_option maxRecDepth 100000 in
theorem c_X1_isMember (l : Launch) (D : va_G) (gg : Nat → Nat) (cI : ClassId) (v : S1) (x : Int32) : zM l yX1_isMember wsX1_isMember 1 22 0 0 [.ref (gg 0), .int x] [(cI, .int)] D (wX1 gg cI v) (wX1 gg cI v) (some (.int (isin x 0 (nI (rn v) - 1)))) := by
  refine z_met (cc := cX1_isMember) (maxL := 2) (ret := (some .boolean)) (by decide) rfl (Nat.le_of_ble_eq_true rfl) ?_
  intro p e s m args below meth c A C hr hlocks
  have inl : ∀ w ∈ u_ws RX1 TX1 4, w ∈ wsX1_isMember := by decide +kernel
  have wd0 : Cond.fieldLink RX1 20 "SaltOrderModel" "members" "I" ∈ wsX1_isMember := by decide +kernel
  refine z_sub (L' := [(0, .ref (gg 0)), (1, .int x)]) [0, 1] rfl ?_
  refine z_iload_n C 1 dX1_isMember_0 rfl rfl ?_
  refine z_iconst (v := 0) C dX1_isMember_1 (by decide) ?_
  refine z_aload_n C 0 dX1_isMember_2 rfl rfl ?_
  refine z_get1 (v := .int (nI (rn v))) C inl 0 1 (by decide) rfl rfl wd0 dX1_isMember_3 ?_
  refine z_iconst (v := 1) C dX1_isMember_6 (by decide) ?_
  refine z_isub C dX1_isMember_7 ?_
  refine z_callS (w := ([] : va_W)) (w' := ([] : va_W)) (w1 := (wX1 gg cI v)) (w2 := ([] : va_W)) (ws' := (wX1 gg cI v)) (As := [.int x, .int 0, .int ((nI (rn v)) - 1)]) (rest := []) (st' := [.int (isin x 0 ((nI (rn v)) - 1))]) (rv := some (.int (isin x 0 ((nI (rn v)) - 1)))) C (c_X1_isIn l D x 0 ((nI (rn v)) - 1)) (va_cwS 3 C.words gX1_isMember_X1_isIn rfl rfl rfl (by decide +kernel) ⟨(Nat.le_of_ble_eq_true rfl), (Nat.le_of_ble_eq_true rfl)⟩) [] rfl rfl (Nat.le_of_ble_eq_true rfl) ⟨(Nat.le_of_ble_eq_true rfl), (Nat.le_of_ble_eq_true rfl)⟩ rfl rfl rfl rfl rfl dX1_isMember_8 ?_
  exact z_zret C hr hlocks (Nat.le_of_ble_eq_true rfl) (Nat.le_of_ble_eq_true rfl) (isin_01 _ _ _) dX1_isMember_11 (by rfl) rfl
set_option maxHeartbeats 4000000 in
set_option maxRecDepth 100000 in
theorem c_X1_isThrow (l : Launch) (D : va_G) (gg : Nat → Nat) (cI : ClassId) (v : S1) (x : Int32) : zM l yX1_isThrow wsX1_isThrow 1 22 0 0 [.ref (gg 0), .int x] [(cI, .int)] D (wX1 gg cI v) (wX1 gg cI v) (some (.int (isin x 0 ((rf v) 3 - 1)))) := by
  refine z_met (cc := cX1_isThrow) (maxL := 2) (ret := (some .boolean)) (by decide) rfl (Nat.le_of_ble_eq_true rfl) ?_
  intro p e s m args below meth c A C hr hlocks
  have inl : ∀ w ∈ u_ws RX1 TX1 4, w ∈ wsX1_isThrow := by decide +kernel
  have wd0 : Cond.fieldLink RX1 9 "SaltOrderModel" "now" "[I" ∈ wsX1_isThrow := by decide +kernel
  refine z_sub (L' := [(0, .ref (gg 0)), (1, .int x)]) [0, 1] rfl ?_
  refine z_iload_n C 1 dX1_isThrow_0 rfl rfl ?_
  refine z_iconst (v := 0) C dX1_isThrow_1 (by decide) ?_
  refine z_aload_n C 0 dX1_isThrow_2 rfl rfl ?_
  refine z_get1 (v := .ref (gg 1)) C inl 0 2 (by decide) rfl rfl wd0 dX1_isThrow_3 ?_
  refine z_iconst (v := 3) C dX1_isThrow_6 (by decide) ?_
  refine z_iald (f := rf v) C 1 0 rfl rfl 3 rfl (by omega) (by decide) dX1_isThrow_7 ?_
  refine z_iconst (v := 1) C dX1_isThrow_8 (by decide) ?_
  refine z_isub C dX1_isThrow_9 ?_
  refine z_callS (w := ([] : va_W)) (w' := ([] : va_W)) (w1 := (wX1 gg cI v)) (w2 := ([] : va_W)) (ws' := (wX1 gg cI v)) (As := [.int x, .int 0, .int (((rf v) 3) - 1)]) (rest := []) (st' := [.int (isin x 0 (((rf v) 3) - 1))]) (rv := some (.int (isin x 0 (((rf v) 3) - 1)))) C (c_X1_isIn l D x 0 (((rf v) 3) - 1)) (va_cwS 3 C.words gX1_isThrow_X1_isIn rfl rfl rfl (by decide +kernel) ⟨(Nat.le_of_ble_eq_true rfl), (Nat.le_of_ble_eq_true rfl)⟩) [] rfl rfl (Nat.le_of_ble_eq_true rfl) ⟨(Nat.le_of_ble_eq_true rfl), (Nat.le_of_ble_eq_true rfl)⟩ rfl rfl rfl rfl rfl dX1_isThrow_10 ?_
  exact z_zret C hr hlocks (Nat.le_of_ble_eq_true rfl) (Nat.le_of_ble_eq_true rfl) (isin_01 _ _ _) dX1_isThrow_13 (by rfl) rfl
set_option maxHeartbeats 4000000 in
set_option maxRecDepth 100000 in
theorem c_X1_fail (l : Launch) (D : va_G) (gg : Nat → Nat) (cI : ClassId) (v : S1) (x : Int32) : zM l yX1_fail wsX1_fail 0 0 0 0 [.ref (gg 0), .int x] [(cI, .int)] D (wX1 gg cI v) (wX1 gg cI (vt v x)) (some (.int 0)) := by
  refine z_met (cc := cX1_fail) (maxL := 2) (ret := (some .int)) (by decide) rfl (Nat.le_of_ble_eq_true rfl) ?_
  intro p e s m args below meth c A C hr hlocks
  have inl : ∀ w ∈ u_ws RX1 TX1 4, w ∈ wsX1_fail := by decide +kernel
  have wd0 : Cond.fieldLink RX1 16 "SaltOrderModel" "thrown" "I" ∈ wsX1_fail := by decide +kernel
  refine z_sub (L' := [(0, .ref (gg 0)), (1, .int x)]) [0, 1] rfl ?_
  refine z_aload_n C 0 dX1_fail_0 rfl rfl ?_
  refine z_iload_n C 1 dX1_fail_1 rfl rfl ?_
  refine z_put1 (ws' := (wX1 gg cI (x, rn v, rf v, rk v))) C inl 0 0 (by decide) rfl rfl (by decide) rfl wd0 dX1_fail_2 ?_
  refine z_iconst (v := 0) C dX1_fail_5 (by decide) ?_
  exact z_iret C hr hlocks (Nat.le_of_ble_eq_true rfl) (Nat.le_of_ble_eq_true rfl) dX1_fail_6 rfl (congrArg (wX1 gg cI) (by first | rfl | (simp only [vt, ↓reduceIte]; done) | (simp only [vt, ↓reduceIte]; rfl)))
set_option maxHeartbeats 4000000 in
set_option maxRecDepth 100000 in
theorem c_X1_told (l : Launch) (D : va_G) (gg : Nat → Nat) (cI : ClassId) (v : S1) (x : Int32) : zM l yX1_told wsX1_told 0 0 0 0 [.ref (gg 0), .int x] [(cI, .int)] D (wX1 gg cI v) (wX1 gg cI (vt v 0)) (some (.int x)) := by
  refine z_met (cc := cX1_told) (maxL := 2) (ret := (some .int)) (by decide) rfl (Nat.le_of_ble_eq_true rfl) ?_
  intro p e s m args below meth c A C hr hlocks
  have inl : ∀ w ∈ u_ws RX1 TX1 4, w ∈ wsX1_told := by decide +kernel
  have wd0 : Cond.fieldLink RX1 16 "SaltOrderModel" "thrown" "I" ∈ wsX1_told := by decide +kernel
  refine z_sub (L' := [(0, .ref (gg 0)), (1, .int x)]) [0, 1] rfl ?_
  refine z_aload_n C 0 dX1_told_0 rfl rfl ?_
  refine z_iconst (v := 0) C dX1_told_1 (by decide) ?_
  refine z_put1 (ws' := (wX1 gg cI (0, rn v, rf v, rk v))) C inl 0 0 (by decide) rfl rfl (by decide) rfl wd0 dX1_told_2 ?_
  refine z_iload_n C 1 dX1_told_5 rfl rfl ?_
  exact z_iret C hr hlocks (Nat.le_of_ble_eq_true rfl) (Nat.le_of_ble_eq_true rfl) dX1_told_6 rfl (congrArg (wX1 gg cI) (by first | rfl | (simp only [vt, ↓reduceIte]; done) | (simp only [vt, ↓reduceIte]; rfl)))
set_option maxHeartbeats 4000000 in
set_option maxRecDepth 100000 in
theorem c_X1_me (l : Launch) (D : va_G) (gg : Nat → Nat) (cI : ClassId) (v : S1) (j w : Nat) (hj : j < 8) (hw : w < 3) : zM l yX1_me wsX1_me 0 0 0 0 [.ref (gg 0), .int (nI j), .int (nI w)] [(cI, .int)] D (wX1 gg cI v) (wX1 gg cI v) (some (.int ((rf v) (mi j w)))) := by
  refine z_met (cc := cX1_me) (maxL := 3) (ret := (some .int)) (by decide) rfl (Nat.le_of_ble_eq_true rfl) ?_
  intro p e s m args below meth c A C hr hlocks
  have inl : ∀ w ∈ u_ws RX1 TX1 4, w ∈ wsX1_me := by decide +kernel
  have wd0 : Cond.fieldLink RX1 9 "SaltOrderModel" "now" "[I" ∈ wsX1_me := by decide +kernel
  refine z_sub (L' := [(0, .ref (gg 0)), (1, .int (nI j)), (2, .int (nI w))]) [0, 1, 2] rfl ?_
  refine z_aload_n C 0 dX1_me_0 rfl rfl ?_
  refine z_get1 (v := .ref (gg 1)) C inl 0 2 (by decide) rfl rfl wd0 dX1_me_1 ?_
  refine z_iconst (v := 4) C dX1_me_4 (by decide) ?_
  refine z_iconst (v := 3) C dX1_me_5 (by decide) ?_
  refine z_iload_n C 1 dX1_me_6 rfl rfl ?_
  refine z_imul C dX1_me_7 ?_
  refine z_iadd C dX1_me_8 ?_
  refine z_iload_n C 2 dX1_me_9 rfl rfl ?_
  refine z_iadd C dX1_me_10 ?_
  refine z_top (y := nI (mi j w)) (z_mi j w) ?_
  refine z_iald (f := rf v) C 1 0 rfl rfl (mi j w) rfl (mi_lt hj hw) (by decide) dX1_me_11 ?_
  exact z_iret C hr hlocks (Nat.le_of_ble_eq_true rfl) (Nat.le_of_ble_eq_true rfl) dX1_me_12 rfl rfl
set_option maxHeartbeats 4000000 in
set_option maxRecDepth 100000 in
theorem c_X1_let (l : Launch) (D : va_G) (gg : Nat → Nat) (cI : ClassId) (v : S1) (j w : Nat) (x : Int32) (hj : j < 8) (hw : w < 3) : zM l yX1_let wsX1_let 0 0 0 0 [.ref (gg 0), .int (nI j), .int (nI w), .int x] [(cI, .int)] D (wX1 gg cI v) (wX1 gg cI (vf v (upd (rf v) (mi j w) x))) none := by
  refine z_met (cc := cX1_let) (maxL := 4) (ret := none) (by decide) rfl (Nat.le_of_ble_eq_true rfl) ?_
  intro p e s m args below meth c A C hr hlocks
  have inl : ∀ w ∈ u_ws RX1 TX1 4, w ∈ wsX1_let := by decide +kernel
  have wd0 : Cond.fieldLink RX1 9 "SaltOrderModel" "now" "[I" ∈ wsX1_let := by decide +kernel
  refine z_sub (L' := [(0, .ref (gg 0)), (1, .int (nI j)), (2, .int (nI w)), (3, .int x)]) [0, 1, 2, 3] rfl ?_
  refine z_aload_n C 0 dX1_let_0 rfl rfl ?_
  refine z_get1 (v := .ref (gg 1)) C inl 0 2 (by decide) rfl rfl wd0 dX1_let_1 ?_
  refine z_iconst (v := 4) C dX1_let_4 (by decide) ?_
  refine z_iconst (v := 3) C dX1_let_5 (by decide) ?_
  refine z_iload_n C 1 dX1_let_6 rfl rfl ?_
  refine z_imul C dX1_let_7 ?_
  refine z_iadd C dX1_let_8 ?_
  refine z_iload_n C 2 dX1_let_9 rfl rfl ?_
  refine z_iadd C dX1_let_10 ?_
  refine z_top (y := nI (mi j w)) (z_mi j w) ?_
  refine z_iload_n C 3 dX1_let_11 rfl rfl ?_
  refine z_iast (ws' := (wX1 gg cI (rt v, rn v, upd (rf v) (mi j w) x, rk v))) C 1 0 rfl rfl (mi j w) rfl (mi_lt hj hw) (by decide) rfl dX1_let_12 ?_
  exact z_vret C hr hlocks (Nat.le_of_ble_eq_true rfl) (Nat.le_of_ble_eq_true rfl) dX1_let_13 (congrArg (wX1 gg cI) (by first | rfl | (simp only [vf, ↓reduceIte]; done) | (simp only [vf, ↓reduceIte]; rfl)))
set_option maxHeartbeats 4000000 in
set_option maxRecDepth 100000 in
theorem c_X1_th (l : Launch) (D : va_G) (gg : Nat → Nat) (cI : ClassId) (v : S1) (t w : Nat) (ht : t < 30) (hw : w < 4) : zM l yX1_th wsX1_th 0 0 0 0 [.ref (gg 0), .int (nI t), .int (nI w)] [(cI, .int)] D (wX1 gg cI v) (wX1 gg cI v) (some (.int ((rf v) (ti t w)))) := by
  refine z_met (cc := cX1_th) (maxL := 3) (ret := (some .int)) (by decide) rfl (Nat.le_of_ble_eq_true rfl) ?_
  intro p e s m args below meth c A C hr hlocks
  have inl : ∀ w ∈ u_ws RX1 TX1 4, w ∈ wsX1_th := by decide +kernel
  have wd0 : Cond.fieldLink RX1 9 "SaltOrderModel" "now" "[I" ∈ wsX1_th := by decide +kernel
  refine z_sub (L' := [(0, .ref (gg 0)), (1, .int (nI t)), (2, .int (nI w))]) [0, 1, 2] rfl ?_
  refine z_aload_n C 0 dX1_th_0 rfl rfl ?_
  refine z_get1 (v := .ref (gg 1)) C inl 0 2 (by decide) rfl rfl wd0 dX1_th_1 ?_
  refine z_bipush (v := 28) C dX1_th_4 (by decide) ?_
  refine z_iconst (v := 4) C dX1_th_6 (by decide) ?_
  refine z_iload_n C 1 dX1_th_7 rfl rfl ?_
  refine z_imul C dX1_th_8 ?_
  refine z_iadd C dX1_th_9 ?_
  refine z_iload_n C 2 dX1_th_10 rfl rfl ?_
  refine z_iadd C dX1_th_11 ?_
  refine z_top (y := nI (ti t w)) (z_ti t w) ?_
  refine z_iald (f := rf v) C 1 0 rfl rfl (ti t w) rfl (ti_lt ht hw) (by decide) dX1_th_12 ?_
  exact z_iret C hr hlocks (Nat.le_of_ble_eq_true rfl) (Nat.le_of_ble_eq_true rfl) dX1_th_13 rfl rfl
set_option maxHeartbeats 4000000 in
set_option maxRecDepth 100000 in
theorem c_X1_write (l : Launch) (D : va_G) (gg : Nat → Nat) (cI : ClassId) (v : S1) (w : Nat) (x : Int32) (k : Nat) (hw : w < 4) (hk : (rf v) 3 = nI k) (hk3 : k < 30) : zM l yX1_write wsX1_write 0 0 0 0 [.ref (gg 0), .int (nI w), .int x] [(cI, .int)] D (wX1 gg cI v) (wX1 gg cI (vf v (upd (rf v) (ti k w) x))) none := by
  refine z_met (cc := cX1_write) (maxL := 3) (ret := none) (by decide) rfl (Nat.le_of_ble_eq_true rfl) ?_
  intro p e s m args below meth c A C hr hlocks
  have inl : ∀ w ∈ u_ws RX1 TX1 4, w ∈ wsX1_write := by decide +kernel
  have wd0 : Cond.fieldLink RX1 9 "SaltOrderModel" "now" "[I" ∈ wsX1_write := by decide +kernel
  refine z_sub (L' := [(0, .ref (gg 0)), (1, .int (nI w)), (2, .int x)]) [0, 1, 2] rfl ?_
  refine z_aload_n C 0 dX1_write_0 rfl rfl ?_
  refine z_get1 (v := .ref (gg 1)) C inl 0 2 (by decide) rfl rfl wd0 dX1_write_1 ?_
  refine z_bipush (v := 28) C dX1_write_4 (by decide) ?_
  refine z_iconst (v := 4) C dX1_write_6 (by decide) ?_
  refine z_aload_n C 0 dX1_write_7 rfl rfl ?_
  refine z_get1 (v := .ref (gg 1)) C inl 0 2 (by decide) rfl rfl wd0 dX1_write_8 ?_
  refine z_iconst (v := 3) C dX1_write_11 (by decide) ?_
  refine z_iald (f := rf v) C 1 0 rfl rfl 3 rfl (by omega) (by decide) dX1_write_12 ?_
  refine z_imul C dX1_write_13 ?_
  refine z_iadd C dX1_write_14 ?_
  refine z_iload_n C 1 dX1_write_15 rfl rfl ?_
  refine z_iadd C dX1_write_16 ?_
  refine z_top (y := nI (ti k w)) (z_ti2 hk w) ?_
  refine z_iload_n C 2 dX1_write_17 rfl rfl ?_
  refine z_iast (ws' := (wX1 gg cI (rt v, rn v, upd (rf v) (ti k w) x, rk v))) C 1 0 rfl rfl (ti k w) rfl (ti_lt hk3 hw) (by decide) rfl dX1_write_18 ?_
  exact z_vret C hr hlocks (Nat.le_of_ble_eq_true rfl) (Nat.le_of_ble_eq_true rfl) dX1_write_19 (congrArg (wX1 gg cI) (by first | rfl | (simp only [vf, ↓reduceIte]; done) | (simp only [vf, ↓reduceIte]; rfl)))
set_option maxHeartbeats 4000000 in
set_option maxRecDepth 100000 in
theorem c_X1_keep (l : Launch) (D : va_G) (gg : Nat → Nat) (cI : ClassId) (v : S1) : zM l yX1_keep wsX1_keep 1 18 0 0 [.ref (gg 0)] [(cI, .int)] D (wX1 gg cI v) (wX1 gg cI (rkeep v)) none := by
  refine z_met (cc := cX1_keep) (maxL := 1) (ret := none) (by decide) rfl (Nat.le_of_ble_eq_true rfl) ?_
  intro p e s m args below meth c A C hr hlocks
  have inl : ∀ w ∈ u_ws RX1 TX1 4, w ∈ wsX1_keep := by decide +kernel
  have wd0 : Cond.fieldLink RX1 9 "SaltOrderModel" "now" "[I" ∈ wsX1_keep := by decide +kernel
  have wd1 : Cond.fieldLink RX1 13 "SaltOrderModel" "kept" "[I" ∈ wsX1_keep := by decide +kernel
  have wd2 : Cond.methodLink RX1 27 arraycopyName ∈ wsX1_keep := by decide +kernel
  have wd3 : Cond.native arraycopyName ∈ wsX1_keep := by decide +kernel
  have wd4 : Cond.static arraycopyName ∈ wsX1_keep := by decide +kernel
  have wd5 : Cond.initialized "java/lang/System" ∈ wsX1_keep := by decide +kernel
  refine z_sub (L' := [(0, .ref (gg 0))]) [0] rfl ?_
  refine z_aload_n C 0 dX1_keep_0 rfl rfl ?_
  refine z_get1 (v := .ref (gg 1)) C inl 0 2 (by decide) rfl rfl wd0 dX1_keep_1 ?_
  refine z_iconst (v := 0) C dX1_keep_4 (by decide) ?_
  refine z_aload_n C 0 dX1_keep_5 rfl rfl ?_
  refine z_get1 (v := .ref (gg 2)) C inl 0 3 (by decide) rfl rfl wd1 dX1_keep_6 ?_
  refine z_iconst (v := 0) C dX1_keep_9 (by decide) ?_
  refine z_sipush (v := 148) C dX1_keep_10 (by decide) ?_
  refine z_copy (ws' := (wX1 gg cI (rt v, rn v, rf v, va_cpy (rf v) (rk v) 0 0 148))) C wd2 wd3 wd4 wd5 1 2 rfl rfl rfl (Nat.le_of_ble_eq_true rfl) (Nat.le_of_ble_eq_true rfl) rfl dX1_keep_13 ?_
  exact z_vret C hr hlocks (Nat.le_of_ble_eq_true rfl) (Nat.le_of_ble_eq_true rfl) dX1_keep_16 (congrArg (wX1 gg cI) (by first | rfl | (simp only [rkeep, vk, ↓reduceIte]; done) | (simp only [rkeep, vk, ↓reduceIte]; rfl)))
set_option maxHeartbeats 4000000 in
set_option maxRecDepth 100000 in
theorem c_X1_bringBack (l : Launch) (D : va_G) (gg : Nat → Nat) (cI : ClassId) (v : S1) : zM l yX1_bringBack wsX1_bringBack 1 18 0 0 [.ref (gg 0)] [(cI, .int)] D (wX1 gg cI v) (wX1 gg cI (rback v)) none := by
  refine z_met (cc := cX1_bringBack) (maxL := 1) (ret := none) (by decide) rfl (Nat.le_of_ble_eq_true rfl) ?_
  intro p e s m args below meth c A C hr hlocks
  have inl : ∀ w ∈ u_ws RX1 TX1 4, w ∈ wsX1_bringBack := by decide +kernel
  have wd0 : Cond.fieldLink RX1 13 "SaltOrderModel" "kept" "[I" ∈ wsX1_bringBack := by decide +kernel
  have wd1 : Cond.fieldLink RX1 9 "SaltOrderModel" "now" "[I" ∈ wsX1_bringBack := by decide +kernel
  have wd2 : Cond.methodLink RX1 27 arraycopyName ∈ wsX1_bringBack := by decide +kernel
  have wd3 : Cond.native arraycopyName ∈ wsX1_bringBack := by decide +kernel
  have wd4 : Cond.static arraycopyName ∈ wsX1_bringBack := by decide +kernel
  have wd5 : Cond.initialized "java/lang/System" ∈ wsX1_bringBack := by decide +kernel
  refine z_sub (L' := [(0, .ref (gg 0))]) [0] rfl ?_
  refine z_aload_n C 0 dX1_bringBack_0 rfl rfl ?_
  refine z_get1 (v := .ref (gg 2)) C inl 0 3 (by decide) rfl rfl wd0 dX1_bringBack_1 ?_
  refine z_iconst (v := 0) C dX1_bringBack_4 (by decide) ?_
  refine z_aload_n C 0 dX1_bringBack_5 rfl rfl ?_
  refine z_get1 (v := .ref (gg 1)) C inl 0 2 (by decide) rfl rfl wd1 dX1_bringBack_6 ?_
  refine z_iconst (v := 0) C dX1_bringBack_9 (by decide) ?_
  refine z_sipush (v := 148) C dX1_bringBack_10 (by decide) ?_
  refine z_copy (ws' := (wX1 gg cI (rt v, rn v, va_cpy (rk v) (rf v) 0 0 148, rk v))) C wd2 wd3 wd4 wd5 2 1 rfl rfl rfl (Nat.le_of_ble_eq_true rfl) (Nat.le_of_ble_eq_true rfl) rfl dX1_bringBack_13 ?_
  exact z_vret C hr hlocks (Nat.le_of_ble_eq_true rfl) (Nat.le_of_ble_eq_true rfl) dX1_bringBack_16 (congrArg (wX1 gg cI) (by first | rfl | (simp only [rback, vf, ↓reduceIte]; done) | (simp only [rback, vf, ↓reduceIte]; rfl)))
set_option maxHeartbeats 4000000 in
set_option maxRecDepth 100000 in
theorem c_X1_faultsNow (l : Launch) (D : va_G) (gg : Nat → Nat) (cI : ClassId) (v : S1) (k : Nat) (W : Nat → Nat) (hL : rL (rf v) k W) : zM l yX1_faultsNow wsX1_faultsNow 1 22 0 0 [.ref (gg 0)] [(cI, .int)] D (wX1 gg cI v) (wX1 gg cI v) (some (.int (rfltN (rf v) k))) := by
  refine z_met (cc := cX1_faultsNow) (maxL := 3) (ret := (some .int)) (by decide) rfl (Nat.le_of_ble_eq_true rfl) ?_
  intro p e s m args below meth c A C hr hlocks
  have inl : ∀ w ∈ u_ws RX1 TX1 4, w ∈ wsX1_faultsNow := by decide +kernel
  have wd0 : Cond.fieldLink RX1 9 "SaltOrderModel" "now" "[I" ∈ wsX1_faultsNow := by decide +kernel
  refine z_sub (L' := [(0, .ref (gg 0))]) [0] rfl ?_
  have hk := hL.1
  have hk30 := hL.2.1
  have lp4 : ∀ (dd i : Nat), i + dd = k → zG p l e ({ frames := 1, cells := 0, slots := 0, locals := 22 } : Room) s m args below meth c D 3 A 0 0 (MQ below (zQ (some (.int (rfltN (rf v) k))) (fun t => va_P D vwCl (wX1 gg cI v) t.heap) A) args s 0 0 A) 4 [(0, .ref (gg 0)), (1, .int (rfltN (rf v) i)), (2, .int (nI i))] [] (wX1 gg cI v) := by
    intro dd
    induction dd with
    | zero =>
      intro i hi
      obtain rfl : k = i := by omega
      refine z_iload_n C 2 dX1_faultsNow_4 rfl rfl ?_
      refine z_aload_n C 0 dX1_faultsNow_5 rfl rfl ?_
      refine z_get1 (v := .ref (gg 1)) C inl 0 2 (by decide) rfl rfl wd0 dX1_faultsNow_6 ?_
      refine z_iconst (v := 3) C dX1_faultsNow_9 (by decide) ?_
      refine z_iald (f := rf v) C 1 0 rfl rfl 3 rfl (by omega) (by decide) dX1_faultsNow_10 ?_
      refine z_icmp_ge (tgt := 37) C dX1_faultsNow_11 (by decide) (fun _ => ?_) (fun h9 => absurd ((by rw [show _ = nI k from hk]; exact nI_le (by omega) (by omega))) h9)
      refine z_iload_n C 1 dX1_faultsNow_37 rfl rfl ?_
      exact z_iret C hr hlocks (Nat.le_of_ble_eq_true rfl) (Nat.le_of_ble_eq_true rfl) dX1_faultsNow_38 rfl rfl
    | succ dd ih =>
      intro i hi
      refine z_iload_n C 2 dX1_faultsNow_4 rfl rfl ?_
      refine z_aload_n C 0 dX1_faultsNow_5 rfl rfl ?_
      refine z_get1 (v := .ref (gg 1)) C inl 0 2 (by decide) rfl rfl wd0 dX1_faultsNow_6 ?_
      refine z_iconst (v := 3) C dX1_faultsNow_9 (by decide) ?_
      refine z_iald (f := rf v) C 1 0 rfl rfl 3 rfl (by omega) (by decide) dX1_faultsNow_10 ?_
      refine z_icmp_ge (tgt := 37) C dX1_faultsNow_11 (by decide) (fun h9 => absurd h9 ((by rw [show _ = nI k from hk]; exact nI_ge (by omega) (by omega)))) (fun _ => ?_)
      refine z_iload_n C 1 dX1_faultsNow_14 rfl rfl ?_
      refine z_aload_n C 0 dX1_faultsNow_15 rfl rfl ?_
      refine z_iload_n C 2 dX1_faultsNow_16 rfl rfl ?_
      refine z_iconst (v := 3) C dX1_faultsNow_17 (by decide) ?_
      refine z_callV (w := (wX1 gg cI v)) (w' := (wX1 gg cI v)) (w1 := ([] : va_W)) (w2 := ([] : va_W)) (ws' := (wX1 gg cI v)) (As := [.int (nI i), .int 3]) (rest := [.int (rfltN (rf v) i)]) (st' := [.int ((rf v) (ti i 3)), .int (rfltN (rf v) i)]) (rv := some (.int ((rf v) (ti i 3)))) C (c_X1_th l D gg cI v i 3 (by omega) (by omega)) (cwV 2 C.words gX1_faultsNow_X1_th rfl rfl rfl (by decide +kernel) ⟨(Nat.le_of_ble_eq_true rfl), (Nat.le_of_ble_eq_true rfl)⟩) (q0 := 0) (ci := 1) rfl rfl rfl [0] rfl rfl (Nat.le_of_ble_eq_true rfl) ⟨(Nat.le_of_ble_eq_true rfl), (Nat.le_of_ble_eq_true rfl)⟩ rfl rfl rfl rfl rfl dX1_faultsNow_18 ?_
      refine z_if_le (tgt := 28) C dX1_faultsNow_21 (by decide) (fun c21 => ?_) (fun c21 => ?_)
      · skip
        refine z_iconst (v := 0) C dX1_faultsNow_28 (by decide) ?_
        refine z_iadd C dX1_faultsNow_29 ?_
        refine z_istore_n (L' := [(1, .int ((rfltN (rf v) i) + 0)), (0, .ref (gg 0)), (2, .int (nI i))]) C dX1_faultsNow_30 rfl (by decide) rfl ?_
        refine z_iinc (v := nI (i + 1)) (L' := [(2, .int (nI (i + 1))), (1, .int ((rfltN (rf v) i) + 0)), (0, .ref (gg 0))]) C 2 dX1_faultsNow_31 rfl (z_inc _) (by decide) rfl ?_
        refine z_goto (tgt := 4) C dX1_faultsNow_34 (by decide) ?_
        refine z_sub (L' := [(0, .ref (gg 0)), (1, .int ((rfltN (rf v) i) + 0)), (2, .int (nI (i + 1)))]) [2, 1, 0] rfl ?_
        exact (by have e9 := ih (i + 1) (by omega); simp only [rfltN, c21, ↓reduceIte] at e9; exact e9)
      · skip
        refine z_iconst (v := 1) C dX1_faultsNow_24 (by decide) ?_
        refine z_goto (tgt := 29) C dX1_faultsNow_25 (by decide) ?_
        refine z_iadd C dX1_faultsNow_29 ?_
        refine z_istore_n (L' := [(1, .int ((rfltN (rf v) i) + 1)), (0, .ref (gg 0)), (2, .int (nI i))]) C dX1_faultsNow_30 rfl (by decide) rfl ?_
        refine z_iinc (v := nI (i + 1)) (L' := [(2, .int (nI (i + 1))), (1, .int ((rfltN (rf v) i) + 1)), (0, .ref (gg 0))]) C 2 dX1_faultsNow_31 rfl (z_inc _) (by decide) rfl ?_
        refine z_goto (tgt := 4) C dX1_faultsNow_34 (by decide) ?_
        refine z_sub (L' := [(0, .ref (gg 0)), (1, .int ((rfltN (rf v) i) + 1)), (2, .int (nI (i + 1)))]) [2, 1, 0] rfl ?_
        exact (by have e9 := ih (i + 1) (by omega); simp only [rfltN, c21, ↓reduceIte] at e9; exact e9)
  refine z_iconst (v := 0) C dX1_faultsNow_0 (by decide) ?_
  refine z_istore_n (L' := [(1, .int 0), (0, .ref (gg 0))]) C dX1_faultsNow_1 rfl (by decide) rfl ?_
  refine z_iconst (v := 0) C dX1_faultsNow_2 (by decide) ?_
  refine z_istore_n (L' := [(2, .int 0), (1, .int 0), (0, .ref (gg 0))]) C dX1_faultsNow_3 rfl (by decide) rfl ?_
  refine z_sub (L' := [(0, .ref (gg 0)), (1, .int 0), (2, .int 0)]) [2, 1, 0] rfl ?_
  exact lp4 k 0 (by omega)
set_option maxHeartbeats 4000000 in
set_option maxRecDepth 100000 in
theorem c_X1_auditNow (l : Launch) (D : va_G) (gg : Nat → Nat) (cI : ClassId) (v : S1) (k : Nat) (W : Nat → Nat) (hL : rL (rf v) k W) : zM l yX1_auditNow wsX1_auditNow 2 44 0 0 [.ref (gg 0)] [(cI, .int)] D (wX1 gg cI v) (wX1 gg cI (vf v (raud (rf v) k W))) (some (.int (rfltN (rf v) k))) := by
  refine z_met (cc := cX1_auditNow) (maxL := 3) (ret := (some .int)) (by decide) rfl (Nat.le_of_ble_eq_true rfl) ?_
  intro p e s m args below meth c A C hr hlocks
  have inl : ∀ w ∈ u_ws RX1 TX1 4, w ∈ wsX1_auditNow := by decide +kernel
  have wd0 : Cond.fieldLink RX1 9 "SaltOrderModel" "now" "[I" ∈ wsX1_auditNow := by decide +kernel
  have wd1 : Cond.methodLink RX1 57 Lib.Math.min.name ∈ wsX1_auditNow := by decide +kernel
  have wd2 : Cond.static Lib.Math.min.name ∈ wsX1_auditNow := by decide +kernel
  have wd3 : Cond.initialized "java/lang/Math" ∈ wsX1_auditNow := by decide +kernel
  have wd4 : Cond.code Lib.Math.min.name Lib.Math.min.code 2 (some .int) ∈ wsX1_auditNow := by decide +kernel
  refine z_sub (L' := [(0, .ref (gg 0))]) [0] rfl ?_
  have hk := hL.1
  have hk30 := hL.2.1
  have lp7 : ∀ (dd i : Nat), i + dd = k → zG p l e ({ frames := 2, cells := 0, slots := 0, locals := 44 } : Room) s m args below meth c D 3 A 0 0 (MQ below (zQ (some (.int (rfltN (rf v) k))) (fun t => va_P D vwCl (wX1 gg cI (vf v (raud (rf v) k W))) t.heap) A) args s 0 0 A) 7 [(0, .ref (gg 0)), (1, .int (rfltN (rf v) k)), (2, .int (nI i))] [] (wX1 gg cI (rt v, rn v, raudN (rf v) W i, rk v)) := by
    intro dd
    induction dd with
    | zero =>
      intro i hi
      obtain rfl : k = i := by omega
      have hLi := raudN_3 hL (Nat.le_refl k)
      refine z_iload_n C 2 dX1_auditNow_7 rfl rfl ?_
      refine z_aload_n C 0 dX1_auditNow_8 rfl rfl ?_
      refine z_get1 (v := .ref (gg 1)) C inl 0 2 (by decide) rfl rfl wd0 dX1_auditNow_9 ?_
      refine z_iconst (v := 3) C dX1_auditNow_12 (by decide) ?_
      refine z_iald (f := raudN (rf v) W k) C 1 0 rfl rfl 3 rfl (by omega) (by decide) dX1_auditNow_13 ?_
      refine z_icmp_ge (tgt := 59) C dX1_auditNow_14 (by decide) (fun _ => ?_) (fun h9 => absurd ((by rw [show _ = nI k from hLi.1]; exact nI_le (by omega) (by omega))) h9)
      refine z_aload_n C 0 dX1_auditNow_59 rfl rfl ?_
      refine z_get1 (v := .ref (gg 1)) C inl 0 2 (by decide) rfl rfl wd0 dX1_auditNow_60 ?_
      refine z_iconst (v := 3) C dX1_auditNow_63 (by decide) ?_
      refine z_iconst (v := 0) C dX1_auditNow_64 (by decide) ?_
      refine z_iast (ws' := (wX1 gg cI (rt v, rn v, upd (raudN (rf v) W k) 3 0, rk v))) C 1 0 rfl rfl 3 rfl (by omega) (by decide) rfl dX1_auditNow_65 ?_
      refine z_aload_n C 0 dX1_auditNow_66 rfl rfl ?_
      refine z_get1 (v := .ref (gg 1)) C inl 0 2 (by decide) rfl rfl wd0 dX1_auditNow_67 ?_
      refine z_iconst (v := 2) C dX1_auditNow_70 (by decide) ?_
      refine z_dup2 C dX1_auditNow_71 rfl rfl ?_
      refine z_iald (f := upd (raudN (rf v) W k) 3 0) C 1 0 rfl rfl 2 rfl (by omega) (by decide) dX1_auditNow_72 ?_
      refine z_iload_n C 1 dX1_auditNow_73 rfl rfl ?_
      refine z_iadd C dX1_auditNow_74 ?_
      refine z_iast (ws' := (wX1 gg cI (rt v, rn v, upd (upd (raudN (rf v) W k) 3 0) 2 (((upd (raudN (rf v) W k) 3 0) 2) + (rfltN (rf v) k)), rk v))) C 1 0 rfl rfl 2 rfl (by omega) (by decide) rfl dX1_auditNow_75 ?_
      refine z_iload_n C 1 dX1_auditNow_76 rfl rfl ?_
      exact z_iret C hr hlocks (Nat.le_of_ble_eq_true rfl) (Nat.le_of_ble_eq_true rfl) dX1_auditNow_77 rfl (congrArg (wX1 gg cI) (by first | rfl | (simp only [vf, raud, ↓reduceIte]; done) | (simp only [vf, raud, ↓reduceIte]; rfl)))
    | succ dd ih =>
      intro i hi
      have hLi := raudN_3 hL (i := i) (by omega)
      have hWi := hLi.2.2 i (by omega)
      refine z_iload_n C 2 dX1_auditNow_7 rfl rfl ?_
      refine z_aload_n C 0 dX1_auditNow_8 rfl rfl ?_
      refine z_get1 (v := .ref (gg 1)) C inl 0 2 (by decide) rfl rfl wd0 dX1_auditNow_9 ?_
      refine z_iconst (v := 3) C dX1_auditNow_12 (by decide) ?_
      refine z_iald (f := raudN (rf v) W i) C 1 0 rfl rfl 3 rfl (by omega) (by decide) dX1_auditNow_13 ?_
      refine z_icmp_ge (tgt := 59) C dX1_auditNow_14 (by decide) (fun h9 => absurd h9 ((by rw [show _ = nI k from hLi.1]; exact nI_ge (by omega) (by omega)))) (fun _ => ?_)
      refine z_aload_n C 0 dX1_auditNow_17 rfl rfl ?_
      refine z_aload_n C 0 dX1_auditNow_18 rfl rfl ?_
      refine z_iload_n C 2 dX1_auditNow_19 rfl rfl ?_
      refine z_iconst (v := 0) C dX1_auditNow_20 (by decide) ?_
      refine z_callV (w := (wX1 gg cI (rt v, rn v, raudN (rf v) W i, rk v))) (w' := (wX1 gg cI (rt v, rn v, raudN (rf v) W i, rk v))) (w1 := ([] : va_W)) (w2 := ([] : va_W)) (ws' := (wX1 gg cI (rt v, rn v, raudN (rf v) W i, rk v))) (As := [.int (nI i), .int 0]) (rest := [.ref (gg 0)]) (st' := [.int ((raudN (rf v) W i) (ti i 0)), .ref (gg 0)]) (rv := some (.int ((raudN (rf v) W i) (ti i 0)))) C (c_X1_th l D gg cI (rt v, rn v, raudN (rf v) W i, rk v) i 0 (by omega) (by omega)) (cwV 2 C.words gX1_auditNow_X1_th rfl rfl rfl (by decide +kernel) ⟨(Nat.le_of_ble_eq_true rfl), (Nat.le_of_ble_eq_true rfl)⟩) (q0 := 0) (ci := 1) rfl rfl rfl [0] rfl rfl (Nat.le_of_ble_eq_true rfl) ⟨(Nat.le_of_ble_eq_true rfl), (Nat.le_of_ble_eq_true rfl)⟩ rfl rfl rfl rfl rfl dX1_auditNow_21 ?_
      refine z_top (y := nI (W i)) hWi.1 ?_
      refine z_iconst (v := 1) C dX1_auditNow_24 (by decide) ?_
      refine z_bipush (v := 99) C dX1_auditNow_25 (by decide) ?_
      refine z_aload_n C 0 dX1_auditNow_27 rfl rfl ?_
      refine z_aload_n C 0 dX1_auditNow_28 rfl rfl ?_
      refine z_iload_n C 2 dX1_auditNow_29 rfl rfl ?_
      refine z_iconst (v := 0) C dX1_auditNow_30 (by decide) ?_
      refine z_callV (w := (wX1 gg cI (rt v, rn v, raudN (rf v) W i, rk v))) (w' := (wX1 gg cI (rt v, rn v, raudN (rf v) W i, rk v))) (w1 := ([] : va_W)) (w2 := ([] : va_W)) (ws' := (wX1 gg cI (rt v, rn v, raudN (rf v) W i, rk v))) (As := [.int (nI i), .int 0]) (rest := [.ref (gg 0), .int 99, .int 1, .int (nI (W i)), .ref (gg 0)]) (st' := [.int ((raudN (rf v) W i) (ti i 0)), .ref (gg 0), .int 99, .int 1, .int (nI (W i)), .ref (gg 0)]) (rv := some (.int ((raudN (rf v) W i) (ti i 0)))) C (c_X1_th l D gg cI (rt v, rn v, raudN (rf v) W i, rk v) i 0 (by omega) (by omega)) (cwV 2 C.words gX1_auditNow_X1_th rfl rfl rfl (by decide +kernel) ⟨(Nat.le_of_ble_eq_true rfl), (Nat.le_of_ble_eq_true rfl)⟩) (q0 := 0) (ci := 1) rfl rfl rfl [0] rfl rfl (Nat.le_of_ble_eq_true rfl) ⟨(Nat.le_of_ble_eq_true rfl), (Nat.le_of_ble_eq_true rfl)⟩ rfl rfl rfl rfl rfl dX1_auditNow_31 ?_
      refine z_top (y := nI (W i)) hWi.1 ?_
      refine z_iconst (v := 1) C dX1_auditNow_34 (by decide) ?_
      refine z_callV (w := (wX1 gg cI (rt v, rn v, raudN (rf v) W i, rk v))) (w' := (wX1 gg cI (rt v, rn v, raudN (rf v) W i, rk v))) (w1 := ([] : va_W)) (w2 := ([] : va_W)) (ws' := (wX1 gg cI (rt v, rn v, raudN (rf v) W i, rk v))) (As := [.int (nI (W i)), .int 1]) (rest := [.int 99, .int 1, .int (nI (W i)), .ref (gg 0)]) (st' := [.int ((raudN (rf v) W i) (mi (W i) 1)), .int 99, .int 1, .int (nI (W i)), .ref (gg 0)]) (rv := some (.int ((raudN (rf v) W i) (mi (W i) 1)))) C (c_X1_me l D gg cI (rt v, rn v, raudN (rf v) W i, rk v) (W i) 1 hWi.2 (by omega)) (cwV 2 C.words gX1_auditNow_X1_me rfl rfl rfl (by decide +kernel) ⟨(Nat.le_of_ble_eq_true rfl), (Nat.le_of_ble_eq_true rfl)⟩) (q0 := 0) (ci := 1) rfl rfl rfl [0] rfl rfl (Nat.le_of_ble_eq_true rfl) ⟨(Nat.le_of_ble_eq_true rfl), (Nat.le_of_ble_eq_true rfl)⟩ rfl rfl rfl rfl rfl dX1_auditNow_35 ?_
      refine z_iconst (v := 2) C dX1_auditNow_38 (by decide) ?_
      refine z_aload_n C 0 dX1_auditNow_39 rfl rfl ?_
      refine z_iload_n C 2 dX1_auditNow_40 rfl rfl ?_
      refine z_iconst (v := 3) C dX1_auditNow_41 (by decide) ?_
      refine z_callV (w := (wX1 gg cI (rt v, rn v, raudN (rf v) W i, rk v))) (w' := (wX1 gg cI (rt v, rn v, raudN (rf v) W i, rk v))) (w1 := ([] : va_W)) (w2 := ([] : va_W)) (ws' := (wX1 gg cI (rt v, rn v, raudN (rf v) W i, rk v))) (As := [.int (nI i), .int 3]) (rest := [.int 2, .int ((raudN (rf v) W i) (mi (W i) 1)), .int 99, .int 1, .int (nI (W i)), .ref (gg 0)]) (st' := [.int ((raudN (rf v) W i) (ti i 3)), .int 2, .int ((raudN (rf v) W i) (mi (W i) 1)), .int 99, .int 1, .int (nI (W i)), .ref (gg 0)]) (rv := some (.int ((raudN (rf v) W i) (ti i 3)))) C (c_X1_th l D gg cI (rt v, rn v, raudN (rf v) W i, rk v) i 3 (by omega) (by omega)) (cwV 2 C.words gX1_auditNow_X1_th rfl rfl rfl (by decide +kernel) ⟨(Nat.le_of_ble_eq_true rfl), (Nat.le_of_ble_eq_true rfl)⟩) (q0 := 0) (ci := 1) rfl rfl rfl [0] rfl rfl (Nat.le_of_ble_eq_true rfl) ⟨(Nat.le_of_ble_eq_true rfl), (Nat.le_of_ble_eq_true rfl)⟩ rfl rfl rfl rfl rfl dX1_auditNow_42 ?_
      refine z_imul C dX1_auditNow_45 ?_
      refine z_iadd C dX1_auditNow_46 ?_
      refine z_mmin C wd1 wd2 wd3 wd4 (Nat.le_of_ble_eq_true rfl) (Nat.le_of_ble_eq_true rfl) (Nat.le_of_ble_eq_true rfl) (Nat.le_of_ble_eq_true rfl) dX1_auditNow_47 ?_
      obtain ⟨v1, hv1⟩ : ∃ z, z = vf (rt v, rn v, raudN (rf v) W i, rk v) (upd (raudN (rf v) W i) (mi (W i) 1) (imin 99 (((raudN (rf v) W i) (mi (W i) 1)) + (2 * ((raudN (rf v) W i) (ti i 3)))))) := ⟨_, rfl⟩
      refine z_callV (w := (wX1 gg cI (rt v, rn v, raudN (rf v) W i, rk v))) (w' := (wX1 gg cI v1)) (w1 := ([] : va_W)) (w2 := ([] : va_W)) (ws' := (wX1 gg cI v1)) (As := [.int (nI (W i)), .int 1, .int (imin 99 (((raudN (rf v) W i) (mi (W i) 1)) + (2 * ((raudN (rf v) W i) (ti i 3)))))]) (rest := []) (st' := []) (rv := none) C (by rw [hv1]; exact c_X1_let l D gg cI (rt v, rn v, raudN (rf v) W i, rk v) (W i) 1 (imin 99 (((raudN (rf v) W i) (mi (W i) 1)) + (2 * ((raudN (rf v) W i) (ti i 3))))) hWi.2 (by omega)) (cwV 3 C.words gX1_auditNow_X1_let rfl rfl rfl (by decide +kernel) ⟨(Nat.le_of_ble_eq_true rfl), (Nat.le_of_ble_eq_true rfl)⟩) (q0 := 0) (ci := 1) rfl rfl rfl [0] rfl rfl (Nat.le_of_ble_eq_true rfl) ⟨(Nat.le_of_ble_eq_true rfl), (Nat.le_of_ble_eq_true rfl)⟩ rfl rfl rfl rfl rfl dX1_auditNow_50 ?_
      refine z_iinc (v := nI (i + 1)) (L' := [(2, .int (nI (i + 1))), (0, .ref (gg 0)), (1, .int (rfltN (rf v) k))]) C 2 dX1_auditNow_53 rfl (z_inc _) (by decide) rfl ?_
      refine z_goto (tgt := 7) C dX1_auditNow_56 (by decide) ?_
      refine z_sub (L' := [(0, .ref (gg 0)), (1, .int (rfltN (rf v) k)), (2, .int (nI (i + 1)))]) [1, 2, 0] rfl ?_
      subst hv1
      exact ih (i + 1) (by omega)
  refine z_aload_n C 0 dX1_auditNow_0 rfl rfl ?_
  refine z_callV (w := (wX1 gg cI v)) (w' := (wX1 gg cI v)) (w1 := ([] : va_W)) (w2 := ([] : va_W)) (ws' := (wX1 gg cI v)) (As := []) (rest := []) (st' := [.int (rfltN (rf v) k)]) (rv := some (.int (rfltN (rf v) k))) C (c_X1_faultsNow l D gg cI v k W hL) (cwV 0 C.words gX1_auditNow_X1_faultsNow rfl rfl rfl (by decide +kernel) ⟨(Nat.le_of_ble_eq_true rfl), (Nat.le_of_ble_eq_true rfl)⟩) (q0 := 0) (ci := 1) rfl rfl rfl [0] rfl rfl (Nat.le_of_ble_eq_true rfl) ⟨(Nat.le_of_ble_eq_true rfl), (Nat.le_of_ble_eq_true rfl)⟩ rfl rfl rfl rfl rfl dX1_auditNow_1 ?_
  refine z_istore_n (L' := [(1, .int (rfltN (rf v) k)), (0, .ref (gg 0))]) C dX1_auditNow_4 rfl (by decide) rfl ?_
  refine z_iconst (v := 0) C dX1_auditNow_5 (by decide) ?_
  refine z_istore_n (L' := [(2, .int 0), (1, .int (rfltN (rf v) k)), (0, .ref (gg 0))]) C dX1_auditNow_6 rfl (by decide) rfl ?_
  refine z_sub (L' := [(0, .ref (gg 0)), (1, .int (rfltN (rf v) k)), (2, .int 0)]) [2, 1, 0] rfl ?_
  exact lp7 k 0 (by omega)
set_option maxHeartbeats 4000000 in
set_option maxRecDepth 100000 in
theorem c_X1_loss (l : Launch) (D : va_G) (gg : Nat → Nat) (cI : ClassId) (v : S1) (j : Nat) (hj : j < 8) : zM l yX1_loss wsX1_loss 1 22 0 0 [.ref (gg 0), .int (nI j)] [(cI, .int)] D (wX1 gg cI v) (wX1 gg cI v) (some (.int (rloss (rf v) j))) := by
  refine z_met (cc := cX1_loss) (maxL := 2) (ret := (some .int)) (by decide) rfl (Nat.le_of_ble_eq_true rfl) ?_
  intro p e s m args below meth c A C hr hlocks
  have inl : ∀ w ∈ u_ws RX1 TX1 4, w ∈ wsX1_loss := by decide +kernel
  refine z_sub (L' := [(0, .ref (gg 0)), (1, .int (nI j))]) [0, 1] rfl ?_
  refine z_aload_n C 0 dX1_loss_0 rfl rfl ?_
  refine z_iload_n C 1 dX1_loss_1 rfl rfl ?_
  refine z_iconst (v := 2) C dX1_loss_2 (by decide) ?_
  refine z_callV (w := (wX1 gg cI v)) (w' := (wX1 gg cI v)) (w1 := ([] : va_W)) (w2 := ([] : va_W)) (ws' := (wX1 gg cI v)) (As := [.int (nI j), .int 2]) (rest := []) (st' := [.int ((rf v) (mi j 2))]) (rv := some (.int ((rf v) (mi j 2)))) C (c_X1_me l D gg cI v j 2 (by omega) (by omega)) (cwV 2 C.words gX1_loss_X1_me rfl rfl rfl (by decide +kernel) ⟨(Nat.le_of_ble_eq_true rfl), (Nat.le_of_ble_eq_true rfl)⟩) (q0 := 0) (ci := 1) rfl rfl rfl [0] rfl rfl (Nat.le_of_ble_eq_true rfl) ⟨(Nat.le_of_ble_eq_true rfl), (Nat.le_of_ble_eq_true rfl)⟩ rfl rfl rfl rfl rfl dX1_loss_3 ?_
  refine z_if_le (tgt := 13) C dX1_loss_6 (by decide) (fun c6 => ?_) (fun c6 => ?_)
  · skip
    refine z_aload_n C 0 dX1_loss_13 rfl rfl ?_
    refine z_iload_n C 1 dX1_loss_14 rfl rfl ?_
    refine z_iconst (v := 1) C dX1_loss_15 (by decide) ?_
    refine z_callV (w := (wX1 gg cI v)) (w' := (wX1 gg cI v)) (w1 := ([] : va_W)) (w2 := ([] : va_W)) (ws' := (wX1 gg cI v)) (As := [.int (nI j), .int 1]) (rest := []) (st' := [.int ((rf v) (mi j 1))]) (rv := some (.int ((rf v) (mi j 1)))) C (c_X1_me l D gg cI v j 1 (by omega) (by omega)) (cwV 2 C.words gX1_loss_X1_me rfl rfl rfl (by decide +kernel) ⟨(Nat.le_of_ble_eq_true rfl), (Nat.le_of_ble_eq_true rfl)⟩) (q0 := 0) (ci := 1) rfl rfl rfl [0] rfl rfl (Nat.le_of_ble_eq_true rfl) ⟨(Nat.le_of_ble_eq_true rfl), (Nat.le_of_ble_eq_true rfl)⟩ rfl rfl rfl rfl rfl dX1_loss_16 ?_
    refine z_bipush (v := 9) C dX1_loss_19 (by decide) ?_
    refine z_iadd C dX1_loss_21 ?_
    refine z_bipush (v := 10) C dX1_loss_22 (by decide) ?_
    refine z_idiv C dX1_loss_24 (by decide) ?_
    exact z_iret C hr hlocks (Nat.le_of_ble_eq_true rfl) (Nat.le_of_ble_eq_true rfl) dX1_loss_25 (by first | rfl | (simp only [rloss, c6, ↓reduceIte]; done) | (simp only [rloss, c6, ↓reduceIte]; rfl)) rfl
  · skip
    refine z_iconst (v := 0) C dX1_loss_9 (by decide) ?_
    refine z_goto (tgt := 25) C dX1_loss_10 (by decide) ?_
    exact z_iret C hr hlocks (Nat.le_of_ble_eq_true rfl) (Nat.le_of_ble_eq_true rfl) dX1_loss_25 (by first | rfl | (simp only [rloss, c6, ↓reduceIte]; done) | (simp only [rloss, c6, ↓reduceIte]; rfl)) rfl
set_option maxHeartbeats 4000000 in
set_option maxRecDepth 100000 in
theorem c_X1_dayOn (l : Launch) (D : va_G) (gg : Nat → Nat) (cI : ClassId) (v : S1) (k : Nat) (W : Nat → Nat) (hL : rL (rf v) k W) (hn : (rn v) ≤ 8) : zM l yX1_dayOn wsX1_dayOn 3 66 0 0 [.ref (gg 0)] [(cI, .int)] D (wX1 gg cI v) (wX1 gg cI (vf v (rday (rf v) (rn v) k W))) (some (.int (rdayF (rf v) k))) := by
  refine z_met (cc := cX1_dayOn) (maxL := 3) (ret := (some .int)) (by decide) rfl (Nat.le_of_ble_eq_true rfl) ?_
  intro p e s m args below meth c A C hr hlocks
  have inl : ∀ w ∈ u_ws RX1 TX1 4, w ∈ wsX1_dayOn := by decide +kernel
  have wd0 : Cond.fieldLink RX1 20 "SaltOrderModel" "members" "I" ∈ wsX1_dayOn := by decide +kernel
  have wd1 : Cond.fieldLink RX1 9 "SaltOrderModel" "now" "[I" ∈ wsX1_dayOn := by decide +kernel
  have wd2 : Cond.methodLink RX1 57 Lib.Math.min.name ∈ wsX1_dayOn := by decide +kernel
  have wd3 : Cond.static Lib.Math.min.name ∈ wsX1_dayOn := by decide +kernel
  have wd4 : Cond.initialized "java/lang/Math" ∈ wsX1_dayOn := by decide +kernel
  have wd5 : Cond.code Lib.Math.min.name Lib.Math.min.code 2 (some .int) ∈ wsX1_dayOn := by decide +kernel
  have wd6 : Cond.methodLink RX1 37 Lib.Math.max.name ∈ wsX1_dayOn := by decide +kernel
  have wd7 : Cond.static Lib.Math.max.name ∈ wsX1_dayOn := by decide +kernel
  have wd8 : Cond.code Lib.Math.max.name Lib.Math.max.code 2 (some .int) ∈ wsX1_dayOn := by decide +kernel
  refine z_sub (L' := [(0, .ref (gg 0))]) [0] rfl ?_
  have hk := hL.1
  have hk30 := hL.2.1
  have lp25 : ∀ (dd i : Nat), i + dd = rn v → zG p l e ({ frames := 3, cells := 0, slots := 0, locals := 66 } : Room) s m args below meth c D 3 A 0 0 (MQ below (zQ (some (.int (rdayF (rf v) k))) (fun t => va_P D vwCl (wX1 gg cI (vf v (rday (rf v) (rn v) k W))) t.heap) A) args s 0 0 A) 25 [(0, .ref (gg 0)), (1, .int (rdayF (rf v) k)), (2, .int (nI i))] [] (wX1 gg cI (rt v, rn v, rrowN (rday1 (rf v) k W) i, rk v)) := by
    intro dd
    induction dd with
    | zero =>
      intro i hi
      have hi : i = rn v := by omega
      subst hi
      refine z_iload_n C 2 dX1_dayOn_25 rfl rfl ?_
      refine z_aload_n C 0 dX1_dayOn_26 rfl rfl ?_
      refine z_get1 (v := .int (nI (rn v))) C inl 0 1 (by decide) rfl rfl wd0 dX1_dayOn_27 ?_
      refine z_icmp_ge (tgt := 136) C dX1_dayOn_30 (by decide) (fun _ => ?_) (fun h9 => absurd (nI_le (by omega) (by omega)) h9)
      refine z_aload_n C 0 dX1_dayOn_136 rfl rfl ?_
      refine z_get1 (v := .ref (gg 1)) C inl 0 2 (by decide) rfl rfl wd1 dX1_dayOn_137 ?_
      refine z_iconst (v := 0) C dX1_dayOn_140 (by decide) ?_
      refine z_dup2 C dX1_dayOn_141 rfl rfl ?_
      refine z_iald (f := rrowN (rday1 (rf v) k W) (rn v)) C 1 0 rfl rfl 0 rfl (by omega) (by decide) dX1_dayOn_142 ?_
      refine z_iconst (v := 1) C dX1_dayOn_143 (by decide) ?_
      refine z_iadd C dX1_dayOn_144 ?_
      refine z_iast (ws' := (wX1 gg cI (rt v, rn v, upd (rrowN (rday1 (rf v) k W) (rn v)) 0 (((rrowN (rday1 (rf v) k W) (rn v)) 0) + 1), rk v))) C 1 0 rfl rfl 0 rfl (by omega) (by decide) rfl dX1_dayOn_145 ?_
      refine z_iload_n C 1 dX1_dayOn_146 rfl rfl ?_
      exact z_iret C hr hlocks (Nat.le_of_ble_eq_true rfl) (Nat.le_of_ble_eq_true rfl) dX1_dayOn_147 rfl (congrArg (wX1 gg cI) (by first | rfl | (simp only [vf, rday, ↓reduceIte]; done) | (simp only [vf, rday, ↓reduceIte]; rfl)))
    | succ dd ih =>
      intro i hi
      refine z_iload_n C 2 dX1_dayOn_25 rfl rfl ?_
      refine z_aload_n C 0 dX1_dayOn_26 rfl rfl ?_
      refine z_get1 (v := .int (nI (rn v))) C inl 0 1 (by decide) rfl rfl wd0 dX1_dayOn_27 ?_
      refine z_icmp_ge (tgt := 136) C dX1_dayOn_30 (by decide) (fun h9 => absurd h9 (nI_ge (by omega) (by omega))) (fun _ => ?_)
      refine z_aload_n C 0 dX1_dayOn_33 rfl rfl ?_
      refine z_iload_n C 2 dX1_dayOn_34 rfl rfl ?_
      refine z_iconst (v := 2) C dX1_dayOn_35 (by decide) ?_
      refine z_callV (w := (wX1 gg cI (rt v, rn v, rrowN (rday1 (rf v) k W) i, rk v))) (w' := (wX1 gg cI (rt v, rn v, rrowN (rday1 (rf v) k W) i, rk v))) (w1 := ([] : va_W)) (w2 := ([] : va_W)) (ws' := (wX1 gg cI (rt v, rn v, rrowN (rday1 (rf v) k W) i, rk v))) (As := [.int (nI i), .int 2]) (rest := []) (st' := [.int ((rrowN (rday1 (rf v) k W) i) (mi i 2))]) (rv := some (.int ((rrowN (rday1 (rf v) k W) i) (mi i 2)))) C (c_X1_me l D gg cI (rt v, rn v, rrowN (rday1 (rf v) k W) i, rk v) i 2 (by omega) (by omega)) (cwV 2 C.words gX1_dayOn_X1_me rfl rfl rfl (by decide +kernel) ⟨(Nat.le_of_ble_eq_true rfl), (Nat.le_of_ble_eq_true rfl)⟩) (q0 := 0) (ci := 1) rfl rfl rfl [0] rfl rfl (Nat.le_of_ble_eq_true rfl) ⟨(Nat.le_of_ble_eq_true rfl), (Nat.le_of_ble_eq_true rfl)⟩ rfl rfl rfl rfl rfl dX1_dayOn_36 ?_
      refine z_if_le (tgt := 77) C dX1_dayOn_39 (by decide) (fun c39 => ?_) (fun c39 => ?_)
      · skip
        refine z_aload_n C 0 dX1_dayOn_77 rfl rfl ?_
        refine z_iload_n C 2 dX1_dayOn_78 rfl rfl ?_
        refine z_iconst (v := 1) C dX1_dayOn_79 (by decide) ?_
        refine z_callV (w := (wX1 gg cI (rt v, rn v, rrowN (rday1 (rf v) k W) i, rk v))) (w' := (wX1 gg cI (rt v, rn v, rrowN (rday1 (rf v) k W) i, rk v))) (w1 := ([] : va_W)) (w2 := ([] : va_W)) (ws' := (wX1 gg cI (rt v, rn v, rrowN (rday1 (rf v) k W) i, rk v))) (As := [.int (nI i), .int 1]) (rest := []) (st' := [.int ((rrowN (rday1 (rf v) k W) i) (mi i 1))]) (rv := some (.int ((rrowN (rday1 (rf v) k W) i) (mi i 1)))) C (c_X1_me l D gg cI (rt v, rn v, rrowN (rday1 (rf v) k W) i, rk v) i 1 (by omega) (by omega)) (cwV 2 C.words gX1_dayOn_X1_me rfl rfl rfl (by decide +kernel) ⟨(Nat.le_of_ble_eq_true rfl), (Nat.le_of_ble_eq_true rfl)⟩) (q0 := 0) (ci := 1) rfl rfl rfl [0] rfl rfl (Nat.le_of_ble_eq_true rfl) ⟨(Nat.le_of_ble_eq_true rfl), (Nat.le_of_ble_eq_true rfl)⟩ rfl rfl rfl rfl rfl dX1_dayOn_80 ?_
        refine z_if_le (tgt := 111) C dX1_dayOn_83 (by decide) (fun c83 => ?_) (fun c83 => ?_)
        · skip
          refine z_aload_n C 0 dX1_dayOn_111 rfl rfl ?_
          refine z_iload_n C 2 dX1_dayOn_112 rfl rfl ?_
          refine z_iconst (v := 0) C dX1_dayOn_113 (by decide) ?_
          refine z_bipush (v := 100) C dX1_dayOn_114 (by decide) ?_
          refine z_aload_n C 0 dX1_dayOn_116 rfl rfl ?_
          refine z_iload_n C 2 dX1_dayOn_117 rfl rfl ?_
          refine z_iconst (v := 0) C dX1_dayOn_118 (by decide) ?_
          refine z_callV (w := (wX1 gg cI (rt v, rn v, rrowN (rday1 (rf v) k W) i, rk v))) (w' := (wX1 gg cI (rt v, rn v, rrowN (rday1 (rf v) k W) i, rk v))) (w1 := ([] : va_W)) (w2 := ([] : va_W)) (ws' := (wX1 gg cI (rt v, rn v, rrowN (rday1 (rf v) k W) i, rk v))) (As := [.int (nI i), .int 0]) (rest := [.int 100, .int 0, .int (nI i), .ref (gg 0)]) (st' := [.int ((rrowN (rday1 (rf v) k W) i) (mi i 0)), .int 100, .int 0, .int (nI i), .ref (gg 0)]) (rv := some (.int ((rrowN (rday1 (rf v) k W) i) (mi i 0)))) C (c_X1_me l D gg cI (rt v, rn v, rrowN (rday1 (rf v) k W) i, rk v) i 0 (by omega) (by omega)) (cwV 2 C.words gX1_dayOn_X1_me rfl rfl rfl (by decide +kernel) ⟨(Nat.le_of_ble_eq_true rfl), (Nat.le_of_ble_eq_true rfl)⟩) (q0 := 0) (ci := 1) rfl rfl rfl [0] rfl rfl (Nat.le_of_ble_eq_true rfl) ⟨(Nat.le_of_ble_eq_true rfl), (Nat.le_of_ble_eq_true rfl)⟩ rfl rfl rfl rfl rfl dX1_dayOn_119 ?_
          refine z_iconst (v := 1) C dX1_dayOn_122 (by decide) ?_
          refine z_iadd C dX1_dayOn_123 ?_
          refine z_mmin C wd2 wd3 wd4 wd5 (Nat.le_of_ble_eq_true rfl) (Nat.le_of_ble_eq_true rfl) (Nat.le_of_ble_eq_true rfl) (Nat.le_of_ble_eq_true rfl) dX1_dayOn_124 ?_
          obtain ⟨v1, hv1⟩ : ∃ z, z = vf (rt v, rn v, rrowN (rday1 (rf v) k W) i, rk v) (upd (rrowN (rday1 (rf v) k W) i) (mi i 0) (imin 100 (((rrowN (rday1 (rf v) k W) i) (mi i 0)) + 1))) := ⟨_, rfl⟩
          refine z_callV (w := (wX1 gg cI (rt v, rn v, rrowN (rday1 (rf v) k W) i, rk v))) (w' := (wX1 gg cI v1)) (w1 := ([] : va_W)) (w2 := ([] : va_W)) (ws' := (wX1 gg cI v1)) (As := [.int (nI i), .int 0, .int (imin 100 (((rrowN (rday1 (rf v) k W) i) (mi i 0)) + 1))]) (rest := []) (st' := []) (rv := none) C (by rw [hv1]; exact c_X1_let l D gg cI (rt v, rn v, rrowN (rday1 (rf v) k W) i, rk v) i 0 (imin 100 (((rrowN (rday1 (rf v) k W) i) (mi i 0)) + 1)) (by omega) (by omega)) (cwV 3 C.words gX1_dayOn_X1_let rfl rfl rfl (by decide +kernel) ⟨(Nat.le_of_ble_eq_true rfl), (Nat.le_of_ble_eq_true rfl)⟩) (q0 := 0) (ci := 1) rfl rfl rfl [0] rfl rfl (Nat.le_of_ble_eq_true rfl) ⟨(Nat.le_of_ble_eq_true rfl), (Nat.le_of_ble_eq_true rfl)⟩ rfl rfl rfl rfl rfl dX1_dayOn_127 ?_
          refine z_iinc (v := nI (i + 1)) (L' := [(2, .int (nI (i + 1))), (0, .ref (gg 0)), (1, .int (rdayF (rf v) k))]) C 2 dX1_dayOn_130 rfl (z_inc _) (by decide) rfl ?_
          refine z_goto (tgt := 25) C dX1_dayOn_133 (by decide) ?_
          refine z_sub (L' := [(0, .ref (gg 0)), (1, .int (rdayF (rf v) k)), (2, .int (nI (i + 1)))]) [1, 2, 0] rfl ?_
          subst hv1
          exact (by have e9 := ih (i + 1) (by omega); rw [show rrowN (rday1 (rf v) k W) (i + 1) = _ from (if_pos c39).trans (if_pos c83)] at e9; exact e9)
        · skip
          refine z_aload_n C 0 dX1_dayOn_86 rfl rfl ?_
          refine z_iload_n C 2 dX1_dayOn_87 rfl rfl ?_
          refine z_iconst (v := 0) C dX1_dayOn_88 (by decide) ?_
          refine z_iconst (v := 0) C dX1_dayOn_89 (by decide) ?_
          refine z_aload_n C 0 dX1_dayOn_90 rfl rfl ?_
          refine z_iload_n C 2 dX1_dayOn_91 rfl rfl ?_
          refine z_iconst (v := 0) C dX1_dayOn_92 (by decide) ?_
          refine z_callV (w := (wX1 gg cI (rt v, rn v, rrowN (rday1 (rf v) k W) i, rk v))) (w' := (wX1 gg cI (rt v, rn v, rrowN (rday1 (rf v) k W) i, rk v))) (w1 := ([] : va_W)) (w2 := ([] : va_W)) (ws' := (wX1 gg cI (rt v, rn v, rrowN (rday1 (rf v) k W) i, rk v))) (As := [.int (nI i), .int 0]) (rest := [.int 0, .int 0, .int (nI i), .ref (gg 0)]) (st' := [.int ((rrowN (rday1 (rf v) k W) i) (mi i 0)), .int 0, .int 0, .int (nI i), .ref (gg 0)]) (rv := some (.int ((rrowN (rday1 (rf v) k W) i) (mi i 0)))) C (c_X1_me l D gg cI (rt v, rn v, rrowN (rday1 (rf v) k W) i, rk v) i 0 (by omega) (by omega)) (cwV 2 C.words gX1_dayOn_X1_me rfl rfl rfl (by decide +kernel) ⟨(Nat.le_of_ble_eq_true rfl), (Nat.le_of_ble_eq_true rfl)⟩) (q0 := 0) (ci := 1) rfl rfl rfl [0] rfl rfl (Nat.le_of_ble_eq_true rfl) ⟨(Nat.le_of_ble_eq_true rfl), (Nat.le_of_ble_eq_true rfl)⟩ rfl rfl rfl rfl rfl dX1_dayOn_93 ?_
          refine z_aload_n C 0 dX1_dayOn_96 rfl rfl ?_
          refine z_iload_n C 2 dX1_dayOn_97 rfl rfl ?_
          refine z_callV (w := (wX1 gg cI (rt v, rn v, rrowN (rday1 (rf v) k W) i, rk v))) (w' := (wX1 gg cI (rt v, rn v, rrowN (rday1 (rf v) k W) i, rk v))) (w1 := ([] : va_W)) (w2 := ([] : va_W)) (ws' := (wX1 gg cI (rt v, rn v, rrowN (rday1 (rf v) k W) i, rk v))) (As := [.int (nI i)]) (rest := [.int ((rrowN (rday1 (rf v) k W) i) (mi i 0)), .int 0, .int 0, .int (nI i), .ref (gg 0)]) (st' := [.int (rloss (rrowN (rday1 (rf v) k W) i) i), .int ((rrowN (rday1 (rf v) k W) i) (mi i 0)), .int 0, .int 0, .int (nI i), .ref (gg 0)]) (rv := some (.int (rloss (rrowN (rday1 (rf v) k W) i) i))) C (c_X1_loss l D gg cI (rt v, rn v, rrowN (rday1 (rf v) k W) i, rk v) i (by omega)) (cwV 1 C.words gX1_dayOn_X1_loss rfl rfl rfl (by decide +kernel) ⟨(Nat.le_of_ble_eq_true rfl), (Nat.le_of_ble_eq_true rfl)⟩) (q0 := 0) (ci := 1) rfl rfl rfl [0] rfl rfl (Nat.le_of_ble_eq_true rfl) ⟨(Nat.le_of_ble_eq_true rfl), (Nat.le_of_ble_eq_true rfl)⟩ rfl rfl rfl rfl rfl dX1_dayOn_98 ?_
          refine z_isub C dX1_dayOn_101 ?_
          refine z_mmax C wd6 wd7 wd4 wd8 (Nat.le_of_ble_eq_true rfl) (Nat.le_of_ble_eq_true rfl) (Nat.le_of_ble_eq_true rfl) (Nat.le_of_ble_eq_true rfl) dX1_dayOn_102 ?_
          obtain ⟨v2, hv2⟩ : ∃ z, z = vf (rt v, rn v, rrowN (rday1 (rf v) k W) i, rk v) (upd (rrowN (rday1 (rf v) k W) i) (mi i 0) (imax 0 (((rrowN (rday1 (rf v) k W) i) (mi i 0)) - (rloss (rrowN (rday1 (rf v) k W) i) i)))) := ⟨_, rfl⟩
          refine z_callV (w := (wX1 gg cI (rt v, rn v, rrowN (rday1 (rf v) k W) i, rk v))) (w' := (wX1 gg cI v2)) (w1 := ([] : va_W)) (w2 := ([] : va_W)) (ws' := (wX1 gg cI v2)) (As := [.int (nI i), .int 0, .int (imax 0 (((rrowN (rday1 (rf v) k W) i) (mi i 0)) - (rloss (rrowN (rday1 (rf v) k W) i) i)))]) (rest := []) (st' := []) (rv := none) C (by rw [hv2]; exact c_X1_let l D gg cI (rt v, rn v, rrowN (rday1 (rf v) k W) i, rk v) i 0 (imax 0 (((rrowN (rday1 (rf v) k W) i) (mi i 0)) - (rloss (rrowN (rday1 (rf v) k W) i) i))) (by omega) (by omega)) (cwV 3 C.words gX1_dayOn_X1_let rfl rfl rfl (by decide +kernel) ⟨(Nat.le_of_ble_eq_true rfl), (Nat.le_of_ble_eq_true rfl)⟩) (q0 := 0) (ci := 1) rfl rfl rfl [0] rfl rfl (Nat.le_of_ble_eq_true rfl) ⟨(Nat.le_of_ble_eq_true rfl), (Nat.le_of_ble_eq_true rfl)⟩ rfl rfl rfl rfl rfl dX1_dayOn_105 ?_
          refine z_goto (tgt := 130) C dX1_dayOn_108 (by decide) ?_
          refine z_iinc (v := nI (i + 1)) (L' := [(2, .int (nI (i + 1))), (0, .ref (gg 0)), (1, .int (rdayF (rf v) k))]) C 2 dX1_dayOn_130 rfl (z_inc _) (by decide) rfl ?_
          refine z_goto (tgt := 25) C dX1_dayOn_133 (by decide) ?_
          refine z_sub (L' := [(0, .ref (gg 0)), (1, .int (rdayF (rf v) k)), (2, .int (nI (i + 1)))]) [1, 2, 0] rfl ?_
          subst hv2
          exact (by have e9 := ih (i + 1) (by omega); rw [show rrowN (rday1 (rf v) k W) (i + 1) = _ from (if_pos c39).trans (if_neg c83)] at e9; exact e9)
      · skip
        refine z_aload_n C 0 dX1_dayOn_42 rfl rfl ?_
        refine z_iload_n C 2 dX1_dayOn_43 rfl rfl ?_
        refine z_iconst (v := 2) C dX1_dayOn_44 (by decide) ?_
        refine z_aload_n C 0 dX1_dayOn_45 rfl rfl ?_
        refine z_iload_n C 2 dX1_dayOn_46 rfl rfl ?_
        refine z_iconst (v := 2) C dX1_dayOn_47 (by decide) ?_
        refine z_callV (w := (wX1 gg cI (rt v, rn v, rrowN (rday1 (rf v) k W) i, rk v))) (w' := (wX1 gg cI (rt v, rn v, rrowN (rday1 (rf v) k W) i, rk v))) (w1 := ([] : va_W)) (w2 := ([] : va_W)) (ws' := (wX1 gg cI (rt v, rn v, rrowN (rday1 (rf v) k W) i, rk v))) (As := [.int (nI i), .int 2]) (rest := [.int 2, .int (nI i), .ref (gg 0)]) (st' := [.int ((rrowN (rday1 (rf v) k W) i) (mi i 2)), .int 2, .int (nI i), .ref (gg 0)]) (rv := some (.int ((rrowN (rday1 (rf v) k W) i) (mi i 2)))) C (c_X1_me l D gg cI (rt v, rn v, rrowN (rday1 (rf v) k W) i, rk v) i 2 (by omega) (by omega)) (cwV 2 C.words gX1_dayOn_X1_me rfl rfl rfl (by decide +kernel) ⟨(Nat.le_of_ble_eq_true rfl), (Nat.le_of_ble_eq_true rfl)⟩) (q0 := 0) (ci := 1) rfl rfl rfl [0] rfl rfl (Nat.le_of_ble_eq_true rfl) ⟨(Nat.le_of_ble_eq_true rfl), (Nat.le_of_ble_eq_true rfl)⟩ rfl rfl rfl rfl rfl dX1_dayOn_48 ?_
        refine z_iconst (v := 1) C dX1_dayOn_51 (by decide) ?_
        refine z_isub C dX1_dayOn_52 ?_
        obtain ⟨v3, hv3⟩ : ∃ z, z = vf (rt v, rn v, rrowN (rday1 (rf v) k W) i, rk v) (upd (rrowN (rday1 (rf v) k W) i) (mi i 2) (((rrowN (rday1 (rf v) k W) i) (mi i 2)) - 1)) := ⟨_, rfl⟩
        refine z_callV (w := (wX1 gg cI (rt v, rn v, rrowN (rday1 (rf v) k W) i, rk v))) (w' := (wX1 gg cI v3)) (w1 := ([] : va_W)) (w2 := ([] : va_W)) (ws' := (wX1 gg cI v3)) (As := [.int (nI i), .int 2, .int (((rrowN (rday1 (rf v) k W) i) (mi i 2)) - 1)]) (rest := []) (st' := []) (rv := none) C (by rw [hv3]; exact c_X1_let l D gg cI (rt v, rn v, rrowN (rday1 (rf v) k W) i, rk v) i 2 (((rrowN (rday1 (rf v) k W) i) (mi i 2)) - 1) (by omega) (by omega)) (cwV 3 C.words gX1_dayOn_X1_let rfl rfl rfl (by decide +kernel) ⟨(Nat.le_of_ble_eq_true rfl), (Nat.le_of_ble_eq_true rfl)⟩) (q0 := 0) (ci := 1) rfl rfl rfl [0] rfl rfl (Nat.le_of_ble_eq_true rfl) ⟨(Nat.le_of_ble_eq_true rfl), (Nat.le_of_ble_eq_true rfl)⟩ rfl rfl rfl rfl rfl dX1_dayOn_53 ?_
        refine z_aload_n C 0 dX1_dayOn_56 rfl rfl ?_
        refine z_iload_n C 2 dX1_dayOn_57 rfl rfl ?_
        refine z_iconst (v := 1) C dX1_dayOn_58 (by decide) ?_
        refine z_iconst (v := 0) C dX1_dayOn_59 (by decide) ?_
        refine z_aload_n C 0 dX1_dayOn_60 rfl rfl ?_
        refine z_iload_n C 2 dX1_dayOn_61 rfl rfl ?_
        refine z_iconst (v := 1) C dX1_dayOn_62 (by decide) ?_
        refine z_callV (w := (wX1 gg cI v3)) (w' := (wX1 gg cI v3)) (w1 := ([] : va_W)) (w2 := ([] : va_W)) (ws' := (wX1 gg cI v3)) (As := [.int (nI i), .int 1]) (rest := [.int 0, .int 1, .int (nI i), .ref (gg 0)]) (st' := [.int ((rf v3) (mi i 1)), .int 0, .int 1, .int (nI i), .ref (gg 0)]) (rv := some (.int ((rf v3) (mi i 1)))) C (c_X1_me l D gg cI v3 i 1 (by omega) (by omega)) (cwV 2 C.words gX1_dayOn_X1_me rfl rfl rfl (by decide +kernel) ⟨(Nat.le_of_ble_eq_true rfl), (Nat.le_of_ble_eq_true rfl)⟩) (q0 := 0) (ci := 1) rfl rfl rfl [0] rfl rfl (Nat.le_of_ble_eq_true rfl) ⟨(Nat.le_of_ble_eq_true rfl), (Nat.le_of_ble_eq_true rfl)⟩ rfl rfl rfl rfl rfl dX1_dayOn_63 ?_
        refine z_iconst (v := 3) C dX1_dayOn_66 (by decide) ?_
        refine z_isub C dX1_dayOn_67 ?_
        refine z_mmax C wd6 wd7 wd4 wd8 (Nat.le_of_ble_eq_true rfl) (Nat.le_of_ble_eq_true rfl) (Nat.le_of_ble_eq_true rfl) (Nat.le_of_ble_eq_true rfl) dX1_dayOn_68 ?_
        obtain ⟨v4, hv4⟩ : ∃ z, z = vf v3 (upd (rf v3) (mi i 1) (imax 0 (((rf v3) (mi i 1)) - 3))) := ⟨_, rfl⟩
        refine z_callV (w := (wX1 gg cI v3)) (w' := (wX1 gg cI v4)) (w1 := ([] : va_W)) (w2 := ([] : va_W)) (ws' := (wX1 gg cI v4)) (As := [.int (nI i), .int 1, .int (imax 0 (((rf v3) (mi i 1)) - 3))]) (rest := []) (st' := []) (rv := none) C (by rw [hv4]; exact c_X1_let l D gg cI v3 i 1 (imax 0 (((rf v3) (mi i 1)) - 3)) (by omega) (by omega)) (cwV 3 C.words gX1_dayOn_X1_let rfl rfl rfl (by decide +kernel) ⟨(Nat.le_of_ble_eq_true rfl), (Nat.le_of_ble_eq_true rfl)⟩) (q0 := 0) (ci := 1) rfl rfl rfl [0] rfl rfl (Nat.le_of_ble_eq_true rfl) ⟨(Nat.le_of_ble_eq_true rfl), (Nat.le_of_ble_eq_true rfl)⟩ rfl rfl rfl rfl rfl dX1_dayOn_71 ?_
        refine z_goto (tgt := 130) C dX1_dayOn_74 (by decide) ?_
        refine z_iinc (v := nI (i + 1)) (L' := [(2, .int (nI (i + 1))), (0, .ref (gg 0)), (1, .int (rdayF (rf v) k))]) C 2 dX1_dayOn_130 rfl (z_inc _) (by decide) rfl ?_
        refine z_goto (tgt := 25) C dX1_dayOn_133 (by decide) ?_
        refine z_sub (L' := [(0, .ref (gg 0)), (1, .int (rdayF (rf v) k)), (2, .int (nI (i + 1)))]) [1, 2, 0] rfl ?_
        subst hv4
        subst hv3
        exact (by have e9 := ih (i + 1) (by omega); rw [show rrowN (rday1 (rf v) k W) (i + 1) = _ from (if_neg c39)] at e9; exact e9)
  refine z_aload_n C 0 dX1_dayOn_0 rfl rfl ?_
  refine z_get1 (v := .ref (gg 1)) C inl 0 2 (by decide) rfl rfl wd1 dX1_dayOn_1 ?_
  refine z_iconst (v := 0) C dX1_dayOn_4 (by decide) ?_
  refine z_iald (f := rf v) C 1 0 rfl rfl 0 rfl (by omega) (by decide) dX1_dayOn_5 ?_
  refine z_bipush (v := 7) C dX1_dayOn_6 (by decide) ?_
  refine z_irem C dX1_dayOn_8 (by decide) ?_
  refine z_bipush (v := 6) C dX1_dayOn_9 (by decide) ?_
  refine z_icmp_ne (tgt := 21) C dX1_dayOn_11 (by decide) (fun c11 => ?_) (fun c11 => ?_)
  · skip
    refine z_iconst (v := 0) C dX1_dayOn_21 (by decide) ?_
    refine z_istore_n (L' := [(1, .int 0), (0, .ref (gg 0))]) C dX1_dayOn_22 rfl (by decide) rfl ?_
    refine z_iconst (v := 0) C dX1_dayOn_23 (by decide) ?_
    refine z_istore_n (L' := [(2, .int 0), (1, .int 0), (0, .ref (gg 0))]) C dX1_dayOn_24 rfl (by decide) rfl ?_
    refine z_sub (L' := [(0, .ref (gg 0)), (1, .int 0), (2, .int 0)]) [2, 1, 0] rfl ?_
    exact (by have e9 := lp25 (rn v) 0 (by omega); simp only [rrowN, rday1, rdayF, c11, ↓reduceIte] at e9 ⊢; exact e9)
  · skip
    refine z_aload_n C 0 dX1_dayOn_14 rfl rfl ?_
    obtain ⟨v5, hv5⟩ : ∃ z, z = vf v (raud (rf v) k W) := ⟨_, rfl⟩
    refine z_callV (w := (wX1 gg cI v)) (w' := (wX1 gg cI v5)) (w1 := ([] : va_W)) (w2 := ([] : va_W)) (ws' := (wX1 gg cI v5)) (As := []) (rest := []) (st' := [.int (rfltN (rf v) k)]) (rv := some (.int (rfltN (rf v) k))) C (by rw [hv5]; exact c_X1_auditNow l D gg cI v k W hL) (cwV 0 C.words gX1_dayOn_X1_auditNow rfl rfl rfl (by decide +kernel) ⟨(Nat.le_of_ble_eq_true rfl), (Nat.le_of_ble_eq_true rfl)⟩) (q0 := 0) (ci := 1) rfl rfl rfl [0] rfl rfl (Nat.le_of_ble_eq_true rfl) ⟨(Nat.le_of_ble_eq_true rfl), (Nat.le_of_ble_eq_true rfl)⟩ rfl rfl rfl rfl rfl dX1_dayOn_15 ?_
    refine z_goto (tgt := 22) C dX1_dayOn_18 (by decide) ?_
    refine z_istore_n (L' := [(1, .int (rfltN (rf v) k)), (0, .ref (gg 0))]) C dX1_dayOn_22 rfl (by decide) rfl ?_
    refine z_iconst (v := 0) C dX1_dayOn_23 (by decide) ?_
    refine z_istore_n (L' := [(2, .int 0), (1, .int (rfltN (rf v) k)), (0, .ref (gg 0))]) C dX1_dayOn_24 rfl (by decide) rfl ?_
    refine z_sub (L' := [(0, .ref (gg 0)), (1, .int (rfltN (rf v) k)), (2, .int 0)]) [2, 1, 0] rfl ?_
    subst hv5
    exact (by have e9 := lp25 (rn v) 0 (by omega); simp only [rrowN, rday1, rdayF, c11, ↓reduceIte] at e9 ⊢; exact e9)
set_option maxHeartbeats 4000000 in
set_option maxRecDepth 100000 in
theorem c_X1_daysOn (l : Launch) (D : va_G) (gg : Nat → Nat) (cI : ClassId) (v : S1) (d : Nat) (k : Nat) (W : Nat → Nat) (hd : d ≤ 60) (hL : rL (rf v) k W) (hn : (rn v) ≤ 8) : zM l yX1_daysOn wsX1_daysOn 4 88 0 0 [.ref (gg 0), .int (nI d)] [(cI, .int)] D (wX1 gg cI v) (wX1 gg cI (vf v (rdp (rf v) (rn v) k W d).1)) (some (.int (rdpF (rf v) (rn v) k W d))) := by
  refine z_met (cc := cX1_daysOn) (maxL := 4) (ret := (some .int)) (by decide) rfl (Nat.le_of_ble_eq_true rfl) ?_
  intro p e s m args below meth c A C hr hlocks
  have inl : ∀ w ∈ u_ws RX1 TX1 4, w ∈ wsX1_daysOn := by decide +kernel
  refine z_sub (L' := [(0, .ref (gg 0)), (1, .int (nI d))]) [0, 1] rfl ?_
  have hk := hL.1
  have hk30 := hL.2.1
  have lp4 : ∀ (dd i : Nat), i + dd = d → zG p l e ({ frames := 4, cells := 0, slots := 0, locals := 88 } : Room) s m args below meth c D 4 A 0 0 (MQ below (zQ (some (.int (rdpF (rf v) (rn v) k W d))) (fun t => va_P D vwCl (wX1 gg cI (vf v (rdp (rf v) (rn v) k W d).1)) t.heap) A) args s 0 0 A) 4 [(0, .ref (gg 0)), (1, .int (nI d)), (2, .int (rdpF (rf v) (rn v) k W i)), (3, .int (nI i))] [] (wX1 gg cI (rt v, rn v, (rdp (rf v) (rn v) k W i).1, rk v)) := by
    intro dd
    induction dd with
    | zero =>
      intro i hi
      obtain rfl : d = i := by omega
      refine z_iload_n C 3 dX1_daysOn_4 rfl rfl ?_
      refine z_iload_n C 1 dX1_daysOn_5 rfl rfl ?_
      refine z_icmp_ge (tgt := 22) C dX1_daysOn_6 (by decide) (fun _ => ?_) (fun h9 => absurd (nI_le (by omega) (by omega)) h9)
      refine z_iload_n C 2 dX1_daysOn_22 rfl rfl ?_
      exact z_iret C hr hlocks (Nat.le_of_ble_eq_true rfl) (Nat.le_of_ble_eq_true rfl) dX1_daysOn_23 rfl (congrArg (wX1 gg cI) (by first | rfl | (simp only [vf, ↓reduceIte]; done) | (simp only [vf, ↓reduceIte]; rfl)))
    | succ dd ih =>
      intro i hi
      have hLi := rdp_L hn hL i
      refine z_iload_n C 3 dX1_daysOn_4 rfl rfl ?_
      refine z_iload_n C 1 dX1_daysOn_5 rfl rfl ?_
      refine z_icmp_ge (tgt := 22) C dX1_daysOn_6 (by decide) (fun h9 => absurd h9 (nI_ge (by omega) (by omega))) (fun _ => ?_)
      refine z_iload_n C 2 dX1_daysOn_9 rfl rfl ?_
      refine z_aload_n C 0 dX1_daysOn_10 rfl rfl ?_
      obtain ⟨v1, hv1⟩ : ∃ z, z = vf (rt v, rn v, (rdp (rf v) (rn v) k W i).1, rk v) (rday ((rdp (rf v) (rn v) k W i).1) (rn v) ((rdp (rf v) (rn v) k W i).2) W) := ⟨_, rfl⟩
      refine z_callV (w := (wX1 gg cI (rt v, rn v, (rdp (rf v) (rn v) k W i).1, rk v))) (w' := (wX1 gg cI v1)) (w1 := ([] : va_W)) (w2 := ([] : va_W)) (ws' := (wX1 gg cI v1)) (As := []) (rest := [.int (rdpF (rf v) (rn v) k W i)]) (st' := [.int (rdayF ((rdp (rf v) (rn v) k W i).1) ((rdp (rf v) (rn v) k W i).2)), .int (rdpF (rf v) (rn v) k W i)]) (rv := some (.int (rdayF ((rdp (rf v) (rn v) k W i).1) ((rdp (rf v) (rn v) k W i).2)))) C (by rw [hv1]; exact c_X1_dayOn l D gg cI (rt v, rn v, (rdp (rf v) (rn v) k W i).1, rk v) ((rdp (rf v) (rn v) k W i).2) W hLi (by first | exact hn | omega)) (cwV 0 C.words gX1_daysOn_X1_dayOn rfl rfl rfl (by decide +kernel) ⟨(Nat.le_of_ble_eq_true rfl), (Nat.le_of_ble_eq_true rfl)⟩) (q0 := 0) (ci := 1) rfl rfl rfl [0] rfl rfl (Nat.le_of_ble_eq_true rfl) ⟨(Nat.le_of_ble_eq_true rfl), (Nat.le_of_ble_eq_true rfl)⟩ rfl rfl rfl rfl rfl dX1_daysOn_11 ?_
      refine z_iadd C dX1_daysOn_14 ?_
      refine z_istore_n (L' := [(2, .int ((rdpF (rf v) (rn v) k W i) + (rdayF ((rdp (rf v) (rn v) k W i).1) ((rdp (rf v) (rn v) k W i).2)))), (0, .ref (gg 0)), (1, .int (nI d)), (3, .int (nI i))]) C dX1_daysOn_15 rfl (by decide) rfl ?_
      refine z_iinc (v := nI (i + 1)) (L' := [(3, .int (nI (i + 1))), (2, .int ((rdpF (rf v) (rn v) k W i) + (rdayF ((rdp (rf v) (rn v) k W i).1) ((rdp (rf v) (rn v) k W i).2)))), (0, .ref (gg 0)), (1, .int (nI d))]) C 3 dX1_daysOn_16 rfl (z_inc _) (by decide) rfl ?_
      refine z_goto (tgt := 4) C dX1_daysOn_19 (by decide) ?_
      refine z_sub (L' := [(0, .ref (gg 0)), (1, .int (nI d)), (2, .int ((rdpF (rf v) (rn v) k W i) + (rdayF ((rdp (rf v) (rn v) k W i).1) ((rdp (rf v) (rn v) k W i).2)))), (3, .int (nI (i + 1)))]) [2, 3, 1, 0] rfl ?_
      subst hv1
      exact ih (i + 1) (by omega)
  refine z_iconst (v := 0) C dX1_daysOn_0 (by decide) ?_
  refine z_istore_n (L' := [(2, .int 0), (0, .ref (gg 0)), (1, .int (nI d))]) C dX1_daysOn_1 rfl (by decide) rfl ?_
  refine z_iconst (v := 0) C dX1_daysOn_2 (by decide) ?_
  refine z_istore_n (L' := [(3, .int 0), (2, .int 0), (0, .ref (gg 0)), (1, .int (nI d))]) C dX1_daysOn_3 rfl (by decide) rfl ?_
  refine z_sub (L' := [(0, .ref (gg 0)), (1, .int (nI d)), (2, .int 0), (3, .int 0)]) [2, 3, 1, 0] rfl ?_
  exact lp4 d 0 (by omega)
