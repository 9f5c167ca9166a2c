set_option maxHeartbeats 4000000 in
set_option maxRecDepth 100000 in
theorem c_X1_member (l : Launch) (D : va_G) (gg : Nat → Nat) (cI : ClassId) (v : S1) (j w : Nat) (hj : j < (rn v)) (hn : (rn v) ≤ 8) (hw : w < 3) : zM l yX1_member wsX1_member 2 43 0 0 [.ref (gg 0), .int (nI j), .int (nI w)] [(cI, .int)] D (wX1 gg cI v) (wX1 gg cI (vt v 0)) (some (.int ((rf v) (mi j w)))) := by
  refine z_met (cc := cX1_member) (maxL := 3) (ret := (some .int)) (by decide) rfl (Nat.le_of_ble_eq_true rfl) ?_
  intro p e s m args below meth c A C hr hlocks
  have inl : ∀ w ∈ u_ws RX1 TX1 4, w ∈ wsX1_member := by decide +kernel
  have wd0 : Cond.fieldLink RX1 16 "SaltOrderModel" "thrown" "I" ∈ wsX1_member := by decide +kernel
  refine z_sub (L' := [(0, .ref (gg 0)), (1, .int (nI j)), (2, .int (nI w))]) [0, 1, 2] rfl ?_
  refine z_aload_n C 0 dX1_member_0 rfl rfl ?_
  refine z_iconst (v := 0) C dX1_member_1 (by decide) ?_
  refine z_put1 (ws' := (wX1 gg cI (0, rn v, rf v, rk v))) C inl 0 0 (by decide) rfl rfl (by decide) rfl wd0 dX1_member_2 ?_
  refine z_aload_n C 0 dX1_member_5 rfl rfl ?_
  refine z_iload_n C 1 dX1_member_6 rfl rfl ?_
  refine z_callV (w := (wX1 gg cI (0, rn v, rf v, rk v))) (w' := (wX1 gg cI (0, rn v, rf v, rk v))) (w1 := ([] : va_W)) (w2 := ([] : va_W)) (ws' := (wX1 gg cI (0, rn v, rf v, rk v))) (As := [.int (nI j)]) (rest := []) (st' := [.int (isin (nI j) 0 (nI (rn v) - 1))]) (rv := some (.int (isin (nI j) 0 (nI (rn v) - 1)))) C (c_X1_isMember l D gg cI (0, rn v, rf v, rk v) (nI j)) (cwV 1 C.words gX1_member_X1_isMember rfl rfl rfl (by decide +kernel) ⟨(Nat.le_of_ble_eq_true rfl), (Nat.le_of_ble_eq_true rfl)⟩) (q0 := 0) (ci := 1) rfl rfl rfl [0] rfl rfl (Nat.le_of_ble_eq_true rfl) ⟨(Nat.le_of_ble_eq_true rfl), (Nat.le_of_ble_eq_true rfl)⟩ rfl rfl rfl rfl rfl dX1_member_7 ?_
  refine z_if_eq (tgt := 22) C dX1_member_10 (by decide) (fun h9 => absurd h9 ((by rw [isin_m hj (by omega)]; decide))) (fun _ => ?_)
  refine z_aload_n C 0 dX1_member_13 rfl rfl ?_
  refine z_iload_n C 1 dX1_member_14 rfl rfl ?_
  refine z_iload_n C 2 dX1_member_15 rfl rfl ?_
  refine z_callV (w := (wX1 gg cI (0, rn v, rf v, rk v))) (w' := (wX1 gg cI (0, rn v, rf v, rk v))) (w1 := ([] : va_W)) (w2 := ([] : va_W)) (ws' := (wX1 gg cI (0, rn v, rf v, rk v))) (As := [.int (nI j), .int (nI w)]) (rest := []) (st' := [.int ((rf v) (mi j w))]) (rv := some (.int ((rf v) (mi j w)))) C (c_X1_me l D gg cI (0, rn v, rf v, rk v) j w (by omega) (by omega)) (cwV 2 C.words gX1_member_X1_me rfl rfl rfl (by decide +kernel) ⟨(Nat.le_of_ble_eq_true rfl), (Nat.le_of_ble_eq_true rfl)⟩) (q0 := 0) (ci := 1) rfl rfl rfl [0] rfl rfl (Nat.le_of_ble_eq_true rfl) ⟨(Nat.le_of_ble_eq_true rfl), (Nat.le_of_ble_eq_true rfl)⟩ rfl rfl rfl rfl rfl dX1_member_16 ?_
  refine z_goto (tgt := 27) C dX1_member_19 (by decide) ?_
  exact z_iret C hr hlocks (Nat.le_of_ble_eq_true rfl) (Nat.le_of_ble_eq_true rfl) dX1_member_27 rfl (congrArg (wX1 gg cI) (by first | rfl | (simp only [vt, ↓reduceIte]; done) | (simp only [vt, ↓reduceIte]; rfl)))
set_option maxHeartbeats 4000000 in
set_option maxRecDepth 100000 in
theorem c_X1_member_bad (l : Launch) (D : va_G) (gg : Nat → Nat) (cI : ClassId) (v : S1) (x : Int32) (w : Nat) (hm : isin x 0 (nI (rn v) - 1) = 0) : zM l yX1_member wsX1_member 2 43 0 0 [.ref (gg 0), .int x, .int (nI w)] [(cI, .int)] D (wX1 gg cI v) (wX1 gg cI (vt v 1)) (some (.int 0)) := by
  refine z_met (cc := cX1_member) (maxL := 3) (ret := (some .int)) (by decide) rfl (Nat.le_of_ble_eq_true rfl) ?_
  intro p e s m args below meth c A C hr hlocks
  have inl : ∀ w ∈ u_ws RX1 TX1 4, w ∈ wsX1_member := by decide +kernel
  have wd0 : Cond.fieldLink RX1 16 "SaltOrderModel" "thrown" "I" ∈ wsX1_member := by decide +kernel
  refine z_sub (L' := [(0, .ref (gg 0)), (1, .int x), (2, .int (nI w))]) [0, 1, 2] rfl ?_
  refine z_aload_n C 0 dX1_member_0 rfl rfl ?_
  refine z_iconst (v := 0) C dX1_member_1 (by decide) ?_
  refine z_put1 (ws' := (wX1 gg cI (0, rn v, rf v, rk v))) C inl 0 0 (by decide) rfl rfl (by decide) rfl wd0 dX1_member_2 ?_
  refine z_aload_n C 0 dX1_member_5 rfl rfl ?_
  refine z_iload_n C 1 dX1_member_6 rfl rfl ?_
  refine z_callV (w := (wX1 gg cI (0, rn v, rf v, rk v))) (w' := (wX1 gg cI (0, rn v, rf v, rk v))) (w1 := ([] : va_W)) (w2 := ([] : va_W)) (ws' := (wX1 gg cI (0, rn v, rf v, rk v))) (As := [.int x]) (rest := []) (st' := [.int (isin x 0 (nI (rn v) - 1))]) (rv := some (.int (isin x 0 (nI (rn v) - 1)))) C (c_X1_isMember l D gg cI (0, rn v, rf v, rk v) x) (cwV 1 C.words gX1_member_X1_isMember rfl rfl rfl (by decide +kernel) ⟨(Nat.le_of_ble_eq_true rfl), (Nat.le_of_ble_eq_true rfl)⟩) (q0 := 0) (ci := 1) rfl rfl rfl [0] rfl rfl (Nat.le_of_ble_eq_true rfl) ⟨(Nat.le_of_ble_eq_true rfl), (Nat.le_of_ble_eq_true rfl)⟩ rfl rfl rfl rfl rfl dX1_member_7 ?_
  refine z_if_eq (tgt := 22) C dX1_member_10 (by decide) (fun _ => ?_) (fun h9 => absurd (hm) h9)
  refine z_aload_n C 0 dX1_member_22 rfl rfl ?_
  refine z_iconst (v := 1) C dX1_member_23 (by decide) ?_
  obtain ⟨v1, hv1⟩ : ∃ z, z = vt (0, rn v, rf v, rk v) 1 := ⟨_, rfl⟩
  refine z_callV (w := (wX1 gg cI (0, rn v, rf v, rk v))) (w' := (wX1 gg cI v1)) (w1 := ([] : va_W)) (w2 := ([] : va_W)) (ws' := (wX1 gg cI v1)) (As := [.int 1]) (rest := []) (st' := [.int 0]) (rv := some (.int 0)) C (by rw [hv1]; exact c_X1_fail l D gg cI (0, rn v, rf v, rk v) 1) (cwV 1 C.words gX1_member_X1_fail rfl rfl rfl (by decide +kernel) ⟨(Nat.le_of_ble_eq_true rfl), (Nat.le_of_ble_eq_true rfl)⟩) (q0 := 0) (ci := 1) rfl rfl rfl [0] rfl rfl (Nat.le_of_ble_eq_true rfl) ⟨(Nat.le_of_ble_eq_true rfl), (Nat.le_of_ble_eq_true rfl)⟩ rfl rfl rfl rfl rfl dX1_member_24 ?_
  subst hv1
  exact z_iret C hr hlocks (Nat.le_of_ble_eq_true rfl) (Nat.le_of_ble_eq_true rfl) dX1_member_27 rfl (congrArg (wX1 gg cI) (by first | rfl | (simp only [vt, ↓reduceIte]; done) | (simp only [vt, ↓reduceIte]; rfl)))
set_option maxHeartbeats 4000000 in
set_option maxRecDepth 100000 in
theorem c_X1_entry (l : Launch) (D : va_G) (gg : Nat → Nat) (cI : ClassId) (v : S1) (t w k : Nat) (hk : (rf v) 3 = nI k) (hk30 : k ≤ 30) (ht : t < k) (hw : w < 4) : zM l yX1_entry wsX1_entry 2 43 0 0 [.ref (gg 0), .int (nI t), .int (nI w)] [(cI, .int)] D (wX1 gg cI v) (wX1 gg cI (vt v 0)) (some (.int ((rf v) (ti t w)))) := by
  refine z_met (cc := cX1_entry) (maxL := 3) (ret := (some .int)) (by decide) rfl (Nat.le_of_ble_eq_true rfl) ?_
  intro p e s m args below meth c A C hr hlocks
  have inl : ∀ w ∈ u_ws RX1 TX1 4, w ∈ wsX1_entry := by decide +kernel
  have wd0 : Cond.fieldLink RX1 16 "SaltOrderModel" "thrown" "I" ∈ wsX1_entry := by decide +kernel
  refine z_sub (L' := [(0, .ref (gg 0)), (1, .int (nI t)), (2, .int (nI w))]) [0, 1, 2] rfl ?_
  refine z_aload_n C 0 dX1_entry_0 rfl rfl ?_
  refine z_iconst (v := 0) C dX1_entry_1 (by decide) ?_
  refine z_put1 (ws' := (wX1 gg cI (0, rn v, rf v, rk v))) C inl 0 0 (by decide) rfl rfl (by decide) rfl wd0 dX1_entry_2 ?_
  refine z_aload_n C 0 dX1_entry_5 rfl rfl ?_
  refine z_iload_n C 1 dX1_entry_6 rfl rfl ?_
  refine z_callV (w := (wX1 gg cI (0, rn v, rf v, rk v))) (w' := (wX1 gg cI (0, rn v, rf v, rk v))) (w1 := ([] : va_W)) (w2 := ([] : va_W)) (ws' := (wX1 gg cI (0, rn v, rf v, rk v))) (As := [.int (nI t)]) (rest := []) (st' := [.int (isin (nI t) 0 ((rf v) 3 - 1))]) (rv := some (.int (isin (nI t) 0 ((rf v) 3 - 1)))) C (c_X1_isThrow l D gg cI (0, rn v, rf v, rk v) (nI t)) (cwV 1 C.words gX1_entry_X1_isThrow rfl rfl rfl (by decide +kernel) ⟨(Nat.le_of_ble_eq_true rfl), (Nat.le_of_ble_eq_true rfl)⟩) (q0 := 0) (ci := 1) rfl rfl rfl [0] rfl rfl (Nat.le_of_ble_eq_true rfl) ⟨(Nat.le_of_ble_eq_true rfl), (Nat.le_of_ble_eq_true rfl)⟩ rfl rfl rfl rfl rfl dX1_entry_7 ?_
  refine z_if_eq (tgt := 22) C dX1_entry_10 (by decide) (fun h9 => absurd h9 ((by rw [show isin _ _ _ = isin (nI t) 0 (nI k - 1) from by rw [← hk], isin_m ht hk30]; decide))) (fun _ => ?_)
  refine z_aload_n C 0 dX1_entry_13 rfl rfl ?_
  refine z_iload_n C 1 dX1_entry_14 rfl rfl ?_
  refine z_iload_n C 2 dX1_entry_15 rfl rfl ?_
  refine z_callV (w := (wX1 gg cI (0, rn v, rf v, rk v))) (w' := (wX1 gg cI (0, rn v, rf v, rk v))) (w1 := ([] : va_W)) (w2 := ([] : va_W)) (ws' := (wX1 gg cI (0, rn v, rf v, rk v))) (As := [.int (nI t), .int (nI w)]) (rest := []) (st' := [.int ((rf v) (ti t w))]) (rv := some (.int ((rf v) (ti t w)))) C (c_X1_th l D gg cI (0, rn v, rf v, rk v) t w (by omega) (by omega)) (cwV 2 C.words gX1_entry_X1_th rfl rfl rfl (by decide +kernel) ⟨(Nat.le_of_ble_eq_true rfl), (Nat.le_of_ble_eq_true rfl)⟩) (q0 := 0) (ci := 1) rfl rfl rfl [0] rfl rfl (Nat.le_of_ble_eq_true rfl) ⟨(Nat.le_of_ble_eq_true rfl), (Nat.le_of_ble_eq_true rfl)⟩ rfl rfl rfl rfl rfl dX1_entry_16 ?_
  refine z_goto (tgt := 27) C dX1_entry_19 (by decide) ?_
  exact z_iret C hr hlocks (Nat.le_of_ble_eq_true rfl) (Nat.le_of_ble_eq_true rfl) dX1_entry_27 rfl (congrArg (wX1 gg cI) (by first | rfl | (simp only [vt, ↓reduceIte]; done) | (simp only [vt, ↓reduceIte]; rfl)))
set_option maxHeartbeats 4000000 in
set_option maxRecDepth 100000 in
theorem c_X1_entry_bad (l : Launch) (D : va_G) (gg : Nat → Nat) (cI : ClassId) (v : S1) (x : Int32) (w : Nat) (hm : isin x 0 ((rf v) 3 - 1) = 0) : zM l yX1_entry wsX1_entry 2 43 0 0 [.ref (gg 0), .int x, .int (nI w)] [(cI, .int)] D (wX1 gg cI v) (wX1 gg cI (vt v 1)) (some (.int 0)) := by
  refine z_met (cc := cX1_entry) (maxL := 3) (ret := (some .int)) (by decide) rfl (Nat.le_of_ble_eq_true rfl) ?_
  intro p e s m args below meth c A C hr hlocks
  have inl : ∀ w ∈ u_ws RX1 TX1 4, w ∈ wsX1_entry := by decide +kernel
  have wd0 : Cond.fieldLink RX1 16 "SaltOrderModel" "thrown" "I" ∈ wsX1_entry := by decide +kernel
  refine z_sub (L' := [(0, .ref (gg 0)), (1, .int x), (2, .int (nI w))]) [0, 1, 2] rfl ?_
  refine z_aload_n C 0 dX1_entry_0 rfl rfl ?_
  refine z_iconst (v := 0) C dX1_entry_1 (by decide) ?_
  refine z_put1 (ws' := (wX1 gg cI (0, rn v, rf v, rk v))) C inl 0 0 (by decide) rfl rfl (by decide) rfl wd0 dX1_entry_2 ?_
  refine z_aload_n C 0 dX1_entry_5 rfl rfl ?_
  refine z_iload_n C 1 dX1_entry_6 rfl rfl ?_
  refine z_callV (w := (wX1 gg cI (0, rn v, rf v, rk v))) (w' := (wX1 gg cI (0, rn v, rf v, rk v))) (w1 := ([] : va_W)) (w2 := ([] : va_W)) (ws' := (wX1 gg cI (0, rn v, rf v, rk v))) (As := [.int x]) (rest := []) (st' := [.int (isin x 0 ((rf v) 3 - 1))]) (rv := some (.int (isin x 0 ((rf v) 3 - 1)))) C (c_X1_isThrow l D gg cI (0, rn v, rf v, rk v) x) (cwV 1 C.words gX1_entry_X1_isThrow rfl rfl rfl (by decide +kernel) ⟨(Nat.le_of_ble_eq_true rfl), (Nat.le_of_ble_eq_true rfl)⟩) (q0 := 0) (ci := 1) rfl rfl rfl [0] rfl rfl (Nat.le_of_ble_eq_true rfl) ⟨(Nat.le_of_ble_eq_true rfl), (Nat.le_of_ble_eq_true rfl)⟩ rfl rfl rfl rfl rfl dX1_entry_7 ?_
  refine z_if_eq (tgt := 22) C dX1_entry_10 (by decide) (fun _ => ?_) (fun h9 => absurd (hm) h9)
  refine z_aload_n C 0 dX1_entry_22 rfl rfl ?_
  refine z_iconst (v := 1) C dX1_entry_23 (by decide) ?_
  obtain ⟨v1, hv1⟩ : ∃ z, z = vt (0, rn v, rf v, rk v) 1 := ⟨_, rfl⟩
  refine z_callV (w := (wX1 gg cI (0, rn v, rf v, rk v))) (w' := (wX1 gg cI v1)) (w1 := ([] : va_W)) (w2 := ([] : va_W)) (ws' := (wX1 gg cI v1)) (As := [.int 1]) (rest := []) (st' := [.int 0]) (rv := some (.int 0)) C (by rw [hv1]; exact c_X1_fail l D gg cI (0, rn v, rf v, rk v) 1) (cwV 1 C.words gX1_entry_X1_fail rfl rfl rfl (by decide +kernel) ⟨(Nat.le_of_ble_eq_true rfl), (Nat.le_of_ble_eq_true rfl)⟩) (q0 := 0) (ci := 1) rfl rfl rfl [0] rfl rfl (Nat.le_of_ble_eq_true rfl) ⟨(Nat.le_of_ble_eq_true rfl), (Nat.le_of_ble_eq_true rfl)⟩ rfl rfl rfl rfl rfl dX1_entry_24 ?_
  subst hv1
  exact z_iret C hr hlocks (Nat.le_of_ble_eq_true rfl) (Nat.le_of_ble_eq_true rfl) dX1_entry_27 rfl (congrArg (wX1 gg cI) (by first | rfl | (simp only [vt, ↓reduceIte]; done) | (simp only [vt, ↓reduceIte]; rfl)))
set_option maxHeartbeats 4000000 in
set_option maxRecDepth 100000 in
theorem c_X1_cast (l : Launch) (D : va_G) (gg : Nat → Nat) (cI : ClassId) (v : S1) (j : Nat) (b g : Int32) (k : Nat) (W : Nat → Nat) (hj : j < 8) (hL : rL (rf v) k W) (hk3 : k < 30) : zM l yX1_cast wsX1_cast 1 23 0 0 [.ref (gg 0), .int (nI j), .int b, .int g] [(cI, .int)] D (wX1 gg cI v) (wX1 gg cI (vf v (rcast (rf v) k j b g))) (some (.int (rcE (rf v) j b g))) := by
  refine z_met (cc := cX1_cast) (maxL := 5) (ret := (some .int)) (by decide) rfl (Nat.le_of_ble_eq_true rfl) ?_
  intro p e s m args below meth c A C hr hlocks
  have inl : ∀ w ∈ u_ws RX1 TX1 4, w ∈ wsX1_cast := by decide +kernel
  have wd0 : Cond.fieldLink RX1 9 "SaltOrderModel" "now" "[I" ∈ wsX1_cast := by decide +kernel
  have wd1 : Cond.methodLink RX1 37 Lib.Math.max.name ∈ wsX1_cast := by decide +kernel
  have wd2 : Cond.static Lib.Math.max.name ∈ wsX1_cast := by decide +kernel
  have wd3 : Cond.initialized "java/lang/Math" ∈ wsX1_cast := by decide +kernel
  have wd4 : Cond.code Lib.Math.max.name Lib.Math.max.code 2 (some .int) ∈ wsX1_cast := by decide +kernel
  refine z_sub (L' := [(0, .ref (gg 0)), (1, .int (nI j)), (2, .int b), (3, .int g)]) [0, 1, 2, 3] rfl ?_
  have hk := hL.1
  have hk30 := hL.2.1
  refine z_iload_n C 2 dX1_cast_0 rfl rfl ?_
  refine z_if_eq (tgt := 19) C dX1_cast_1 (by decide) (fun c1 => ?_) (fun c1 => ?_)
  · skip
    refine z_iload_n C 3 dX1_cast_19 rfl rfl ?_
    refine z_istore (L' := [(4, .int g), (0, .ref (gg 0)), (1, .int (nI j)), (2, .int b), (3, .int g)]) C dX1_cast_20 (by decide) rfl ?_
    refine z_iload_n C 3 dX1_cast_22 rfl rfl ?_
    refine z_if_eq (tgt := 44) C dX1_cast_23 (by decide) (fun _ => ?_) (fun h9 => absurd (c1) h9)
    refine z_aload_n C 1 dX1_cast_44 rfl rfl ?_
    refine z_get1 (v := .ref (gg 1)) C inl 0 2 (by decide) rfl rfl wd0 dX1_cast_45 ?_
    refine z_iconst (v := 1) C dX1_cast_48 (by decide) ?_
    refine z_dup2 C dX1_cast_49 rfl rfl ?_
    refine z_iald (f := rf v) C 1 0 rfl rfl 1 rfl (by omega) (by decide) dX1_cast_50 ?_
    refine z_iload_n C 4 dX1_cast_51 rfl rfl ?_
    refine z_isub C dX1_cast_52 ?_
    refine z_iast (ws' := (wX1 gg cI (rt v, rn v, upd (rf v) 1 (((rf v) 1) - g), rk v))) C 1 0 rfl rfl 1 rfl (by omega) (by decide) rfl dX1_cast_53 ?_
    refine z_aload_n C 1 dX1_cast_54 rfl rfl ?_
    refine z_iconst (v := 0) C dX1_cast_55 (by decide) ?_
    refine z_iload_n C 2 dX1_cast_56 rfl rfl ?_
    obtain ⟨v1, hv1⟩ : ∃ z, z = vf (rt v, rn v, upd (rf v) 1 (((rf v) 1) - g), rk v) (upd (upd (rf v) 1 (((rf v) 1) - g)) (ti k 0) (nI j)) := ⟨_, rfl⟩
    refine z_callV (w := (wX1 gg cI (rt v, rn v, upd (rf v) 1 (((rf v) 1) - g), rk v))) (w' := (wX1 gg cI v1)) (w1 := ([] : va_W)) (w2 := ([] : va_W)) (ws' := (wX1 gg cI v1)) (As := [.int 0, .int (nI j)]) (rest := []) (st' := []) (rv := none) C (by rw [hv1]; exact c_X1_write l D gg cI (rt v, rn v, upd (rf v) 1 (((rf v) 1) - g), rk v) 0 (nI j) k (by omega) hk hk3) (cwV 2 C.words gX1_cast_X1_write rfl rfl rfl (by decide +kernel) ⟨(Nat.le_of_ble_eq_true rfl), (Nat.le_of_ble_eq_true rfl)⟩) (q0 := 0) (ci := 1) rfl rfl rfl [0] rfl rfl (Nat.le_of_ble_eq_true rfl) ⟨(Nat.le_of_ble_eq_true rfl), (Nat.le_of_ble_eq_true rfl)⟩ rfl rfl rfl rfl rfl dX1_cast_57 ?_
    have hk : rf v1 3 = nI k := by rw [hv1]; exact (upd3t _ _ _ _).trans hk
    refine z_aload_n C 1 dX1_cast_60 rfl rfl ?_
    refine z_iconst (v := 1) C dX1_cast_61 (by decide) ?_
    refine z_iload_n C 3 dX1_cast_62 rfl rfl ?_
    refine z_if_eq (tgt := 70) C dX1_cast_63 (by decide) (fun _ => ?_) (fun h9 => absurd (c1) h9)
    refine z_iconst (v := 0) C dX1_cast_70 (by decide) ?_
    obtain ⟨v2, hv2⟩ : ∃ z, z = vf v1 (upd (rf v1) (ti k 1) 0) := ⟨_, rfl⟩
    refine z_callV (w := (wX1 gg cI v1)) (w' := (wX1 gg cI v2)) (w1 := ([] : va_W)) (w2 := ([] : va_W)) (ws' := (wX1 gg cI v2)) (As := [.int 1, .int 0]) (rest := []) (st' := []) (rv := none) C (by rw [hv2]; exact c_X1_write l D gg cI v1 1 0 k (by omega) hk hk3) (cwV 2 C.words gX1_cast_X1_write rfl rfl rfl (by decide +kernel) ⟨(Nat.le_of_ble_eq_true rfl), (Nat.le_of_ble_eq_true rfl)⟩) (q0 := 0) (ci := 1) rfl rfl rfl [0] rfl rfl (Nat.le_of_ble_eq_true rfl) ⟨(Nat.le_of_ble_eq_true rfl), (Nat.le_of_ble_eq_true rfl)⟩ rfl rfl rfl rfl rfl dX1_cast_71 ?_
    have hk : rf v2 3 = nI k := by rw [hv2]; exact (upd3t _ _ _ _).trans hk
    refine z_aload_n C 1 dX1_cast_74 rfl rfl ?_
    refine z_iconst (v := 2) C dX1_cast_75 (by decide) ?_
    refine z_iload_n C 4 dX1_cast_76 rfl rfl ?_
    obtain ⟨v3, hv3⟩ : ∃ z, z = vf v2 (upd (rf v2) (ti k 2) g) := ⟨_, rfl⟩
    refine z_callV (w := (wX1 gg cI v2)) (w' := (wX1 gg cI v3)) (w1 := ([] : va_W)) (w2 := ([] : va_W)) (ws' := (wX1 gg cI v3)) (As := [.int 2, .int g]) (rest := []) (st' := []) (rv := none) C (by rw [hv3]; exact c_X1_write l D gg cI v2 2 g k (by omega) hk hk3) (cwV 2 C.words gX1_cast_X1_write rfl rfl rfl (by decide +kernel) ⟨(Nat.le_of_ble_eq_true rfl), (Nat.le_of_ble_eq_true rfl)⟩) (q0 := 0) (ci := 1) rfl rfl rfl [0] rfl rfl (Nat.le_of_ble_eq_true rfl) ⟨(Nat.le_of_ble_eq_true rfl), (Nat.le_of_ble_eq_true rfl)⟩ rfl rfl rfl rfl rfl dX1_cast_77 ?_
    have hk : rf v3 3 = nI k := by rw [hv3]; exact (upd3t _ _ _ _).trans hk
    refine z_aload_n C 1 dX1_cast_80 rfl rfl ?_
    refine z_iconst (v := 3) C dX1_cast_81 (by decide) ?_
    refine z_iload C 0 dX1_cast_82 rfl ?_
    obtain ⟨v4, hv4⟩ : ∃ z, z = vf v3 (upd (rf v3) (ti k 3) g) := ⟨_, rfl⟩
    refine z_callV (w := (wX1 gg cI v3)) (w' := (wX1 gg cI v4)) (w1 := ([] : va_W)) (w2 := ([] : va_W)) (ws' := (wX1 gg cI v4)) (As := [.int 3, .int g]) (rest := []) (st' := []) (rv := none) C (by rw [hv4]; exact c_X1_write l D gg cI v3 3 g k (by omega) hk hk3) (cwV 2 C.words gX1_cast_X1_write rfl rfl rfl (by decide +kernel) ⟨(Nat.le_of_ble_eq_true rfl), (Nat.le_of_ble_eq_true rfl)⟩) (q0 := 0) (ci := 1) rfl rfl rfl [0] rfl rfl (Nat.le_of_ble_eq_true rfl) ⟨(Nat.le_of_ble_eq_true rfl), (Nat.le_of_ble_eq_true rfl)⟩ rfl rfl rfl rfl rfl dX1_cast_84 ?_
    have hk : rf v4 3 = nI k := by rw [hv4]; exact (upd3t _ _ _ _).trans hk
    refine z_aload_n C 1 dX1_cast_87 rfl rfl ?_
    refine z_get1 (v := .ref (gg 1)) C inl 0 2 (by decide) rfl rfl wd0 dX1_cast_88 ?_
    refine z_iconst (v := 3) C dX1_cast_91 (by decide) ?_
    refine z_dup2 C dX1_cast_92 rfl rfl ?_
    refine z_iald (f := rf v4) C 1 0 rfl rfl 3 rfl (by omega) (by decide) dX1_cast_93 ?_
    refine z_iconst (v := 1) C dX1_cast_94 (by decide) ?_
    refine z_iadd C dX1_cast_95 ?_
    refine z_top (y := nI (k + 1)) (by rw [show _ = nI k from hk]; exact z_1 k) ?_
    refine z_iast (ws' := (wX1 gg cI (rt v4, rn v4, upd (rf v4) 3 (nI (k + 1)), rk v4))) C 1 0 rfl rfl 3 rfl (by omega) (by decide) rfl dX1_cast_96 ?_
    refine z_iload C 0 dX1_cast_97 rfl ?_
    subst hv4
    subst hv3
    subst hv2
    subst hv1
    exact z_iret C hr hlocks (Nat.le_of_ble_eq_true rfl) (Nat.le_of_ble_eq_true rfl) dX1_cast_99 (by first | rfl | (simp only [vf, rcast, rc1, rc2, rcE, c1, ↓reduceIte]; done) | (simp only [vf, rcast, rc1, rc2, rcE, c1, ↓reduceIte]; rfl)) (congrArg (wX1 gg cI) (by first | rfl | (simp only [vf, rcast, rc1, rc2, rcE, c1, ↓reduceIte]; done) | (simp only [vf, rcast, rc1, rc2, rcE, c1, ↓reduceIte]; rfl)))
  · skip
    have n1 := c1
    refine z_iconst (v := 0) C dX1_cast_4 (by decide) ?_
    refine z_iload_n C 3 dX1_cast_5 rfl rfl ?_
    refine z_aload_n C 0 dX1_cast_6 rfl rfl ?_
    refine z_iload_n C 1 dX1_cast_7 rfl rfl ?_
    refine z_iconst (v := 1) C dX1_cast_8 (by decide) ?_
    refine z_callV (w := (wX1 gg cI v)) (w' := (wX1 gg cI v)) (w1 := ([] : va_W)) (w2 := ([] : va_W)) (ws' := (wX1 gg cI v)) (As := [.int (nI j), .int 1]) (rest := [.int g, .int 0]) (st' := [.int ((rf v) (mi j 1)), .int g, .int 0]) (rv := some (.int ((rf v) (mi j 1)))) C (c_X1_me l D gg cI v j 1 (by omega) (by omega)) (cwV 2 C.words gX1_cast_X1_me rfl rfl rfl (by decide +kernel) ⟨(Nat.le_of_ble_eq_true rfl), (Nat.le_of_ble_eq_true rfl)⟩) (q0 := 0) (ci := 1) rfl rfl rfl [0] rfl rfl (Nat.le_of_ble_eq_true rfl) ⟨(Nat.le_of_ble_eq_true rfl), (Nat.le_of_ble_eq_true rfl)⟩ rfl rfl rfl rfl rfl dX1_cast_9 ?_
    refine z_isub C dX1_cast_12 ?_
    refine z_mmax C wd1 wd2 wd3 wd4 (Nat.le_of_ble_eq_true rfl) (Nat.le_of_ble_eq_true rfl) (Nat.le_of_ble_eq_true rfl) (Nat.le_of_ble_eq_true rfl) dX1_cast_13 ?_
    refine z_goto (tgt := 20) C dX1_cast_16 (by decide) ?_
    refine z_istore (L' := [(4, .int (imax 0 (g - ((rf v) (mi j 1))))), (0, .ref (gg 0)), (1, .int (nI j)), (2, .int b), (3, .int g)]) C dX1_cast_20 (by decide) rfl ?_
    refine z_iload_n C 3 dX1_cast_22 rfl rfl ?_
    refine z_if_eq (tgt := 44) C dX1_cast_23 (by decide) (fun h9 => absurd h9 (n1)) (fun _ => ?_)
    refine z_aload_n C 1 dX1_cast_26 rfl rfl ?_
    refine z_iload_n C 2 dX1_cast_27 rfl rfl ?_
    refine z_iconst (v := 1) C dX1_cast_28 (by decide) ?_
    refine z_iconst (v := 0) C dX1_cast_29 (by decide) ?_
    refine z_aload_n C 1 dX1_cast_30 rfl rfl ?_
    refine z_iload_n C 2 dX1_cast_31 rfl rfl ?_
    refine z_iconst (v := 1) C dX1_cast_32 (by decide) ?_
    refine z_callV (w := (wX1 gg cI v)) (w' := (wX1 gg cI v)) (w1 := ([] : va_W)) (w2 := ([] : va_W)) (ws' := (wX1 gg cI v)) (As := [.int (nI j), .int 1]) (rest := [.int 0, .int 1, .int (nI j), .ref (gg 0)]) (st' := [.int ((rf v) (mi j 1)), .int 0, .int 1, .int (nI j), .ref (gg 0)]) (rv := some (.int ((rf v) (mi j 1)))) C (c_X1_me l D gg cI v j 1 (by omega) (by omega)) (cwV 2 C.words gX1_cast_X1_me rfl rfl rfl (by decide +kernel) ⟨(Nat.le_of_ble_eq_true rfl), (Nat.le_of_ble_eq_true rfl)⟩) (q0 := 0) (ci := 1) rfl rfl rfl [0] rfl rfl (Nat.le_of_ble_eq_true rfl) ⟨(Nat.le_of_ble_eq_true rfl), (Nat.le_of_ble_eq_true rfl)⟩ rfl rfl rfl rfl rfl dX1_cast_33 ?_
    refine z_iload_n C 4 dX1_cast_36 rfl rfl ?_
    refine z_isub C dX1_cast_37 ?_
    refine z_mmax C wd1 wd2 wd3 wd4 (Nat.le_of_ble_eq_true rfl) (Nat.le_of_ble_eq_true rfl) (Nat.le_of_ble_eq_true rfl) (Nat.le_of_ble_eq_true rfl) dX1_cast_38 ?_
    obtain ⟨v5, hv5⟩ : ∃ z, z = vf v (upd (rf v) (mi j 1) (imax 0 (((rf v) (mi j 1)) - g))) := ⟨_, rfl⟩
    refine z_callV (w := (wX1 gg cI v)) (w' := (wX1 gg cI v5)) (w1 := ([] : va_W)) (w2 := ([] : va_W)) (ws' := (wX1 gg cI v5)) (As := [.int (nI j), .int 1, .int (imax 0 (((rf v) (mi j 1)) - g))]) (rest := []) (st' := []) (rv := none) C (by rw [hv5]; exact c_X1_let l D gg cI v j 1 (imax 0 (((rf v) (mi j 1)) - g)) (by omega) (by omega)) (cwV 3 C.words gX1_cast_X1_let rfl rfl rfl (by decide +kernel) ⟨(Nat.le_of_ble_eq_true rfl), (Nat.le_of_ble_eq_true rfl)⟩) (q0 := 0) (ci := 1) rfl rfl rfl [0] rfl rfl (Nat.le_of_ble_eq_true rfl) ⟨(Nat.le_of_ble_eq_true rfl), (Nat.le_of_ble_eq_true rfl)⟩ rfl rfl rfl rfl rfl dX1_cast_41 ?_
    have hk : rf v5 3 = nI k := by rw [hv5]; exact (upd3m _ _ _ _).trans hk
    refine z_aload_n C 1 dX1_cast_44 rfl rfl ?_
    refine z_get1 (v := .ref (gg 1)) C inl 0 2 (by decide) rfl rfl wd0 dX1_cast_45 ?_
    refine z_iconst (v := 1) C dX1_cast_48 (by decide) ?_
    refine z_dup2 C dX1_cast_49 rfl rfl ?_
    refine z_iald (f := rf v5) C 1 0 rfl rfl 1 rfl (by omega) (by decide) dX1_cast_50 ?_
    refine z_iload_n C 4 dX1_cast_51 rfl rfl ?_
    refine z_isub C dX1_cast_52 ?_
    refine z_iast (ws' := (wX1 gg cI (rt v5, rn v5, upd (rf v5) 1 (((rf v5) 1) - g), rk v5))) C 1 0 rfl rfl 1 rfl (by omega) (by decide) rfl dX1_cast_53 ?_
    refine z_aload_n C 1 dX1_cast_54 rfl rfl ?_
    refine z_iconst (v := 0) C dX1_cast_55 (by decide) ?_
    refine z_iload_n C 2 dX1_cast_56 rfl rfl ?_
    obtain ⟨v6, hv6⟩ : ∃ z, z = vf (rt v5, rn v5, upd (rf v5) 1 (((rf v5) 1) - g), rk v5) (upd (upd (rf v5) 1 (((rf v5) 1) - g)) (ti k 0) (nI j)) := ⟨_, rfl⟩
    refine z_callV (w := (wX1 gg cI (rt v5, rn v5, upd (rf v5) 1 (((rf v5) 1) - g), rk v5))) (w' := (wX1 gg cI v6)) (w1 := ([] : va_W)) (w2 := ([] : va_W)) (ws' := (wX1 gg cI v6)) (As := [.int 0, .int (nI j)]) (rest := []) (st' := []) (rv := none) C (by rw [hv6]; exact c_X1_write l D gg cI (rt v5, rn v5, upd (rf v5) 1 (((rf v5) 1) - g), rk v5) 0 (nI j) k (by omega) hk hk3) (cwV 2 C.words gX1_cast_X1_write rfl rfl rfl (by decide +kernel) ⟨(Nat.le_of_ble_eq_true rfl), (Nat.le_of_ble_eq_true rfl)⟩) (q0 := 0) (ci := 1) rfl rfl rfl [0] rfl rfl (Nat.le_of_ble_eq_true rfl) ⟨(Nat.le_of_ble_eq_true rfl), (Nat.le_of_ble_eq_true rfl)⟩ rfl rfl rfl rfl rfl dX1_cast_57 ?_
    have hk : rf v6 3 = nI k := by rw [hv6]; exact (upd3t _ _ _ _).trans hk
    refine z_aload_n C 1 dX1_cast_60 rfl rfl ?_
    refine z_iconst (v := 1) C dX1_cast_61 (by decide) ?_
    refine z_iload_n C 3 dX1_cast_62 rfl rfl ?_
    refine z_if_eq (tgt := 70) C dX1_cast_63 (by decide) (fun h9 => absurd h9 (n1)) (fun _ => ?_)
    refine z_iconst (v := 1) C dX1_cast_66 (by decide) ?_
    refine z_goto (tgt := 71) C dX1_cast_67 (by decide) ?_
    obtain ⟨v7, hv7⟩ : ∃ z, z = vf v6 (upd (rf v6) (ti k 1) 1) := ⟨_, rfl⟩
    refine z_callV (w := (wX1 gg cI v6)) (w' := (wX1 gg cI v7)) (w1 := ([] : va_W)) (w2 := ([] : va_W)) (ws' := (wX1 gg cI v7)) (As := [.int 1, .int 1]) (rest := []) (st' := []) (rv := none) C (by rw [hv7]; exact c_X1_write l D gg cI v6 1 1 k (by omega) hk hk3) (cwV 2 C.words gX1_cast_X1_write rfl rfl rfl (by decide +kernel) ⟨(Nat.le_of_ble_eq_true rfl), (Nat.le_of_ble_eq_true rfl)⟩) (q0 := 0) (ci := 1) rfl rfl rfl [0] rfl rfl (Nat.le_of_ble_eq_true rfl) ⟨(Nat.le_of_ble_eq_true rfl), (Nat.le_of_ble_eq_true rfl)⟩ rfl rfl rfl rfl rfl dX1_cast_71 ?_
    have hk : rf v7 3 = nI k := by rw [hv7]; exact (upd3t _ _ _ _).trans hk
    refine z_aload_n C 1 dX1_cast_74 rfl rfl ?_
    refine z_iconst (v := 2) C dX1_cast_75 (by decide) ?_
    refine z_iload_n C 4 dX1_cast_76 rfl rfl ?_
    obtain ⟨v8, hv8⟩ : ∃ z, z = vf v7 (upd (rf v7) (ti k 2) g) := ⟨_, rfl⟩
    refine z_callV (w := (wX1 gg cI v7)) (w' := (wX1 gg cI v8)) (w1 := ([] : va_W)) (w2 := ([] : va_W)) (ws' := (wX1 gg cI v8)) (As := [.int 2, .int g]) (rest := []) (st' := []) (rv := none) C (by rw [hv8]; exact c_X1_write l D gg cI v7 2 g k (by omega) hk hk3) (cwV 2 C.words gX1_cast_X1_write rfl rfl rfl (by decide +kernel) ⟨(Nat.le_of_ble_eq_true rfl), (Nat.le_of_ble_eq_true rfl)⟩) (q0 := 0) (ci := 1) rfl rfl rfl [0] rfl rfl (Nat.le_of_ble_eq_true rfl) ⟨(Nat.le_of_ble_eq_true rfl), (Nat.le_of_ble_eq_true rfl)⟩ rfl rfl rfl rfl rfl dX1_cast_77 ?_
    have hk : rf v8 3 = nI k := by rw [hv8]; exact (upd3t _ _ _ _).trans hk
    refine z_aload_n C 1 dX1_cast_80 rfl rfl ?_
    refine z_iconst (v := 3) C dX1_cast_81 (by decide) ?_
    refine z_iload C 0 dX1_cast_82 rfl ?_
    obtain ⟨v9, hv9⟩ : ∃ z, z = vf v8 (upd (rf v8) (ti k 3) (imax 0 (g - ((rf v) (mi j 1))))) := ⟨_, rfl⟩
    refine z_callV (w := (wX1 gg cI v8)) (w' := (wX1 gg cI v9)) (w1 := ([] : va_W)) (w2 := ([] : va_W)) (ws' := (wX1 gg cI v9)) (As := [.int 3, .int (imax 0 (g - ((rf v) (mi j 1))))]) (rest := []) (st' := []) (rv := none) C (by rw [hv9]; exact c_X1_write l D gg cI v8 3 (imax 0 (g - ((rf v) (mi j 1)))) k (by omega) hk hk3) (cwV 2 C.words gX1_cast_X1_write rfl rfl rfl (by decide +kernel) ⟨(Nat.le_of_ble_eq_true rfl), (Nat.le_of_ble_eq_true rfl)⟩) (q0 := 0) (ci := 1) rfl rfl rfl [0] rfl rfl (Nat.le_of_ble_eq_true rfl) ⟨(Nat.le_of_ble_eq_true rfl), (Nat.le_of_ble_eq_true rfl)⟩ rfl rfl rfl rfl rfl dX1_cast_84 ?_
    have hk : rf v9 3 = nI k := by rw [hv9]; exact (upd3t _ _ _ _).trans hk
    refine z_aload_n C 1 dX1_cast_87 rfl rfl ?_
    refine z_get1 (v := .ref (gg 1)) C inl 0 2 (by decide) rfl rfl wd0 dX1_cast_88 ?_
    refine z_iconst (v := 3) C dX1_cast_91 (by decide) ?_
    refine z_dup2 C dX1_cast_92 rfl rfl ?_
    refine z_iald (f := rf v9) C 1 0 rfl rfl 3 rfl (by omega) (by decide) dX1_cast_93 ?_
    refine z_iconst (v := 1) C dX1_cast_94 (by decide) ?_
    refine z_iadd C dX1_cast_95 ?_
    refine z_top (y := nI (k + 1)) (by rw [show _ = nI k from hk]; exact z_1 k) ?_
    refine z_iast (ws' := (wX1 gg cI (rt v9, rn v9, upd (rf v9) 3 (nI (k + 1)), rk v9))) C 1 0 rfl rfl 3 rfl (by omega) (by decide) rfl dX1_cast_96 ?_
    refine z_iload C 0 dX1_cast_97 rfl ?_
    subst hv9
    subst hv8
    subst hv7
    subst hv6
    subst hv5
    exact z_iret C hr hlocks (Nat.le_of_ble_eq_true rfl) (Nat.le_of_ble_eq_true rfl) dX1_cast_99 (by first | rfl | (simp only [vf, rcast, rc1, rc2, rcE, n1, ↓reduceIte]; done) | (simp only [vf, rcast, rc1, rc2, rcE, n1, ↓reduceIte]; rfl)) (congrArg (wX1 gg cI) (by first | rfl | (simp only [vf, rcast, rc1, rc2, rcE, n1, ↓reduceIte]; done) | (simp only [vf, rcast, rc1, rc2, rcE, n1, ↓reduceIte]; rfl)))
set_option maxHeartbeats 4000000 in
set_option maxRecDepth 100000 in
theorem c_X1_until (l : Launch) (D : va_G) (gg : Nat → Nat) (cI : ClassId) (v : S1) (j w : Nat) (k : Nat) (W : Nat → Nat) (hj : j < 8) (hw : w < 3) (hL : rL (rf v) k W) (hn : (rn v) ≤ 8) : zM l yX1_until wsX1_until 4 88 0 0 [.ref (gg 0), .int (nI j), .int (nI w)] [(cI, .int)] D (wX1 gg cI v) (wX1 gg cI (runS v k W j w)) (some (.int (runR v k W j w))) := by
  refine z_met (cc := cX1_until) (maxL := 4) (ret := (some .int)) (by decide) rfl (Nat.le_of_ble_eq_true rfl) ?_
  intro p e s m args below meth c A C hr hlocks
  have inl : ∀ w ∈ u_ws RX1 TX1 4, w ∈ wsX1_until := by decide +kernel
  refine z_sub (L' := [(0, .ref (gg 0)), (1, .int (nI j)), (2, .int (nI w))]) [0, 1, 2] rfl ?_
  have hk := hL.1
  have hk30 := hL.2.1
  have ct32 : ∀ (i : Nat), i ≤ 61 → i = runN (rf v) (rn v) k W j w 0 61 → zG p l e ({ frames := 4, cells := 0, slots := 0, locals := 88 } : Room) s m args below meth c D 4 A 0 0 (MQ below (zQ (some (.int (runR v k W j w))) (fun t => va_P D vwCl (wX1 gg cI (runS v k W j w)) t.heap) A) args s 0 0 A) 32 [(0, .ref (gg 0)), (1, .int (nI j)), (2, .int (nI w)), (3, .int (nI i))] [] (wX1 gg cI (rt v, rn v, (rdp (rf v) (rn v) k W i).1, va_cpy (rf v) (rk v) 0 0 148)) := by
    intro i hi he
    refine z_aload_n C 0 dX1_until_32 rfl rfl ?_
    obtain ⟨v1, hv1⟩ : ∃ z, z = rback (rt v, rn v, (rdp (rf v) (rn v) k W i).1, va_cpy (rf v) (rk v) 0 0 148) := ⟨_, rfl⟩
    refine z_callV (w := (wX1 gg cI (rt v, rn v, (rdp (rf v) (rn v) k W i).1, va_cpy (rf v) (rk v) 0 0 148))) (w' := (wX1 gg cI v1)) (w1 := ([] : va_W)) (w2 := ([] : va_W)) (ws' := (wX1 gg cI v1)) (As := []) (rest := []) (st' := []) (rv := none) C (by rw [hv1]; exact c_X1_bringBack l D gg cI (rt v, rn v, (rdp (rf v) (rn v) k W i).1, va_cpy (rf v) (rk v) 0 0 148)) (cwV 0 C.words gX1_until_X1_bringBack rfl rfl rfl (by decide +kernel) ⟨(Nat.le_of_ble_eq_true rfl), (Nat.le_of_ble_eq_true rfl)⟩) (q0 := 0) (ci := 1) rfl rfl rfl [0] rfl rfl (Nat.le_of_ble_eq_true rfl) ⟨(Nat.le_of_ble_eq_true rfl), (Nat.le_of_ble_eq_true rfl)⟩ rfl rfl rfl rfl rfl dX1_until_33 ?_
    refine z_iload_n C 3 dX1_until_36 rfl rfl ?_
    refine z_bipush (v := 60) C dX1_until_37 (by decide) ?_
    refine z_icmp_le (tgt := 46) C dX1_until_39 (by decide) (fun c39 => ?_) (fun c39 => ?_)
    · skip
      refine z_iload_n C 3 dX1_until_46 rfl rfl ?_
      subst hv1
      exact z_iret C hr hlocks (Nat.le_of_ble_eq_true rfl) (Nat.le_of_ble_eq_true rfl) dX1_until_47 (by show _ = runR v k W j w; unfold runR; rw [← he, if_pos c39]) (congrArg (wX1 gg cI) (by show _ = runS v k W j w; unfold runS; rw [← he]; rfl))
    · skip
      refine z_iconst (v := -1) C dX1_until_42 (by decide) ?_
      refine z_goto (tgt := 47) C dX1_until_43 (by decide) ?_
      subst hv1
      exact z_iret C hr hlocks (Nat.le_of_ble_eq_true rfl) (Nat.le_of_ble_eq_true rfl) dX1_until_47 (by show _ = runR v k W j w; unfold runR; rw [← he, if_neg c39]) (congrArg (wX1 gg cI) (by show _ = runS v k W j w; unfold runS; rw [← he]; rfl))
  have lp6 : ∀ (dd i : Nat), i + dd = 61 → runN (rf v) (rn v) k W j w 0 61 = runN (rf v) (rn v) k W j w i dd → zG p l e ({ frames := 4, cells := 0, slots := 0, locals := 88 } : Room) s m args below meth c D 4 A 0 0 (MQ below (zQ (some (.int (runR v k W j w))) (fun t => va_P D vwCl (wX1 gg cI (runS v k W j w)) t.heap) A) args s 0 0 A) 6 [(0, .ref (gg 0)), (1, .int (nI j)), (2, .int (nI w)), (3, .int (nI i))] [] (wX1 gg cI (rt v, rn v, (rdp (rf v) (rn v) k W i).1, va_cpy (rf v) (rk v) 0 0 148)) := by
    intro dd
    induction dd with
    | zero =>
      intro i hi h1
      obtain rfl : 61 = i := by omega
      refine z_iload_n C 3 dX1_until_6 rfl rfl ?_
      refine z_bipush (v := 60) C dX1_until_7 (by decide) ?_
      refine z_icmp_gt (tgt := 32) C dX1_until_9 (by decide) (fun _ => ?_) (fun h9 => absurd (by decide) h9)
      exact ct32 61 (by omega) h1.symm
    | succ dd ih =>
      intro i hi h1
      refine z_iload_n C 3 dX1_until_6 rfl rfl ?_
      refine z_bipush (v := 60) C dX1_until_7 (by decide) ?_
      refine z_icmp_gt (tgt := 32) C dX1_until_9 (by decide) (fun h9 => absurd h9 (nI_nlt (a := 60) (b := i) (by omega) (by omega))) (fun _ => ?_)
      refine z_aload_n C 0 dX1_until_12 rfl rfl ?_
      refine z_iload_n C 1 dX1_until_13 rfl rfl ?_
      refine z_iload_n C 2 dX1_until_14 rfl rfl ?_
      refine z_callV (w := (wX1 gg cI (rt v, rn v, (rdp (rf v) (rn v) k W i).1, va_cpy (rf v) (rk v) 0 0 148))) (w' := (wX1 gg cI (rt v, rn v, (rdp (rf v) (rn v) k W i).1, va_cpy (rf v) (rk v) 0 0 148))) (w1 := ([] : va_W)) (w2 := ([] : va_W)) (ws' := (wX1 gg cI (rt v, rn v, (rdp (rf v) (rn v) k W i).1, va_cpy (rf v) (rk v) 0 0 148))) (As := [.int (nI j), .int (nI w)]) (rest := []) (st' := [.int (((rdp (rf v) (rn v) k W i).1) (mi j w))]) (rv := some (.int (((rdp (rf v) (rn v) k W i).1) (mi j w)))) C (c_X1_me l D gg cI (rt v, rn v, (rdp (rf v) (rn v) k W i).1, va_cpy (rf v) (rk v) 0 0 148) j w hj hw) (cwV 2 C.words gX1_until_X1_me rfl rfl rfl (by decide +kernel) ⟨(Nat.le_of_ble_eq_true rfl), (Nat.le_of_ble_eq_true rfl)⟩) (q0 := 0) (ci := 1) rfl rfl rfl [0] rfl rfl (Nat.le_of_ble_eq_true rfl) ⟨(Nat.le_of_ble_eq_true rfl), (Nat.le_of_ble_eq_true rfl)⟩ rfl rfl rfl rfl rfl dX1_until_15 ?_
      refine z_if_le (tgt := 32) C dX1_until_18 (by decide) (fun c18 => ?_) (fun c18 => ?_)
      · skip
        exact ct32 i (by omega) ((h1.trans (if_pos c18)).symm)
      · skip
        refine z_aload_n C 0 dX1_until_21 rfl rfl ?_
        obtain ⟨v2, hv2⟩ : ∃ z, z = vf (rt v, rn v, (rdp (rf v) (rn v) k W i).1, va_cpy (rf v) (rk v) 0 0 148) (rday ((rdp (rf v) (rn v) k W i).1) (rn v) ((rdp (rf v) (rn v) k W i).2) W) := ⟨_, rfl⟩
        refine z_callV (w := (wX1 gg cI (rt v, rn v, (rdp (rf v) (rn v) k W i).1, va_cpy (rf v) (rk v) 0 0 148))) (w' := (wX1 gg cI v2)) (w1 := ([] : va_W)) (w2 := ([] : va_W)) (ws' := (wX1 gg cI v2)) (As := []) (rest := []) (st' := [.int (rdayF ((rdp (rf v) (rn v) k W i).1) ((rdp (rf v) (rn v) k W i).2))]) (rv := some (.int (rdayF ((rdp (rf v) (rn v) k W i).1) ((rdp (rf v) (rn v) k W i).2)))) C (by rw [hv2]; exact c_X1_dayOn l D gg cI (rt v, rn v, (rdp (rf v) (rn v) k W i).1, va_cpy (rf v) (rk v) 0 0 148) ((rdp (rf v) (rn v) k W i).2) W (rdp_L hn hL i) hn) (cwV 0 C.words gX1_until_X1_dayOn rfl rfl rfl (by decide +kernel) ⟨(Nat.le_of_ble_eq_true rfl), (Nat.le_of_ble_eq_true rfl)⟩) (q0 := 0) (ci := 1) rfl rfl rfl [0] rfl rfl (Nat.le_of_ble_eq_true rfl) ⟨(Nat.le_of_ble_eq_true rfl), (Nat.le_of_ble_eq_true rfl)⟩ rfl rfl rfl rfl rfl dX1_until_22 ?_
        refine z_pop C dX1_until_25 rfl ?_
        refine z_iinc (v := nI (i + 1)) (L' := [(3, .int (nI (i + 1))), (0, .ref (gg 0)), (1, .int (nI j)), (2, .int (nI w))]) C 3 dX1_until_26 rfl (z_inc _) (by decide) rfl ?_
        refine z_goto (tgt := 6) C dX1_until_29 (by decide) ?_
        refine z_sub (L' := [(0, .ref (gg 0)), (1, .int (nI j)), (2, .int (nI w)), (3, .int (nI (i + 1)))]) [1, 2, 3, 0] rfl ?_
        subst hv2
        exact ih (i + 1) (by omega) (h1.trans (if_neg c18))
  refine z_aload_n C 0 dX1_until_0 rfl rfl ?_
  obtain ⟨v3, hv3⟩ : ∃ z, z = rkeep v := ⟨_, rfl⟩
  refine z_callV (w := (wX1 gg cI v)) (w' := (wX1 gg cI v3)) (w1 := ([] : va_W)) (w2 := ([] : va_W)) (ws' := (wX1 gg cI v3)) (As := []) (rest := []) (st' := []) (rv := none) C (by rw [hv3]; exact c_X1_keep l D gg cI v) (cwV 0 C.words gX1_until_X1_keep rfl rfl rfl (by decide +kernel) ⟨(Nat.le_of_ble_eq_true rfl), (Nat.le_of_ble_eq_true rfl)⟩) (q0 := 0) (ci := 1) rfl rfl rfl [0] rfl rfl (Nat.le_of_ble_eq_true rfl) ⟨(Nat.le_of_ble_eq_true rfl), (Nat.le_of_ble_eq_true rfl)⟩ rfl rfl rfl rfl rfl dX1_until_1 ?_
  refine z_iconst (v := 0) C dX1_until_4 (by decide) ?_
  refine z_istore_n (L' := [(3, .int 0), (0, .ref (gg 0)), (1, .int (nI j)), (2, .int (nI w))]) C dX1_until_5 rfl (by decide) rfl ?_
  refine z_sub (L' := [(0, .ref (gg 0)), (1, .int (nI j)), (2, .int (nI w)), (3, .int 0)]) [1, 2, 3, 0] rfl ?_
  subst hv3
  exact lp6 61 0 (by omega) rfl
set_option maxHeartbeats 4000000 in
set_option maxRecDepth 100000 in
theorem c_X1_pinch (l : Launch) (D : va_G) (gg : Nat → Nat) (cI : ClassId) (v : S1) (j sa : Nat) (k : Nat) (W : Nat → Nat) (hj : j < (rn v)) (hn : (rn v) ≤ 8) (hL : rL (rf v) k W) (hc : (rf v) 1 = nI sa) (hc5 : sa ≤ 500) : zM l yX1_pinch wsX1_pinch 5 111 0 0 [.ref (gg 0), .int (nI j)] [(cI, .int)] D (wX1 gg cI v) (wX1 gg cI (rpin v k W j sa)) (some (.int (rpinR v k W j sa))) := by
  refine z_met (cc := cX1_pinch) (maxL := 7) (ret := (some .int)) (by decide) rfl (Nat.le_of_ble_eq_true rfl) ?_
  intro p e s m args below meth c A C hr hlocks
  have inl : ∀ w ∈ u_ws RX1 TX1 4, w ∈ wsX1_pinch := by decide +kernel
  have wd0 : Cond.fieldLink RX1 9 "SaltOrderModel" "now" "[I" ∈ wsX1_pinch := by decide +kernel
  have wd1 : Cond.methodLink RX1 57 Lib.Math.min.name ∈ wsX1_pinch := by decide +kernel
  have wd2 : Cond.static Lib.Math.min.name ∈ wsX1_pinch := by decide +kernel
  have wd3 : Cond.initialized "java/lang/Math" ∈ wsX1_pinch := by decide +kernel
  have wd4 : Cond.code Lib.Math.min.name Lib.Math.min.code 2 (some .int) ∈ wsX1_pinch := by decide +kernel
  refine z_sub (L' := [(0, .ref (gg 0)), (1, .int (nI j))]) [0, 1] rfl ?_
  have hk := hL.1
  have hk30 := hL.2.1
  have lp37 : ∀ (dd i : Nat), i + dd = min 9 sa + 1 → ¬ nI k = 30 → zG p l e ({ frames := 5, cells := 0, slots := 0, locals := 111 } : Room) s m args below meth c D 7 A 0 0 (MQ below (zQ (some (.int (rpinR v k W j sa))) (fun t => va_P D vwCl (wX1 gg cI (rpin v k W j sa)) t.heap) A) args s 0 0 A) 37 [(0, .ref (gg 0)), (1, .int (nI j)), (2, .int ((rpl v k W j i).1)), (3, .int ((rpl v k W j i).2.1)), (4, .int (nI (min 9 sa))), (5, .int (nI i))] [] (wX1 gg cI ((rpl v k W j i).2.2)) := by
    intro dd
    induction dd with
    | zero =>
      intro i hi h30
      have hi : i = min 9 sa + 1 := by omega
      subst hi
      refine z_iload C 5 dX1_pinch_37 rfl ?_
      refine z_iload C 4 dX1_pinch_39 rfl ?_
      refine z_icmp_gt (tgt := 98) C dX1_pinch_41 (by decide) (fun _ => ?_) (fun h9 => absurd (nI_lt (by omega) (by omega)) h9)
      refine z_iload_n C 2 dX1_pinch_98 rfl rfl ?_
      exact z_iret C hr hlocks (Nat.le_of_ble_eq_true rfl) (Nat.le_of_ble_eq_true rfl) dX1_pinch_99 (by (unfold rpinR; rw [if_neg h30])) (congrArg (wX1 gg cI) (by (unfold rpin; rw [if_neg h30])))
    | succ dd ih =>
      intro i hi h30
      have hni := rpl_n v k W j i
      have hLi : rL (rf (rpl v k W j i).2.2) k W := rlo_L hL j i
      have hk3 : k < 30 := by have h31 : ¬ k = 30 := fun h => h30 (by rw [h]; rfl); omega
      refine z_iload C 5 dX1_pinch_37 rfl ?_
      refine z_iload C 4 dX1_pinch_39 rfl ?_
      refine z_icmp_gt (tgt := 98) C dX1_pinch_41 (by decide) (fun h9 => absurd h9 (nI_nlt (by omega) (by omega))) (fun _ => ?_)
      refine z_iload C 5 dX1_pinch_44 rfl ?_
      refine z_if_le (tgt := 58) C dX1_pinch_46 (by decide) (fun c46 => ?_) (fun c46 => ?_)
      · skip
        refine z_aload_n C 0 dX1_pinch_58 rfl rfl ?_
        refine z_bipush (v := 14) C dX1_pinch_59 (by decide) ?_
        obtain ⟨v1, hv1⟩ : ∃ z, z = vf ((rpl v k W j i).2.2) (rdp (rf ((rpl v k W j i).2.2)) (rn ((rpl v k W j i).2.2)) k W 14).1 := ⟨_, rfl⟩
        refine z_callV (w := (wX1 gg cI ((rpl v k W j i).2.2))) (w' := (wX1 gg cI v1)) (w1 := ([] : va_W)) (w2 := ([] : va_W)) (ws' := (wX1 gg cI v1)) (As := [.int 14]) (rest := []) (st' := [.int (rdpF (rf ((rpl v k W j i).2.2)) (rn ((rpl v k W j i).2.2)) k W 14)]) (rv := some (.int (rdpF (rf ((rpl v k W j i).2.2)) (rn ((rpl v k W j i).2.2)) k W 14))) C (by rw [hv1]; exact c_X1_daysOn l D gg cI ((rpl v k W j i).2.2) 14 k W (by omega) hLi (by omega)) (cwV 1 C.words gX1_pinch_X1_daysOn rfl rfl rfl (by decide +kernel) ⟨(Nat.le_of_ble_eq_true rfl), (Nat.le_of_ble_eq_true rfl)⟩) (q0 := 0) (ci := 1) rfl rfl rfl [0] rfl rfl (Nat.le_of_ble_eq_true rfl) ⟨(Nat.le_of_ble_eq_true rfl), (Nat.le_of_ble_eq_true rfl)⟩ rfl rfl rfl rfl rfl dX1_pinch_61 ?_
        refine z_pop C dX1_pinch_64 rfl ?_
        refine z_aload_n C 0 dX1_pinch_65 rfl rfl ?_
        refine z_iload_n C 1 dX1_pinch_66 rfl rfl ?_
        refine z_iconst (v := 0) C dX1_pinch_67 (by decide) ?_
        refine z_callV (w := (wX1 gg cI v1)) (w' := (wX1 gg cI v1)) (w1 := ([] : va_W)) (w2 := ([] : va_W)) (ws' := (wX1 gg cI v1)) (As := [.int (nI j), .int 0]) (rest := []) (st' := [.int ((rf v1) (mi j 0))]) (rv := some (.int ((rf v1) (mi j 0)))) C (c_X1_me l D gg cI v1 j 0 (by omega) (by omega)) (cwV 2 C.words gX1_pinch_X1_me rfl rfl rfl (by decide +kernel) ⟨(Nat.le_of_ble_eq_true rfl), (Nat.le_of_ble_eq_true rfl)⟩) (q0 := 0) (ci := 1) rfl rfl rfl [0] rfl rfl (Nat.le_of_ble_eq_true rfl) ⟨(Nat.le_of_ble_eq_true rfl), (Nat.le_of_ble_eq_true rfl)⟩ rfl rfl rfl rfl rfl dX1_pinch_68 ?_
        refine z_istore (L' := [(6, .int ((rf v1) (mi j 0))), (0, .ref (gg 0)), (1, .int (nI j)), (2, .int ((rpl v k W j i).1)), (3, .int ((rpl v k W j i).2.1)), (4, .int (nI (min 9 sa))), (5, .int (nI i))]) C dX1_pinch_71 (by decide) rfl ?_
        refine z_aload_n C 1 dX1_pinch_73 rfl rfl ?_
        obtain ⟨v2, hv2⟩ : ∃ z, z = rback v1 := ⟨_, rfl⟩
        refine z_callV (w := (wX1 gg cI v1)) (w' := (wX1 gg cI v2)) (w1 := ([] : va_W)) (w2 := ([] : va_W)) (ws' := (wX1 gg cI v2)) (As := []) (rest := []) (st' := []) (rv := none) C (by rw [hv2]; exact c_X1_bringBack l D gg cI v1) (cwV 0 C.words gX1_pinch_X1_bringBack rfl rfl rfl (by decide +kernel) ⟨(Nat.le_of_ble_eq_true rfl), (Nat.le_of_ble_eq_true rfl)⟩) (q0 := 0) (ci := 1) rfl rfl rfl [0] rfl rfl (Nat.le_of_ble_eq_true rfl) ⟨(Nat.le_of_ble_eq_true rfl), (Nat.le_of_ble_eq_true rfl)⟩ rfl rfl rfl rfl rfl dX1_pinch_74 ?_
        refine z_iload C 0 dX1_pinch_77 rfl ?_
        refine z_iload_n C 4 dX1_pinch_79 rfl rfl ?_
        refine z_icmp_gt (tgt := 86) C dX1_pinch_80 (by decide) (fun c80 => ?_) (fun c80 => ?_)
        · skip
          refine z_iload C 6 dX1_pinch_86 rfl ?_
          refine z_istore_n (L' := [(2, .int (nI i)), (6, .int ((rf v1) (mi j 0))), (0, .ref (gg 0)), (1, .int (nI j)), (3, .int ((rpl v k W j i).2.1)), (4, .int (nI (min 9 sa))), (5, .int (nI i))]) C dX1_pinch_88 rfl (by decide) rfl ?_
          refine z_iload C 1 dX1_pinch_89 rfl ?_
          refine z_istore_n (L' := [(3, .int ((rf v1) (mi j 0))), (2, .int (nI i)), (6, .int ((rf v1) (mi j 0))), (0, .ref (gg 0)), (1, .int (nI j)), (4, .int (nI (min 9 sa))), (5, .int (nI i))]) C dX1_pinch_91 rfl (by decide) rfl ?_
          refine z_iinc (v := nI (i + 1)) (L' := [(5, .int (nI (i + 1))), (3, .int ((rf v1) (mi j 0))), (2, .int (nI i)), (6, .int ((rf v1) (mi j 0))), (0, .ref (gg 0)), (1, .int (nI j)), (4, .int (nI (min 9 sa)))]) C 6 dX1_pinch_92 rfl (z_inc _) (by decide) rfl ?_
          refine z_goto (tgt := 37) C dX1_pinch_95 (by decide) ?_
          refine z_sub (L' := [(0, .ref (gg 0)), (1, .int (nI j)), (2, .int (nI i)), (3, .int ((rf v1) (mi j 0))), (4, .int (nI (min 9 sa))), (5, .int (nI (i + 1)))]) [4, 5, 2, 1, 6, 0] rfl ?_
          subst hv2
          subst hv1
          exact (by have e9 := ih (i + 1) (by omega) h30; rw [rpl_pos ((if_pos c46).trans (by show _ = (rdp _ (rn (rpl v k W j i).2.2) _ _ 14).1; rw [hni])) c80] at e9; exact e9)
        · skip
          refine z_goto (tgt := 92) C dX1_pinch_83 (by decide) ?_
          refine z_iinc (v := nI (i + 1)) (L' := [(5, .int (nI (i + 1))), (6, .int ((rf v1) (mi j 0))), (0, .ref (gg 0)), (1, .int (nI j)), (2, .int ((rpl v k W j i).1)), (3, .int ((rpl v k W j i).2.1)), (4, .int (nI (min 9 sa)))]) C 6 dX1_pinch_92 rfl (z_inc _) (by decide) rfl ?_
          refine z_goto (tgt := 37) C dX1_pinch_95 (by decide) ?_
          refine z_sub (L' := [(0, .ref (gg 0)), (1, .int (nI j)), (2, .int ((rpl v k W j i).1)), (3, .int ((rpl v k W j i).2.1)), (4, .int (nI (min 9 sa))), (5, .int (nI (i + 1)))]) [2, 3, 4, 5, 6, 0] rfl ?_
          subst hv2
          subst hv1
          exact (by have e9 := ih (i + 1) (by omega) h30; rw [rpl_neg ((if_pos c46).trans (by show _ = (rdp _ (rn (rpl v k W j i).2.2) _ _ 14).1; rw [hni])) c80] at e9; exact e9)
      · skip
        refine z_aload_n C 0 dX1_pinch_49 rfl rfl ?_
        refine z_iload_n C 1 dX1_pinch_50 rfl rfl ?_
        refine z_iconst (v := 1) C dX1_pinch_51 (by decide) ?_
        refine z_iload C 5 dX1_pinch_52 rfl ?_
        obtain ⟨v3, hv3⟩ : ∃ z, z = vf ((rpl v k W j i).2.2) (rcast (rf ((rpl v k W j i).2.2)) k j 1 (nI i)) := ⟨_, rfl⟩
        refine z_callV (w := (wX1 gg cI ((rpl v k W j i).2.2))) (w' := (wX1 gg cI v3)) (w1 := ([] : va_W)) (w2 := ([] : va_W)) (ws' := (wX1 gg cI v3)) (As := [.int (nI j), .int 1, .int (nI i)]) (rest := []) (st' := [.int (rcE (rf ((rpl v k W j i).2.2)) j 1 (nI i))]) (rv := some (.int (rcE (rf ((rpl v k W j i).2.2)) j 1 (nI i)))) C (by rw [hv3]; exact c_X1_cast l D gg cI ((rpl v k W j i).2.2) j 1 (nI i) k W (by omega) hLi hk3) (cwV 3 C.words gX1_pinch_X1_cast rfl rfl rfl (by decide +kernel) ⟨(Nat.le_of_ble_eq_true rfl), (Nat.le_of_ble_eq_true rfl)⟩) (q0 := 0) (ci := 1) rfl rfl rfl [0] rfl rfl (Nat.le_of_ble_eq_true rfl) ⟨(Nat.le_of_ble_eq_true rfl), (Nat.le_of_ble_eq_true rfl)⟩ rfl rfl rfl rfl rfl dX1_pinch_54 ?_
        have hL2 : rL (rf v3) (k + 1) (fun t => if t = k then j else W t) := by rw [hv3]; exact (rcast_L hLi (by omega) hk3)
        have hn2 : rn v3 ≤ 8 := by rw [hv3]; exact (Nat.le_trans (Nat.le_of_eq hni) hn)
        refine z_pop C dX1_pinch_57 rfl ?_
        refine z_aload_n C 0 dX1_pinch_58 rfl rfl ?_
        refine z_bipush (v := 14) C dX1_pinch_59 (by decide) ?_
        obtain ⟨v4, hv4⟩ : ∃ z, z = vf v3 (rdp (rf v3) (rn v3) (k + 1) (fun t => if t = k then j else W t) 14).1 := ⟨_, rfl⟩
        refine z_callV (w := (wX1 gg cI v3)) (w' := (wX1 gg cI v4)) (w1 := ([] : va_W)) (w2 := ([] : va_W)) (ws' := (wX1 gg cI v4)) (As := [.int 14]) (rest := []) (st' := [.int (rdpF (rf v3) (rn v3) (k + 1) (fun t => if t = k then j else W t) 14)]) (rv := some (.int (rdpF (rf v3) (rn v3) (k + 1) (fun t => if t = k then j else W t) 14))) C (by rw [hv4]; exact c_X1_daysOn l D gg cI v3 14 (k + 1) (fun t => if t = k then j else W t) (by omega) hL2 hn2) (cwV 1 C.words gX1_pinch_X1_daysOn rfl rfl rfl (by decide +kernel) ⟨(Nat.le_of_ble_eq_true rfl), (Nat.le_of_ble_eq_true rfl)⟩) (q0 := 0) (ci := 1) rfl rfl rfl [0] rfl rfl (Nat.le_of_ble_eq_true rfl) ⟨(Nat.le_of_ble_eq_true rfl), (Nat.le_of_ble_eq_true rfl)⟩ rfl rfl rfl rfl rfl dX1_pinch_61 ?_
        refine z_pop C dX1_pinch_64 rfl ?_
        refine z_aload_n C 0 dX1_pinch_65 rfl rfl ?_
        refine z_iload_n C 1 dX1_pinch_66 rfl rfl ?_
        refine z_iconst (v := 0) C dX1_pinch_67 (by decide) ?_
        refine z_callV (w := (wX1 gg cI v4)) (w' := (wX1 gg cI v4)) (w1 := ([] : va_W)) (w2 := ([] : va_W)) (ws' := (wX1 gg cI v4)) (As := [.int (nI j), .int 0]) (rest := []) (st' := [.int ((rf v4) (mi j 0))]) (rv := some (.int ((rf v4) (mi j 0)))) C (c_X1_me l D gg cI v4 j 0 (by omega) (by omega)) (cwV 2 C.words gX1_pinch_X1_me rfl rfl rfl (by decide +kernel) ⟨(Nat.le_of_ble_eq_true rfl), (Nat.le_of_ble_eq_true rfl)⟩) (q0 := 0) (ci := 1) rfl rfl rfl [0] rfl rfl (Nat.le_of_ble_eq_true rfl) ⟨(Nat.le_of_ble_eq_true rfl), (Nat.le_of_ble_eq_true rfl)⟩ rfl rfl rfl rfl rfl dX1_pinch_68 ?_
        refine z_istore (L' := [(6, .int ((rf v4) (mi j 0))), (0, .ref (gg 0)), (1, .int (nI j)), (2, .int ((rpl v k W j i).1)), (3, .int ((rpl v k W j i).2.1)), (4, .int (nI (min 9 sa))), (5, .int (nI i))]) C dX1_pinch_71 (by decide) rfl ?_
        refine z_aload_n C 1 dX1_pinch_73 rfl rfl ?_
        obtain ⟨v5, hv5⟩ : ∃ z, z = rback v4 := ⟨_, rfl⟩
        refine z_callV (w := (wX1 gg cI v4)) (w' := (wX1 gg cI v5)) (w1 := ([] : va_W)) (w2 := ([] : va_W)) (ws' := (wX1 gg cI v5)) (As := []) (rest := []) (st' := []) (rv := none) C (by rw [hv5]; exact c_X1_bringBack l D gg cI v4) (cwV 0 C.words gX1_pinch_X1_bringBack rfl rfl rfl (by decide +kernel) ⟨(Nat.le_of_ble_eq_true rfl), (Nat.le_of_ble_eq_true rfl)⟩) (q0 := 0) (ci := 1) rfl rfl rfl [0] rfl rfl (Nat.le_of_ble_eq_true rfl) ⟨(Nat.le_of_ble_eq_true rfl), (Nat.le_of_ble_eq_true rfl)⟩ rfl rfl rfl rfl rfl dX1_pinch_74 ?_
        refine z_iload C 0 dX1_pinch_77 rfl ?_
        refine z_iload_n C 4 dX1_pinch_79 rfl rfl ?_
        refine z_icmp_gt (tgt := 86) C dX1_pinch_80 (by decide) (fun c80 => ?_) (fun c80 => ?_)
        · skip
          refine z_iload C 6 dX1_pinch_86 rfl ?_
          refine z_istore_n (L' := [(2, .int (nI i)), (6, .int ((rf v4) (mi j 0))), (0, .ref (gg 0)), (1, .int (nI j)), (3, .int ((rpl v k W j i).2.1)), (4, .int (nI (min 9 sa))), (5, .int (nI i))]) C dX1_pinch_88 rfl (by decide) rfl ?_
          refine z_iload C 1 dX1_pinch_89 rfl ?_
          refine z_istore_n (L' := [(3, .int ((rf v4) (mi j 0))), (2, .int (nI i)), (6, .int ((rf v4) (mi j 0))), (0, .ref (gg 0)), (1, .int (nI j)), (4, .int (nI (min 9 sa))), (5, .int (nI i))]) C dX1_pinch_91 rfl (by decide) rfl ?_
          refine z_iinc (v := nI (i + 1)) (L' := [(5, .int (nI (i + 1))), (3, .int ((rf v4) (mi j 0))), (2, .int (nI i)), (6, .int ((rf v4) (mi j 0))), (0, .ref (gg 0)), (1, .int (nI j)), (4, .int (nI (min 9 sa)))]) C 6 dX1_pinch_92 rfl (z_inc _) (by decide) rfl ?_
          refine z_goto (tgt := 37) C dX1_pinch_95 (by decide) ?_
          refine z_sub (L' := [(0, .ref (gg 0)), (1, .int (nI j)), (2, .int (nI i)), (3, .int ((rf v4) (mi j 0))), (4, .int (nI (min 9 sa))), (5, .int (nI (i + 1)))]) [4, 5, 2, 1, 6, 0] rfl ?_
          subst hv5
          subst hv4
          subst hv3
          exact (by have e9 := ih (i + 1) (by omega) h30; rw [rpl_pos ((if_neg c46).trans (by show _ = (rdp _ (rn (rpl v k W j i).2.2) _ _ 14).1; rw [hni]; rfl)) c80] at e9; exact e9)
        · skip
          refine z_goto (tgt := 92) C dX1_pinch_83 (by decide) ?_
          refine z_iinc (v := nI (i + 1)) (L' := [(5, .int (nI (i + 1))), (6, .int ((rf v4) (mi j 0))), (0, .ref (gg 0)), (1, .int (nI j)), (2, .int ((rpl v k W j i).1)), (3, .int ((rpl v k W j i).2.1)), (4, .int (nI (min 9 sa)))]) C 6 dX1_pinch_92 rfl (z_inc _) (by decide) rfl ?_
          refine z_goto (tgt := 37) C dX1_pinch_95 (by decide) ?_
          refine z_sub (L' := [(0, .ref (gg 0)), (1, .int (nI j)), (2, .int ((rpl v k W j i).1)), (3, .int ((rpl v k W j i).2.1)), (4, .int (nI (min 9 sa))), (5, .int (nI (i + 1)))]) [2, 3, 4, 5, 6, 0] rfl ?_
          subst hv5
          subst hv4
          subst hv3
          exact (by have e9 := ih (i + 1) (by omega) h30; rw [rpl_neg ((if_neg c46).trans (by show _ = (rdp _ (rn (rpl v k W j i).2.2) _ _ 14).1; rw [hni]; rfl)) c80] at e9; exact e9)
  refine z_aload_n C 0 dX1_pinch_0 rfl rfl ?_
  refine z_get1 (v := .ref (gg 1)) C inl 0 2 (by decide) rfl rfl wd0 dX1_pinch_1 ?_
  refine z_iconst (v := 3) C dX1_pinch_4 (by decide) ?_
  refine z_iald (f := rf v) C 1 0 rfl rfl 3 rfl (by omega) (by decide) dX1_pinch_5 ?_
  refine z_top (y := nI k) hk ?_
  refine z_bipush (v := 30) C dX1_pinch_6 (by decide) ?_
  refine z_icmp_ne (tgt := 13) C dX1_pinch_8 (by decide) (fun c8 => ?_) (fun c8 => ?_)
  · skip
    refine z_iconst (v := 0) C dX1_pinch_13 (by decide) ?_
    refine z_istore_n (L' := [(2, .int 0), (0, .ref (gg 0)), (1, .int (nI j))]) C dX1_pinch_14 rfl (by decide) rfl ?_
    refine z_iconst (v := -1) C dX1_pinch_15 (by decide) ?_
    refine z_istore_n (L' := [(3, .int (-1)), (2, .int 0), (0, .ref (gg 0)), (1, .int (nI j))]) C dX1_pinch_16 rfl (by decide) rfl ?_
    refine z_bipush (v := 9) C dX1_pinch_17 (by decide) ?_
    refine z_aload_n C 2 dX1_pinch_19 rfl rfl ?_
    refine z_get1 (v := .ref (gg 1)) C inl 0 2 (by decide) rfl rfl wd0 dX1_pinch_20 ?_
    refine z_iconst (v := 1) C dX1_pinch_23 (by decide) ?_
    refine z_iald (f := rf v) C 1 0 rfl rfl 1 rfl (by omega) (by decide) dX1_pinch_24 ?_
    refine z_top (y := nI sa) hc ?_
    refine z_mmin C wd1 wd2 wd3 wd4 (Nat.le_of_ble_eq_true rfl) (Nat.le_of_ble_eq_true rfl) (Nat.le_of_ble_eq_true rfl) (Nat.le_of_ble_eq_true rfl) dX1_pinch_25 ?_
    refine z_top (y := nI (min 9 sa)) (imin_nI (a := 9) (by omega) (by omega)) ?_
    refine z_istore (L' := [(4, .int (nI (min 9 sa))), (3, .int (-1)), (2, .int 0), (0, .ref (gg 0)), (1, .int (nI j))]) C dX1_pinch_28 (by decide) rfl ?_
    refine z_aload_n C 3 dX1_pinch_30 rfl rfl ?_
    obtain ⟨v6, hv6⟩ : ∃ z, z = rkeep v := ⟨_, rfl⟩
    refine z_callV (w := (wX1 gg cI v)) (w' := (wX1 gg cI v6)) (w1 := ([] : va_W)) (w2 := ([] : va_W)) (ws' := (wX1 gg cI v6)) (As := []) (rest := []) (st' := []) (rv := none) C (by rw [hv6]; exact c_X1_keep l D gg cI v) (cwV 0 C.words gX1_pinch_X1_keep rfl rfl rfl (by decide +kernel) ⟨(Nat.le_of_ble_eq_true rfl), (Nat.le_of_ble_eq_true rfl)⟩) (q0 := 0) (ci := 1) rfl rfl rfl [0] rfl rfl (Nat.le_of_ble_eq_true rfl) ⟨(Nat.le_of_ble_eq_true rfl), (Nat.le_of_ble_eq_true rfl)⟩ rfl rfl rfl rfl rfl dX1_pinch_31 ?_
    refine z_iconst (v := 0) C dX1_pinch_34 (by decide) ?_
    refine z_istore (L' := [(5, .int 0), (4, .int (nI (min 9 sa))), (3, .int (-1)), (2, .int 0), (0, .ref (gg 0)), (1, .int (nI j))]) C dX1_pinch_35 (by decide) rfl ?_
    refine z_sub (L' := [(0, .ref (gg 0)), (1, .int (nI j)), (2, .int 0), (3, .int (-1)), (4, .int (nI (min 9 sa))), (5, .int 0)]) [4, 5, 3, 2, 1, 0] rfl ?_
    subst hv6
    exact lp37 (min 9 sa + 1) 0 (by omega) c8
  · skip
    refine z_iconst (v := 0) C dX1_pinch_11 (by decide) ?_
    exact z_iret C hr hlocks (Nat.le_of_ble_eq_true rfl) (Nat.le_of_ble_eq_true rfl) dX1_pinch_12 (by (unfold rpinR; rw [if_pos c8])) (congrArg (wX1 gg cI) (by (unfold rpin; rw [if_pos c8])))
set_option maxHeartbeats 4000000 in
set_option maxRecDepth 100000 in
theorem c_X1_penance (l : Launch) (D : va_G) (gg : Nat → Nat) (cI : ClassId) (v : S1) (j : Nat) (k : Nat) (W : Nat → Nat) (hj : j < (rn v)) (hn : (rn v) ≤ 8) (hL : rL (rf v) k W) : zM l yX1_penance wsX1_penance 5 111 0 0 [.ref (gg 0), .int (nI j)] [(cI, .int)] D (wX1 gg cI v) (wX1 gg cI (rpen v k W j)) (some (.int (rpenR v k W j))) := by
  refine z_met (cc := cX1_penance) (maxL := 6) (ret := (some .int)) (by decide) rfl (Nat.le_of_ble_eq_true rfl) ?_
  intro p e s m args below meth c A C hr hlocks
  have inl : ∀ w ∈ u_ws RX1 TX1 4, w ∈ wsX1_penance := by decide +kernel
  have wd0 : Cond.methodLink RX1 57 Lib.Math.min.name ∈ wsX1_penance := by decide +kernel
  have wd1 : Cond.static Lib.Math.min.name ∈ wsX1_penance := by decide +kernel
  have wd2 : Cond.initialized "java/lang/Math" ∈ wsX1_penance := by decide +kernel
  have wd3 : Cond.code Lib.Math.min.name Lib.Math.min.code 2 (some .int) ∈ wsX1_penance := by decide +kernel
  refine z_sub (L' := [(0, .ref (gg 0)), (1, .int (nI j))]) [0, 1] rfl ?_
  have hk := hL.1
  have hk30 := hL.2.1
  have lp11 : ∀ (dd i : Nat), i + dd = 10 → zG p l e ({ frames := 5, cells := 0, slots := 0, locals := 111 } : Room) s m args below meth c D 6 A 0 0 (MQ below (zQ (some (.int (rpenR v k W j))) (fun t => va_P D vwCl (wX1 gg cI (rpen v k W j)) t.heap) A) args s 0 0 A) 11 [(0, .ref (gg 0)), (1, .int (nI j)), (2, .int ((rpm v k W j i).1)), (3, .int ((rpm v k W j i).2.1)), (4, .int (nI i))] [] (wX1 gg cI ((rpm v k W j i).2.2)) := by
    intro dd
    induction dd with
    | zero =>
      intro i hi
      obtain rfl : 10 = i := by omega
      refine z_iload C 4 dX1_penance_11 rfl ?_
      refine z_bipush (v := 9) C dX1_penance_13 (by decide) ?_
      refine z_icmp_gt (tgt := 78) C dX1_penance_15 (by decide) (fun _ => ?_) (fun h9 => absurd (by decide) h9)
      refine z_iload_n C 2 dX1_penance_78 rfl rfl ?_
      exact z_iret C hr hlocks (Nat.le_of_ble_eq_true rfl) (Nat.le_of_ble_eq_true rfl) dX1_penance_79 (by rfl) (congrArg (wX1 gg cI) (by rfl))
    | succ dd ih =>
      intro i hi
      have hni := rpm_n v k W j i
      have hLi : rL (rf (rpm v k W j i).2.2) k W := rlo_L hL j i
      refine z_iload C 4 dX1_penance_11 rfl ?_
      refine z_bipush (v := 9) C dX1_penance_13 (by decide) ?_
      refine z_icmp_gt (tgt := 78) C dX1_penance_15 (by decide) (fun h9 => absurd h9 (nI_nlt (a := 9) (b := i) (by omega) (by omega))) (fun _ => ?_)
      refine z_aload_n C 0 dX1_penance_18 rfl rfl ?_
      refine z_iload_n C 1 dX1_penance_19 rfl rfl ?_
      refine z_iconst (v := 2) C dX1_penance_20 (by decide) ?_
      refine z_bipush (v := 9) C dX1_penance_21 (by decide) ?_
      refine z_aload_n C 0 dX1_penance_23 rfl rfl ?_
      refine z_iload_n C 1 dX1_penance_24 rfl rfl ?_
      refine z_iconst (v := 2) C dX1_penance_25 (by decide) ?_
      refine z_callV (w := (wX1 gg cI ((rpm v k W j i).2.2))) (w' := (wX1 gg cI ((rpm v k W j i).2.2))) (w1 := ([] : va_W)) (w2 := ([] : va_W)) (ws' := (wX1 gg cI ((rpm v k W j i).2.2))) (As := [.int (nI j), .int 2]) (rest := [.int 9, .int 2, .int (nI j), .ref (gg 0)]) (st' := [.int ((rf ((rpm v k W j i).2.2)) (mi j 2)), .int 9, .int 2, .int (nI j), .ref (gg 0)]) (rv := some (.int ((rf ((rpm v k W j i).2.2)) (mi j 2)))) C (c_X1_me l D gg cI ((rpm v k W j i).2.2) j 2 (by omega) (by omega)) (cwV 2 C.words gX1_penance_X1_me rfl rfl rfl (by decide +kernel) ⟨(Nat.le_of_ble_eq_true rfl), (Nat.le_of_ble_eq_true rfl)⟩) (q0 := 0) (ci := 1) rfl rfl rfl [0] rfl rfl (Nat.le_of_ble_eq_true rfl) ⟨(Nat.le_of_ble_eq_true rfl), (Nat.le_of_ble_eq_true rfl)⟩ rfl rfl rfl rfl rfl dX1_penance_26 ?_
      refine z_iload C 4 dX1_penance_29 rfl ?_
      refine z_iadd C dX1_penance_31 ?_
      refine z_mmin C wd0 wd1 wd2 wd3 (Nat.le_of_ble_eq_true rfl) (Nat.le_of_ble_eq_true rfl) (Nat.le_of_ble_eq_true rfl) (Nat.le_of_ble_eq_true rfl) dX1_penance_32 ?_
      obtain ⟨v1, hv1⟩ : ∃ z, z = vf ((rpm v k W j i).2.2) (upd (rf ((rpm v k W j i).2.2)) (mi j 2) (imin 9 (((rf ((rpm v k W j i).2.2)) (mi j 2)) + (nI i)))) := ⟨_, rfl⟩
      refine z_callV (w := (wX1 gg cI ((rpm v k W j i).2.2))) (w' := (wX1 gg cI v1)) (w1 := ([] : va_W)) (w2 := ([] : va_W)) (ws' := (wX1 gg cI v1)) (As := [.int (nI j), .int 2, .int (imin 9 (((rf ((rpm v k W j i).2.2)) (mi j 2)) + (nI i)))]) (rest := []) (st' := []) (rv := none) C (by rw [hv1]; exact c_X1_let l D gg cI ((rpm v k W j i).2.2) j 2 (imin 9 (((rf ((rpm v k W j i).2.2)) (mi j 2)) + (nI i))) (by omega) (by omega)) (cwV 3 C.words gX1_penance_X1_let rfl rfl rfl (by decide +kernel) ⟨(Nat.le_of_ble_eq_true rfl), (Nat.le_of_ble_eq_true rfl)⟩) (q0 := 0) (ci := 1) rfl rfl rfl [0] rfl rfl (Nat.le_of_ble_eq_true rfl) ⟨(Nat.le_of_ble_eq_true rfl), (Nat.le_of_ble_eq_true rfl)⟩ rfl rfl rfl rfl rfl dX1_penance_35 ?_
      have hL2 : rL (rf v1) k W := by rw [hv1]; exact (hLi.hi (fun x hx => upd_ne (by unfold mi; omega)))
      have hn2 : rn v1 ≤ 8 := by rw [hv1]; exact (Nat.le_trans (Nat.le_of_eq hni) hn)
      refine z_aload_n C 0 dX1_penance_38 rfl rfl ?_
      refine z_bipush (v := 20) C dX1_penance_39 (by decide) ?_
      obtain ⟨v2, hv2⟩ : ∃ z, z = vf v1 (rdp (rf v1) (rn v1) k W 20).1 := ⟨_, rfl⟩
      refine z_callV (w := (wX1 gg cI v1)) (w' := (wX1 gg cI v2)) (w1 := ([] : va_W)) (w2 := ([] : va_W)) (ws' := (wX1 gg cI v2)) (As := [.int 20]) (rest := []) (st' := [.int (rdpF (rf v1) (rn v1) k W 20)]) (rv := some (.int (rdpF (rf v1) (rn v1) k W 20))) C (by rw [hv2]; exact c_X1_daysOn l D gg cI v1 20 k W (by omega) hL2 hn2) (cwV 1 C.words gX1_penance_X1_daysOn rfl rfl rfl (by decide +kernel) ⟨(Nat.le_of_ble_eq_true rfl), (Nat.le_of_ble_eq_true rfl)⟩) (q0 := 0) (ci := 1) rfl rfl rfl [0] rfl rfl (Nat.le_of_ble_eq_true rfl) ⟨(Nat.le_of_ble_eq_true rfl), (Nat.le_of_ble_eq_true rfl)⟩ rfl rfl rfl rfl rfl dX1_penance_41 ?_
      refine z_pop C dX1_penance_44 rfl ?_
      refine z_aload_n C 0 dX1_penance_45 rfl rfl ?_
      refine z_iload_n C 1 dX1_penance_46 rfl rfl ?_
      refine z_iconst (v := 0) C dX1_penance_47 (by decide) ?_
      refine z_callV (w := (wX1 gg cI v2)) (w' := (wX1 gg cI v2)) (w1 := ([] : va_W)) (w2 := ([] : va_W)) (ws' := (wX1 gg cI v2)) (As := [.int (nI j), .int 0]) (rest := []) (st' := [.int ((rf v2) (mi j 0))]) (rv := some (.int ((rf v2) (mi j 0)))) C (c_X1_me l D gg cI v2 j 0 (by omega) (by omega)) (cwV 2 C.words gX1_penance_X1_me rfl rfl rfl (by decide +kernel) ⟨(Nat.le_of_ble_eq_true rfl), (Nat.le_of_ble_eq_true rfl)⟩) (q0 := 0) (ci := 1) rfl rfl rfl [0] rfl rfl (Nat.le_of_ble_eq_true rfl) ⟨(Nat.le_of_ble_eq_true rfl), (Nat.le_of_ble_eq_true rfl)⟩ rfl rfl rfl rfl rfl dX1_penance_48 ?_
      refine z_istore (L' := [(5, .int ((rf v2) (mi j 0))), (0, .ref (gg 0)), (1, .int (nI j)), (2, .int ((rpm v k W j i).1)), (3, .int ((rpm v k W j i).2.1)), (4, .int (nI i))]) C dX1_penance_51 (by decide) rfl ?_
      refine z_aload_n C 1 dX1_penance_53 rfl rfl ?_
      obtain ⟨v3, hv3⟩ : ∃ z, z = rback v2 := ⟨_, rfl⟩
      refine z_callV (w := (wX1 gg cI v2)) (w' := (wX1 gg cI v3)) (w1 := ([] : va_W)) (w2 := ([] : va_W)) (ws' := (wX1 gg cI v3)) (As := []) (rest := []) (st' := []) (rv := none) C (by rw [hv3]; exact c_X1_bringBack l D gg cI v2) (cwV 0 C.words gX1_penance_X1_bringBack rfl rfl rfl (by decide +kernel) ⟨(Nat.le_of_ble_eq_true rfl), (Nat.le_of_ble_eq_true rfl)⟩) (q0 := 0) (ci := 1) rfl rfl rfl [0] rfl rfl (Nat.le_of_ble_eq_true rfl) ⟨(Nat.le_of_ble_eq_true rfl), (Nat.le_of_ble_eq_true rfl)⟩ rfl rfl rfl rfl rfl dX1_penance_54 ?_
      refine z_iload C 0 dX1_penance_57 rfl ?_
      refine z_iload_n C 4 dX1_penance_59 rfl rfl ?_
      refine z_icmp_gt (tgt := 66) C dX1_penance_60 (by decide) (fun c60 => ?_) (fun c60 => ?_)
      · skip
        refine z_iload C 5 dX1_penance_66 rfl ?_
        refine z_istore_n (L' := [(2, .int (nI i)), (5, .int ((rf v2) (mi j 0))), (0, .ref (gg 0)), (1, .int (nI j)), (3, .int ((rpm v k W j i).2.1)), (4, .int (nI i))]) C dX1_penance_68 rfl (by decide) rfl ?_
        refine z_iload C 1 dX1_penance_69 rfl ?_
        refine z_istore_n (L' := [(3, .int ((rf v2) (mi j 0))), (2, .int (nI i)), (5, .int ((rf v2) (mi j 0))), (0, .ref (gg 0)), (1, .int (nI j)), (4, .int (nI i))]) C dX1_penance_71 rfl (by decide) rfl ?_
        refine z_iinc (v := nI (i + 1)) (L' := [(4, .int (nI (i + 1))), (3, .int ((rf v2) (mi j 0))), (2, .int (nI i)), (5, .int ((rf v2) (mi j 0))), (0, .ref (gg 0)), (1, .int (nI j))]) C 5 dX1_penance_72 rfl (z_inc _) (by decide) rfl ?_
        refine z_goto (tgt := 11) C dX1_penance_75 (by decide) ?_
        refine z_sub (L' := [(0, .ref (gg 0)), (1, .int (nI j)), (2, .int (nI i)), (3, .int ((rf v2) (mi j 0))), (4, .int (nI (i + 1)))]) [4, 5, 2, 1, 0] rfl ?_
        subst hv3
        subst hv2
        subst hv1
        exact (by have e9 := ih (i + 1) (by omega); rw [rpm_pos (show rpe (rn v) k W j (rf (rpm v k W j i).2.2) i = (rdp (upd (rf (rpm v k W j i).2.2) (mi j 2) (imin 9 (rf (rpm v k W j i).2.2 (mi j 2) + nI i))) (rn (rpm v k W j i).2.2) k W 20).1 from (by unfold rpe; rw [hni])) c60] at e9; exact e9)
      · skip
        refine z_goto (tgt := 72) C dX1_penance_63 (by decide) ?_
        refine z_iinc (v := nI (i + 1)) (L' := [(4, .int (nI (i + 1))), (5, .int ((rf v2) (mi j 0))), (0, .ref (gg 0)), (1, .int (nI j)), (2, .int ((rpm v k W j i).1)), (3, .int ((rpm v k W j i).2.1))]) C 5 dX1_penance_72 rfl (z_inc _) (by decide) rfl ?_
        refine z_goto (tgt := 11) C dX1_penance_75 (by decide) ?_
        refine z_sub (L' := [(0, .ref (gg 0)), (1, .int (nI j)), (2, .int ((rpm v k W j i).1)), (3, .int ((rpm v k W j i).2.1)), (4, .int (nI (i + 1)))]) [2, 3, 4, 5, 0] rfl ?_
        subst hv3
        subst hv2
        subst hv1
        exact (by have e9 := ih (i + 1) (by omega); rw [rpm_neg (show rpe (rn v) k W j (rf (rpm v k W j i).2.2) i = (rdp (upd (rf (rpm v k W j i).2.2) (mi j 2) (imin 9 (rf (rpm v k W j i).2.2 (mi j 2) + nI i))) (rn (rpm v k W j i).2.2) k W 20).1 from (by unfold rpe; rw [hni])) c60] at e9; exact e9)
  refine z_iconst (v := 0) C dX1_penance_0 (by decide) ?_
  refine z_istore_n (L' := [(2, .int 0), (0, .ref (gg 0)), (1, .int (nI j))]) C dX1_penance_1 rfl (by decide) rfl ?_
  refine z_iconst (v := -1) C dX1_penance_2 (by decide) ?_
  refine z_istore_n (L' := [(3, .int (-1)), (2, .int 0), (0, .ref (gg 0)), (1, .int (nI j))]) C dX1_penance_3 rfl (by decide) rfl ?_
  refine z_aload_n C 2 dX1_penance_4 rfl rfl ?_
  obtain ⟨v4, hv4⟩ : ∃ z, z = rkeep v := ⟨_, rfl⟩
  refine z_callV (w := (wX1 gg cI v)) (w' := (wX1 gg cI v4)) (w1 := ([] : va_W)) (w2 := ([] : va_W)) (ws' := (wX1 gg cI v4)) (As := []) (rest := []) (st' := []) (rv := none) C (by rw [hv4]; exact c_X1_keep l D gg cI v) (cwV 0 C.words gX1_penance_X1_keep rfl rfl rfl (by decide +kernel) ⟨(Nat.le_of_ble_eq_true rfl), (Nat.le_of_ble_eq_true rfl)⟩) (q0 := 0) (ci := 1) rfl rfl rfl [0] rfl rfl (Nat.le_of_ble_eq_true rfl) ⟨(Nat.le_of_ble_eq_true rfl), (Nat.le_of_ble_eq_true rfl)⟩ rfl rfl rfl rfl rfl dX1_penance_5 ?_
  refine z_iconst (v := 0) C dX1_penance_8 (by decide) ?_
  refine z_istore (L' := [(4, .int 0), (3, .int (-1)), (2, .int 0), (0, .ref (gg 0)), (1, .int (nI j))]) C dX1_penance_9 (by decide) rfl ?_
  refine z_sub (L' := [(0, .ref (gg 0)), (1, .int (nI j)), (2, .int 0), (3, .int (-1)), (4, .int 0)]) [3, 4, 2, 1, 0] rfl ?_
  subst hv4
  exact lp11 10 0 (by omega)
set_option maxHeartbeats 4000000 in
set_option maxRecDepth 100000 in
theorem c_X1_best (l : Launch) (D : va_G) (gg : Nat → Nat) (cI : ClassId) (v : S1) (hn : (rn v) ≤ 8) : zM l yX1_best wsX1_best 1 22 0 0 [.ref (gg 0)] [(cI, .int)] D (wX1 gg cI v) (wX1 gg cI v) (some (.int (rbN (rf v) (rn v)))) := by
  refine z_met (cc := cX1_best) (maxL := 3) (ret := (some .int)) (by decide) rfl (Nat.le_of_ble_eq_true rfl) ?_
  intro p e s m args below meth c A C hr hlocks
  have inl : ∀ w ∈ u_ws RX1 TX1 4, w ∈ wsX1_best := by decide +kernel
  have wd0 : Cond.fieldLink RX1 20 "SaltOrderModel" "members" "I" ∈ wsX1_best := by decide +kernel
  refine z_sub (L' := [(0, .ref (gg 0))]) [0] rfl ?_
  have lp4 : ∀ (dd i : Nat), i + dd = rn v → zG p l e ({ frames := 1, cells := 0, slots := 0, locals := 22 } : Room) s m args below meth c D 3 A 0 0 (MQ below (zQ (some (.int (rbN (rf v) (rn v)))) (fun t => va_P D vwCl (wX1 gg cI v) t.heap) A) args s 0 0 A) 4 [(0, .ref (gg 0)), (1, .int (rbN (rf v) i)), (2, .int (nI i))] [] (wX1 gg cI v) := by
    intro dd
    induction dd with
    | zero =>
      intro i hi
      have hi : i = rn v := by omega
      subst hi
      refine z_iload_n C 2 dX1_best_4 rfl rfl ?_
      refine z_aload_n C 0 dX1_best_5 rfl rfl ?_
      refine z_get1 (v := .int (nI (rn v))) C inl 0 1 (by decide) rfl rfl wd0 dX1_best_6 ?_
      refine z_icmp_ge (tgt := 40) C dX1_best_9 (by decide) (fun _ => ?_) (fun h9 => absurd (nI_le (by omega) (by omega)) h9)
      refine z_iload_n C 1 dX1_best_40 rfl rfl ?_
      exact z_iret C hr hlocks (Nat.le_of_ble_eq_true rfl) (Nat.le_of_ble_eq_true rfl) dX1_best_41 rfl rfl
    | succ dd ih =>
      intro i hi
      have hor := rbN_or (rf v) i (by omega)
      refine z_iload_n C 2 dX1_best_4 rfl rfl ?_
      refine z_aload_n C 0 dX1_best_5 rfl rfl ?_
      refine z_get1 (v := .int (nI (rn v))) C inl 0 1 (by decide) rfl rfl wd0 dX1_best_6 ?_
      refine z_icmp_ge (tgt := 40) C dX1_best_9 (by decide) (fun h9 => absurd h9 (nI_ge (by omega) (by omega))) (fun _ => ?_)
      refine z_iload_n C 1 dX1_best_12 rfl rfl ?_
      refine z_iconst (v := -1) C dX1_best_13 (by decide) ?_
      refine z_icmp_eq (tgt := 32) C dX1_best_14 (by decide) (fun c14 => ?_) (fun c14 => ?_)
      · skip
        refine z_iload_n C 2 dX1_best_32 rfl rfl ?_
        refine z_istore_n (L' := [(1, .int (nI i)), (0, .ref (gg 0)), (2, .int (nI i))]) C dX1_best_33 rfl (by decide) rfl ?_
        refine z_iinc (v := nI (i + 1)) (L' := [(2, .int (nI (i + 1))), (1, .int (nI i)), (0, .ref (gg 0))]) C 2 dX1_best_34 rfl (z_inc _) (by decide) rfl ?_
        refine z_goto (tgt := 4) C dX1_best_37 (by decide) ?_
        refine z_sub (L' := [(0, .ref (gg 0)), (1, .int (nI i)), (2, .int (nI (i + 1)))]) [2, 1, 0] rfl ?_
        exact (by have e9 := ih (i + 1) (by omega); rw [show rbN (rf v) (i + 1) = nI i from if_pos c14] at e9; exact e9)
      · skip
        obtain ⟨b, hb8, hb⟩ := hor.resolve_left c14
        refine z_aload_n C 0 dX1_best_17 rfl rfl ?_
        refine z_iload_n C 2 dX1_best_18 rfl rfl ?_
        refine z_iconst (v := 0) C dX1_best_19 (by decide) ?_
        refine z_callV (w := (wX1 gg cI v)) (w' := (wX1 gg cI v)) (w1 := ([] : va_W)) (w2 := ([] : va_W)) (ws' := (wX1 gg cI v)) (As := [.int (nI i), .int 0]) (rest := []) (st' := [.int ((rf v) (mi i 0))]) (rv := some (.int ((rf v) (mi i 0)))) C (c_X1_me l D gg cI v i 0 (by omega) (by omega)) (cwV 2 C.words gX1_best_X1_me rfl rfl rfl (by decide +kernel) ⟨(Nat.le_of_ble_eq_true rfl), (Nat.le_of_ble_eq_true rfl)⟩) (q0 := 0) (ci := 1) rfl rfl rfl [0] rfl rfl (Nat.le_of_ble_eq_true rfl) ⟨(Nat.le_of_ble_eq_true rfl), (Nat.le_of_ble_eq_true rfl)⟩ rfl rfl rfl rfl rfl dX1_best_20 ?_
        refine z_aload_n C 0 dX1_best_23 rfl rfl ?_
        refine z_iload_n C 1 dX1_best_24 rfl rfl ?_
        refine z_top (y := nI b) hb ?_
        refine z_iconst (v := 0) C dX1_best_25 (by decide) ?_
        refine z_callV (w := (wX1 gg cI v)) (w' := (wX1 gg cI v)) (w1 := ([] : va_W)) (w2 := ([] : va_W)) (ws' := (wX1 gg cI v)) (As := [.int (nI b), .int 0]) (rest := [.int ((rf v) (mi i 0))]) (st' := [.int ((rf v) (mi b 0)), .int ((rf v) (mi i 0))]) (rv := some (.int ((rf v) (mi b 0)))) C (c_X1_me l D gg cI v b 0 (by omega) (by omega)) (cwV 2 C.words gX1_best_X1_me rfl rfl rfl (by decide +kernel) ⟨(Nat.le_of_ble_eq_true rfl), (Nat.le_of_ble_eq_true rfl)⟩) (q0 := 0) (ci := 1) rfl rfl rfl [0] rfl rfl (Nat.le_of_ble_eq_true rfl) ⟨(Nat.le_of_ble_eq_true rfl), (Nat.le_of_ble_eq_true rfl)⟩ rfl rfl rfl rfl rfl dX1_best_26 ?_
        refine z_icmp_le (tgt := 34) C dX1_best_29 (by decide) (fun c29 => ?_) (fun c29 => ?_)
        · skip
          refine z_iinc (v := nI (i + 1)) (L' := [(2, .int (nI (i + 1))), (0, .ref (gg 0)), (1, .int (rbN (rf v) i))]) C 2 dX1_best_34 rfl (z_inc _) (by decide) rfl ?_
          refine z_goto (tgt := 4) C dX1_best_37 (by decide) ?_
          refine z_sub (L' := [(0, .ref (gg 0)), (1, .int (rbN (rf v) i)), (2, .int (nI (i + 1)))]) [1, 2, 0] rfl ?_
          exact (by have e9 := ih (i + 1) (by omega); rw [show rbN (rf v) (i + 1) = rbN (rf v) i from (if_neg c14).trans (by rw [hb, nI_clamp (by omega)]; exact if_pos c29)] at e9; exact e9)
        · skip
          refine z_iload_n C 2 dX1_best_32 rfl rfl ?_
          refine z_istore_n (L' := [(1, .int (nI i)), (0, .ref (gg 0)), (2, .int (nI i))]) C dX1_best_33 rfl (by decide) rfl ?_
          refine z_iinc (v := nI (i + 1)) (L' := [(2, .int (nI (i + 1))), (1, .int (nI i)), (0, .ref (gg 0))]) C 2 dX1_best_34 rfl (z_inc _) (by decide) rfl ?_
          refine z_goto (tgt := 4) C dX1_best_37 (by decide) ?_
          refine z_sub (L' := [(0, .ref (gg 0)), (1, .int (nI i)), (2, .int (nI (i + 1)))]) [2, 1, 0] rfl ?_
          exact (by have e9 := ih (i + 1) (by omega); rw [show rbN (rf v) (i + 1) = nI i from (if_neg c14).trans (by rw [hb, nI_clamp (by omega)]; exact if_neg c29)] at e9; exact e9)
  refine z_iconst (v := -1) C dX1_best_0 (by decide) ?_
  refine z_istore_n (L' := [(1, .int (-1)), (0, .ref (gg 0))]) C dX1_best_1 rfl (by decide) rfl ?_
  refine z_iconst (v := 0) C dX1_best_2 (by decide) ?_
  refine z_istore_n (L' := [(2, .int 0), (1, .int (-1)), (0, .ref (gg 0))]) C dX1_best_3 rfl (by decide) rfl ?_
  refine z_sub (L' := [(0, .ref (gg 0)), (1, .int (-1)), (2, .int 0)]) [2, 1, 0] rfl ?_
  exact lp4 (rn v) 0 (by omega)
set_option maxHeartbeats 4000000 in
set_option maxRecDepth 100000 in
theorem c_X1_owed (l : Launch) (D : va_G) (gg : Nat → Nat) (cI : ClassId) (v : S1) (hn : (rn v) ≤ 8) : zM l yX1_owed wsX1_owed 1 22 0 0 [.ref (gg 0)] [(cI, .int)] D (wX1 gg cI v) (wX1 gg cI v) (some (.int (rowS (rf v) 1 (rn v)))) := by
  refine z_met (cc := cX1_owed) (maxL := 3) (ret := (some .int)) (by decide) rfl (Nat.le_of_ble_eq_true rfl) ?_
  intro p e s m args below meth c A C hr hlocks
  have inl : ∀ w ∈ u_ws RX1 TX1 4, w ∈ wsX1_owed := by decide +kernel
  have wd0 : Cond.fieldLink RX1 20 "SaltOrderModel" "members" "I" ∈ wsX1_owed := by decide +kernel
  refine z_sub (L' := [(0, .ref (gg 0))]) [0] rfl ?_
  have lp4 : ∀ (dd i : Nat), i + dd = rn v → zG p l e ({ frames := 1, cells := 0, slots := 0, locals := 22 } : Room) s m args below meth c D 3 A 0 0 (MQ below (zQ (some (.int (rowS (rf v) 1 (rn v)))) (fun t => va_P D vwCl (wX1 gg cI v) t.heap) A) args s 0 0 A) 4 [(0, .ref (gg 0)), (1, .int (rowS (rf v) 1 i)), (2, .int (nI i))] [] (wX1 gg cI v) := by
    intro dd
    induction dd with
    | zero =>
      intro i hi
      have hi : i = rn v := by omega
      subst hi
      refine z_iload_n C 2 dX1_owed_4 rfl rfl ?_
      refine z_aload_n C 0 dX1_owed_5 rfl rfl ?_
      refine z_get1 (v := .int (nI (rn v))) C inl 0 1 (by decide) rfl rfl wd0 dX1_owed_6 ?_
      refine z_icmp_ge (tgt := 27) C dX1_owed_9 (by decide) (fun _ => ?_) (fun h9 => absurd (nI_le (by omega) (by omega)) h9)
      refine z_iload_n C 1 dX1_owed_27 rfl rfl ?_
      exact z_iret C hr hlocks (Nat.le_of_ble_eq_true rfl) (Nat.le_of_ble_eq_true rfl) dX1_owed_28 rfl rfl
    | succ dd ih =>
      intro i hi
      refine z_iload_n C 2 dX1_owed_4 rfl rfl ?_
      refine z_aload_n C 0 dX1_owed_5 rfl rfl ?_
      refine z_get1 (v := .int (nI (rn v))) C inl 0 1 (by decide) rfl rfl wd0 dX1_owed_6 ?_
      refine z_icmp_ge (tgt := 27) C dX1_owed_9 (by decide) (fun h9 => absurd h9 (nI_ge (by omega) (by omega))) (fun _ => ?_)
      refine z_iload_n C 1 dX1_owed_12 rfl rfl ?_
      refine z_aload_n C 0 dX1_owed_13 rfl rfl ?_
      refine z_iload_n C 2 dX1_owed_14 rfl rfl ?_
      refine z_iconst (v := 1) C dX1_owed_15 (by decide) ?_
      refine z_callV (w := (wX1 gg cI v)) (w' := (wX1 gg cI v)) (w1 := ([] : va_W)) (w2 := ([] : va_W)) (ws' := (wX1 gg cI v)) (As := [.int (nI i), .int 1]) (rest := [.int (rowS (rf v) 1 i)]) (st' := [.int ((rf v) (mi i 1)), .int (rowS (rf v) 1 i)]) (rv := some (.int ((rf v) (mi i 1)))) C (c_X1_me l D gg cI v i 1 (by omega) (by omega)) (cwV 2 C.words gX1_owed_X1_me rfl rfl rfl (by decide +kernel) ⟨(Nat.le_of_ble_eq_true rfl), (Nat.le_of_ble_eq_true rfl)⟩) (q0 := 0) (ci := 1) rfl rfl rfl [0] rfl rfl (Nat.le_of_ble_eq_true rfl) ⟨(Nat.le_of_ble_eq_true rfl), (Nat.le_of_ble_eq_true rfl)⟩ rfl rfl rfl rfl rfl dX1_owed_16 ?_
      refine z_iadd C dX1_owed_19 ?_
      refine z_istore_n (L' := [(1, .int ((rowS (rf v) 1 i) + ((rf v) (mi i 1)))), (0, .ref (gg 0)), (2, .int (nI i))]) C dX1_owed_20 rfl (by decide) rfl ?_
      refine z_iinc (v := nI (i + 1)) (L' := [(2, .int (nI (i + 1))), (1, .int ((rowS (rf v) 1 i) + ((rf v) (mi i 1)))), (0, .ref (gg 0))]) C 2 dX1_owed_21 rfl (z_inc _) (by decide) rfl ?_
      refine z_goto (tgt := 4) C dX1_owed_24 (by decide) ?_
      refine z_sub (L' := [(0, .ref (gg 0)), (1, .int ((rowS (rf v) 1 i) + ((rf v) (mi i 1)))), (2, .int (nI (i + 1)))]) [2, 1, 0] rfl ?_
      exact ih (i + 1) (by omega)
  refine z_iconst (v := 0) C dX1_owed_0 (by decide) ?_
  refine z_istore_n (L' := [(1, .int 0), (0, .ref (gg 0))]) C dX1_owed_1 rfl (by decide) rfl ?_
  refine z_iconst (v := 0) C dX1_owed_2 (by decide) ?_
  refine z_istore_n (L' := [(2, .int 0), (1, .int 0), (0, .ref (gg 0))]) C dX1_owed_3 rfl (by decide) rfl ?_
  refine z_sub (L' := [(0, .ref (gg 0)), (1, .int 0), (2, .int 0)]) [2, 1, 0] rfl ?_
  exact lp4 (rn v) 0 (by omega)
set_option maxHeartbeats 4000000 in
set_option maxRecDepth 100000 in
theorem c_X1_adds (l : Launch) (D : va_G) (gg : Nat → Nat) (cI : ClassId) (v : S1) (j : Int32) (k : Nat) (W : Nat → Nat) (hL : rL (rf v) k W) : zM l yX1_adds wsX1_adds 1 22 0 0 [.ref (gg 0), .int j] [(cI, .int)] D (wX1 gg cI v) (wX1 gg cI v) (some (.int (raddN (rf v) j k))) := by
  refine z_met (cc := cX1_adds) (maxL := 4) (ret := (some .int)) (by decide) rfl (Nat.le_of_ble_eq_true rfl) ?_
  intro p e s m args below meth c A C hr hlocks
  have inl : ∀ w ∈ u_ws RX1 TX1 4, w ∈ wsX1_adds := by decide +kernel
  have wd0 : Cond.fieldLink RX1 9 "SaltOrderModel" "now" "[I" ∈ wsX1_adds := by decide +kernel
  refine z_sub (L' := [(0, .ref (gg 0)), (1, .int j)]) [0, 1] rfl ?_
  have hk := hL.1
  have hk30 := hL.2.1
  have lp4 : ∀ (dd i : Nat), i + dd = k → zG p l e ({ frames := 1, cells := 0, slots := 0, locals := 22 } : Room) s m args below meth c D 4 A 0 0 (MQ below (zQ (some (.int (raddN (rf v) j k))) (fun t => va_P D vwCl (wX1 gg cI v) t.heap) A) args s 0 0 A) 4 [(0, .ref (gg 0)), (1, .int j), (2, .int (raddN (rf v) j i)), (3, .int (nI i))] [] (wX1 gg cI v) := by
    intro dd
    induction dd with
    | zero =>
      intro i hi
      obtain rfl : k = i := by omega
      refine z_iload_n C 3 dX1_adds_4 rfl rfl ?_
      refine z_aload_n C 0 dX1_adds_5 rfl rfl ?_
      refine z_get1 (v := .ref (gg 1)) C inl 0 2 (by decide) rfl rfl wd0 dX1_adds_6 ?_
      refine z_iconst (v := 3) C dX1_adds_9 (by decide) ?_
      refine z_iald (f := rf v) C 1 0 rfl rfl 3 rfl (by omega) (by decide) dX1_adds_10 ?_
      refine z_icmp_ge (tgt := 45) C dX1_adds_11 (by decide) (fun _ => ?_) (fun h9 => absurd ((by rw [show _ = nI k from hk]; exact nI_le (by omega) (by omega))) h9)
      refine z_iload_n C 2 dX1_adds_45 rfl rfl ?_
      exact z_iret C hr hlocks (Nat.le_of_ble_eq_true rfl) (Nat.le_of_ble_eq_true rfl) dX1_adds_46 rfl rfl
    | succ dd ih =>
      intro i hi
      refine z_iload_n C 3 dX1_adds_4 rfl rfl ?_
      refine z_aload_n C 0 dX1_adds_5 rfl rfl ?_
      refine z_get1 (v := .ref (gg 1)) C inl 0 2 (by decide) rfl rfl wd0 dX1_adds_6 ?_
      refine z_iconst (v := 3) C dX1_adds_9 (by decide) ?_
      refine z_iald (f := rf v) C 1 0 rfl rfl 3 rfl (by omega) (by decide) dX1_adds_10 ?_
      refine z_icmp_ge (tgt := 45) C dX1_adds_11 (by decide) (fun h9 => absurd h9 ((by rw [show _ = nI k from hk]; exact nI_ge (by omega) (by omega)))) (fun _ => ?_)
      refine z_iload_n C 2 dX1_adds_14 rfl rfl ?_
      refine z_aload_n C 0 dX1_adds_15 rfl rfl ?_
      refine z_iload_n C 3 dX1_adds_16 rfl rfl ?_
      refine z_iconst (v := 0) C dX1_adds_17 (by decide) ?_
      refine z_callV (w := (wX1 gg cI v)) (w' := (wX1 gg cI v)) (w1 := ([] : va_W)) (w2 := ([] : va_W)) (ws' := (wX1 gg cI v)) (As := [.int (nI i), .int 0]) (rest := [.int (raddN (rf v) j i)]) (st' := [.int ((rf v) (ti i 0)), .int (raddN (rf v) j i)]) (rv := some (.int ((rf v) (ti i 0)))) C (c_X1_th l D gg cI v i 0 (by omega) (by omega)) (cwV 2 C.words gX1_adds_X1_th rfl rfl rfl (by decide +kernel) ⟨(Nat.le_of_ble_eq_true rfl), (Nat.le_of_ble_eq_true rfl)⟩) (q0 := 0) (ci := 1) rfl rfl rfl [0] rfl rfl (Nat.le_of_ble_eq_true rfl) ⟨(Nat.le_of_ble_eq_true rfl), (Nat.le_of_ble_eq_true rfl)⟩ rfl rfl rfl rfl rfl dX1_adds_18 ?_
      refine z_iload_n C 1 dX1_adds_21 rfl rfl ?_
      refine z_icmp_ne (tgt := 36) C dX1_adds_22 (by decide) (fun c22 => ?_) (fun c22 => ?_)
      · skip
        refine z_iconst (v := 0) C dX1_adds_36 (by decide) ?_
        refine z_iadd C dX1_adds_37 ?_
        refine z_istore_n (L' := [(2, .int ((raddN (rf v) j i) + 0)), (0, .ref (gg 0)), (1, .int j), (3, .int (nI i))]) C dX1_adds_38 rfl (by decide) rfl ?_
        refine z_iinc (v := nI (i + 1)) (L' := [(3, .int (nI (i + 1))), (2, .int ((raddN (rf v) j i) + 0)), (0, .ref (gg 0)), (1, .int j)]) C 3 dX1_adds_39 rfl (z_inc _) (by decide) rfl ?_
        refine z_goto (tgt := 4) C dX1_adds_42 (by decide) ?_
        refine z_sub (L' := [(0, .ref (gg 0)), (1, .int j), (2, .int ((raddN (rf v) j i) + 0)), (3, .int (nI (i + 1)))]) [2, 3, 1, 0] rfl ?_
        exact (by have e9 := ih (i + 1) (by omega); simp only [raddN, c22, ↓reduceIte] at e9; exact e9)
      · skip
        refine z_iconst (v := 2) C dX1_adds_25 (by decide) ?_
        refine z_aload_n C 0 dX1_adds_26 rfl rfl ?_
        refine z_iload_n C 3 dX1_adds_27 rfl rfl ?_
        refine z_iconst (v := 3) C dX1_adds_28 (by decide) ?_
        refine z_callV (w := (wX1 gg cI v)) (w' := (wX1 gg cI v)) (w1 := ([] : va_W)) (w2 := ([] : va_W)) (ws' := (wX1 gg cI v)) (As := [.int (nI i), .int 3]) (rest := [.int 2, .int (raddN (rf v) j i)]) (st' := [.int ((rf v) (ti i 3)), .int 2, .int (raddN (rf v) j i)]) (rv := some (.int ((rf v) (ti i 3)))) C (c_X1_th l D gg cI v i 3 (by omega) (by omega)) (cwV 2 C.words gX1_adds_X1_th rfl rfl rfl (by decide +kernel) ⟨(Nat.le_of_ble_eq_true rfl), (Nat.le_of_ble_eq_true rfl)⟩) (q0 := 0) (ci := 1) rfl rfl rfl [0] rfl rfl (Nat.le_of_ble_eq_true rfl) ⟨(Nat.le_of_ble_eq_true rfl), (Nat.le_of_ble_eq_true rfl)⟩ rfl rfl rfl rfl rfl dX1_adds_29 ?_
        refine z_imul C dX1_adds_32 ?_
        refine z_goto (tgt := 37) C dX1_adds_33 (by decide) ?_
        refine z_iadd C dX1_adds_37 ?_
        refine z_istore_n (L' := [(2, .int ((raddN (rf v) j i) + (2 * ((rf v) (ti i 3))))), (0, .ref (gg 0)), (1, .int j), (3, .int (nI i))]) C dX1_adds_38 rfl (by decide) rfl ?_
        refine z_iinc (v := nI (i + 1)) (L' := [(3, .int (nI (i + 1))), (2, .int ((raddN (rf v) j i) + (2 * ((rf v) (ti i 3))))), (0, .ref (gg 0)), (1, .int j)]) C 3 dX1_adds_39 rfl (z_inc _) (by decide) rfl ?_
        refine z_goto (tgt := 4) C dX1_adds_42 (by decide) ?_
        refine z_sub (L' := [(0, .ref (gg 0)), (1, .int j), (2, .int ((raddN (rf v) j i) + (2 * ((rf v) (ti i 3))))), (3, .int (nI (i + 1)))]) [2, 3, 1, 0] rfl ?_
        exact (by have e9 := ih (i + 1) (by omega); simp only [raddN, c22, ↓reduceIte] at e9; exact e9)
  refine z_iconst (v := 0) C dX1_adds_0 (by decide) ?_
  refine z_istore_n (L' := [(2, .int 0), (0, .ref (gg 0)), (1, .int j)]) C dX1_adds_1 rfl (by decide) rfl ?_
  refine z_iconst (v := 0) C dX1_adds_2 (by decide) ?_
  refine z_istore_n (L' := [(3, .int 0), (2, .int 0), (0, .ref (gg 0)), (1, .int j)]) C dX1_adds_3 rfl (by decide) rfl ?_
  refine z_sub (L' := [(0, .ref (gg 0)), (1, .int j), (2, .int 0), (3, .int 0)]) [2, 3, 1, 0] rfl ?_
  exact lp4 k 0 (by omega)
