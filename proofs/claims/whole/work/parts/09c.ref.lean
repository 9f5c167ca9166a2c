set_option maxHeartbeats 4000000 in
set_option maxRecDepth 100000 in
theorem c_X1_join (l : Launch) (D : va_G) (gg : Nat → Nat) (cI : ClassId) (v : S1) (hn : (rn v) < 8) : zM l yX1_join wsX1_join 1 23 0 0 [.ref (gg 0)] [(cI, .int)] D (wX1 gg cI v) (wX1 gg cI (rjoin v)) (some (.int (nI (rn v)))) := by
  refine z_met (cc := cX1_join) (maxL := 1) (ret := (some .int)) (by decide) rfl (Nat.le_of_ble_eq_true rfl) ?_
  intro p e s m args below meth c A C hr hlocks
  have inl : ∀ w ∈ u_ws RX1 TX1 4, w ∈ wsX1_join := by decide +kernel
  have wd0 : Cond.fieldLink RX1 16 "SaltOrderModel" "thrown" "I" ∈ wsX1_join := by decide +kernel
  have wd1 : Cond.fieldLink RX1 20 "SaltOrderModel" "members" "I" ∈ wsX1_join := by decide +kernel
  refine z_sub (L' := [(0, .ref (gg 0))]) [0] rfl ?_
  refine z_aload_n C 0 dX1_join_0 rfl rfl ?_
  refine z_iconst (v := 0) C dX1_join_1 (by decide) ?_
  refine z_put1 (ws' := (wX1 gg cI (0, rn v, rf v, rk v))) C inl 0 0 (by decide) rfl rfl (by decide) rfl wd0 dX1_join_2 ?_
  refine z_aload_n C 0 dX1_join_5 rfl rfl ?_
  refine z_get1 (v := .int (nI (rn v))) C inl 0 1 (by decide) rfl rfl wd1 dX1_join_6 ?_
  refine z_bipush (v := 8) C dX1_join_9 (by decide) ?_
  refine z_icmp_ne (tgt := 20) C dX1_join_11 (by decide) (fun _ => ?_) (fun h9 => absurd h9 ((fun h => by have := (nI_eq (a := rn v) (b := 8) (by omega) (by omega)).mp h; omega)))
  refine z_aload_n C 0 dX1_join_20 rfl rfl ?_
  refine z_aload_n C 0 dX1_join_21 rfl rfl ?_
  refine z_get1 (v := .int (nI (rn v))) C inl 0 1 (by decide) rfl rfl wd1 dX1_join_22 ?_
  refine z_iconst (v := 0) C dX1_join_25 (by decide) ?_
  refine z_bipush (v := 50) C dX1_join_26 (by decide) ?_
  obtain ⟨v1, hv1⟩ : ∃ z, z = vf (0, rn v, rf v, rk v) (upd (rf v) (mi (rn v) 0) 50) := ⟨_, rfl⟩
  refine z_callV (w := (wX1 gg cI (0, rn v, rf v, rk v))) (w' := (wX1 gg cI v1)) (w1 := ([] : va_W)) (w2 := ([] : va_W)) (ws' := (wX1 gg cI v1)) (As := [.int (nI (rn v)), .int 0, .int 50]) (rest := []) (st' := []) (rv := none) C (by rw [hv1]; exact c_X1_let l D gg cI (0, rn v, rf v, rk v) (rn v) 0 50 (by omega) (by omega)) (cwV 3 C.words gX1_join_X1_let rfl rfl rfl (by decide +kernel) ⟨(Nat.le_of_ble_eq_true rfl), (Nat.le_of_ble_eq_true rfl)⟩) (q0 := 0) (ci := 1) rfl rfl rfl [0] rfl rfl (Nat.le_of_ble_eq_true rfl) ⟨(Nat.le_of_ble_eq_true rfl), (Nat.le_of_ble_eq_true rfl)⟩ rfl rfl rfl rfl rfl dX1_join_28 ?_
  refine z_aload_n C 0 dX1_join_31 rfl rfl ?_
  refine z_dup C dX1_join_32 rfl ?_
  refine z_get1 (v := .int (nI (rn v1))) C inl 0 1 (by decide) rfl rfl wd1 dX1_join_33 ?_
  refine z_iconst (v := 1) C dX1_join_36 (by decide) ?_
  refine z_iadd C dX1_join_37 ?_
  refine z_top (y := nI ((rn v1) + 1)) (z_1 _) ?_
  refine z_put1 (ws' := (wX1 gg cI (rt v1, ((rn v1) + 1), rf v1, rk v1))) C inl 0 1 (by decide) rfl rfl (by decide) rfl wd1 dX1_join_38 ?_
  refine z_aload_n C 0 dX1_join_41 rfl rfl ?_
  refine z_get1 (v := .int (nI ((rn v1) + 1))) C inl 0 1 (by decide) rfl rfl wd1 dX1_join_42 ?_
  refine z_iconst (v := 1) C dX1_join_45 (by decide) ?_
  refine z_isub C dX1_join_46 ?_
  refine z_top (y := nI (rn v)) (by rw [show rn v1 = rn v from by rw [hv1]; rfl]; exact nI_pred _) ?_
  subst hv1
  exact z_iret C hr hlocks (Nat.le_of_ble_eq_true rfl) (Nat.le_of_ble_eq_true rfl) dX1_join_47 rfl (congrArg (wX1 gg cI) (by first | rfl | (simp only [rjoin, ↓reduceIte]; done) | (simp only [rjoin, ↓reduceIte]; rfl)))
set_option maxHeartbeats 4000000 in
set_option maxRecDepth 100000 in
theorem c_X1_join_bad (l : Launch) (D : va_G) (gg : Nat → Nat) (cI : ClassId) (v : S1) (hn : (rn v) = 8) : zM l yX1_join wsX1_join 1 21 0 0 [.ref (gg 0)] [(cI, .int)] D (wX1 gg cI v) (wX1 gg cI (vt v 1)) (some (.int 0)) := by
  refine z_met (cc := cX1_join) (maxL := 1) (ret := (some .int)) (by decide) rfl (Nat.le_of_ble_eq_true rfl) ?_
  intro p e s m args below meth c A C hr hlocks
  have inl : ∀ w ∈ u_ws RX1 TX1 4, w ∈ wsX1_join := by decide +kernel
  have wd0 : Cond.fieldLink RX1 16 "SaltOrderModel" "thrown" "I" ∈ wsX1_join := by decide +kernel
  have wd1 : Cond.fieldLink RX1 20 "SaltOrderModel" "members" "I" ∈ wsX1_join := by decide +kernel
  refine z_sub (L' := [(0, .ref (gg 0))]) [0] rfl ?_
  refine z_aload_n C 0 dX1_join_0 rfl rfl ?_
  refine z_iconst (v := 0) C dX1_join_1 (by decide) ?_
  refine z_put1 (ws' := (wX1 gg cI (0, rn v, rf v, rk v))) C inl 0 0 (by decide) rfl rfl (by decide) rfl wd0 dX1_join_2 ?_
  refine z_aload_n C 0 dX1_join_5 rfl rfl ?_
  refine z_get1 (v := .int (nI (rn v))) C inl 0 1 (by decide) rfl rfl wd1 dX1_join_6 ?_
  refine z_bipush (v := 8) C dX1_join_9 (by decide) ?_
  refine z_icmp_ne (tgt := 20) C dX1_join_11 (by decide) (fun h9 => absurd h9 ((fun h => h (by rw [hn]; rfl)))) (fun _ => ?_)
  refine z_aload_n C 0 dX1_join_14 rfl rfl ?_
  refine z_iconst (v := 1) C dX1_join_15 (by decide) ?_
  obtain ⟨v1, hv1⟩ : ∃ z, z = vt (0, rn v, rf v, rk v) 1 := ⟨_, rfl⟩
  refine z_callV (w := (wX1 gg cI (0, rn v, rf v, rk v))) (w' := (wX1 gg cI v1)) (w1 := ([] : va_W)) (w2 := ([] : va_W)) (ws' := (wX1 gg cI v1)) (As := [.int 1]) (rest := []) (st' := [.int 0]) (rv := some (.int 0)) C (by rw [hv1]; exact c_X1_fail l D gg cI (0, rn v, rf v, rk v) 1) (cwV 1 C.words gX1_join_X1_fail rfl rfl rfl (by decide +kernel) ⟨(Nat.le_of_ble_eq_true rfl), (Nat.le_of_ble_eq_true rfl)⟩) (q0 := 0) (ci := 1) rfl rfl rfl [0] rfl rfl (Nat.le_of_ble_eq_true rfl) ⟨(Nat.le_of_ble_eq_true rfl), (Nat.le_of_ble_eq_true rfl)⟩ rfl rfl rfl rfl rfl dX1_join_16 ?_
  subst hv1
  exact z_iret C hr hlocks (Nat.le_of_ble_eq_true rfl) (Nat.le_of_ble_eq_true rfl) dX1_join_19 rfl (congrArg (wX1 gg cI) (by first | rfl | (simp only [vt, ↓reduceIte]; done) | (simp only [vt, ↓reduceIte]; rfl)))
set_option maxHeartbeats 4000000 in
set_option maxRecDepth 100000 in
theorem c_X1_spill (l : Launch) (D : va_G) (gg : Nat → Nat) (cI : ClassId) (v : S1) (j g sa : Nat) (hj : j < (rn v)) (hn : (rn v) ≤ 8) (h1 : 1 ≤ g) (h2 : g ≤ 30) (hc : (rf v) 1 = nI sa) (hcg : g ≤ sa) (hc5 : sa ≤ 500) : zM l yX1_spill wsX1_spill 2 43 0 0 [.ref (gg 0), .int (nI j), .int (nI g)] [(cI, .int)] D (wX1 gg cI v) (wX1 gg cI (rspill v j sa g)) (some (.int (rspF (rf v) j sa g (mi j 1)))) := by
  refine z_met (cc := cX1_spill) (maxL := 3) (ret := (some .int)) (by decide) rfl (Nat.le_of_ble_eq_true rfl) ?_
  intro p e s m args below meth c A C hr hlocks
  have inl : ∀ w ∈ u_ws RX1 TX1 4, w ∈ wsX1_spill := by decide +kernel
  have wd0 : Cond.fieldLink RX1 16 "SaltOrderModel" "thrown" "I" ∈ wsX1_spill := by decide +kernel
  have wd1 : Cond.fieldLink RX1 9 "SaltOrderModel" "now" "[I" ∈ wsX1_spill := by decide +kernel
  have wd2 : Cond.methodLink RX1 57 Lib.Math.min.name ∈ wsX1_spill := by decide +kernel
  have wd3 : Cond.static Lib.Math.min.name ∈ wsX1_spill := by decide +kernel
  have wd4 : Cond.initialized "java/lang/Math" ∈ wsX1_spill := by decide +kernel
  have wd5 : Cond.code Lib.Math.min.name Lib.Math.min.code 2 (some .int) ∈ wsX1_spill := by decide +kernel
  refine z_sub (L' := [(0, .ref (gg 0)), (1, .int (nI j)), (2, .int (nI g))]) [0, 1, 2] rfl ?_
  refine z_aload_n C 0 dX1_spill_0 rfl rfl ?_
  refine z_iconst (v := 0) C dX1_spill_1 (by decide) ?_
  refine z_put1 (ws' := (wX1 gg cI (0, rn v, rf v, rk v))) C inl 0 0 (by decide) rfl rfl (by decide) rfl wd0 dX1_spill_2 ?_
  refine z_aload_n C 0 dX1_spill_5 rfl rfl ?_
  refine z_iload_n C 1 dX1_spill_6 rfl rfl ?_
  refine z_callV (w := (wX1 gg cI (0, rn v, rf v, rk v))) (w' := (wX1 gg cI (0, rn v, rf v, rk v))) (w1 := ([] : va_W)) (w2 := ([] : va_W)) (ws' := (wX1 gg cI (0, rn v, rf v, rk v))) (As := [.int (nI j)]) (rest := []) (st' := [.int (isin (nI j) 0 (nI (rn v) - 1))]) (rv := some (.int (isin (nI j) 0 (nI (rn v) - 1)))) C (c_X1_isMember l D gg cI (0, rn v, rf v, rk v) (nI j)) (cwV 1 C.words gX1_spill_X1_isMember rfl rfl rfl (by decide +kernel) ⟨(Nat.le_of_ble_eq_true rfl), (Nat.le_of_ble_eq_true rfl)⟩) (q0 := 0) (ci := 1) rfl rfl rfl [0] rfl rfl (Nat.le_of_ble_eq_true rfl) ⟨(Nat.le_of_ble_eq_true rfl), (Nat.le_of_ble_eq_true rfl)⟩ rfl rfl rfl rfl rfl dX1_spill_7 ?_
  refine z_if_ne (tgt := 19) C dX1_spill_10 (by decide) (fun _ => ?_) (fun h9 => absurd h9 ((by rw [isin_m hj (by omega)]; decide)))
  refine z_iload_n C 2 dX1_spill_19 rfl rfl ?_
  refine z_iconst (v := 1) C dX1_spill_20 (by decide) ?_
  refine z_bipush (v := 30) C dX1_spill_21 (by decide) ?_
  refine z_callS (w := ([] : va_W)) (w' := ([] : va_W)) (w1 := (wX1 gg cI (0, rn v, rf v, rk v))) (w2 := ([] : va_W)) (ws' := (wX1 gg cI (0, rn v, rf v, rk v))) (As := [.int (nI g), .int 1, .int 30]) (rest := []) (st' := [.int (isin (nI g) 1 30)]) (rv := some (.int (isin (nI g) 1 30))) C (c_X1_isIn l D (nI g) 1 30) (va_cwS 3 C.words gX1_spill_X1_isIn rfl rfl rfl (by decide +kernel) ⟨(Nat.le_of_ble_eq_true rfl), (Nat.le_of_ble_eq_true rfl)⟩) [] rfl rfl (Nat.le_of_ble_eq_true rfl) ⟨(Nat.le_of_ble_eq_true rfl), (Nat.le_of_ble_eq_true rfl)⟩ rfl rfl rfl rfl rfl dX1_spill_23 ?_
  refine z_if_ne (tgt := 35) C dX1_spill_26 (by decide) (fun _ => ?_) (fun h9 => absurd h9 ((by rw [show isin (nI g) 1 30 = 1 from isin_r (lo := 1) (hi := 30) h1 h2 (by omega)]; decide)))
  refine z_aload_n C 0 dX1_spill_35 rfl rfl ?_
  refine z_get1 (v := .ref (gg 1)) C inl 0 2 (by decide) rfl rfl wd1 dX1_spill_36 ?_
  refine z_iconst (v := 1) C dX1_spill_39 (by decide) ?_
  refine z_iald (f := rf v) C 1 0 rfl rfl 1 rfl (by omega) (by decide) dX1_spill_40 ?_
  refine z_iload_n C 2 dX1_spill_41 rfl rfl ?_
  refine z_icmp_ge (tgt := 51) C dX1_spill_42 (by decide) (fun _ => ?_) (fun h9 => absurd ((by rw [hc]; exact nI_le hcg (by omega))) h9)
  refine z_aload_n C 0 dX1_spill_51 rfl rfl ?_
  refine z_get1 (v := .ref (gg 1)) C inl 0 2 (by decide) rfl rfl wd1 dX1_spill_52 ?_
  refine z_iconst (v := 1) C dX1_spill_55 (by decide) ?_
  refine z_dup2 C dX1_spill_56 rfl rfl ?_
  refine z_iald (f := rf v) C 1 0 rfl rfl 1 rfl (by omega) (by decide) dX1_spill_57 ?_
  refine z_iload_n C 2 dX1_spill_58 rfl rfl ?_
  refine z_isub C dX1_spill_59 ?_
  refine z_top (y := nI (sa - g)) (by rw [hc]; exact pk_sub hcg) ?_
  refine z_iast (ws' := (wX1 gg cI (0, rn v, upd (rf v) 1 (nI (sa - g)), rk v))) C 1 0 rfl rfl 1 rfl (by omega) (by decide) rfl dX1_spill_60 ?_
  refine z_aload_n C 0 dX1_spill_61 rfl rfl ?_
  refine z_iload_n C 1 dX1_spill_62 rfl rfl ?_
  refine z_iconst (v := 1) C dX1_spill_63 (by decide) ?_
  refine z_bipush (v := 99) C dX1_spill_64 (by decide) ?_
  refine z_aload_n C 0 dX1_spill_66 rfl rfl ?_
  refine z_iload_n C 1 dX1_spill_67 rfl rfl ?_
  refine z_iconst (v := 1) C dX1_spill_68 (by decide) ?_
  refine z_callV (w := (wX1 gg cI (0, rn v, upd (rf v) 1 (nI (sa - g)), rk v))) (w' := (wX1 gg cI (0, rn v, upd (rf v) 1 (nI (sa - g)), rk v))) (w1 := ([] : va_W)) (w2 := ([] : va_W)) (ws' := (wX1 gg cI (0, rn v, upd (rf v) 1 (nI (sa - g)), rk v))) (As := [.int (nI j), .int 1]) (rest := [.int 99, .int 1, .int (nI j), .ref (gg 0)]) (st' := [.int ((upd (rf v) 1 (nI (sa - g))) (mi j 1)), .int 99, .int 1, .int (nI j), .ref (gg 0)]) (rv := some (.int ((upd (rf v) 1 (nI (sa - g))) (mi j 1)))) C (c_X1_me l D gg cI (0, rn v, upd (rf v) 1 (nI (sa - g)), rk v) j 1 (by omega) (by omega)) (cwV 2 C.words gX1_spill_X1_me rfl rfl rfl (by decide +kernel) ⟨(Nat.le_of_ble_eq_true rfl), (Nat.le_of_ble_eq_true rfl)⟩) (q0 := 0) (ci := 1) rfl rfl rfl [0] rfl rfl (Nat.le_of_ble_eq_true rfl) ⟨(Nat.le_of_ble_eq_true rfl), (Nat.le_of_ble_eq_true rfl)⟩ rfl rfl rfl rfl rfl dX1_spill_69 ?_
  refine z_iload_n C 2 dX1_spill_72 rfl rfl ?_
  refine z_iadd C dX1_spill_73 ?_
  refine z_mmin C wd2 wd3 wd4 wd5 (Nat.le_of_ble_eq_true rfl) (Nat.le_of_ble_eq_true rfl) (Nat.le_of_ble_eq_true rfl) (Nat.le_of_ble_eq_true rfl) dX1_spill_74 ?_
  obtain ⟨v1, hv1⟩ : ∃ z, z = vf (0, rn v, upd (rf v) 1 (nI (sa - g)), rk v) (upd (upd (rf v) 1 (nI (sa - g))) (mi j 1) (imin 99 (((upd (rf v) 1 (nI (sa - g))) (mi j 1)) + (nI g)))) := ⟨_, rfl⟩
  refine z_callV (w := (wX1 gg cI (0, rn v, upd (rf v) 1 (nI (sa - g)), rk v))) (w' := (wX1 gg cI v1)) (w1 := ([] : va_W)) (w2 := ([] : va_W)) (ws' := (wX1 gg cI v1)) (As := [.int (nI j), .int 1, .int (imin 99 (((upd (rf v) 1 (nI (sa - g))) (mi j 1)) + (nI g)))]) (rest := []) (st' := []) (rv := none) C (by rw [hv1]; exact c_X1_let l D gg cI (0, rn v, upd (rf v) 1 (nI (sa - g)), rk v) j 1 (imin 99 (((upd (rf v) 1 (nI (sa - g))) (mi j 1)) + (nI g))) (by omega) (by omega)) (cwV 3 C.words gX1_spill_X1_let rfl rfl rfl (by decide +kernel) ⟨(Nat.le_of_ble_eq_true rfl), (Nat.le_of_ble_eq_true rfl)⟩) (q0 := 0) (ci := 1) rfl rfl rfl [0] rfl rfl (Nat.le_of_ble_eq_true rfl) ⟨(Nat.le_of_ble_eq_true rfl), (Nat.le_of_ble_eq_true rfl)⟩ rfl rfl rfl rfl rfl dX1_spill_77 ?_
  refine z_aload_n C 0 dX1_spill_80 rfl rfl ?_
  refine z_iload_n C 1 dX1_spill_81 rfl rfl ?_
  refine z_iconst (v := 1) C dX1_spill_82 (by decide) ?_
  refine z_callV (w := (wX1 gg cI v1)) (w' := (wX1 gg cI v1)) (w1 := ([] : va_W)) (w2 := ([] : va_W)) (ws' := (wX1 gg cI v1)) (As := [.int (nI j), .int 1]) (rest := []) (st' := [.int ((rf v1) (mi j 1))]) (rv := some (.int ((rf v1) (mi j 1)))) C (c_X1_me l D gg cI v1 j 1 (by omega) (by omega)) (cwV 2 C.words gX1_spill_X1_me rfl rfl rfl (by decide +kernel) ⟨(Nat.le_of_ble_eq_true rfl), (Nat.le_of_ble_eq_true rfl)⟩) (q0 := 0) (ci := 1) rfl rfl rfl [0] rfl rfl (Nat.le_of_ble_eq_true rfl) ⟨(Nat.le_of_ble_eq_true rfl), (Nat.le_of_ble_eq_true rfl)⟩ rfl rfl rfl rfl rfl dX1_spill_83 ?_
  subst hv1
  exact z_iret C hr hlocks (Nat.le_of_ble_eq_true rfl) (Nat.le_of_ble_eq_true rfl) dX1_spill_86 (by first | rfl | (simp only [rspill, rspF, ↓reduceIte]; done) | (simp only [rspill, rspF, ↓reduceIte]; rfl)) (congrArg (wX1 gg cI) (by first | rfl | (simp only [rspill, rspF, ↓reduceIte]; done) | (simp only [rspill, rspF, ↓reduceIte]; rfl)))
set_option maxHeartbeats 4000000 in
set_option maxRecDepth 100000 in
theorem c_X1_spill_b1 (l : Launch) (D : va_G) (gg : Nat → Nat) (cI : ClassId) (v : S1) (x g : Int32) (hm : isin x 0 (nI (rn v) - 1) = 0) : zM l yX1_spill wsX1_spill 2 43 0 0 [.ref (gg 0), .int x, .int g] [(cI, .int)] D (wX1 gg cI v) (wX1 gg cI (vt v 1)) (some (.int 0)) := by
  refine z_met (cc := cX1_spill) (maxL := 3) (ret := (some .int)) (by decide) rfl (Nat.le_of_ble_eq_true rfl) ?_
  intro p e s m args below meth c A C hr hlocks
  have inl : ∀ w ∈ u_ws RX1 TX1 4, w ∈ wsX1_spill := by decide +kernel
  have wd0 : Cond.fieldLink RX1 16 "SaltOrderModel" "thrown" "I" ∈ wsX1_spill := by decide +kernel
  refine z_sub (L' := [(0, .ref (gg 0)), (1, .int x), (2, .int g)]) [0, 1, 2] rfl ?_
  refine z_aload_n C 0 dX1_spill_0 rfl rfl ?_
  refine z_iconst (v := 0) C dX1_spill_1 (by decide) ?_
  refine z_put1 (ws' := (wX1 gg cI (0, rn v, rf v, rk v))) C inl 0 0 (by decide) rfl rfl (by decide) rfl wd0 dX1_spill_2 ?_
  refine z_aload_n C 0 dX1_spill_5 rfl rfl ?_
  refine z_iload_n C 1 dX1_spill_6 rfl rfl ?_
  refine z_callV (w := (wX1 gg cI (0, rn v, rf v, rk v))) (w' := (wX1 gg cI (0, rn v, rf v, rk v))) (w1 := ([] : va_W)) (w2 := ([] : va_W)) (ws' := (wX1 gg cI (0, rn v, rf v, rk v))) (As := [.int x]) (rest := []) (st' := [.int (isin x 0 (nI (rn v) - 1))]) (rv := some (.int (isin x 0 (nI (rn v) - 1)))) C (c_X1_isMember l D gg cI (0, rn v, rf v, rk v) x) (cwV 1 C.words gX1_spill_X1_isMember rfl rfl rfl (by decide +kernel) ⟨(Nat.le_of_ble_eq_true rfl), (Nat.le_of_ble_eq_true rfl)⟩) (q0 := 0) (ci := 1) rfl rfl rfl [0] rfl rfl (Nat.le_of_ble_eq_true rfl) ⟨(Nat.le_of_ble_eq_true rfl), (Nat.le_of_ble_eq_true rfl)⟩ rfl rfl rfl rfl rfl dX1_spill_7 ?_
  refine z_if_ne (tgt := 19) C dX1_spill_10 (by decide) (fun h9 => absurd h9 ((fun h => h hm))) (fun _ => ?_)
  refine z_aload_n C 0 dX1_spill_13 rfl rfl ?_
  refine z_iconst (v := 1) C dX1_spill_14 (by decide) ?_
  obtain ⟨v1, hv1⟩ : ∃ z, z = vt (0, rn v, rf v, rk v) 1 := ⟨_, rfl⟩
  refine z_callV (w := (wX1 gg cI (0, rn v, rf v, rk v))) (w' := (wX1 gg cI v1)) (w1 := ([] : va_W)) (w2 := ([] : va_W)) (ws' := (wX1 gg cI v1)) (As := [.int 1]) (rest := []) (st' := [.int 0]) (rv := some (.int 0)) C (by rw [hv1]; exact c_X1_fail l D gg cI (0, rn v, rf v, rk v) 1) (cwV 1 C.words gX1_spill_X1_fail rfl rfl rfl (by decide +kernel) ⟨(Nat.le_of_ble_eq_true rfl), (Nat.le_of_ble_eq_true rfl)⟩) (q0 := 0) (ci := 1) rfl rfl rfl [0] rfl rfl (Nat.le_of_ble_eq_true rfl) ⟨(Nat.le_of_ble_eq_true rfl), (Nat.le_of_ble_eq_true rfl)⟩ rfl rfl rfl rfl rfl dX1_spill_15 ?_
  subst hv1
  exact z_iret C hr hlocks (Nat.le_of_ble_eq_true rfl) (Nat.le_of_ble_eq_true rfl) dX1_spill_18 rfl (congrArg (wX1 gg cI) (by first | rfl | (simp only [vt, ↓reduceIte]; done) | (simp only [vt, ↓reduceIte]; rfl)))
set_option maxHeartbeats 4000000 in
set_option maxRecDepth 100000 in
theorem c_X1_spill_b2 (l : Launch) (D : va_G) (gg : Nat → Nat) (cI : ClassId) (v : S1) (j : Nat) (g : Int32) (hj : j < (rn v)) (hn : (rn v) ≤ 8) (hg : isin g 1 30 = 0) : zM l yX1_spill wsX1_spill 2 43 0 0 [.ref (gg 0), .int (nI j), .int g] [(cI, .int)] D (wX1 gg cI v) (wX1 gg cI (vt v 2)) (some (.int 0)) := by
  refine z_met (cc := cX1_spill) (maxL := 3) (ret := (some .int)) (by decide) rfl (Nat.le_of_ble_eq_true rfl) ?_
  intro p e s m args below meth c A C hr hlocks
  have inl : ∀ w ∈ u_ws RX1 TX1 4, w ∈ wsX1_spill := by decide +kernel
  have wd0 : Cond.fieldLink RX1 16 "SaltOrderModel" "thrown" "I" ∈ wsX1_spill := by decide +kernel
  refine z_sub (L' := [(0, .ref (gg 0)), (1, .int (nI j)), (2, .int g)]) [0, 1, 2] rfl ?_
  refine z_aload_n C 0 dX1_spill_0 rfl rfl ?_
  refine z_iconst (v := 0) C dX1_spill_1 (by decide) ?_
  refine z_put1 (ws' := (wX1 gg cI (0, rn v, rf v, rk v))) C inl 0 0 (by decide) rfl rfl (by decide) rfl wd0 dX1_spill_2 ?_
  refine z_aload_n C 0 dX1_spill_5 rfl rfl ?_
  refine z_iload_n C 1 dX1_spill_6 rfl rfl ?_
  refine z_callV (w := (wX1 gg cI (0, rn v, rf v, rk v))) (w' := (wX1 gg cI (0, rn v, rf v, rk v))) (w1 := ([] : va_W)) (w2 := ([] : va_W)) (ws' := (wX1 gg cI (0, rn v, rf v, rk v))) (As := [.int (nI j)]) (rest := []) (st' := [.int (isin (nI j) 0 (nI (rn v) - 1))]) (rv := some (.int (isin (nI j) 0 (nI (rn v) - 1)))) C (c_X1_isMember l D gg cI (0, rn v, rf v, rk v) (nI j)) (cwV 1 C.words gX1_spill_X1_isMember rfl rfl rfl (by decide +kernel) ⟨(Nat.le_of_ble_eq_true rfl), (Nat.le_of_ble_eq_true rfl)⟩) (q0 := 0) (ci := 1) rfl rfl rfl [0] rfl rfl (Nat.le_of_ble_eq_true rfl) ⟨(Nat.le_of_ble_eq_true rfl), (Nat.le_of_ble_eq_true rfl)⟩ rfl rfl rfl rfl rfl dX1_spill_7 ?_
  refine z_if_ne (tgt := 19) C dX1_spill_10 (by decide) (fun _ => ?_) (fun h9 => absurd h9 ((by rw [isin_m hj (by omega)]; decide)))
  refine z_iload_n C 2 dX1_spill_19 rfl rfl ?_
  refine z_iconst (v := 1) C dX1_spill_20 (by decide) ?_
  refine z_bipush (v := 30) C dX1_spill_21 (by decide) ?_
  refine z_callS (w := ([] : va_W)) (w' := ([] : va_W)) (w1 := (wX1 gg cI (0, rn v, rf v, rk v))) (w2 := ([] : va_W)) (ws' := (wX1 gg cI (0, rn v, rf v, rk v))) (As := [.int g, .int 1, .int 30]) (rest := []) (st' := [.int (isin g 1 30)]) (rv := some (.int (isin g 1 30))) C (c_X1_isIn l D g 1 30) (va_cwS 3 C.words gX1_spill_X1_isIn rfl rfl rfl (by decide +kernel) ⟨(Nat.le_of_ble_eq_true rfl), (Nat.le_of_ble_eq_true rfl)⟩) [] rfl rfl (Nat.le_of_ble_eq_true rfl) ⟨(Nat.le_of_ble_eq_true rfl), (Nat.le_of_ble_eq_true rfl)⟩ rfl rfl rfl rfl rfl dX1_spill_23 ?_
  refine z_if_ne (tgt := 35) C dX1_spill_26 (by decide) (fun h9 => absurd h9 ((fun h => h hg))) (fun _ => ?_)
  refine z_aload_n C 0 dX1_spill_29 rfl rfl ?_
  refine z_iconst (v := 2) C dX1_spill_30 (by decide) ?_
  obtain ⟨v1, hv1⟩ : ∃ z, z = vt (0, rn v, rf v, rk v) 2 := ⟨_, rfl⟩
  refine z_callV (w := (wX1 gg cI (0, rn v, rf v, rk v))) (w' := (wX1 gg cI v1)) (w1 := ([] : va_W)) (w2 := ([] : va_W)) (ws' := (wX1 gg cI v1)) (As := [.int 2]) (rest := []) (st' := [.int 0]) (rv := some (.int 0)) C (by rw [hv1]; exact c_X1_fail l D gg cI (0, rn v, rf v, rk v) 2) (cwV 1 C.words gX1_spill_X1_fail rfl rfl rfl (by decide +kernel) ⟨(Nat.le_of_ble_eq_true rfl), (Nat.le_of_ble_eq_true rfl)⟩) (q0 := 0) (ci := 1) rfl rfl rfl [0] rfl rfl (Nat.le_of_ble_eq_true rfl) ⟨(Nat.le_of_ble_eq_true rfl), (Nat.le_of_ble_eq_true rfl)⟩ rfl rfl rfl rfl rfl dX1_spill_31 ?_
  subst hv1
  exact z_iret C hr hlocks (Nat.le_of_ble_eq_true rfl) (Nat.le_of_ble_eq_true rfl) dX1_spill_34 rfl (congrArg (wX1 gg cI) (by first | rfl | (simp only [vt, ↓reduceIte]; done) | (simp only [vt, ↓reduceIte]; rfl)))
set_option maxHeartbeats 4000000 in
set_option maxRecDepth 100000 in
theorem c_X1_spill_b3 (l : Launch) (D : va_G) (gg : Nat → Nat) (cI : ClassId) (v : S1) (j : Nat) (g : Int32) (hj : j < (rn v)) (hn : (rn v) ≤ 8) (hg : isin g 1 30 = 1) (hc : ¬ g ≤ (rf v) 1) : zM l yX1_spill wsX1_spill 2 43 0 0 [.ref (gg 0), .int (nI j), .int g] [(cI, .int)] D (wX1 gg cI v) (wX1 gg cI (vt v 3)) (some (.int 0)) := by
  refine z_met (cc := cX1_spill) (maxL := 3) (ret := (some .int)) (by decide) rfl (Nat.le_of_ble_eq_true rfl) ?_
  intro p e s m args below meth c A C hr hlocks
  have inl : ∀ w ∈ u_ws RX1 TX1 4, w ∈ wsX1_spill := by decide +kernel
  have wd0 : Cond.fieldLink RX1 16 "SaltOrderModel" "thrown" "I" ∈ wsX1_spill := by decide +kernel
  have wd1 : Cond.fieldLink RX1 9 "SaltOrderModel" "now" "[I" ∈ wsX1_spill := by decide +kernel
  refine z_sub (L' := [(0, .ref (gg 0)), (1, .int (nI j)), (2, .int g)]) [0, 1, 2] rfl ?_
  refine z_aload_n C 0 dX1_spill_0 rfl rfl ?_
  refine z_iconst (v := 0) C dX1_spill_1 (by decide) ?_
  refine z_put1 (ws' := (wX1 gg cI (0, rn v, rf v, rk v))) C inl 0 0 (by decide) rfl rfl (by decide) rfl wd0 dX1_spill_2 ?_
  refine z_aload_n C 0 dX1_spill_5 rfl rfl ?_
  refine z_iload_n C 1 dX1_spill_6 rfl rfl ?_
  refine z_callV (w := (wX1 gg cI (0, rn v, rf v, rk v))) (w' := (wX1 gg cI (0, rn v, rf v, rk v))) (w1 := ([] : va_W)) (w2 := ([] : va_W)) (ws' := (wX1 gg cI (0, rn v, rf v, rk v))) (As := [.int (nI j)]) (rest := []) (st' := [.int (isin (nI j) 0 (nI (rn v) - 1))]) (rv := some (.int (isin (nI j) 0 (nI (rn v) - 1)))) C (c_X1_isMember l D gg cI (0, rn v, rf v, rk v) (nI j)) (cwV 1 C.words gX1_spill_X1_isMember rfl rfl rfl (by decide +kernel) ⟨(Nat.le_of_ble_eq_true rfl), (Nat.le_of_ble_eq_true rfl)⟩) (q0 := 0) (ci := 1) rfl rfl rfl [0] rfl rfl (Nat.le_of_ble_eq_true rfl) ⟨(Nat.le_of_ble_eq_true rfl), (Nat.le_of_ble_eq_true rfl)⟩ rfl rfl rfl rfl rfl dX1_spill_7 ?_
  refine z_if_ne (tgt := 19) C dX1_spill_10 (by decide) (fun _ => ?_) (fun h9 => absurd h9 ((by rw [isin_m hj (by omega)]; decide)))
  refine z_iload_n C 2 dX1_spill_19 rfl rfl ?_
  refine z_iconst (v := 1) C dX1_spill_20 (by decide) ?_
  refine z_bipush (v := 30) C dX1_spill_21 (by decide) ?_
  refine z_callS (w := ([] : va_W)) (w' := ([] : va_W)) (w1 := (wX1 gg cI (0, rn v, rf v, rk v))) (w2 := ([] : va_W)) (ws' := (wX1 gg cI (0, rn v, rf v, rk v))) (As := [.int g, .int 1, .int 30]) (rest := []) (st' := [.int (isin g 1 30)]) (rv := some (.int (isin g 1 30))) C (c_X1_isIn l D g 1 30) (va_cwS 3 C.words gX1_spill_X1_isIn rfl rfl rfl (by decide +kernel) ⟨(Nat.le_of_ble_eq_true rfl), (Nat.le_of_ble_eq_true rfl)⟩) [] rfl rfl (Nat.le_of_ble_eq_true rfl) ⟨(Nat.le_of_ble_eq_true rfl), (Nat.le_of_ble_eq_true rfl)⟩ rfl rfl rfl rfl rfl dX1_spill_23 ?_
  refine z_if_ne (tgt := 35) C dX1_spill_26 (by decide) (fun _ => ?_) (fun h9 => absurd h9 ((by rw [hg]; decide)))
  refine z_aload_n C 0 dX1_spill_35 rfl rfl ?_
  refine z_get1 (v := .ref (gg 1)) C inl 0 2 (by decide) rfl rfl wd1 dX1_spill_36 ?_
  refine z_iconst (v := 1) C dX1_spill_39 (by decide) ?_
  refine z_iald (f := rf v) C 1 0 rfl rfl 1 rfl (by omega) (by decide) dX1_spill_40 ?_
  refine z_iload_n C 2 dX1_spill_41 rfl rfl ?_
  refine z_icmp_ge (tgt := 51) C dX1_spill_42 (by decide) (fun h9 => absurd h9 (hc)) (fun _ => ?_)
  refine z_aload_n C 0 dX1_spill_45 rfl rfl ?_
  refine z_iconst (v := 3) C dX1_spill_46 (by decide) ?_
  obtain ⟨v1, hv1⟩ : ∃ z, z = vt (0, rn v, rf v, rk v) 3 := ⟨_, rfl⟩
  refine z_callV (w := (wX1 gg cI (0, rn v, rf v, rk v))) (w' := (wX1 gg cI v1)) (w1 := ([] : va_W)) (w2 := ([] : va_W)) (ws' := (wX1 gg cI v1)) (As := [.int 3]) (rest := []) (st' := [.int 0]) (rv := some (.int 0)) C (by rw [hv1]; exact c_X1_fail l D gg cI (0, rn v, rf v, rk v) 3) (cwV 1 C.words gX1_spill_X1_fail rfl rfl rfl (by decide +kernel) ⟨(Nat.le_of_ble_eq_true rfl), (Nat.le_of_ble_eq_true rfl)⟩) (q0 := 0) (ci := 1) rfl rfl rfl [0] rfl rfl (Nat.le_of_ble_eq_true rfl) ⟨(Nat.le_of_ble_eq_true rfl), (Nat.le_of_ble_eq_true rfl)⟩ rfl rfl rfl rfl rfl dX1_spill_47 ?_
  subst hv1
  exact z_iret C hr hlocks (Nat.le_of_ble_eq_true rfl) (Nat.le_of_ble_eq_true rfl) dX1_spill_50 rfl (congrArg (wX1 gg cI) (by first | rfl | (simp only [vt, ↓reduceIte]; done) | (simp only [vt, ↓reduceIte]; rfl)))
set_option maxHeartbeats 4000000 in
set_option maxRecDepth 100000 in
theorem c_X1_throwSalt (l : Launch) (D : va_G) (gg : Nat → Nat) (cI : ClassId) (v : S1) (j : Nat) (b : Int32) (g sa : Nat) (k : Nat) (W : Nat → Nat) (hj : j < (rn v)) (hn : (rn v) ≤ 8) (hb : b = 0 ∨ b = 1) (h1 : 1 ≤ g) (h2 : g ≤ 9) (hc : (rf v) 1 = nI sa) (hcg : g ≤ sa) (hc5 : sa ≤ 500) (hL : rL (rf v) k W) (hk3 : k < 30) : zM l yX1_throwSalt wsX1_throwSalt 2 47 0 0 [.ref (gg 0), .int (nI j), .int b, .int (nI g)] [(cI, .int)] D (wX1 gg cI v) (wX1 gg cI (vf (vt v 0) (rcast (rf v) k j (if b = 0 then 1 else 0) (nI g)))) (some (.int (rcE (rf v) j (if b = 0 then 1 else 0) (nI g)))) := by
  refine z_met (cc := cX1_throwSalt) (maxL := 4) (ret := (some .int)) (by decide) rfl (Nat.le_of_ble_eq_true rfl) ?_
  intro p e s m args below meth c A C hr hlocks
  have inl : ∀ w ∈ u_ws RX1 TX1 4, w ∈ wsX1_throwSalt := by decide +kernel
  have wd0 : Cond.fieldLink RX1 16 "SaltOrderModel" "thrown" "I" ∈ wsX1_throwSalt := by decide +kernel
  have wd1 : Cond.fieldLink RX1 9 "SaltOrderModel" "now" "[I" ∈ wsX1_throwSalt := by decide +kernel
  refine z_sub (L' := [(0, .ref (gg 0)), (1, .int (nI j)), (2, .int b), (3, .int (nI g))]) [0, 1, 2, 3] rfl ?_
  have hk := hL.1
  have hk30 := hL.2.1
  refine z_aload_n C 0 dX1_throwSalt_0 rfl rfl ?_
  refine z_iconst (v := 0) C dX1_throwSalt_1 (by decide) ?_
  refine z_put1 (ws' := (wX1 gg cI (0, rn v, rf v, rk v))) C inl 0 0 (by decide) rfl rfl (by decide) rfl wd0 dX1_throwSalt_2 ?_
  refine z_aload_n C 0 dX1_throwSalt_5 rfl rfl ?_
  refine z_iload_n C 1 dX1_throwSalt_6 rfl rfl ?_
  refine z_callV (w := (wX1 gg cI (0, rn v, rf v, rk v))) (w' := (wX1 gg cI (0, rn v, rf v, rk v))) (w1 := ([] : va_W)) (w2 := ([] : va_W)) (ws' := (wX1 gg cI (0, rn v, rf v, rk v))) (As := [.int (nI j)]) (rest := []) (st' := [.int (isin (nI j) 0 (nI (rn v) - 1))]) (rv := some (.int (isin (nI j) 0 (nI (rn v) - 1)))) C (c_X1_isMember l D gg cI (0, rn v, rf v, rk v) (nI j)) (cwV 1 C.words gX1_throwSalt_X1_isMember rfl rfl rfl (by decide +kernel) ⟨(Nat.le_of_ble_eq_true rfl), (Nat.le_of_ble_eq_true rfl)⟩) (q0 := 0) (ci := 1) rfl rfl rfl [0] rfl rfl (Nat.le_of_ble_eq_true rfl) ⟨(Nat.le_of_ble_eq_true rfl), (Nat.le_of_ble_eq_true rfl)⟩ rfl rfl rfl rfl rfl dX1_throwSalt_7 ?_
  refine z_if_eq (tgt := 22) C dX1_throwSalt_10 (by decide) (fun h9 => absurd h9 ((by rw [isin_m hj (by omega)]; decide))) (fun _ => ?_)
  refine z_iload_n C 2 dX1_throwSalt_13 rfl rfl ?_
  refine z_iconst (v := 0) C dX1_throwSalt_14 (by decide) ?_
  refine z_iconst (v := 1) C dX1_throwSalt_15 (by decide) ?_
  refine z_callS (w := ([] : va_W)) (w' := ([] : va_W)) (w1 := (wX1 gg cI (0, rn v, rf v, rk v))) (w2 := ([] : va_W)) (ws' := (wX1 gg cI (0, rn v, rf v, rk v))) (As := [.int b, .int 0, .int 1]) (rest := []) (st' := [.int (isin b 0 1)]) (rv := some (.int (isin b 0 1))) C (c_X1_isIn l D b 0 1) (va_cwS 3 C.words gX1_throwSalt_X1_isIn rfl rfl rfl (by decide +kernel) ⟨(Nat.le_of_ble_eq_true rfl), (Nat.le_of_ble_eq_true rfl)⟩) [] rfl rfl (Nat.le_of_ble_eq_true rfl) ⟨(Nat.le_of_ble_eq_true rfl), (Nat.le_of_ble_eq_true rfl)⟩ rfl rfl rfl rfl rfl dX1_throwSalt_16 ?_
  refine z_if_ne (tgt := 28) C dX1_throwSalt_19 (by decide) (fun _ => ?_) (fun h9 => absurd h9 ((by rw [show isin b 0 1 = 1 from by rcases hb with h | h <;> rw [h] <;> decide]; decide)))
  refine z_iload_n C 3 dX1_throwSalt_28 rfl rfl ?_
  refine z_iconst (v := 1) C dX1_throwSalt_29 (by decide) ?_
  refine z_bipush (v := 9) C dX1_throwSalt_30 (by decide) ?_
  refine z_callS (w := ([] : va_W)) (w' := ([] : va_W)) (w1 := (wX1 gg cI (0, rn v, rf v, rk v))) (w2 := ([] : va_W)) (ws' := (wX1 gg cI (0, rn v, rf v, rk v))) (As := [.int (nI g), .int 1, .int 9]) (rest := []) (st' := [.int (isin (nI g) 1 9)]) (rv := some (.int (isin (nI g) 1 9))) C (c_X1_isIn l D (nI g) 1 9) (va_cwS 3 C.words gX1_throwSalt_X1_isIn rfl rfl rfl (by decide +kernel) ⟨(Nat.le_of_ble_eq_true rfl), (Nat.le_of_ble_eq_true rfl)⟩) [] rfl rfl (Nat.le_of_ble_eq_true rfl) ⟨(Nat.le_of_ble_eq_true rfl), (Nat.le_of_ble_eq_true rfl)⟩ rfl rfl rfl rfl rfl dX1_throwSalt_32 ?_
  refine z_if_ne (tgt := 44) C dX1_throwSalt_35 (by decide) (fun _ => ?_) (fun h9 => absurd h9 ((by rw [show isin (nI g) 1 9 = 1 from isin_r (lo := 1) (hi := 9) h1 h2 (by omega)]; decide)))
  refine z_aload_n C 0 dX1_throwSalt_44 rfl rfl ?_
  refine z_get1 (v := .ref (gg 1)) C inl 0 2 (by decide) rfl rfl wd1 dX1_throwSalt_45 ?_
  refine z_iconst (v := 1) C dX1_throwSalt_48 (by decide) ?_
  refine z_iald (f := rf v) C 1 0 rfl rfl 1 rfl (by omega) (by decide) dX1_throwSalt_49 ?_
  refine z_iload_n C 3 dX1_throwSalt_50 rfl rfl ?_
  refine z_icmp_lt (tgt := 65) C dX1_throwSalt_51 (by decide) (fun h9 => absurd h9 ((by rw [hc]; exact nI_nlt hcg (by omega)))) (fun _ => ?_)
  refine z_aload_n C 0 dX1_throwSalt_54 rfl rfl ?_
  refine z_get1 (v := .ref (gg 1)) C inl 0 2 (by decide) rfl rfl wd1 dX1_throwSalt_55 ?_
  refine z_iconst (v := 3) C dX1_throwSalt_58 (by decide) ?_
  refine z_iald (f := rf v) C 1 0 rfl rfl 3 rfl (by omega) (by decide) dX1_throwSalt_59 ?_
  refine z_bipush (v := 30) C dX1_throwSalt_60 (by decide) ?_
  refine z_icmp_ne (tgt := 71) C dX1_throwSalt_62 (by decide) (fun _ => ?_) (fun h9 => absurd h9 ((by rw [hk]; exact fun h => by have := (nI_eq (a := k) (b := 30) (by omega) (by omega)).mp h; omega)))
  refine z_aload_n C 0 dX1_throwSalt_71 rfl rfl ?_
  refine z_iload_n C 1 dX1_throwSalt_72 rfl rfl ?_
  refine z_iload_n C 2 dX1_throwSalt_73 rfl rfl ?_
  refine z_if_ne (tgt := 81) C dX1_throwSalt_74 (by decide) (fun c74 => ?_) (fun c74 => ?_)
  · skip
    refine z_iconst (v := 0) C dX1_throwSalt_81 (by decide) ?_
    refine z_iload_n C 3 dX1_throwSalt_82 rfl rfl ?_
    obtain ⟨v1, hv1⟩ : ∃ z, z = vf (0, rn v, rf v, rk v) (rcast (rf v) k j 0 (nI g)) := ⟨_, rfl⟩
    refine z_callV (w := (wX1 gg cI (0, rn v, rf v, rk v))) (w' := (wX1 gg cI v1)) (w1 := ([] : va_W)) (w2 := ([] : va_W)) (ws' := (wX1 gg cI v1)) (As := [.int (nI j), .int 0, .int (nI g)]) (rest := []) (st' := [.int (rcE (rf v) j 0 (nI g))]) (rv := some (.int (rcE (rf v) j 0 (nI g)))) C (by rw [hv1]; exact c_X1_cast l D gg cI (0, rn v, rf v, rk v) j 0 (nI g) k W (by omega) hL (by omega)) (cwV 3 C.words gX1_throwSalt_X1_cast rfl rfl rfl (by decide +kernel) ⟨(Nat.le_of_ble_eq_true rfl), (Nat.le_of_ble_eq_true rfl)⟩) (q0 := 0) (ci := 1) rfl rfl rfl [0] rfl rfl (Nat.le_of_ble_eq_true rfl) ⟨(Nat.le_of_ble_eq_true rfl), (Nat.le_of_ble_eq_true rfl)⟩ rfl rfl rfl rfl rfl dX1_throwSalt_83 ?_
    subst hv1
    exact z_iret C hr hlocks (Nat.le_of_ble_eq_true rfl) (Nat.le_of_ble_eq_true rfl) dX1_throwSalt_86 (by first | rfl | (simp only [c74, ↓reduceIte]; done) | (simp only [c74, ↓reduceIte]; rfl)) (congrArg (wX1 gg cI) (by first | rfl | (simp only [c74, ↓reduceIte]; done) | (simp only [c74, ↓reduceIte]; rfl)))
  · skip
    refine z_iconst (v := 1) C dX1_throwSalt_77 (by decide) ?_
    refine z_goto (tgt := 82) C dX1_throwSalt_78 (by decide) ?_
    refine z_iload_n C 3 dX1_throwSalt_82 rfl rfl ?_
    obtain ⟨v2, hv2⟩ : ∃ z, z = vf (0, rn v, rf v, rk v) (rcast (rf v) k j 1 (nI g)) := ⟨_, rfl⟩
    refine z_callV (w := (wX1 gg cI (0, rn v, rf v, rk v))) (w' := (wX1 gg cI v2)) (w1 := ([] : va_W)) (w2 := ([] : va_W)) (ws' := (wX1 gg cI v2)) (As := [.int (nI j), .int 1, .int (nI g)]) (rest := []) (st' := [.int (rcE (rf v) j 1 (nI g))]) (rv := some (.int (rcE (rf v) j 1 (nI g)))) C (by rw [hv2]; exact c_X1_cast l D gg cI (0, rn v, rf v, rk v) j 1 (nI g) k W (by omega) hL (by omega)) (cwV 3 C.words gX1_throwSalt_X1_cast rfl rfl rfl (by decide +kernel) ⟨(Nat.le_of_ble_eq_true rfl), (Nat.le_of_ble_eq_true rfl)⟩) (q0 := 0) (ci := 1) rfl rfl rfl [0] rfl rfl (Nat.le_of_ble_eq_true rfl) ⟨(Nat.le_of_ble_eq_true rfl), (Nat.le_of_ble_eq_true rfl)⟩ rfl rfl rfl rfl rfl dX1_throwSalt_83 ?_
    subst hv2
    exact z_iret C hr hlocks (Nat.le_of_ble_eq_true rfl) (Nat.le_of_ble_eq_true rfl) dX1_throwSalt_86 (by first | rfl | (simp only [c74, ↓reduceIte]; done) | (simp only [c74, ↓reduceIte]; rfl)) (congrArg (wX1 gg cI) (by first | rfl | (simp only [c74, ↓reduceIte]; done) | (simp only [c74, ↓reduceIte]; rfl)))
set_option maxHeartbeats 4000000 in
set_option maxRecDepth 100000 in
theorem c_X1_throwSalt_b1 (l : Launch) (D : va_G) (gg : Nat → Nat) (cI : ClassId) (v : S1) (x b g : Int32) (hm : isin x 0 (nI (rn v) - 1) = 0) : zM l yX1_throwSalt wsX1_throwSalt 2 43 0 0 [.ref (gg 0), .int x, .int b, .int g] [(cI, .int)] D (wX1 gg cI v) (wX1 gg cI (vt v 1)) (some (.int 0)) := by
  refine z_met (cc := cX1_throwSalt) (maxL := 4) (ret := (some .int)) (by decide) rfl (Nat.le_of_ble_eq_true rfl) ?_
  intro p e s m args below meth c A C hr hlocks
  have inl : ∀ w ∈ u_ws RX1 TX1 4, w ∈ wsX1_throwSalt := by decide +kernel
  have wd0 : Cond.fieldLink RX1 16 "SaltOrderModel" "thrown" "I" ∈ wsX1_throwSalt := by decide +kernel
  refine z_sub (L' := [(0, .ref (gg 0)), (1, .int x), (2, .int b), (3, .int g)]) [0, 1, 2, 3] rfl ?_
  refine z_aload_n C 0 dX1_throwSalt_0 rfl rfl ?_
  refine z_iconst (v := 0) C dX1_throwSalt_1 (by decide) ?_
  refine z_put1 (ws' := (wX1 gg cI (0, rn v, rf v, rk v))) C inl 0 0 (by decide) rfl rfl (by decide) rfl wd0 dX1_throwSalt_2 ?_
  refine z_aload_n C 0 dX1_throwSalt_5 rfl rfl ?_
  refine z_iload_n C 1 dX1_throwSalt_6 rfl rfl ?_
  refine z_callV (w := (wX1 gg cI (0, rn v, rf v, rk v))) (w' := (wX1 gg cI (0, rn v, rf v, rk v))) (w1 := ([] : va_W)) (w2 := ([] : va_W)) (ws' := (wX1 gg cI (0, rn v, rf v, rk v))) (As := [.int x]) (rest := []) (st' := [.int (isin x 0 (nI (rn v) - 1))]) (rv := some (.int (isin x 0 (nI (rn v) - 1)))) C (c_X1_isMember l D gg cI (0, rn v, rf v, rk v) x) (cwV 1 C.words gX1_throwSalt_X1_isMember rfl rfl rfl (by decide +kernel) ⟨(Nat.le_of_ble_eq_true rfl), (Nat.le_of_ble_eq_true rfl)⟩) (q0 := 0) (ci := 1) rfl rfl rfl [0] rfl rfl (Nat.le_of_ble_eq_true rfl) ⟨(Nat.le_of_ble_eq_true rfl), (Nat.le_of_ble_eq_true rfl)⟩ rfl rfl rfl rfl rfl dX1_throwSalt_7 ?_
  refine z_if_eq (tgt := 22) C dX1_throwSalt_10 (by decide) (fun _ => ?_) (fun h9 => absurd (hm) h9)
  refine z_aload_n C 0 dX1_throwSalt_22 rfl rfl ?_
  refine z_iconst (v := 1) C dX1_throwSalt_23 (by decide) ?_
  obtain ⟨v1, hv1⟩ : ∃ z, z = vt (0, rn v, rf v, rk v) 1 := ⟨_, rfl⟩
  refine z_callV (w := (wX1 gg cI (0, rn v, rf v, rk v))) (w' := (wX1 gg cI v1)) (w1 := ([] : va_W)) (w2 := ([] : va_W)) (ws' := (wX1 gg cI v1)) (As := [.int 1]) (rest := []) (st' := [.int 0]) (rv := some (.int 0)) C (by rw [hv1]; exact c_X1_fail l D gg cI (0, rn v, rf v, rk v) 1) (cwV 1 C.words gX1_throwSalt_X1_fail rfl rfl rfl (by decide +kernel) ⟨(Nat.le_of_ble_eq_true rfl), (Nat.le_of_ble_eq_true rfl)⟩) (q0 := 0) (ci := 1) rfl rfl rfl [0] rfl rfl (Nat.le_of_ble_eq_true rfl) ⟨(Nat.le_of_ble_eq_true rfl), (Nat.le_of_ble_eq_true rfl)⟩ rfl rfl rfl rfl rfl dX1_throwSalt_24 ?_
  subst hv1
  exact z_iret C hr hlocks (Nat.le_of_ble_eq_true rfl) (Nat.le_of_ble_eq_true rfl) dX1_throwSalt_27 rfl (congrArg (wX1 gg cI) (by first | rfl | (simp only [vt, ↓reduceIte]; done) | (simp only [vt, ↓reduceIte]; rfl)))
set_option maxHeartbeats 4000000 in
set_option maxRecDepth 100000 in
theorem c_X1_throwSalt_b1b (l : Launch) (D : va_G) (gg : Nat → Nat) (cI : ClassId) (v : S1) (j : Nat) (b g : Int32) (hj : j < (rn v)) (hn : (rn v) ≤ 8) (hb : isin b 0 1 = 0) : zM l yX1_throwSalt wsX1_throwSalt 2 43 0 0 [.ref (gg 0), .int (nI j), .int b, .int g] [(cI, .int)] D (wX1 gg cI v) (wX1 gg cI (vt v 1)) (some (.int 0)) := by
  refine z_met (cc := cX1_throwSalt) (maxL := 4) (ret := (some .int)) (by decide) rfl (Nat.le_of_ble_eq_true rfl) ?_
  intro p e s m args below meth c A C hr hlocks
  have inl : ∀ w ∈ u_ws RX1 TX1 4, w ∈ wsX1_throwSalt := by decide +kernel
  have wd0 : Cond.fieldLink RX1 16 "SaltOrderModel" "thrown" "I" ∈ wsX1_throwSalt := by decide +kernel
  refine z_sub (L' := [(0, .ref (gg 0)), (1, .int (nI j)), (2, .int b), (3, .int g)]) [0, 1, 2, 3] rfl ?_
  refine z_aload_n C 0 dX1_throwSalt_0 rfl rfl ?_
  refine z_iconst (v := 0) C dX1_throwSalt_1 (by decide) ?_
  refine z_put1 (ws' := (wX1 gg cI (0, rn v, rf v, rk v))) C inl 0 0 (by decide) rfl rfl (by decide) rfl wd0 dX1_throwSalt_2 ?_
  refine z_aload_n C 0 dX1_throwSalt_5 rfl rfl ?_
  refine z_iload_n C 1 dX1_throwSalt_6 rfl rfl ?_
  refine z_callV (w := (wX1 gg cI (0, rn v, rf v, rk v))) (w' := (wX1 gg cI (0, rn v, rf v, rk v))) (w1 := ([] : va_W)) (w2 := ([] : va_W)) (ws' := (wX1 gg cI (0, rn v, rf v, rk v))) (As := [.int (nI j)]) (rest := []) (st' := [.int (isin (nI j) 0 (nI (rn v) - 1))]) (rv := some (.int (isin (nI j) 0 (nI (rn v) - 1)))) C (c_X1_isMember l D gg cI (0, rn v, rf v, rk v) (nI j)) (cwV 1 C.words gX1_throwSalt_X1_isMember rfl rfl rfl (by decide +kernel) ⟨(Nat.le_of_ble_eq_true rfl), (Nat.le_of_ble_eq_true rfl)⟩) (q0 := 0) (ci := 1) rfl rfl rfl [0] rfl rfl (Nat.le_of_ble_eq_true rfl) ⟨(Nat.le_of_ble_eq_true rfl), (Nat.le_of_ble_eq_true rfl)⟩ rfl rfl rfl rfl rfl dX1_throwSalt_7 ?_
  refine z_if_eq (tgt := 22) C dX1_throwSalt_10 (by decide) (fun h9 => absurd h9 ((by rw [isin_m hj (by omega)]; decide))) (fun _ => ?_)
  refine z_iload_n C 2 dX1_throwSalt_13 rfl rfl ?_
  refine z_iconst (v := 0) C dX1_throwSalt_14 (by decide) ?_
  refine z_iconst (v := 1) C dX1_throwSalt_15 (by decide) ?_
  refine z_callS (w := ([] : va_W)) (w' := ([] : va_W)) (w1 := (wX1 gg cI (0, rn v, rf v, rk v))) (w2 := ([] : va_W)) (ws' := (wX1 gg cI (0, rn v, rf v, rk v))) (As := [.int b, .int 0, .int 1]) (rest := []) (st' := [.int (isin b 0 1)]) (rv := some (.int (isin b 0 1))) C (c_X1_isIn l D b 0 1) (va_cwS 3 C.words gX1_throwSalt_X1_isIn rfl rfl rfl (by decide +kernel) ⟨(Nat.le_of_ble_eq_true rfl), (Nat.le_of_ble_eq_true rfl)⟩) [] rfl rfl (Nat.le_of_ble_eq_true rfl) ⟨(Nat.le_of_ble_eq_true rfl), (Nat.le_of_ble_eq_true rfl)⟩ rfl rfl rfl rfl rfl dX1_throwSalt_16 ?_
  refine z_if_ne (tgt := 28) C dX1_throwSalt_19 (by decide) (fun h9 => absurd h9 ((fun h => h hb))) (fun _ => ?_)
  refine z_aload_n C 0 dX1_throwSalt_22 rfl rfl ?_
  refine z_iconst (v := 1) C dX1_throwSalt_23 (by decide) ?_
  obtain ⟨v1, hv1⟩ : ∃ z, z = vt (0, rn v, rf v, rk v) 1 := ⟨_, rfl⟩
  refine z_callV (w := (wX1 gg cI (0, rn v, rf v, rk v))) (w' := (wX1 gg cI v1)) (w1 := ([] : va_W)) (w2 := ([] : va_W)) (ws' := (wX1 gg cI v1)) (As := [.int 1]) (rest := []) (st' := [.int 0]) (rv := some (.int 0)) C (by rw [hv1]; exact c_X1_fail l D gg cI (0, rn v, rf v, rk v) 1) (cwV 1 C.words gX1_throwSalt_X1_fail rfl rfl rfl (by decide +kernel) ⟨(Nat.le_of_ble_eq_true rfl), (Nat.le_of_ble_eq_true rfl)⟩) (q0 := 0) (ci := 1) rfl rfl rfl [0] rfl rfl (Nat.le_of_ble_eq_true rfl) ⟨(Nat.le_of_ble_eq_true rfl), (Nat.le_of_ble_eq_true rfl)⟩ rfl rfl rfl rfl rfl dX1_throwSalt_24 ?_
  subst hv1
  exact z_iret C hr hlocks (Nat.le_of_ble_eq_true rfl) (Nat.le_of_ble_eq_true rfl) dX1_throwSalt_27 rfl (congrArg (wX1 gg cI) (by first | rfl | (simp only [vt, ↓reduceIte]; done) | (simp only [vt, ↓reduceIte]; rfl)))
set_option maxHeartbeats 4000000 in
set_option maxRecDepth 100000 in
theorem c_X1_throwSalt_b2 (l : Launch) (D : va_G) (gg : Nat → Nat) (cI : ClassId) (v : S1) (j : Nat) (b g : Int32) (hj : j < (rn v)) (hn : (rn v) ≤ 8) (hb : isin b 0 1 = 1) (hg : isin g 1 9 = 0) : zM l yX1_throwSalt wsX1_throwSalt 2 43 0 0 [.ref (gg 0), .int (nI j), .int b, .int g] [(cI, .int)] D (wX1 gg cI v) (wX1 gg cI (vt v 2)) (some (.int 0)) := by
  refine z_met (cc := cX1_throwSalt) (maxL := 4) (ret := (some .int)) (by decide) rfl (Nat.le_of_ble_eq_true rfl) ?_
  intro p e s m args below meth c A C hr hlocks
  have inl : ∀ w ∈ u_ws RX1 TX1 4, w ∈ wsX1_throwSalt := by decide +kernel
  have wd0 : Cond.fieldLink RX1 16 "SaltOrderModel" "thrown" "I" ∈ wsX1_throwSalt := by decide +kernel
  refine z_sub (L' := [(0, .ref (gg 0)), (1, .int (nI j)), (2, .int b), (3, .int g)]) [0, 1, 2, 3] rfl ?_
  refine z_aload_n C 0 dX1_throwSalt_0 rfl rfl ?_
  refine z_iconst (v := 0) C dX1_throwSalt_1 (by decide) ?_
  refine z_put1 (ws' := (wX1 gg cI (0, rn v, rf v, rk v))) C inl 0 0 (by decide) rfl rfl (by decide) rfl wd0 dX1_throwSalt_2 ?_
  refine z_aload_n C 0 dX1_throwSalt_5 rfl rfl ?_
  refine z_iload_n C 1 dX1_throwSalt_6 rfl rfl ?_
  refine z_callV (w := (wX1 gg cI (0, rn v, rf v, rk v))) (w' := (wX1 gg cI (0, rn v, rf v, rk v))) (w1 := ([] : va_W)) (w2 := ([] : va_W)) (ws' := (wX1 gg cI (0, rn v, rf v, rk v))) (As := [.int (nI j)]) (rest := []) (st' := [.int (isin (nI j) 0 (nI (rn v) - 1))]) (rv := some (.int (isin (nI j) 0 (nI (rn v) - 1)))) C (c_X1_isMember l D gg cI (0, rn v, rf v, rk v) (nI j)) (cwV 1 C.words gX1_throwSalt_X1_isMember rfl rfl rfl (by decide +kernel) ⟨(Nat.le_of_ble_eq_true rfl), (Nat.le_of_ble_eq_true rfl)⟩) (q0 := 0) (ci := 1) rfl rfl rfl [0] rfl rfl (Nat.le_of_ble_eq_true rfl) ⟨(Nat.le_of_ble_eq_true rfl), (Nat.le_of_ble_eq_true rfl)⟩ rfl rfl rfl rfl rfl dX1_throwSalt_7 ?_
  refine z_if_eq (tgt := 22) C dX1_throwSalt_10 (by decide) (fun h9 => absurd h9 ((by rw [isin_m hj (by omega)]; decide))) (fun _ => ?_)
  refine z_iload_n C 2 dX1_throwSalt_13 rfl rfl ?_
  refine z_iconst (v := 0) C dX1_throwSalt_14 (by decide) ?_
  refine z_iconst (v := 1) C dX1_throwSalt_15 (by decide) ?_
  refine z_callS (w := ([] : va_W)) (w' := ([] : va_W)) (w1 := (wX1 gg cI (0, rn v, rf v, rk v))) (w2 := ([] : va_W)) (ws' := (wX1 gg cI (0, rn v, rf v, rk v))) (As := [.int b, .int 0, .int 1]) (rest := []) (st' := [.int (isin b 0 1)]) (rv := some (.int (isin b 0 1))) C (c_X1_isIn l D b 0 1) (va_cwS 3 C.words gX1_throwSalt_X1_isIn rfl rfl rfl (by decide +kernel) ⟨(Nat.le_of_ble_eq_true rfl), (Nat.le_of_ble_eq_true rfl)⟩) [] rfl rfl (Nat.le_of_ble_eq_true rfl) ⟨(Nat.le_of_ble_eq_true rfl), (Nat.le_of_ble_eq_true rfl)⟩ rfl rfl rfl rfl rfl dX1_throwSalt_16 ?_
  refine z_if_ne (tgt := 28) C dX1_throwSalt_19 (by decide) (fun _ => ?_) (fun h9 => absurd h9 ((by rw [hb]; decide)))
  refine z_iload_n C 3 dX1_throwSalt_28 rfl rfl ?_
  refine z_iconst (v := 1) C dX1_throwSalt_29 (by decide) ?_
  refine z_bipush (v := 9) C dX1_throwSalt_30 (by decide) ?_
  refine z_callS (w := ([] : va_W)) (w' := ([] : va_W)) (w1 := (wX1 gg cI (0, rn v, rf v, rk v))) (w2 := ([] : va_W)) (ws' := (wX1 gg cI (0, rn v, rf v, rk v))) (As := [.int g, .int 1, .int 9]) (rest := []) (st' := [.int (isin g 1 9)]) (rv := some (.int (isin g 1 9))) C (c_X1_isIn l D g 1 9) (va_cwS 3 C.words gX1_throwSalt_X1_isIn rfl rfl rfl (by decide +kernel) ⟨(Nat.le_of_ble_eq_true rfl), (Nat.le_of_ble_eq_true rfl)⟩) [] rfl rfl (Nat.le_of_ble_eq_true rfl) ⟨(Nat.le_of_ble_eq_true rfl), (Nat.le_of_ble_eq_true rfl)⟩ rfl rfl rfl rfl rfl dX1_throwSalt_32 ?_
  refine z_if_ne (tgt := 44) C dX1_throwSalt_35 (by decide) (fun h9 => absurd h9 ((fun h => h hg))) (fun _ => ?_)
  refine z_aload_n C 0 dX1_throwSalt_38 rfl rfl ?_
  refine z_iconst (v := 2) C dX1_throwSalt_39 (by decide) ?_
  obtain ⟨v1, hv1⟩ : ∃ z, z = vt (0, rn v, rf v, rk v) 2 := ⟨_, rfl⟩
  refine z_callV (w := (wX1 gg cI (0, rn v, rf v, rk v))) (w' := (wX1 gg cI v1)) (w1 := ([] : va_W)) (w2 := ([] : va_W)) (ws' := (wX1 gg cI v1)) (As := [.int 2]) (rest := []) (st' := [.int 0]) (rv := some (.int 0)) C (by rw [hv1]; exact c_X1_fail l D gg cI (0, rn v, rf v, rk v) 2) (cwV 1 C.words gX1_throwSalt_X1_fail rfl rfl rfl (by decide +kernel) ⟨(Nat.le_of_ble_eq_true rfl), (Nat.le_of_ble_eq_true rfl)⟩) (q0 := 0) (ci := 1) rfl rfl rfl [0] rfl rfl (Nat.le_of_ble_eq_true rfl) ⟨(Nat.le_of_ble_eq_true rfl), (Nat.le_of_ble_eq_true rfl)⟩ rfl rfl rfl rfl rfl dX1_throwSalt_40 ?_
  subst hv1
  exact z_iret C hr hlocks (Nat.le_of_ble_eq_true rfl) (Nat.le_of_ble_eq_true rfl) dX1_throwSalt_43 rfl (congrArg (wX1 gg cI) (by first | rfl | (simp only [vt, ↓reduceIte]; done) | (simp only [vt, ↓reduceIte]; rfl)))
set_option maxHeartbeats 4000000 in
set_option maxRecDepth 100000 in
theorem c_X1_throwSalt_b3 (l : Launch) (D : va_G) (gg : Nat → Nat) (cI : ClassId) (v : S1) (j : Nat) (b g : Int32) (hj : j < (rn v)) (hn : (rn v) ≤ 8) (hb : isin b 0 1 = 1) (hg : isin g 1 9 = 1) (hc : (rf v) 1 < g ∨ (rf v) 3 = 30) : zM l yX1_throwSalt wsX1_throwSalt 2 43 0 0 [.ref (gg 0), .int (nI j), .int b, .int g] [(cI, .int)] D (wX1 gg cI v) (wX1 gg cI (vt v 3)) (some (.int 0)) := by
  refine z_met (cc := cX1_throwSalt) (maxL := 4) (ret := (some .int)) (by decide) rfl (Nat.le_of_ble_eq_true rfl) ?_
  intro p e s m args below meth c A C hr hlocks
  have inl : ∀ w ∈ u_ws RX1 TX1 4, w ∈ wsX1_throwSalt := by decide +kernel
  have wd0 : Cond.fieldLink RX1 16 "SaltOrderModel" "thrown" "I" ∈ wsX1_throwSalt := by decide +kernel
  have wd1 : Cond.fieldLink RX1 9 "SaltOrderModel" "now" "[I" ∈ wsX1_throwSalt := by decide +kernel
  refine z_sub (L' := [(0, .ref (gg 0)), (1, .int (nI j)), (2, .int b), (3, .int g)]) [0, 1, 2, 3] rfl ?_
  refine z_aload_n C 0 dX1_throwSalt_0 rfl rfl ?_
  refine z_iconst (v := 0) C dX1_throwSalt_1 (by decide) ?_
  refine z_put1 (ws' := (wX1 gg cI (0, rn v, rf v, rk v))) C inl 0 0 (by decide) rfl rfl (by decide) rfl wd0 dX1_throwSalt_2 ?_
  refine z_aload_n C 0 dX1_throwSalt_5 rfl rfl ?_
  refine z_iload_n C 1 dX1_throwSalt_6 rfl rfl ?_
  refine z_callV (w := (wX1 gg cI (0, rn v, rf v, rk v))) (w' := (wX1 gg cI (0, rn v, rf v, rk v))) (w1 := ([] : va_W)) (w2 := ([] : va_W)) (ws' := (wX1 gg cI (0, rn v, rf v, rk v))) (As := [.int (nI j)]) (rest := []) (st' := [.int (isin (nI j) 0 (nI (rn v) - 1))]) (rv := some (.int (isin (nI j) 0 (nI (rn v) - 1)))) C (c_X1_isMember l D gg cI (0, rn v, rf v, rk v) (nI j)) (cwV 1 C.words gX1_throwSalt_X1_isMember rfl rfl rfl (by decide +kernel) ⟨(Nat.le_of_ble_eq_true rfl), (Nat.le_of_ble_eq_true rfl)⟩) (q0 := 0) (ci := 1) rfl rfl rfl [0] rfl rfl (Nat.le_of_ble_eq_true rfl) ⟨(Nat.le_of_ble_eq_true rfl), (Nat.le_of_ble_eq_true rfl)⟩ rfl rfl rfl rfl rfl dX1_throwSalt_7 ?_
  refine z_if_eq (tgt := 22) C dX1_throwSalt_10 (by decide) (fun h9 => absurd h9 ((by rw [isin_m hj (by omega)]; decide))) (fun _ => ?_)
  refine z_iload_n C 2 dX1_throwSalt_13 rfl rfl ?_
  refine z_iconst (v := 0) C dX1_throwSalt_14 (by decide) ?_
  refine z_iconst (v := 1) C dX1_throwSalt_15 (by decide) ?_
  refine z_callS (w := ([] : va_W)) (w' := ([] : va_W)) (w1 := (wX1 gg cI (0, rn v, rf v, rk v))) (w2 := ([] : va_W)) (ws' := (wX1 gg cI (0, rn v, rf v, rk v))) (As := [.int b, .int 0, .int 1]) (rest := []) (st' := [.int (isin b 0 1)]) (rv := some (.int (isin b 0 1))) C (c_X1_isIn l D b 0 1) (va_cwS 3 C.words gX1_throwSalt_X1_isIn rfl rfl rfl (by decide +kernel) ⟨(Nat.le_of_ble_eq_true rfl), (Nat.le_of_ble_eq_true rfl)⟩) [] rfl rfl (Nat.le_of_ble_eq_true rfl) ⟨(Nat.le_of_ble_eq_true rfl), (Nat.le_of_ble_eq_true rfl)⟩ rfl rfl rfl rfl rfl dX1_throwSalt_16 ?_
  refine z_if_ne (tgt := 28) C dX1_throwSalt_19 (by decide) (fun _ => ?_) (fun h9 => absurd h9 ((by rw [hb]; decide)))
  refine z_iload_n C 3 dX1_throwSalt_28 rfl rfl ?_
  refine z_iconst (v := 1) C dX1_throwSalt_29 (by decide) ?_
  refine z_bipush (v := 9) C dX1_throwSalt_30 (by decide) ?_
  refine z_callS (w := ([] : va_W)) (w' := ([] : va_W)) (w1 := (wX1 gg cI (0, rn v, rf v, rk v))) (w2 := ([] : va_W)) (ws' := (wX1 gg cI (0, rn v, rf v, rk v))) (As := [.int g, .int 1, .int 9]) (rest := []) (st' := [.int (isin g 1 9)]) (rv := some (.int (isin g 1 9))) C (c_X1_isIn l D g 1 9) (va_cwS 3 C.words gX1_throwSalt_X1_isIn rfl rfl rfl (by decide +kernel) ⟨(Nat.le_of_ble_eq_true rfl), (Nat.le_of_ble_eq_true rfl)⟩) [] rfl rfl (Nat.le_of_ble_eq_true rfl) ⟨(Nat.le_of_ble_eq_true rfl), (Nat.le_of_ble_eq_true rfl)⟩ rfl rfl rfl rfl rfl dX1_throwSalt_32 ?_
  refine z_if_ne (tgt := 44) C dX1_throwSalt_35 (by decide) (fun _ => ?_) (fun h9 => absurd h9 ((by rw [hg]; decide)))
  refine z_aload_n C 0 dX1_throwSalt_44 rfl rfl ?_
  refine z_get1 (v := .ref (gg 1)) C inl 0 2 (by decide) rfl rfl wd1 dX1_throwSalt_45 ?_
  refine z_iconst (v := 1) C dX1_throwSalt_48 (by decide) ?_
  refine z_iald (f := rf v) C 1 0 rfl rfl 1 rfl (by omega) (by decide) dX1_throwSalt_49 ?_
  refine z_iload_n C 3 dX1_throwSalt_50 rfl rfl ?_
  refine z_icmp_lt (tgt := 65) C dX1_throwSalt_51 (by decide) (fun c51 => ?_) (fun c51 => ?_)
  · skip
    refine z_aload_n C 0 dX1_throwSalt_65 rfl rfl ?_
    refine z_iconst (v := 3) C dX1_throwSalt_66 (by decide) ?_
    obtain ⟨v1, hv1⟩ : ∃ z, z = vt (0, rn v, rf v, rk v) 3 := ⟨_, rfl⟩
    refine z_callV (w := (wX1 gg cI (0, rn v, rf v, rk v))) (w' := (wX1 gg cI v1)) (w1 := ([] : va_W)) (w2 := ([] : va_W)) (ws' := (wX1 gg cI v1)) (As := [.int 3]) (rest := []) (st' := [.int 0]) (rv := some (.int 0)) C (by rw [hv1]; exact c_X1_fail l D gg cI (0, rn v, rf v, rk v) 3) (cwV 1 C.words gX1_throwSalt_X1_fail rfl rfl rfl (by decide +kernel) ⟨(Nat.le_of_ble_eq_true rfl), (Nat.le_of_ble_eq_true rfl)⟩) (q0 := 0) (ci := 1) rfl rfl rfl [0] rfl rfl (Nat.le_of_ble_eq_true rfl) ⟨(Nat.le_of_ble_eq_true rfl), (Nat.le_of_ble_eq_true rfl)⟩ rfl rfl rfl rfl rfl dX1_throwSalt_67 ?_
    subst hv1
    exact z_iret C hr hlocks (Nat.le_of_ble_eq_true rfl) (Nat.le_of_ble_eq_true rfl) dX1_throwSalt_70 rfl (congrArg (wX1 gg cI) (by first | rfl | (simp only [vt, c51, ↓reduceIte]; done) | (simp only [vt, c51, ↓reduceIte]; rfl)))
  · skip
    refine z_aload_n C 0 dX1_throwSalt_54 rfl rfl ?_
    refine z_get1 (v := .ref (gg 1)) C inl 0 2 (by decide) rfl rfl wd1 dX1_throwSalt_55 ?_
    refine z_iconst (v := 3) C dX1_throwSalt_58 (by decide) ?_
    refine z_iald (f := rf v) C 1 0 rfl rfl 3 rfl (by omega) (by decide) dX1_throwSalt_59 ?_
    refine z_bipush (v := 30) C dX1_throwSalt_60 (by decide) ?_
    refine z_icmp_ne (tgt := 71) C dX1_throwSalt_62 (by decide) (fun h9 => absurd h9 ((fun h => h (hc.resolve_left c51)))) (fun _ => ?_)
    refine z_aload_n C 0 dX1_throwSalt_65 rfl rfl ?_
    refine z_iconst (v := 3) C dX1_throwSalt_66 (by decide) ?_
    obtain ⟨v2, hv2⟩ : ∃ z, z = vt (0, rn v, rf v, rk v) 3 := ⟨_, rfl⟩
    refine z_callV (w := (wX1 gg cI (0, rn v, rf v, rk v))) (w' := (wX1 gg cI v2)) (w1 := ([] : va_W)) (w2 := ([] : va_W)) (ws' := (wX1 gg cI v2)) (As := [.int 3]) (rest := []) (st' := [.int 0]) (rv := some (.int 0)) C (by rw [hv2]; exact c_X1_fail l D gg cI (0, rn v, rf v, rk v) 3) (cwV 1 C.words gX1_throwSalt_X1_fail rfl rfl rfl (by decide +kernel) ⟨(Nat.le_of_ble_eq_true rfl), (Nat.le_of_ble_eq_true rfl)⟩) (q0 := 0) (ci := 1) rfl rfl rfl [0] rfl rfl (Nat.le_of_ble_eq_true rfl) ⟨(Nat.le_of_ble_eq_true rfl), (Nat.le_of_ble_eq_true rfl)⟩ rfl rfl rfl rfl rfl dX1_throwSalt_67 ?_
    subst hv2
    exact z_iret C hr hlocks (Nat.le_of_ble_eq_true rfl) (Nat.le_of_ble_eq_true rfl) dX1_throwSalt_70 rfl (congrArg (wX1 gg cI) (by first | rfl | (simp only [vt, c51, ↓reduceIte]; done) | (simp only [vt, c51, ↓reduceIte]; rfl)))
set_option maxHeartbeats 4000000 in
set_option maxRecDepth 100000 in
theorem c_X1_doPenance (l : Launch) (D : va_G) (gg : Nat → Nat) (cI : ClassId) (v : S1) (j g : Nat) (hj : j < (rn v)) (hn : (rn v) ≤ 8) (h1 : 1 ≤ g) (h2 : g ≤ 9) : zM l yX1_doPenance wsX1_doPenance 2 43 0 0 [.ref (gg 0), .int (nI j), .int (nI g)] [(cI, .int)] D (wX1 gg cI v) (wX1 gg cI (vf (vt v 0) (upd (rf v) (mi j 2) (imin 9 ((rf v) (mi j 2) + nI g))))) (some (.int (upd (rf v) (mi j 2) (imin 9 ((rf v) (mi j 2) + nI g)) (mi j 2)))) := by
  refine z_met (cc := cX1_doPenance) (maxL := 3) (ret := (some .int)) (by decide) rfl (Nat.le_of_ble_eq_true rfl) ?_
  intro p e s m args below meth c A C hr hlocks
  have inl : ∀ w ∈ u_ws RX1 TX1 4, w ∈ wsX1_doPenance := by decide +kernel
  have wd0 : Cond.fieldLink RX1 16 "SaltOrderModel" "thrown" "I" ∈ wsX1_doPenance := by decide +kernel
  have wd1 : Cond.methodLink RX1 57 Lib.Math.min.name ∈ wsX1_doPenance := by decide +kernel
  have wd2 : Cond.static Lib.Math.min.name ∈ wsX1_doPenance := by decide +kernel
  have wd3 : Cond.initialized "java/lang/Math" ∈ wsX1_doPenance := by decide +kernel
  have wd4 : Cond.code Lib.Math.min.name Lib.Math.min.code 2 (some .int) ∈ wsX1_doPenance := by decide +kernel
  refine z_sub (L' := [(0, .ref (gg 0)), (1, .int (nI j)), (2, .int (nI g))]) [0, 1, 2] rfl ?_
  refine z_aload_n C 0 dX1_doPenance_0 rfl rfl ?_
  refine z_iconst (v := 0) C dX1_doPenance_1 (by decide) ?_
  refine z_put1 (ws' := (wX1 gg cI (0, rn v, rf v, rk v))) C inl 0 0 (by decide) rfl rfl (by decide) rfl wd0 dX1_doPenance_2 ?_
  refine z_aload_n C 0 dX1_doPenance_5 rfl rfl ?_
  refine z_iload_n C 1 dX1_doPenance_6 rfl rfl ?_
  refine z_callV (w := (wX1 gg cI (0, rn v, rf v, rk v))) (w' := (wX1 gg cI (0, rn v, rf v, rk v))) (w1 := ([] : va_W)) (w2 := ([] : va_W)) (ws' := (wX1 gg cI (0, rn v, rf v, rk v))) (As := [.int (nI j)]) (rest := []) (st' := [.int (isin (nI j) 0 (nI (rn v) - 1))]) (rv := some (.int (isin (nI j) 0 (nI (rn v) - 1)))) C (c_X1_isMember l D gg cI (0, rn v, rf v, rk v) (nI j)) (cwV 1 C.words gX1_doPenance_X1_isMember rfl rfl rfl (by decide +kernel) ⟨(Nat.le_of_ble_eq_true rfl), (Nat.le_of_ble_eq_true rfl)⟩) (q0 := 0) (ci := 1) rfl rfl rfl [0] rfl rfl (Nat.le_of_ble_eq_true rfl) ⟨(Nat.le_of_ble_eq_true rfl), (Nat.le_of_ble_eq_true rfl)⟩ rfl rfl rfl rfl rfl dX1_doPenance_7 ?_
  refine z_if_ne (tgt := 19) C dX1_doPenance_10 (by decide) (fun _ => ?_) (fun h9 => absurd h9 ((by rw [isin_m hj (by omega)]; decide)))
  refine z_iload_n C 2 dX1_doPenance_19 rfl rfl ?_
  refine z_iconst (v := 1) C dX1_doPenance_20 (by decide) ?_
  refine z_bipush (v := 9) C dX1_doPenance_21 (by decide) ?_
  refine z_callS (w := ([] : va_W)) (w' := ([] : va_W)) (w1 := (wX1 gg cI (0, rn v, rf v, rk v))) (w2 := ([] : va_W)) (ws' := (wX1 gg cI (0, rn v, rf v, rk v))) (As := [.int (nI g), .int 1, .int 9]) (rest := []) (st' := [.int (isin (nI g) 1 9)]) (rv := some (.int (isin (nI g) 1 9))) C (c_X1_isIn l D (nI g) 1 9) (va_cwS 3 C.words gX1_doPenance_X1_isIn rfl rfl rfl (by decide +kernel) ⟨(Nat.le_of_ble_eq_true rfl), (Nat.le_of_ble_eq_true rfl)⟩) [] rfl rfl (Nat.le_of_ble_eq_true rfl) ⟨(Nat.le_of_ble_eq_true rfl), (Nat.le_of_ble_eq_true rfl)⟩ rfl rfl rfl rfl rfl dX1_doPenance_23 ?_
  refine z_if_ne (tgt := 35) C dX1_doPenance_26 (by decide) (fun _ => ?_) (fun h9 => absurd h9 ((by rw [show isin (nI g) 1 9 = 1 from isin_r (lo := 1) (hi := 9) h1 h2 (by omega)]; decide)))
  refine z_aload_n C 0 dX1_doPenance_35 rfl rfl ?_
  refine z_iload_n C 1 dX1_doPenance_36 rfl rfl ?_
  refine z_iconst (v := 2) C dX1_doPenance_37 (by decide) ?_
  refine z_bipush (v := 9) C dX1_doPenance_38 (by decide) ?_
  refine z_aload_n C 0 dX1_doPenance_40 rfl rfl ?_
  refine z_iload_n C 1 dX1_doPenance_41 rfl rfl ?_
  refine z_iconst (v := 2) C dX1_doPenance_42 (by decide) ?_
  refine z_callV (w := (wX1 gg cI (0, rn v, rf v, rk v))) (w' := (wX1 gg cI (0, rn v, rf v, rk v))) (w1 := ([] : va_W)) (w2 := ([] : va_W)) (ws' := (wX1 gg cI (0, rn v, rf v, rk v))) (As := [.int (nI j), .int 2]) (rest := [.int 9, .int 2, .int (nI j), .ref (gg 0)]) (st' := [.int ((rf v) (mi j 2)), .int 9, .int 2, .int (nI j), .ref (gg 0)]) (rv := some (.int ((rf v) (mi j 2)))) C (c_X1_me l D gg cI (0, rn v, rf v, rk v) j 2 (by omega) (by omega)) (cwV 2 C.words gX1_doPenance_X1_me rfl rfl rfl (by decide +kernel) ⟨(Nat.le_of_ble_eq_true rfl), (Nat.le_of_ble_eq_true rfl)⟩) (q0 := 0) (ci := 1) rfl rfl rfl [0] rfl rfl (Nat.le_of_ble_eq_true rfl) ⟨(Nat.le_of_ble_eq_true rfl), (Nat.le_of_ble_eq_true rfl)⟩ rfl rfl rfl rfl rfl dX1_doPenance_43 ?_
  refine z_iload_n C 2 dX1_doPenance_46 rfl rfl ?_
  refine z_iadd C dX1_doPenance_47 ?_
  refine z_mmin C wd1 wd2 wd3 wd4 (Nat.le_of_ble_eq_true rfl) (Nat.le_of_ble_eq_true rfl) (Nat.le_of_ble_eq_true rfl) (Nat.le_of_ble_eq_true rfl) dX1_doPenance_48 ?_
  obtain ⟨v1, hv1⟩ : ∃ z, z = vf (0, rn v, rf v, rk v) (upd (rf v) (mi j 2) (imin 9 (((rf v) (mi j 2)) + (nI g)))) := ⟨_, rfl⟩
  refine z_callV (w := (wX1 gg cI (0, rn v, rf v, rk v))) (w' := (wX1 gg cI v1)) (w1 := ([] : va_W)) (w2 := ([] : va_W)) (ws' := (wX1 gg cI v1)) (As := [.int (nI j), .int 2, .int (imin 9 (((rf v) (mi j 2)) + (nI g)))]) (rest := []) (st' := []) (rv := none) C (by rw [hv1]; exact c_X1_let l D gg cI (0, rn v, rf v, rk v) j 2 (imin 9 (((rf v) (mi j 2)) + (nI g))) (by omega) (by omega)) (cwV 3 C.words gX1_doPenance_X1_let rfl rfl rfl (by decide +kernel) ⟨(Nat.le_of_ble_eq_true rfl), (Nat.le_of_ble_eq_true rfl)⟩) (q0 := 0) (ci := 1) rfl rfl rfl [0] rfl rfl (Nat.le_of_ble_eq_true rfl) ⟨(Nat.le_of_ble_eq_true rfl), (Nat.le_of_ble_eq_true rfl)⟩ rfl rfl rfl rfl rfl dX1_doPenance_51 ?_
  refine z_aload_n C 0 dX1_doPenance_54 rfl rfl ?_
  refine z_iload_n C 1 dX1_doPenance_55 rfl rfl ?_
  refine z_iconst (v := 2) C dX1_doPenance_56 (by decide) ?_
  refine z_callV (w := (wX1 gg cI v1)) (w' := (wX1 gg cI v1)) (w1 := ([] : va_W)) (w2 := ([] : va_W)) (ws' := (wX1 gg cI v1)) (As := [.int (nI j), .int 2]) (rest := []) (st' := [.int ((rf v1) (mi j 2))]) (rv := some (.int ((rf v1) (mi j 2)))) C (c_X1_me l D gg cI v1 j 2 (by omega) (by omega)) (cwV 2 C.words gX1_doPenance_X1_me rfl rfl rfl (by decide +kernel) ⟨(Nat.le_of_ble_eq_true rfl), (Nat.le_of_ble_eq_true rfl)⟩) (q0 := 0) (ci := 1) rfl rfl rfl [0] rfl rfl (Nat.le_of_ble_eq_true rfl) ⟨(Nat.le_of_ble_eq_true rfl), (Nat.le_of_ble_eq_true rfl)⟩ rfl rfl rfl rfl rfl dX1_doPenance_57 ?_
  subst hv1
  exact z_iret C hr hlocks (Nat.le_of_ble_eq_true rfl) (Nat.le_of_ble_eq_true rfl) dX1_doPenance_60 (by rfl) (congrArg (wX1 gg cI) (by rfl))
set_option maxHeartbeats 4000000 in
set_option maxRecDepth 100000 in
theorem c_X1_doPenance_b1 (l : Launch) (D : va_G) (gg : Nat → Nat) (cI : ClassId) (v : S1) (x g : Int32) (hm : isin x 0 (nI (rn v) - 1) = 0) : zM l yX1_doPenance wsX1_doPenance 2 43 0 0 [.ref (gg 0), .int x, .int g] [(cI, .int)] D (wX1 gg cI v) (wX1 gg cI (vt v 1)) (some (.int 0)) := by
  refine z_met (cc := cX1_doPenance) (maxL := 3) (ret := (some .int)) (by decide) rfl (Nat.le_of_ble_eq_true rfl) ?_
  intro p e s m args below meth c A C hr hlocks
  have inl : ∀ w ∈ u_ws RX1 TX1 4, w ∈ wsX1_doPenance := by decide +kernel
  have wd0 : Cond.fieldLink RX1 16 "SaltOrderModel" "thrown" "I" ∈ wsX1_doPenance := by decide +kernel
  refine z_sub (L' := [(0, .ref (gg 0)), (1, .int x), (2, .int g)]) [0, 1, 2] rfl ?_
  refine z_aload_n C 0 dX1_doPenance_0 rfl rfl ?_
  refine z_iconst (v := 0) C dX1_doPenance_1 (by decide) ?_
  refine z_put1 (ws' := (wX1 gg cI (0, rn v, rf v, rk v))) C inl 0 0 (by decide) rfl rfl (by decide) rfl wd0 dX1_doPenance_2 ?_
  refine z_aload_n C 0 dX1_doPenance_5 rfl rfl ?_
  refine z_iload_n C 1 dX1_doPenance_6 rfl rfl ?_
  refine z_callV (w := (wX1 gg cI (0, rn v, rf v, rk v))) (w' := (wX1 gg cI (0, rn v, rf v, rk v))) (w1 := ([] : va_W)) (w2 := ([] : va_W)) (ws' := (wX1 gg cI (0, rn v, rf v, rk v))) (As := [.int x]) (rest := []) (st' := [.int (isin x 0 (nI (rn v) - 1))]) (rv := some (.int (isin x 0 (nI (rn v) - 1)))) C (c_X1_isMember l D gg cI (0, rn v, rf v, rk v) x) (cwV 1 C.words gX1_doPenance_X1_isMember rfl rfl rfl (by decide +kernel) ⟨(Nat.le_of_ble_eq_true rfl), (Nat.le_of_ble_eq_true rfl)⟩) (q0 := 0) (ci := 1) rfl rfl rfl [0] rfl rfl (Nat.le_of_ble_eq_true rfl) ⟨(Nat.le_of_ble_eq_true rfl), (Nat.le_of_ble_eq_true rfl)⟩ rfl rfl rfl rfl rfl dX1_doPenance_7 ?_
  refine z_if_ne (tgt := 19) C dX1_doPenance_10 (by decide) (fun h9 => absurd h9 ((fun h => h hm))) (fun _ => ?_)
  refine z_aload_n C 0 dX1_doPenance_13 rfl rfl ?_
  refine z_iconst (v := 1) C dX1_doPenance_14 (by decide) ?_
  obtain ⟨v1, hv1⟩ : ∃ z, z = vt (0, rn v, rf v, rk v) 1 := ⟨_, rfl⟩
  refine z_callV (w := (wX1 gg cI (0, rn v, rf v, rk v))) (w' := (wX1 gg cI v1)) (w1 := ([] : va_W)) (w2 := ([] : va_W)) (ws' := (wX1 gg cI v1)) (As := [.int 1]) (rest := []) (st' := [.int 0]) (rv := some (.int 0)) C (by rw [hv1]; exact c_X1_fail l D gg cI (0, rn v, rf v, rk v) 1) (cwV 1 C.words gX1_doPenance_X1_fail rfl rfl rfl (by decide +kernel) ⟨(Nat.le_of_ble_eq_true rfl), (Nat.le_of_ble_eq_true rfl)⟩) (q0 := 0) (ci := 1) rfl rfl rfl [0] rfl rfl (Nat.le_of_ble_eq_true rfl) ⟨(Nat.le_of_ble_eq_true rfl), (Nat.le_of_ble_eq_true rfl)⟩ rfl rfl rfl rfl rfl dX1_doPenance_15 ?_
  subst hv1
  exact z_iret C hr hlocks (Nat.le_of_ble_eq_true rfl) (Nat.le_of_ble_eq_true rfl) dX1_doPenance_18 rfl (congrArg (wX1 gg cI) (by first | rfl | (simp only [vt, ↓reduceIte]; done) | (simp only [vt, ↓reduceIte]; rfl)))
set_option maxHeartbeats 4000000 in
set_option maxRecDepth 100000 in
theorem c_X1_doPenance_b2 (l : Launch) (D : va_G) (gg : Nat → Nat) (cI : ClassId) (v : S1) (j : Nat) (g : Int32) (hj : j < (rn v)) (hn : (rn v) ≤ 8) (hg : isin g 1 9 = 0) : zM l yX1_doPenance wsX1_doPenance 2 43 0 0 [.ref (gg 0), .int (nI j), .int g] [(cI, .int)] D (wX1 gg cI v) (wX1 gg cI (vt v 2)) (some (.int 0)) := by
  refine z_met (cc := cX1_doPenance) (maxL := 3) (ret := (some .int)) (by decide) rfl (Nat.le_of_ble_eq_true rfl) ?_
  intro p e s m args below meth c A C hr hlocks
  have inl : ∀ w ∈ u_ws RX1 TX1 4, w ∈ wsX1_doPenance := by decide +kernel
  have wd0 : Cond.fieldLink RX1 16 "SaltOrderModel" "thrown" "I" ∈ wsX1_doPenance := by decide +kernel
  refine z_sub (L' := [(0, .ref (gg 0)), (1, .int (nI j)), (2, .int g)]) [0, 1, 2] rfl ?_
  refine z_aload_n C 0 dX1_doPenance_0 rfl rfl ?_
  refine z_iconst (v := 0) C dX1_doPenance_1 (by decide) ?_
  refine z_put1 (ws' := (wX1 gg cI (0, rn v, rf v, rk v))) C inl 0 0 (by decide) rfl rfl (by decide) rfl wd0 dX1_doPenance_2 ?_
  refine z_aload_n C 0 dX1_doPenance_5 rfl rfl ?_
  refine z_iload_n C 1 dX1_doPenance_6 rfl rfl ?_
  refine z_callV (w := (wX1 gg cI (0, rn v, rf v, rk v))) (w' := (wX1 gg cI (0, rn v, rf v, rk v))) (w1 := ([] : va_W)) (w2 := ([] : va_W)) (ws' := (wX1 gg cI (0, rn v, rf v, rk v))) (As := [.int (nI j)]) (rest := []) (st' := [.int (isin (nI j) 0 (nI (rn v) - 1))]) (rv := some (.int (isin (nI j) 0 (nI (rn v) - 1)))) C (c_X1_isMember l D gg cI (0, rn v, rf v, rk v) (nI j)) (cwV 1 C.words gX1_doPenance_X1_isMember rfl rfl rfl (by decide +kernel) ⟨(Nat.le_of_ble_eq_true rfl), (Nat.le_of_ble_eq_true rfl)⟩) (q0 := 0) (ci := 1) rfl rfl rfl [0] rfl rfl (Nat.le_of_ble_eq_true rfl) ⟨(Nat.le_of_ble_eq_true rfl), (Nat.le_of_ble_eq_true rfl)⟩ rfl rfl rfl rfl rfl dX1_doPenance_7 ?_
  refine z_if_ne (tgt := 19) C dX1_doPenance_10 (by decide) (fun _ => ?_) (fun h9 => absurd h9 ((by rw [isin_m hj (by omega)]; decide)))
  refine z_iload_n C 2 dX1_doPenance_19 rfl rfl ?_
  refine z_iconst (v := 1) C dX1_doPenance_20 (by decide) ?_
  refine z_bipush (v := 9) C dX1_doPenance_21 (by decide) ?_
  refine z_callS (w := ([] : va_W)) (w' := ([] : va_W)) (w1 := (wX1 gg cI (0, rn v, rf v, rk v))) (w2 := ([] : va_W)) (ws' := (wX1 gg cI (0, rn v, rf v, rk v))) (As := [.int g, .int 1, .int 9]) (rest := []) (st' := [.int (isin g 1 9)]) (rv := some (.int (isin g 1 9))) C (c_X1_isIn l D g 1 9) (va_cwS 3 C.words gX1_doPenance_X1_isIn rfl rfl rfl (by decide +kernel) ⟨(Nat.le_of_ble_eq_true rfl), (Nat.le_of_ble_eq_true rfl)⟩) [] rfl rfl (Nat.le_of_ble_eq_true rfl) ⟨(Nat.le_of_ble_eq_true rfl), (Nat.le_of_ble_eq_true rfl)⟩ rfl rfl rfl rfl rfl dX1_doPenance_23 ?_
  refine z_if_ne (tgt := 35) C dX1_doPenance_26 (by decide) (fun h9 => absurd h9 ((fun h => h hg))) (fun _ => ?_)
  refine z_aload_n C 0 dX1_doPenance_29 rfl rfl ?_
  refine z_iconst (v := 2) C dX1_doPenance_30 (by decide) ?_
  obtain ⟨v1, hv1⟩ : ∃ z, z = vt (0, rn v, rf v, rk v) 2 := ⟨_, rfl⟩
  refine z_callV (w := (wX1 gg cI (0, rn v, rf v, rk v))) (w' := (wX1 gg cI v1)) (w1 := ([] : va_W)) (w2 := ([] : va_W)) (ws' := (wX1 gg cI v1)) (As := [.int 2]) (rest := []) (st' := [.int 0]) (rv := some (.int 0)) C (by rw [hv1]; exact c_X1_fail l D gg cI (0, rn v, rf v, rk v) 2) (cwV 1 C.words gX1_doPenance_X1_fail rfl rfl rfl (by decide +kernel) ⟨(Nat.le_of_ble_eq_true rfl), (Nat.le_of_ble_eq_true rfl)⟩) (q0 := 0) (ci := 1) rfl rfl rfl [0] rfl rfl (Nat.le_of_ble_eq_true rfl) ⟨(Nat.le_of_ble_eq_true rfl), (Nat.le_of_ble_eq_true rfl)⟩ rfl rfl rfl rfl rfl dX1_doPenance_31 ?_
  subst hv1
  exact z_iret C hr hlocks (Nat.le_of_ble_eq_true rfl) (Nat.le_of_ble_eq_true rfl) dX1_doPenance_34 rfl (congrArg (wX1 gg cI) (by first | rfl | (simp only [vt, ↓reduceIte]; done) | (simp only [vt, ↓reduceIte]; rfl)))
set_option maxHeartbeats 4000000 in
set_option maxRecDepth 100000 in
theorem c_X1_bringSalt (l : Launch) (D : va_G) (gg : Nat → Nat) (cI : ClassId) (v : S1) (g sa : Nat) (h1 : 1 ≤ g) (h2 : g ≤ 500) (hc : (rf v) 1 = nI sa) (hc5 : sa ≤ 500) : zM l yX1_bringSalt wsX1_bringSalt 1 22 0 0 [.ref (gg 0), .int (nI g)] [(cI, .int)] D (wX1 gg cI v) (wX1 gg cI (vf (vt v 0) (upd (rf v) 1 (nI (min 500 (sa + g)))))) (some (.int (nI (min 500 (sa + g))))) := by
  refine z_met (cc := cX1_bringSalt) (maxL := 2) (ret := (some .int)) (by decide) rfl (Nat.le_of_ble_eq_true rfl) ?_
  intro p e s m args below meth c A C hr hlocks
  have inl : ∀ w ∈ u_ws RX1 TX1 4, w ∈ wsX1_bringSalt := by decide +kernel
  have wd0 : Cond.fieldLink RX1 16 "SaltOrderModel" "thrown" "I" ∈ wsX1_bringSalt := by decide +kernel
  have wd1 : Cond.fieldLink RX1 9 "SaltOrderModel" "now" "[I" ∈ wsX1_bringSalt := by decide +kernel
  have wd2 : Cond.methodLink RX1 57 Lib.Math.min.name ∈ wsX1_bringSalt := by decide +kernel
  have wd3 : Cond.static Lib.Math.min.name ∈ wsX1_bringSalt := by decide +kernel
  have wd4 : Cond.initialized "java/lang/Math" ∈ wsX1_bringSalt := by decide +kernel
  have wd5 : Cond.code Lib.Math.min.name Lib.Math.min.code 2 (some .int) ∈ wsX1_bringSalt := by decide +kernel
  refine z_sub (L' := [(0, .ref (gg 0)), (1, .int (nI g))]) [0, 1] rfl ?_
  refine z_aload_n C 0 dX1_bringSalt_0 rfl rfl ?_
  refine z_iconst (v := 0) C dX1_bringSalt_1 (by decide) ?_
  refine z_put1 (ws' := (wX1 gg cI (0, rn v, rf v, rk v))) C inl 0 0 (by decide) rfl rfl (by decide) rfl wd0 dX1_bringSalt_2 ?_
  refine z_iload_n C 1 dX1_bringSalt_5 rfl rfl ?_
  refine z_iconst (v := 1) C dX1_bringSalt_6 (by decide) ?_
  refine z_sipush (v := 500) C dX1_bringSalt_7 (by decide) ?_
  refine z_callS (w := ([] : va_W)) (w' := ([] : va_W)) (w1 := (wX1 gg cI (0, rn v, rf v, rk v))) (w2 := ([] : va_W)) (ws' := (wX1 gg cI (0, rn v, rf v, rk v))) (As := [.int (nI g), .int 1, .int 500]) (rest := []) (st' := [.int (isin (nI g) 1 500)]) (rv := some (.int (isin (nI g) 1 500))) C (c_X1_isIn l D (nI g) 1 500) (va_cwS 3 C.words gX1_bringSalt_X1_isIn rfl rfl rfl (by decide +kernel) ⟨(Nat.le_of_ble_eq_true rfl), (Nat.le_of_ble_eq_true rfl)⟩) [] rfl rfl (Nat.le_of_ble_eq_true rfl) ⟨(Nat.le_of_ble_eq_true rfl), (Nat.le_of_ble_eq_true rfl)⟩ rfl rfl rfl rfl rfl dX1_bringSalt_10 ?_
  refine z_if_ne (tgt := 22) C dX1_bringSalt_13 (by decide) (fun _ => ?_) (fun h9 => absurd h9 ((by rw [show isin (nI g) 1 500 = 1 from isin_r (lo := 1) (hi := 500) h1 h2 (by omega)]; decide)))
  refine z_aload_n C 0 dX1_bringSalt_22 rfl rfl ?_
  refine z_get1 (v := .ref (gg 1)) C inl 0 2 (by decide) rfl rfl wd1 dX1_bringSalt_23 ?_
  refine z_iconst (v := 1) C dX1_bringSalt_26 (by decide) ?_
  refine z_sipush (v := 500) C dX1_bringSalt_27 (by decide) ?_
  refine z_aload_n C 0 dX1_bringSalt_30 rfl rfl ?_
  refine z_get1 (v := .ref (gg 1)) C inl 0 2 (by decide) rfl rfl wd1 dX1_bringSalt_31 ?_
  refine z_iconst (v := 1) C dX1_bringSalt_34 (by decide) ?_
  refine z_iald (f := rf v) C 1 0 rfl rfl 1 rfl (by omega) (by decide) dX1_bringSalt_35 ?_
  refine z_top (y := nI sa) hc ?_
  refine z_iload_n C 1 dX1_bringSalt_36 rfl rfl ?_
  refine z_iadd C dX1_bringSalt_37 ?_
  refine z_top (y := nI (sa + g)) (nI_add _ _) ?_
  refine z_mmin C wd2 wd3 wd4 wd5 (Nat.le_of_ble_eq_true rfl) (Nat.le_of_ble_eq_true rfl) (Nat.le_of_ble_eq_true rfl) (Nat.le_of_ble_eq_true rfl) dX1_bringSalt_38 ?_
  refine z_top (y := nI (min 500 (sa + g))) (imin_nI (a := 500) (by omega) (by omega)) ?_
  refine z_iast (ws' := (wX1 gg cI (0, rn v, upd (rf v) 1 (nI (min 500 (sa + g))), rk v))) C 1 0 rfl rfl 1 rfl (by omega) (by decide) rfl dX1_bringSalt_41 ?_
  refine z_aload_n C 0 dX1_bringSalt_42 rfl rfl ?_
  refine z_get1 (v := .ref (gg 1)) C inl 0 2 (by decide) rfl rfl wd1 dX1_bringSalt_43 ?_
  refine z_iconst (v := 1) C dX1_bringSalt_46 (by decide) ?_
  refine z_iald (f := upd (rf v) 1 (nI (min 500 (sa + g)))) C 1 0 rfl rfl 1 rfl (by omega) (by decide) dX1_bringSalt_47 ?_
  refine z_top (y := nI (min 500 (sa + g))) rfl ?_
  exact z_iret C hr hlocks (Nat.le_of_ble_eq_true rfl) (Nat.le_of_ble_eq_true rfl) dX1_bringSalt_48 rfl (congrArg (wX1 gg cI) (by rfl))
set_option maxHeartbeats 4000000 in
set_option maxRecDepth 100000 in
theorem c_X1_bringSalt_b1 (l : Launch) (D : va_G) (gg : Nat → Nat) (cI : ClassId) (v : S1) (g : Int32) (hg : isin g 1 500 = 0) : zM l yX1_bringSalt wsX1_bringSalt 1 22 0 0 [.ref (gg 0), .int g] [(cI, .int)] D (wX1 gg cI v) (wX1 gg cI (vt v 1)) (some (.int 0)) := by
  refine z_met (cc := cX1_bringSalt) (maxL := 2) (ret := (some .int)) (by decide) rfl (Nat.le_of_ble_eq_true rfl) ?_
  intro p e s m args below meth c A C hr hlocks
  have inl : ∀ w ∈ u_ws RX1 TX1 4, w ∈ wsX1_bringSalt := by decide +kernel
  have wd0 : Cond.fieldLink RX1 16 "SaltOrderModel" "thrown" "I" ∈ wsX1_bringSalt := by decide +kernel
  refine z_sub (L' := [(0, .ref (gg 0)), (1, .int g)]) [0, 1] rfl ?_
  refine z_aload_n C 0 dX1_bringSalt_0 rfl rfl ?_
  refine z_iconst (v := 0) C dX1_bringSalt_1 (by decide) ?_
  refine z_put1 (ws' := (wX1 gg cI (0, rn v, rf v, rk v))) C inl 0 0 (by decide) rfl rfl (by decide) rfl wd0 dX1_bringSalt_2 ?_
  refine z_iload_n C 1 dX1_bringSalt_5 rfl rfl ?_
  refine z_iconst (v := 1) C dX1_bringSalt_6 (by decide) ?_
  refine z_sipush (v := 500) C dX1_bringSalt_7 (by decide) ?_
  refine z_callS (w := ([] : va_W)) (w' := ([] : va_W)) (w1 := (wX1 gg cI (0, rn v, rf v, rk v))) (w2 := ([] : va_W)) (ws' := (wX1 gg cI (0, rn v, rf v, rk v))) (As := [.int g, .int 1, .int 500]) (rest := []) (st' := [.int (isin g 1 500)]) (rv := some (.int (isin g 1 500))) C (c_X1_isIn l D g 1 500) (va_cwS 3 C.words gX1_bringSalt_X1_isIn rfl rfl rfl (by decide +kernel) ⟨(Nat.le_of_ble_eq_true rfl), (Nat.le_of_ble_eq_true rfl)⟩) [] rfl rfl (Nat.le_of_ble_eq_true rfl) ⟨(Nat.le_of_ble_eq_true rfl), (Nat.le_of_ble_eq_true rfl)⟩ rfl rfl rfl rfl rfl dX1_bringSalt_10 ?_
  refine z_if_ne (tgt := 22) C dX1_bringSalt_13 (by decide) (fun h9 => absurd h9 ((fun h => h hg))) (fun _ => ?_)
  refine z_aload_n C 0 dX1_bringSalt_16 rfl rfl ?_
  refine z_iconst (v := 1) C dX1_bringSalt_17 (by decide) ?_
  obtain ⟨v1, hv1⟩ : ∃ z, z = vt (0, rn v, rf v, rk v) 1 := ⟨_, rfl⟩
  refine z_callV (w := (wX1 gg cI (0, rn v, rf v, rk v))) (w' := (wX1 gg cI v1)) (w1 := ([] : va_W)) (w2 := ([] : va_W)) (ws' := (wX1 gg cI v1)) (As := [.int 1]) (rest := []) (st' := [.int 0]) (rv := some (.int 0)) C (by rw [hv1]; exact c_X1_fail l D gg cI (0, rn v, rf v, rk v) 1) (cwV 1 C.words gX1_bringSalt_X1_fail rfl rfl rfl (by decide +kernel) ⟨(Nat.le_of_ble_eq_true rfl), (Nat.le_of_ble_eq_true rfl)⟩) (q0 := 0) (ci := 1) rfl rfl rfl [0] rfl rfl (Nat.le_of_ble_eq_true rfl) ⟨(Nat.le_of_ble_eq_true rfl), (Nat.le_of_ble_eq_true rfl)⟩ rfl rfl rfl rfl rfl dX1_bringSalt_18 ?_
  subst hv1
  exact z_iret C hr hlocks (Nat.le_of_ble_eq_true rfl) (Nat.le_of_ble_eq_true rfl) dX1_bringSalt_21 rfl (congrArg (wX1 gg cI) (by first | rfl | (simp only [vt, ↓reduceIte]; done) | (simp only [vt, ↓reduceIte]; rfl)))
set_option maxHeartbeats 4000000 in
set_option maxRecDepth 100000 in
theorem c_X1_audit (l : Launch) (D : va_G) (gg : Nat → Nat) (cI : ClassId) (v : S1) (k : Nat) (W : Nat → Nat) (hL : rL (rf v) k W) : zM l yX1_audit wsX1_audit 3 66 0 0 [.ref (gg 0)] [(cI, .int)] D (wX1 gg cI v) (wX1 gg cI (vt (vf v (raud (rf v) k W)) 0)) (some (.int (rfltN (rf v) k))) := by
  refine z_met (cc := cX1_audit) (maxL := 1) (ret := (some .int)) (by decide) rfl (Nat.le_of_ble_eq_true rfl) ?_
  intro p e s m args below meth c A C hr hlocks
  have inl : ∀ w ∈ u_ws RX1 TX1 4, w ∈ wsX1_audit := by decide +kernel
  refine z_sub (L' := [(0, .ref (gg 0))]) [0] rfl ?_
  refine z_aload_n C 0 dX1_audit_0 rfl rfl ?_
  refine z_aload_n C 0 dX1_audit_1 rfl rfl ?_
  obtain ⟨v1, hv1⟩ : ∃ z, z = vf v (raud (rf v) k W) := ⟨_, rfl⟩
  refine z_callV (w := (wX1 gg cI v)) (w' := (wX1 gg cI v1)) (w1 := ([] : va_W)) (w2 := ([] : va_W)) (ws' := (wX1 gg cI v1)) (As := []) (rest := [.ref (gg 0)]) (st' := [.int (rfltN (rf v) k), .ref (gg 0)]) (rv := some (.int (rfltN (rf v) k))) C (by rw [hv1]; exact c_X1_auditNow l D gg cI v k W hL) (cwV 0 C.words gX1_audit_X1_auditNow rfl rfl rfl (by decide +kernel) ⟨(Nat.le_of_ble_eq_true rfl), (Nat.le_of_ble_eq_true rfl)⟩) (q0 := 0) (ci := 1) rfl rfl rfl [0] rfl rfl (Nat.le_of_ble_eq_true rfl) ⟨(Nat.le_of_ble_eq_true rfl), (Nat.le_of_ble_eq_true rfl)⟩ rfl rfl rfl rfl rfl dX1_audit_2 ?_
  obtain ⟨v2, hv2⟩ : ∃ z, z = vt v1 0 := ⟨_, rfl⟩
  refine z_callV (w := (wX1 gg cI v1)) (w' := (wX1 gg cI v2)) (w1 := ([] : va_W)) (w2 := ([] : va_W)) (ws' := (wX1 gg cI v2)) (As := [.int (rfltN (rf v) k)]) (rest := []) (st' := [.int ((rfltN (rf v) k))]) (rv := some (.int ((rfltN (rf v) k)))) C (by rw [hv2]; exact c_X1_told l D gg cI v1 (rfltN (rf v) k)) (cwV 1 C.words gX1_audit_X1_told rfl rfl rfl (by decide +kernel) ⟨(Nat.le_of_ble_eq_true rfl), (Nat.le_of_ble_eq_true rfl)⟩) (q0 := 0) (ci := 1) rfl rfl rfl [0] rfl rfl (Nat.le_of_ble_eq_true rfl) ⟨(Nat.le_of_ble_eq_true rfl), (Nat.le_of_ble_eq_true rfl)⟩ rfl rfl rfl rfl rfl dX1_audit_5 ?_
  subst hv2
  subst hv1
  exact z_iret C hr hlocks (Nat.le_of_ble_eq_true rfl) (Nat.le_of_ble_eq_true rfl) dX1_audit_8 (by rfl) (congrArg (wX1 gg cI) (by rfl))
set_option maxHeartbeats 4000000 in
set_option maxRecDepth 100000 in
theorem c_X1_pass (l : Launch) (D : va_G) (gg : Nat → Nat) (cI : ClassId) (v : S1) (d : Nat) (k : Nat) (W : Nat → Nat) (h1 : 1 ≤ d) (h2 : d ≤ 60) (hL : rL (rf v) k W) (hn : (rn v) ≤ 8) : zM l yX1_pass wsX1_pass 5 111 0 0 [.ref (gg 0), .int (nI d)] [(cI, .int)] D (wX1 gg cI v) (wX1 gg cI (vf (vt v 0) (rdp (rf v) (rn v) k W d).1)) (some (.int (rdpF (rf v) (rn v) k W d))) := by
  refine z_met (cc := cX1_pass) (maxL := 2) (ret := (some .int)) (by decide) rfl (Nat.le_of_ble_eq_true rfl) ?_
  intro p e s m args below meth c A C hr hlocks
  have inl : ∀ w ∈ u_ws RX1 TX1 4, w ∈ wsX1_pass := by decide +kernel
  have wd0 : Cond.fieldLink RX1 16 "SaltOrderModel" "thrown" "I" ∈ wsX1_pass := by decide +kernel
  refine z_sub (L' := [(0, .ref (gg 0)), (1, .int (nI d))]) [0, 1] rfl ?_
  refine z_aload_n C 0 dX1_pass_0 rfl rfl ?_
  refine z_iconst (v := 0) C dX1_pass_1 (by decide) ?_
  refine z_put1 (ws' := (wX1 gg cI (0, rn v, rf v, rk v))) C inl 0 0 (by decide) rfl rfl (by decide) rfl wd0 dX1_pass_2 ?_
  refine z_iload_n C 1 dX1_pass_5 rfl rfl ?_
  refine z_iconst (v := 1) C dX1_pass_6 (by decide) ?_
  refine z_bipush (v := 60) C dX1_pass_7 (by decide) ?_
  refine z_callS (w := ([] : va_W)) (w' := ([] : va_W)) (w1 := (wX1 gg cI (0, rn v, rf v, rk v))) (w2 := ([] : va_W)) (ws' := (wX1 gg cI (0, rn v, rf v, rk v))) (As := [.int (nI d), .int 1, .int 60]) (rest := []) (st' := [.int (isin (nI d) 1 60)]) (rv := some (.int (isin (nI d) 1 60))) C (c_X1_isIn l D (nI d) 1 60) (va_cwS 3 C.words gX1_pass_X1_isIn rfl rfl rfl (by decide +kernel) ⟨(Nat.le_of_ble_eq_true rfl), (Nat.le_of_ble_eq_true rfl)⟩) [] rfl rfl (Nat.le_of_ble_eq_true rfl) ⟨(Nat.le_of_ble_eq_true rfl), (Nat.le_of_ble_eq_true rfl)⟩ rfl rfl rfl rfl rfl dX1_pass_9 ?_
  refine z_if_eq (tgt := 23) C dX1_pass_12 (by decide) (fun h9 => absurd h9 ((by rw [show isin (nI d) 1 60 = 1 from isin_r (lo := 1) (hi := 60) h1 h2 (by omega)]; decide))) (fun _ => ?_)
  refine z_aload_n C 0 dX1_pass_15 rfl rfl ?_
  refine z_iload_n C 1 dX1_pass_16 rfl rfl ?_
  obtain ⟨v1, hv1⟩ : ∃ z, z = vf (0, rn v, rf v, rk v) (rdp (rf v) (rn v) k W d).1 := ⟨_, rfl⟩
  refine z_callV (w := (wX1 gg cI (0, rn v, rf v, rk v))) (w' := (wX1 gg cI v1)) (w1 := ([] : va_W)) (w2 := ([] : va_W)) (ws' := (wX1 gg cI v1)) (As := [.int (nI d)]) (rest := []) (st' := [.int (rdpF (rf v) (rn v) k W d)]) (rv := some (.int (rdpF (rf v) (rn v) k W d))) C (by rw [hv1]; exact c_X1_daysOn l D gg cI (0, rn v, rf v, rk v) d k W (by omega) hL (by first | exact hn | omega)) (cwV 1 C.words gX1_pass_X1_daysOn rfl rfl rfl (by decide +kernel) ⟨(Nat.le_of_ble_eq_true rfl), (Nat.le_of_ble_eq_true rfl)⟩) (q0 := 0) (ci := 1) rfl rfl rfl [0] rfl rfl (Nat.le_of_ble_eq_true rfl) ⟨(Nat.le_of_ble_eq_true rfl), (Nat.le_of_ble_eq_true rfl)⟩ rfl rfl rfl rfl rfl dX1_pass_17 ?_
  refine z_goto (tgt := 28) C dX1_pass_20 (by decide) ?_
  subst hv1
  exact z_iret C hr hlocks (Nat.le_of_ble_eq_true rfl) (Nat.le_of_ble_eq_true rfl) dX1_pass_28 rfl (congrArg (wX1 gg cI) (by rfl))
set_option maxHeartbeats 4000000 in
set_option maxRecDepth 100000 in
theorem c_X1_pass_b1 (l : Launch) (D : va_G) (gg : Nat → Nat) (cI : ClassId) (v : S1) (d : Int32) (hd : isin d 1 60 = 0) : zM l yX1_pass wsX1_pass 1 22 0 0 [.ref (gg 0), .int d] [(cI, .int)] D (wX1 gg cI v) (wX1 gg cI (vt v 1)) (some (.int 0)) := by
  refine z_met (cc := cX1_pass) (maxL := 2) (ret := (some .int)) (by decide) rfl (Nat.le_of_ble_eq_true rfl) ?_
  intro p e s m args below meth c A C hr hlocks
  have inl : ∀ w ∈ u_ws RX1 TX1 4, w ∈ wsX1_pass := by decide +kernel
  have wd0 : Cond.fieldLink RX1 16 "SaltOrderModel" "thrown" "I" ∈ wsX1_pass := by decide +kernel
  refine z_sub (L' := [(0, .ref (gg 0)), (1, .int d)]) [0, 1] rfl ?_
  refine z_aload_n C 0 dX1_pass_0 rfl rfl ?_
  refine z_iconst (v := 0) C dX1_pass_1 (by decide) ?_
  refine z_put1 (ws' := (wX1 gg cI (0, rn v, rf v, rk v))) C inl 0 0 (by decide) rfl rfl (by decide) rfl wd0 dX1_pass_2 ?_
  refine z_iload_n C 1 dX1_pass_5 rfl rfl ?_
  refine z_iconst (v := 1) C dX1_pass_6 (by decide) ?_
  refine z_bipush (v := 60) C dX1_pass_7 (by decide) ?_
  refine z_callS (w := ([] : va_W)) (w' := ([] : va_W)) (w1 := (wX1 gg cI (0, rn v, rf v, rk v))) (w2 := ([] : va_W)) (ws' := (wX1 gg cI (0, rn v, rf v, rk v))) (As := [.int d, .int 1, .int 60]) (rest := []) (st' := [.int (isin d 1 60)]) (rv := some (.int (isin d 1 60))) C (c_X1_isIn l D d 1 60) (va_cwS 3 C.words gX1_pass_X1_isIn rfl rfl rfl (by decide +kernel) ⟨(Nat.le_of_ble_eq_true rfl), (Nat.le_of_ble_eq_true rfl)⟩) [] rfl rfl (Nat.le_of_ble_eq_true rfl) ⟨(Nat.le_of_ble_eq_true rfl), (Nat.le_of_ble_eq_true rfl)⟩ rfl rfl rfl rfl rfl dX1_pass_9 ?_
  refine z_if_eq (tgt := 23) C dX1_pass_12 (by decide) (fun _ => ?_) (fun h9 => absurd (hd) h9)
  refine z_aload_n C 0 dX1_pass_23 rfl rfl ?_
  refine z_iconst (v := 1) C dX1_pass_24 (by decide) ?_
  obtain ⟨v1, hv1⟩ : ∃ z, z = vt (0, rn v, rf v, rk v) 1 := ⟨_, rfl⟩
  refine z_callV (w := (wX1 gg cI (0, rn v, rf v, rk v))) (w' := (wX1 gg cI v1)) (w1 := ([] : va_W)) (w2 := ([] : va_W)) (ws' := (wX1 gg cI v1)) (As := [.int 1]) (rest := []) (st' := [.int 0]) (rv := some (.int 0)) C (by rw [hv1]; exact c_X1_fail l D gg cI (0, rn v, rf v, rk v) 1) (cwV 1 C.words gX1_pass_X1_fail rfl rfl rfl (by decide +kernel) ⟨(Nat.le_of_ble_eq_true rfl), (Nat.le_of_ble_eq_true rfl)⟩) (q0 := 0) (ci := 1) rfl rfl rfl [0] rfl rfl (Nat.le_of_ble_eq_true rfl) ⟨(Nat.le_of_ble_eq_true rfl), (Nat.le_of_ble_eq_true rfl)⟩ rfl rfl rfl rfl rfl dX1_pass_25 ?_
  subst hv1
  exact z_iret C hr hlocks (Nat.le_of_ble_eq_true rfl) (Nat.le_of_ble_eq_true rfl) dX1_pass_28 rfl (congrArg (wX1 gg cI) (by first | rfl | (simp only [vt, ↓reduceIte]; done) | (simp only [vt, ↓reduceIte]; rfl)))
set_option maxHeartbeats 4000000 in
set_option maxRecDepth 100000 in
theorem c_X1_day (l : Launch) (D : va_G) (gg : Nat → Nat) (cI : ClassId) (v : S1) : zM l yX1_day wsX1_day 1 21 0 0 [.ref (gg 0)] [(cI, .int)] D (wX1 gg cI v) (wX1 gg cI (vt v 0)) (some (.int ((rf v) 0))) := by
  refine z_met (cc := cX1_day) (maxL := 1) (ret := (some .int)) (by decide) rfl (Nat.le_of_ble_eq_true rfl) ?_
  intro p e s m args below meth c A C hr hlocks
  have inl : ∀ w ∈ u_ws RX1 TX1 4, w ∈ wsX1_day := by decide +kernel
  have wd0 : Cond.fieldLink RX1 9 "SaltOrderModel" "now" "[I" ∈ wsX1_day := by decide +kernel
  refine z_sub (L' := [(0, .ref (gg 0))]) [0] rfl ?_
  refine z_aload_n C 0 dX1_day_0 rfl rfl ?_
  refine z_aload_n C 0 dX1_day_1 rfl rfl ?_
  refine z_get1 (v := .ref (gg 1)) C inl 0 2 (by decide) rfl rfl wd0 dX1_day_2 ?_
  refine z_iconst (v := 0) C dX1_day_5 (by decide) ?_
  refine z_iald (f := rf v) C 1 0 rfl rfl 0 rfl (by omega) (by decide) dX1_day_6 ?_
  obtain ⟨v1, hv1⟩ : ∃ z, z = vt v 0 := ⟨_, rfl⟩
  refine z_callV (w := (wX1 gg cI v)) (w' := (wX1 gg cI v1)) (w1 := ([] : va_W)) (w2 := ([] : va_W)) (ws' := (wX1 gg cI v1)) (As := [.int ((rf v) 0)]) (rest := []) (st' := [.int (((rf v) 0))]) (rv := some (.int (((rf v) 0)))) C (by rw [hv1]; exact c_X1_told l D gg cI v ((rf v) 0)) (cwV 1 C.words gX1_day_X1_told rfl rfl rfl (by decide +kernel) ⟨(Nat.le_of_ble_eq_true rfl), (Nat.le_of_ble_eq_true rfl)⟩) (q0 := 0) (ci := 1) rfl rfl rfl [0] rfl rfl (Nat.le_of_ble_eq_true rfl) ⟨(Nat.le_of_ble_eq_true rfl), (Nat.le_of_ble_eq_true rfl)⟩ rfl rfl rfl rfl rfl dX1_day_7 ?_
  subst hv1
  exact z_iret C hr hlocks (Nat.le_of_ble_eq_true rfl) (Nat.le_of_ble_eq_true rfl) dX1_day_10 (by rfl) (congrArg (wX1 gg cI) (by rfl))
set_option maxHeartbeats 4000000 in
set_option maxRecDepth 100000 in
theorem c_X1_salt (l : Launch) (D : va_G) (gg : Nat → Nat) (cI : ClassId) (v : S1) : zM l yX1_salt wsX1_salt 1 21 0 0 [.ref (gg 0)] [(cI, .int)] D (wX1 gg cI v) (wX1 gg cI (vt v 0)) (some (.int ((rf v) 1))) := by
  refine z_met (cc := cX1_salt) (maxL := 1) (ret := (some .int)) (by decide) rfl (Nat.le_of_ble_eq_true rfl) ?_
  intro p e s m args below meth c A C hr hlocks
  have inl : ∀ w ∈ u_ws RX1 TX1 4, w ∈ wsX1_salt := by decide +kernel
  have wd0 : Cond.fieldLink RX1 9 "SaltOrderModel" "now" "[I" ∈ wsX1_salt := by decide +kernel
  refine z_sub (L' := [(0, .ref (gg 0))]) [0] rfl ?_
  refine z_aload_n C 0 dX1_salt_0 rfl rfl ?_
  refine z_aload_n C 0 dX1_salt_1 rfl rfl ?_
  refine z_get1 (v := .ref (gg 1)) C inl 0 2 (by decide) rfl rfl wd0 dX1_salt_2 ?_
  refine z_iconst (v := 1) C dX1_salt_5 (by decide) ?_
  refine z_iald (f := rf v) C 1 0 rfl rfl 1 rfl (by omega) (by decide) dX1_salt_6 ?_
  obtain ⟨v1, hv1⟩ : ∃ z, z = vt v 0 := ⟨_, rfl⟩
  refine z_callV (w := (wX1 gg cI v)) (w' := (wX1 gg cI v1)) (w1 := ([] : va_W)) (w2 := ([] : va_W)) (ws' := (wX1 gg cI v1)) (As := [.int ((rf v) 1)]) (rest := []) (st' := [.int (((rf v) 1))]) (rv := some (.int (((rf v) 1)))) C (by rw [hv1]; exact c_X1_told l D gg cI v ((rf v) 1)) (cwV 1 C.words gX1_salt_X1_told rfl rfl rfl (by decide +kernel) ⟨(Nat.le_of_ble_eq_true rfl), (Nat.le_of_ble_eq_true rfl)⟩) (q0 := 0) (ci := 1) rfl rfl rfl [0] rfl rfl (Nat.le_of_ble_eq_true rfl) ⟨(Nat.le_of_ble_eq_true rfl), (Nat.le_of_ble_eq_true rfl)⟩ rfl rfl rfl rfl rfl dX1_salt_7 ?_
  subst hv1
  exact z_iret C hr hlocks (Nat.le_of_ble_eq_true rfl) (Nat.le_of_ble_eq_true rfl) dX1_salt_10 (by rfl) (congrArg (wX1 gg cI) (by rfl))
set_option maxHeartbeats 4000000 in
set_option maxRecDepth 100000 in
theorem c_X1_faultsFound (l : Launch) (D : va_G) (gg : Nat → Nat) (cI : ClassId) (v : S1) : zM l yX1_faultsFound wsX1_faultsFound 1 21 0 0 [.ref (gg 0)] [(cI, .int)] D (wX1 gg cI v) (wX1 gg cI (vt v 0)) (some (.int ((rf v) 2))) := by
  refine z_met (cc := cX1_faultsFound) (maxL := 1) (ret := (some .int)) (by decide) rfl (Nat.le_of_ble_eq_true rfl) ?_
  intro p e s m args below meth c A C hr hlocks
  have inl : ∀ w ∈ u_ws RX1 TX1 4, w ∈ wsX1_faultsFound := by decide +kernel
  have wd0 : Cond.fieldLink RX1 9 "SaltOrderModel" "now" "[I" ∈ wsX1_faultsFound := by decide +kernel
  refine z_sub (L' := [(0, .ref (gg 0))]) [0] rfl ?_
  refine z_aload_n C 0 dX1_faultsFound_0 rfl rfl ?_
  refine z_aload_n C 0 dX1_faultsFound_1 rfl rfl ?_
  refine z_get1 (v := .ref (gg 1)) C inl 0 2 (by decide) rfl rfl wd0 dX1_faultsFound_2 ?_
  refine z_iconst (v := 2) C dX1_faultsFound_5 (by decide) ?_
  refine z_iald (f := rf v) C 1 0 rfl rfl 2 rfl (by omega) (by decide) dX1_faultsFound_6 ?_
  obtain ⟨v1, hv1⟩ : ∃ z, z = vt v 0 := ⟨_, rfl⟩
  refine z_callV (w := (wX1 gg cI v)) (w' := (wX1 gg cI v1)) (w1 := ([] : va_W)) (w2 := ([] : va_W)) (ws' := (wX1 gg cI v1)) (As := [.int ((rf v) 2)]) (rest := []) (st' := [.int (((rf v) 2))]) (rv := some (.int (((rf v) 2)))) C (by rw [hv1]; exact c_X1_told l D gg cI v ((rf v) 2)) (cwV 1 C.words gX1_faultsFound_X1_told rfl rfl rfl (by decide +kernel) ⟨(Nat.le_of_ble_eq_true rfl), (Nat.le_of_ble_eq_true rfl)⟩) (q0 := 0) (ci := 1) rfl rfl rfl [0] rfl rfl (Nat.le_of_ble_eq_true rfl) ⟨(Nat.le_of_ble_eq_true rfl), (Nat.le_of_ble_eq_true rfl)⟩ rfl rfl rfl rfl rfl dX1_faultsFound_7 ?_
  subst hv1
  exact z_iret C hr hlocks (Nat.le_of_ble_eq_true rfl) (Nat.le_of_ble_eq_true rfl) dX1_faultsFound_10 (by rfl) (congrArg (wX1 gg cI) (by rfl))
set_option maxHeartbeats 4000000 in
set_option maxRecDepth 100000 in
theorem c_X1_ledger (l : Launch) (D : va_G) (gg : Nat → Nat) (cI : ClassId) (v : S1) : zM l yX1_ledger wsX1_ledger 1 21 0 0 [.ref (gg 0)] [(cI, .int)] D (wX1 gg cI v) (wX1 gg cI (vt v 0)) (some (.int ((rf v) 3))) := by
  refine z_met (cc := cX1_ledger) (maxL := 1) (ret := (some .int)) (by decide) rfl (Nat.le_of_ble_eq_true rfl) ?_
  intro p e s m args below meth c A C hr hlocks
  have inl : ∀ w ∈ u_ws RX1 TX1 4, w ∈ wsX1_ledger := by decide +kernel
  have wd0 : Cond.fieldLink RX1 9 "SaltOrderModel" "now" "[I" ∈ wsX1_ledger := by decide +kernel
  refine z_sub (L' := [(0, .ref (gg 0))]) [0] rfl ?_
  refine z_aload_n C 0 dX1_ledger_0 rfl rfl ?_
  refine z_aload_n C 0 dX1_ledger_1 rfl rfl ?_
  refine z_get1 (v := .ref (gg 1)) C inl 0 2 (by decide) rfl rfl wd0 dX1_ledger_2 ?_
  refine z_iconst (v := 3) C dX1_ledger_5 (by decide) ?_
  refine z_iald (f := rf v) C 1 0 rfl rfl 3 rfl (by omega) (by decide) dX1_ledger_6 ?_
  obtain ⟨v1, hv1⟩ : ∃ z, z = vt v 0 := ⟨_, rfl⟩
  refine z_callV (w := (wX1 gg cI v)) (w' := (wX1 gg cI v1)) (w1 := ([] : va_W)) (w2 := ([] : va_W)) (ws' := (wX1 gg cI v1)) (As := [.int ((rf v) 3)]) (rest := []) (st' := [.int (((rf v) 3))]) (rv := some (.int (((rf v) 3)))) C (by rw [hv1]; exact c_X1_told l D gg cI v ((rf v) 3)) (cwV 1 C.words gX1_ledger_X1_told rfl rfl rfl (by decide +kernel) ⟨(Nat.le_of_ble_eq_true rfl), (Nat.le_of_ble_eq_true rfl)⟩) (q0 := 0) (ci := 1) rfl rfl rfl [0] rfl rfl (Nat.le_of_ble_eq_true rfl) ⟨(Nat.le_of_ble_eq_true rfl), (Nat.le_of_ble_eq_true rfl)⟩ rfl rfl rfl rfl rfl dX1_ledger_7 ?_
  subst hv1
  exact z_iret C hr hlocks (Nat.le_of_ble_eq_true rfl) (Nat.le_of_ble_eq_true rfl) dX1_ledger_10 (by rfl) (congrArg (wX1 gg cI) (by rfl))
set_option maxHeartbeats 4000000 in
set_option maxRecDepth 100000 in
theorem c_X1_members (l : Launch) (D : va_G) (gg : Nat → Nat) (cI : ClassId) (v : S1) : zM l yX1_members wsX1_members 1 21 0 0 [.ref (gg 0)] [(cI, .int)] D (wX1 gg cI v) (wX1 gg cI (vt v 0)) (some (.int (nI (rn v)))) := by
  refine z_met (cc := cX1_members) (maxL := 1) (ret := (some .int)) (by decide) rfl (Nat.le_of_ble_eq_true rfl) ?_
  intro p e s m args below meth c A C hr hlocks
  have inl : ∀ w ∈ u_ws RX1 TX1 4, w ∈ wsX1_members := by decide +kernel
  have wd0 : Cond.fieldLink RX1 20 "SaltOrderModel" "members" "I" ∈ wsX1_members := by decide +kernel
  refine z_sub (L' := [(0, .ref (gg 0))]) [0] rfl ?_
  refine z_aload_n C 0 dX1_members_0 rfl rfl ?_
  refine z_aload_n C 0 dX1_members_1 rfl rfl ?_
  refine z_get1 (v := .int (nI (rn v))) C inl 0 1 (by decide) rfl rfl wd0 dX1_members_2 ?_
  obtain ⟨v1, hv1⟩ : ∃ z, z = vt v 0 := ⟨_, rfl⟩
  refine z_callV (w := (wX1 gg cI v)) (w' := (wX1 gg cI v1)) (w1 := ([] : va_W)) (w2 := ([] : va_W)) (ws' := (wX1 gg cI v1)) (As := [.int (nI (rn v))]) (rest := []) (st' := [.int ((nI (rn v)))]) (rv := some (.int ((nI (rn v))))) C (by rw [hv1]; exact c_X1_told l D gg cI v (nI (rn v))) (cwV 1 C.words gX1_members_X1_told rfl rfl rfl (by decide +kernel) ⟨(Nat.le_of_ble_eq_true rfl), (Nat.le_of_ble_eq_true rfl)⟩) (q0 := 0) (ci := 1) rfl rfl rfl [0] rfl rfl (Nat.le_of_ble_eq_true rfl) ⟨(Nat.le_of_ble_eq_true rfl), (Nat.le_of_ble_eq_true rfl)⟩ rfl rfl rfl rfl rfl dX1_members_5 ?_
  subst hv1
  exact z_iret C hr hlocks (Nat.le_of_ble_eq_true rfl) (Nat.le_of_ble_eq_true rfl) dX1_members_8 (by rfl) (congrArg (wX1 gg cI) (by rfl))
set_option maxHeartbeats 4000000 in
set_option maxRecDepth 100000 in
theorem c_X1_daysUntilAudit (l : Launch) (D : va_G) (gg : Nat → Nat) (cI : ClassId) (v : S1) : zM l yX1_daysUntilAudit wsX1_daysUntilAudit 1 21 0 0 [.ref (gg 0)] [(cI, .int)] D (wX1 gg cI v) (wX1 gg cI (vt v 0)) (some (.int (6 - ((rf v) 0 - (rf v) 0 / 7 * 7)))) := by
  refine z_met (cc := cX1_daysUntilAudit) (maxL := 1) (ret := (some .int)) (by decide) rfl (Nat.le_of_ble_eq_true rfl) ?_
  intro p e s m args below meth c A C hr hlocks
  have inl : ∀ w ∈ u_ws RX1 TX1 4, w ∈ wsX1_daysUntilAudit := by decide +kernel
  have wd0 : Cond.fieldLink RX1 9 "SaltOrderModel" "now" "[I" ∈ wsX1_daysUntilAudit := by decide +kernel
  refine z_sub (L' := [(0, .ref (gg 0))]) [0] rfl ?_
  refine z_aload_n C 0 dX1_daysUntilAudit_0 rfl rfl ?_
  refine z_bipush (v := 6) C dX1_daysUntilAudit_1 (by decide) ?_
  refine z_aload_n C 0 dX1_daysUntilAudit_3 rfl rfl ?_
  refine z_get1 (v := .ref (gg 1)) C inl 0 2 (by decide) rfl rfl wd0 dX1_daysUntilAudit_4 ?_
  refine z_iconst (v := 0) C dX1_daysUntilAudit_7 (by decide) ?_
  refine z_iald (f := rf v) C 1 0 rfl rfl 0 rfl (by omega) (by decide) dX1_daysUntilAudit_8 ?_
  refine z_bipush (v := 7) C dX1_daysUntilAudit_9 (by decide) ?_
  refine z_irem C dX1_daysUntilAudit_11 (by decide) ?_
  refine z_isub C dX1_daysUntilAudit_12 ?_
  obtain ⟨v1, hv1⟩ : ∃ z, z = vt v 0 := ⟨_, rfl⟩
  refine z_callV (w := (wX1 gg cI v)) (w' := (wX1 gg cI v1)) (w1 := ([] : va_W)) (w2 := ([] : va_W)) (ws' := (wX1 gg cI v1)) (As := [.int (6 - (((rf v) 0) - ((rf v) 0) / 7 * 7))]) (rest := []) (st' := [.int ((6 - (((rf v) 0) - ((rf v) 0) / 7 * 7)))]) (rv := some (.int ((6 - (((rf v) 0) - ((rf v) 0) / 7 * 7))))) C (by rw [hv1]; exact c_X1_told l D gg cI v (6 - (((rf v) 0) - ((rf v) 0) / 7 * 7))) (cwV 1 C.words gX1_daysUntilAudit_X1_told rfl rfl rfl (by decide +kernel) ⟨(Nat.le_of_ble_eq_true rfl), (Nat.le_of_ble_eq_true rfl)⟩) (q0 := 0) (ci := 1) rfl rfl rfl [0] rfl rfl (Nat.le_of_ble_eq_true rfl) ⟨(Nat.le_of_ble_eq_true rfl), (Nat.le_of_ble_eq_true rfl)⟩ rfl rfl rfl rfl rfl dX1_daysUntilAudit_13 ?_
  subst hv1
  exact z_iret C hr hlocks (Nat.le_of_ble_eq_true rfl) (Nat.le_of_ble_eq_true rfl) dX1_daysUntilAudit_16 (by rfl) (congrArg (wX1 gg cI) (by rfl))
set_option maxHeartbeats 4000000 in
set_option maxRecDepth 100000 in
theorem c_X1_thrown (l : Launch) (D : va_G) (gg : Nat → Nat) (cI : ClassId) (v : S1) : zM l yX1_thrown wsX1_thrown 0 0 0 0 [.ref (gg 0)] [(cI, .int)] D (wX1 gg cI v) (wX1 gg cI v) (some (.int ((rt v)))) := by
  refine z_met (cc := cX1_thrown) (maxL := 1) (ret := (some .int)) (by decide) rfl (Nat.le_of_ble_eq_true rfl) ?_
  intro p e s m args below meth c A C hr hlocks
  have inl : ∀ w ∈ u_ws RX1 TX1 4, w ∈ wsX1_thrown := by decide +kernel
  have wd0 : Cond.fieldLink RX1 16 "SaltOrderModel" "thrown" "I" ∈ wsX1_thrown := by decide +kernel
  refine z_sub (L' := [(0, .ref (gg 0))]) [0] rfl ?_
  refine z_aload_n C 0 dX1_thrown_0 rfl rfl ?_
  refine z_get1 (v := .int (rt v)) C inl 0 0 (by decide) rfl rfl wd0 dX1_thrown_1 ?_
  exact z_iret C hr hlocks (Nat.le_of_ble_eq_true rfl) (Nat.le_of_ble_eq_true rfl) dX1_thrown_4 (by rfl) rfl
