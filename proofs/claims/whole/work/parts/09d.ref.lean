set_option maxHeartbeats 4000000 in
set_option maxRecDepth 100000 in
theorem c_X1_luckOf (l : Launch) (D : va_G) (gg : Nat → Nat) (cI : ClassId) (v : S1) (j : Nat) (hj : j < (rn v)) (hn : (rn v) ≤ 8) : zM l yX1_luckOf wsX1_luckOf 3 65 0 0 [.ref (gg 0), .int (nI j)] [(cI, .int)] D (wX1 gg cI v) (wX1 gg cI (vt v 0)) (some (.int ((rf v) (mi j 0)))) := by
  refine z_met (cc := cX1_luckOf) (maxL := 2) (ret := (some .int)) (by decide) rfl (Nat.le_of_ble_eq_true rfl) ?_
  intro p e s m args below meth c A C hr hlocks
  have inl : ∀ w ∈ u_ws RX1 TX1 4, w ∈ wsX1_luckOf := by decide +kernel
  refine z_sub (L' := [(0, .ref (gg 0)), (1, .int (nI j))]) [0, 1] rfl ?_
  refine z_aload_n C 0 dX1_luckOf_0 rfl rfl ?_
  refine z_iload_n C 1 dX1_luckOf_1 rfl rfl ?_
  refine z_iconst (v := 0) C dX1_luckOf_2 (by decide) ?_
  obtain ⟨v1, hv1⟩ : ∃ z, z = vt v 0 := ⟨_, rfl⟩
  refine z_callV (w := (wX1 gg cI v)) (w' := (wX1 gg cI v1)) (w1 := ([] : va_W)) (w2 := ([] : va_W)) (ws' := (wX1 gg cI v1)) (As := [.int (nI j), .int 0]) (rest := []) (st' := [.int ((rf v) (mi j 0))]) (rv := some (.int ((rf v) (mi j 0)))) C (by rw [hv1]; exact c_X1_member l D gg cI v j 0 (by omega) (by first | exact hn | omega) (by omega)) (cwV 2 C.words gX1_luckOf_X1_member rfl rfl rfl (by decide +kernel) ⟨(Nat.le_of_ble_eq_true rfl), (Nat.le_of_ble_eq_true rfl)⟩) (q0 := 0) (ci := 1) rfl rfl rfl [0] rfl rfl (Nat.le_of_ble_eq_true rfl) ⟨(Nat.le_of_ble_eq_true rfl), (Nat.le_of_ble_eq_true rfl)⟩ rfl rfl rfl rfl rfl dX1_luckOf_3 ?_
  subst hv1
  exact z_iret C hr hlocks (Nat.le_of_ble_eq_true rfl) (Nat.le_of_ble_eq_true rfl) dX1_luckOf_6 rfl (congrArg (wX1 gg cI) (by rfl))
set_option maxHeartbeats 4000000 in
set_option maxRecDepth 100000 in
theorem c_X1_luckOf_bad (l : Launch) (D : va_G) (gg : Nat → Nat) (cI : ClassId) (v : S1) (x : Int32) (hm : isin x 0 (nI (rn v) - 1) = 0) : zM l yX1_luckOf wsX1_luckOf 3 65 0 0 [.ref (gg 0), .int x] [(cI, .int)] D (wX1 gg cI v) (wX1 gg cI (vt v 1)) (some (.int 0)) := by
  refine z_met (cc := cX1_luckOf) (maxL := 2) (ret := (some .int)) (by decide) rfl (Nat.le_of_ble_eq_true rfl) ?_
  intro p e s m args below meth c A C hr hlocks
  have inl : ∀ w ∈ u_ws RX1 TX1 4, w ∈ wsX1_luckOf := by decide +kernel
  refine z_sub (L' := [(0, .ref (gg 0)), (1, .int x)]) [0, 1] rfl ?_
  refine z_aload_n C 0 dX1_luckOf_0 rfl rfl ?_
  refine z_iload_n C 1 dX1_luckOf_1 rfl rfl ?_
  refine z_iconst (v := 0) C dX1_luckOf_2 (by decide) ?_
  obtain ⟨v1, hv1⟩ : ∃ z, z = vt v 1 := ⟨_, rfl⟩
  refine z_callV (w := (wX1 gg cI v)) (w' := (wX1 gg cI v1)) (w1 := ([] : va_W)) (w2 := ([] : va_W)) (ws' := (wX1 gg cI v1)) (As := [.int x, .int 0]) (rest := []) (st' := [.int 0]) (rv := some (.int 0)) C (by rw [hv1]; exact c_X1_member_bad l D gg cI v x 0 hm) (cwV 2 C.words gX1_luckOf_X1_member rfl rfl rfl (by decide +kernel) ⟨(Nat.le_of_ble_eq_true rfl), (Nat.le_of_ble_eq_true rfl)⟩) (q0 := 0) (ci := 1) rfl rfl rfl [0] rfl rfl (Nat.le_of_ble_eq_true rfl) ⟨(Nat.le_of_ble_eq_true rfl), (Nat.le_of_ble_eq_true rfl)⟩ rfl rfl rfl rfl rfl dX1_luckOf_3 ?_
  subst hv1
  exact z_iret C hr hlocks (Nat.le_of_ble_eq_true rfl) (Nat.le_of_ble_eq_true rfl) dX1_luckOf_6 rfl (congrArg (wX1 gg cI) (by rfl))
set_option maxHeartbeats 4000000 in
set_option maxRecDepth 100000 in
theorem c_X1_arrearsOf (l : Launch) (D : va_G) (gg : Nat → Nat) (cI : ClassId) (v : S1) (j : Nat) (hj : j < (rn v)) (hn : (rn v) ≤ 8) : zM l yX1_arrearsOf wsX1_arrearsOf 3 65 0 0 [.ref (gg 0), .int (nI j)] [(cI, .int)] D (wX1 gg cI v) (wX1 gg cI (vt v 0)) (some (.int ((rf v) (mi j 1)))) := by
  refine z_met (cc := cX1_arrearsOf) (maxL := 2) (ret := (some .int)) (by decide) rfl (Nat.le_of_ble_eq_true rfl) ?_
  intro p e s m args below meth c A C hr hlocks
  have inl : ∀ w ∈ u_ws RX1 TX1 4, w ∈ wsX1_arrearsOf := by decide +kernel
  refine z_sub (L' := [(0, .ref (gg 0)), (1, .int (nI j))]) [0, 1] rfl ?_
  refine z_aload_n C 0 dX1_arrearsOf_0 rfl rfl ?_
  refine z_iload_n C 1 dX1_arrearsOf_1 rfl rfl ?_
  refine z_iconst (v := 1) C dX1_arrearsOf_2 (by decide) ?_
  obtain ⟨v1, hv1⟩ : ∃ z, z = vt v 0 := ⟨_, rfl⟩
  refine z_callV (w := (wX1 gg cI v)) (w' := (wX1 gg cI v1)) (w1 := ([] : va_W)) (w2 := ([] : va_W)) (ws' := (wX1 gg cI v1)) (As := [.int (nI j), .int 1]) (rest := []) (st' := [.int ((rf v) (mi j 1))]) (rv := some (.int ((rf v) (mi j 1)))) C (by rw [hv1]; exact c_X1_member l D gg cI v j 1 (by omega) (by first | exact hn | omega) (by omega)) (cwV 2 C.words gX1_arrearsOf_X1_member rfl rfl rfl (by decide +kernel) ⟨(Nat.le_of_ble_eq_true rfl), (Nat.le_of_ble_eq_true rfl)⟩) (q0 := 0) (ci := 1) rfl rfl rfl [0] rfl rfl (Nat.le_of_ble_eq_true rfl) ⟨(Nat.le_of_ble_eq_true rfl), (Nat.le_of_ble_eq_true rfl)⟩ rfl rfl rfl rfl rfl dX1_arrearsOf_3 ?_
  subst hv1
  exact z_iret C hr hlocks (Nat.le_of_ble_eq_true rfl) (Nat.le_of_ble_eq_true rfl) dX1_arrearsOf_6 rfl (congrArg (wX1 gg cI) (by rfl))
set_option maxHeartbeats 4000000 in
set_option maxRecDepth 100000 in
theorem c_X1_arrearsOf_bad (l : Launch) (D : va_G) (gg : Nat → Nat) (cI : ClassId) (v : S1) (x : Int32) (hm : isin x 0 (nI (rn v) - 1) = 0) : zM l yX1_arrearsOf wsX1_arrearsOf 3 65 0 0 [.ref (gg 0), .int x] [(cI, .int)] D (wX1 gg cI v) (wX1 gg cI (vt v 1)) (some (.int 0)) := by
  refine z_met (cc := cX1_arrearsOf) (maxL := 2) (ret := (some .int)) (by decide) rfl (Nat.le_of_ble_eq_true rfl) ?_
  intro p e s m args below meth c A C hr hlocks
  have inl : ∀ w ∈ u_ws RX1 TX1 4, w ∈ wsX1_arrearsOf := by decide +kernel
  refine z_sub (L' := [(0, .ref (gg 0)), (1, .int x)]) [0, 1] rfl ?_
  refine z_aload_n C 0 dX1_arrearsOf_0 rfl rfl ?_
  refine z_iload_n C 1 dX1_arrearsOf_1 rfl rfl ?_
  refine z_iconst (v := 1) C dX1_arrearsOf_2 (by decide) ?_
  obtain ⟨v1, hv1⟩ : ∃ z, z = vt v 1 := ⟨_, rfl⟩
  refine z_callV (w := (wX1 gg cI v)) (w' := (wX1 gg cI v1)) (w1 := ([] : va_W)) (w2 := ([] : va_W)) (ws' := (wX1 gg cI v1)) (As := [.int x, .int 1]) (rest := []) (st' := [.int 0]) (rv := some (.int 0)) C (by rw [hv1]; exact c_X1_member_bad l D gg cI v x 1 hm) (cwV 2 C.words gX1_arrearsOf_X1_member rfl rfl rfl (by decide +kernel) ⟨(Nat.le_of_ble_eq_true rfl), (Nat.le_of_ble_eq_true rfl)⟩) (q0 := 0) (ci := 1) rfl rfl rfl [0] rfl rfl (Nat.le_of_ble_eq_true rfl) ⟨(Nat.le_of_ble_eq_true rfl), (Nat.le_of_ble_eq_true rfl)⟩ rfl rfl rfl rfl rfl dX1_arrearsOf_3 ?_
  subst hv1
  exact z_iret C hr hlocks (Nat.le_of_ble_eq_true rfl) (Nat.le_of_ble_eq_true rfl) dX1_arrearsOf_6 rfl (congrArg (wX1 gg cI) (by rfl))
set_option maxHeartbeats 4000000 in
set_option maxRecDepth 100000 in
theorem c_X1_lumpsOf (l : Launch) (D : va_G) (gg : Nat → Nat) (cI : ClassId) (v : S1) (j : Nat) (hj : j < (rn v)) (hn : (rn v) ≤ 8) : zM l yX1_lumpsOf wsX1_lumpsOf 3 65 0 0 [.ref (gg 0), .int (nI j)] [(cI, .int)] D (wX1 gg cI v) (wX1 gg cI (vt v 0)) (some (.int ((rf v) (mi j 2)))) := by
  refine z_met (cc := cX1_lumpsOf) (maxL := 2) (ret := (some .int)) (by decide) rfl (Nat.le_of_ble_eq_true rfl) ?_
  intro p e s m args below meth c A C hr hlocks
  have inl : ∀ w ∈ u_ws RX1 TX1 4, w ∈ wsX1_lumpsOf := by decide +kernel
  refine z_sub (L' := [(0, .ref (gg 0)), (1, .int (nI j))]) [0, 1] rfl ?_
  refine z_aload_n C 0 dX1_lumpsOf_0 rfl rfl ?_
  refine z_iload_n C 1 dX1_lumpsOf_1 rfl rfl ?_
  refine z_iconst (v := 2) C dX1_lumpsOf_2 (by decide) ?_
  obtain ⟨v1, hv1⟩ : ∃ z, z = vt v 0 := ⟨_, rfl⟩
  refine z_callV (w := (wX1 gg cI v)) (w' := (wX1 gg cI v1)) (w1 := ([] : va_W)) (w2 := ([] : va_W)) (ws' := (wX1 gg cI v1)) (As := [.int (nI j), .int 2]) (rest := []) (st' := [.int ((rf v) (mi j 2))]) (rv := some (.int ((rf v) (mi j 2)))) C (by rw [hv1]; exact c_X1_member l D gg cI v j 2 (by omega) (by first | exact hn | omega) (by omega)) (cwV 2 C.words gX1_lumpsOf_X1_member rfl rfl rfl (by decide +kernel) ⟨(Nat.le_of_ble_eq_true rfl), (Nat.le_of_ble_eq_true rfl)⟩) (q0 := 0) (ci := 1) rfl rfl rfl [0] rfl rfl (Nat.le_of_ble_eq_true rfl) ⟨(Nat.le_of_ble_eq_true rfl), (Nat.le_of_ble_eq_true rfl)⟩ rfl rfl rfl rfl rfl dX1_lumpsOf_3 ?_
  subst hv1
  exact z_iret C hr hlocks (Nat.le_of_ble_eq_true rfl) (Nat.le_of_ble_eq_true rfl) dX1_lumpsOf_6 rfl (congrArg (wX1 gg cI) (by rfl))
set_option maxHeartbeats 4000000 in
set_option maxRecDepth 100000 in
theorem c_X1_lumpsOf_bad (l : Launch) (D : va_G) (gg : Nat → Nat) (cI : ClassId) (v : S1) (x : Int32) (hm : isin x 0 (nI (rn v) - 1) = 0) : zM l yX1_lumpsOf wsX1_lumpsOf 3 65 0 0 [.ref (gg 0), .int x] [(cI, .int)] D (wX1 gg cI v) (wX1 gg cI (vt v 1)) (some (.int 0)) := by
  refine z_met (cc := cX1_lumpsOf) (maxL := 2) (ret := (some .int)) (by decide) rfl (Nat.le_of_ble_eq_true rfl) ?_
  intro p e s m args below meth c A C hr hlocks
  have inl : ∀ w ∈ u_ws RX1 TX1 4, w ∈ wsX1_lumpsOf := by decide +kernel
  refine z_sub (L' := [(0, .ref (gg 0)), (1, .int x)]) [0, 1] rfl ?_
  refine z_aload_n C 0 dX1_lumpsOf_0 rfl rfl ?_
  refine z_iload_n C 1 dX1_lumpsOf_1 rfl rfl ?_
  refine z_iconst (v := 2) C dX1_lumpsOf_2 (by decide) ?_
  obtain ⟨v1, hv1⟩ : ∃ z, z = vt v 1 := ⟨_, rfl⟩
  refine z_callV (w := (wX1 gg cI v)) (w' := (wX1 gg cI v1)) (w1 := ([] : va_W)) (w2 := ([] : va_W)) (ws' := (wX1 gg cI v1)) (As := [.int x, .int 2]) (rest := []) (st' := [.int 0]) (rv := some (.int 0)) C (by rw [hv1]; exact c_X1_member_bad l D gg cI v x 2 hm) (cwV 2 C.words gX1_lumpsOf_X1_member rfl rfl rfl (by decide +kernel) ⟨(Nat.le_of_ble_eq_true rfl), (Nat.le_of_ble_eq_true rfl)⟩) (q0 := 0) (ci := 1) rfl rfl rfl [0] rfl rfl (Nat.le_of_ble_eq_true rfl) ⟨(Nat.le_of_ble_eq_true rfl), (Nat.le_of_ble_eq_true rfl)⟩ rfl rfl rfl rfl rfl dX1_lumpsOf_3 ?_
  subst hv1
  exact z_iret C hr hlocks (Nat.le_of_ble_eq_true rfl) (Nat.le_of_ble_eq_true rfl) dX1_lumpsOf_6 rfl (congrArg (wX1 gg cI) (by rfl))
set_option maxHeartbeats 4000000 in
set_option maxRecDepth 100000 in
theorem c_X1_memberOf (l : Launch) (D : va_G) (gg : Nat → Nat) (cI : ClassId) (v : S1) (t k : Nat) (hk : (rf v) 3 = nI k) (hk30 : k ≤ 30) (ht : t < k) : zM l yX1_memberOf wsX1_memberOf 3 65 0 0 [.ref (gg 0), .int (nI t)] [(cI, .int)] D (wX1 gg cI v) (wX1 gg cI (vt v 0)) (some (.int ((rf v) (ti t 0)))) := by
  refine z_met (cc := cX1_memberOf) (maxL := 2) (ret := (some .int)) (by decide) rfl (Nat.le_of_ble_eq_true rfl) ?_
  intro p e s m args below meth c A C hr hlocks
  have inl : ∀ w ∈ u_ws RX1 TX1 4, w ∈ wsX1_memberOf := by decide +kernel
  refine z_sub (L' := [(0, .ref (gg 0)), (1, .int (nI t))]) [0, 1] rfl ?_
  refine z_aload_n C 0 dX1_memberOf_0 rfl rfl ?_
  refine z_iload_n C 1 dX1_memberOf_1 rfl rfl ?_
  refine z_iconst (v := 0) C dX1_memberOf_2 (by decide) ?_
  obtain ⟨v1, hv1⟩ : ∃ z, z = vt v 0 := ⟨_, rfl⟩
  refine z_callV (w := (wX1 gg cI v)) (w' := (wX1 gg cI v1)) (w1 := ([] : va_W)) (w2 := ([] : va_W)) (ws' := (wX1 gg cI v1)) (As := [.int (nI t), .int 0]) (rest := []) (st' := [.int ((rf v) (ti t 0))]) (rv := some (.int ((rf v) (ti t 0)))) C (by rw [hv1]; exact c_X1_entry l D gg cI v t 0 k hk hk30 (by omega) (by omega)) (cwV 2 C.words gX1_memberOf_X1_entry rfl rfl rfl (by decide +kernel) ⟨(Nat.le_of_ble_eq_true rfl), (Nat.le_of_ble_eq_true rfl)⟩) (q0 := 0) (ci := 1) rfl rfl rfl [0] rfl rfl (Nat.le_of_ble_eq_true rfl) ⟨(Nat.le_of_ble_eq_true rfl), (Nat.le_of_ble_eq_true rfl)⟩ rfl rfl rfl rfl rfl dX1_memberOf_3 ?_
  subst hv1
  exact z_iret C hr hlocks (Nat.le_of_ble_eq_true rfl) (Nat.le_of_ble_eq_true rfl) dX1_memberOf_6 rfl (congrArg (wX1 gg cI) (by rfl))
set_option maxHeartbeats 4000000 in
set_option maxRecDepth 100000 in
theorem c_X1_memberOf_bad (l : Launch) (D : va_G) (gg : Nat → Nat) (cI : ClassId) (v : S1) (x : Int32) (hm : isin x 0 ((rf v) 3 - 1) = 0) : zM l yX1_memberOf wsX1_memberOf 3 65 0 0 [.ref (gg 0), .int x] [(cI, .int)] D (wX1 gg cI v) (wX1 gg cI (vt v 1)) (some (.int 0)) := by
  refine z_met (cc := cX1_memberOf) (maxL := 2) (ret := (some .int)) (by decide) rfl (Nat.le_of_ble_eq_true rfl) ?_
  intro p e s m args below meth c A C hr hlocks
  have inl : ∀ w ∈ u_ws RX1 TX1 4, w ∈ wsX1_memberOf := by decide +kernel
  refine z_sub (L' := [(0, .ref (gg 0)), (1, .int x)]) [0, 1] rfl ?_
  refine z_aload_n C 0 dX1_memberOf_0 rfl rfl ?_
  refine z_iload_n C 1 dX1_memberOf_1 rfl rfl ?_
  refine z_iconst (v := 0) C dX1_memberOf_2 (by decide) ?_
  obtain ⟨v1, hv1⟩ : ∃ z, z = vt v 1 := ⟨_, rfl⟩
  refine z_callV (w := (wX1 gg cI v)) (w' := (wX1 gg cI v1)) (w1 := ([] : va_W)) (w2 := ([] : va_W)) (ws' := (wX1 gg cI v1)) (As := [.int x, .int 0]) (rest := []) (st' := [.int 0]) (rv := some (.int 0)) C (by rw [hv1]; exact c_X1_entry_bad l D gg cI v x 0 hm) (cwV 2 C.words gX1_memberOf_X1_entry rfl rfl rfl (by decide +kernel) ⟨(Nat.le_of_ble_eq_true rfl), (Nat.le_of_ble_eq_true rfl)⟩) (q0 := 0) (ci := 1) rfl rfl rfl [0] rfl rfl (Nat.le_of_ble_eq_true rfl) ⟨(Nat.le_of_ble_eq_true rfl), (Nat.le_of_ble_eq_true rfl)⟩ rfl rfl rfl rfl rfl dX1_memberOf_3 ?_
  subst hv1
  exact z_iret C hr hlocks (Nat.le_of_ble_eq_true rfl) (Nat.le_of_ble_eq_true rfl) dX1_memberOf_6 rfl (congrArg (wX1 gg cI) (by rfl))
set_option maxHeartbeats 4000000 in
set_option maxRecDepth 100000 in
theorem c_X1_grainsOf (l : Launch) (D : va_G) (gg : Nat → Nat) (cI : ClassId) (v : S1) (t k : Nat) (hk : (rf v) 3 = nI k) (hk30 : k ≤ 30) (ht : t < k) : zM l yX1_grainsOf wsX1_grainsOf 3 65 0 0 [.ref (gg 0), .int (nI t)] [(cI, .int)] D (wX1 gg cI v) (wX1 gg cI (vt v 0)) (some (.int ((rf v) (ti t 2)))) := by
  refine z_met (cc := cX1_grainsOf) (maxL := 2) (ret := (some .int)) (by decide) rfl (Nat.le_of_ble_eq_true rfl) ?_
  intro p e s m args below meth c A C hr hlocks
  have inl : ∀ w ∈ u_ws RX1 TX1 4, w ∈ wsX1_grainsOf := by decide +kernel
  refine z_sub (L' := [(0, .ref (gg 0)), (1, .int (nI t))]) [0, 1] rfl ?_
  refine z_aload_n C 0 dX1_grainsOf_0 rfl rfl ?_
  refine z_iload_n C 1 dX1_grainsOf_1 rfl rfl ?_
  refine z_iconst (v := 2) C dX1_grainsOf_2 (by decide) ?_
  obtain ⟨v1, hv1⟩ : ∃ z, z = vt v 0 := ⟨_, rfl⟩
  refine z_callV (w := (wX1 gg cI v)) (w' := (wX1 gg cI v1)) (w1 := ([] : va_W)) (w2 := ([] : va_W)) (ws' := (wX1 gg cI v1)) (As := [.int (nI t), .int 2]) (rest := []) (st' := [.int ((rf v) (ti t 2))]) (rv := some (.int ((rf v) (ti t 2)))) C (by rw [hv1]; exact c_X1_entry l D gg cI v t 2 k hk hk30 (by omega) (by omega)) (cwV 2 C.words gX1_grainsOf_X1_entry rfl rfl rfl (by decide +kernel) ⟨(Nat.le_of_ble_eq_true rfl), (Nat.le_of_ble_eq_true rfl)⟩) (q0 := 0) (ci := 1) rfl rfl rfl [0] rfl rfl (Nat.le_of_ble_eq_true rfl) ⟨(Nat.le_of_ble_eq_true rfl), (Nat.le_of_ble_eq_true rfl)⟩ rfl rfl rfl rfl rfl dX1_grainsOf_3 ?_
  subst hv1
  exact z_iret C hr hlocks (Nat.le_of_ble_eq_true rfl) (Nat.le_of_ble_eq_true rfl) dX1_grainsOf_6 rfl (congrArg (wX1 gg cI) (by rfl))
set_option maxHeartbeats 4000000 in
set_option maxRecDepth 100000 in
theorem c_X1_grainsOf_bad (l : Launch) (D : va_G) (gg : Nat → Nat) (cI : ClassId) (v : S1) (x : Int32) (hm : isin x 0 ((rf v) 3 - 1) = 0) : zM l yX1_grainsOf wsX1_grainsOf 3 65 0 0 [.ref (gg 0), .int x] [(cI, .int)] D (wX1 gg cI v) (wX1 gg cI (vt v 1)) (some (.int 0)) := by
  refine z_met (cc := cX1_grainsOf) (maxL := 2) (ret := (some .int)) (by decide) rfl (Nat.le_of_ble_eq_true rfl) ?_
  intro p e s m args below meth c A C hr hlocks
  have inl : ∀ w ∈ u_ws RX1 TX1 4, w ∈ wsX1_grainsOf := by decide +kernel
  refine z_sub (L' := [(0, .ref (gg 0)), (1, .int x)]) [0, 1] rfl ?_
  refine z_aload_n C 0 dX1_grainsOf_0 rfl rfl ?_
  refine z_iload_n C 1 dX1_grainsOf_1 rfl rfl ?_
  refine z_iconst (v := 2) C dX1_grainsOf_2 (by decide) ?_
  obtain ⟨v1, hv1⟩ : ∃ z, z = vt v 1 := ⟨_, rfl⟩
  refine z_callV (w := (wX1 gg cI v)) (w' := (wX1 gg cI v1)) (w1 := ([] : va_W)) (w2 := ([] : va_W)) (ws' := (wX1 gg cI v1)) (As := [.int x, .int 2]) (rest := []) (st' := [.int 0]) (rv := some (.int 0)) C (by rw [hv1]; exact c_X1_entry_bad l D gg cI v x 2 hm) (cwV 2 C.words gX1_grainsOf_X1_entry rfl rfl rfl (by decide +kernel) ⟨(Nat.le_of_ble_eq_true rfl), (Nat.le_of_ble_eq_true rfl)⟩) (q0 := 0) (ci := 1) rfl rfl rfl [0] rfl rfl (Nat.le_of_ble_eq_true rfl) ⟨(Nat.le_of_ble_eq_true rfl), (Nat.le_of_ble_eq_true rfl)⟩ rfl rfl rfl rfl rfl dX1_grainsOf_3 ?_
  subst hv1
  exact z_iret C hr hlocks (Nat.le_of_ble_eq_true rfl) (Nat.le_of_ble_eq_true rfl) dX1_grainsOf_6 rfl (congrArg (wX1 gg cI) (by rfl))
set_option maxHeartbeats 4000000 in
set_option maxRecDepth 100000 in
theorem c_X1_excessOf (l : Launch) (D : va_G) (gg : Nat → Nat) (cI : ClassId) (v : S1) (t k : Nat) (hk : (rf v) 3 = nI k) (hk30 : k ≤ 30) (ht : t < k) : zM l yX1_excessOf wsX1_excessOf 3 65 0 0 [.ref (gg 0), .int (nI t)] [(cI, .int)] D (wX1 gg cI v) (wX1 gg cI (vt v 0)) (some (.int ((rf v) (ti t 3)))) := by
  refine z_met (cc := cX1_excessOf) (maxL := 2) (ret := (some .int)) (by decide) rfl (Nat.le_of_ble_eq_true rfl) ?_
  intro p e s m args below meth c A C hr hlocks
  have inl : ∀ w ∈ u_ws RX1 TX1 4, w ∈ wsX1_excessOf := by decide +kernel
  refine z_sub (L' := [(0, .ref (gg 0)), (1, .int (nI t))]) [0, 1] rfl ?_
  refine z_aload_n C 0 dX1_excessOf_0 rfl rfl ?_
  refine z_iload_n C 1 dX1_excessOf_1 rfl rfl ?_
  refine z_iconst (v := 3) C dX1_excessOf_2 (by decide) ?_
  obtain ⟨v1, hv1⟩ : ∃ z, z = vt v 0 := ⟨_, rfl⟩
  refine z_callV (w := (wX1 gg cI v)) (w' := (wX1 gg cI v1)) (w1 := ([] : va_W)) (w2 := ([] : va_W)) (ws' := (wX1 gg cI v1)) (As := [.int (nI t), .int 3]) (rest := []) (st' := [.int ((rf v) (ti t 3))]) (rv := some (.int ((rf v) (ti t 3)))) C (by rw [hv1]; exact c_X1_entry l D gg cI v t 3 k hk hk30 (by omega) (by omega)) (cwV 2 C.words gX1_excessOf_X1_entry rfl rfl rfl (by decide +kernel) ⟨(Nat.le_of_ble_eq_true rfl), (Nat.le_of_ble_eq_true rfl)⟩) (q0 := 0) (ci := 1) rfl rfl rfl [0] rfl rfl (Nat.le_of_ble_eq_true rfl) ⟨(Nat.le_of_ble_eq_true rfl), (Nat.le_of_ble_eq_true rfl)⟩ rfl rfl rfl rfl rfl dX1_excessOf_3 ?_
  subst hv1
  exact z_iret C hr hlocks (Nat.le_of_ble_eq_true rfl) (Nat.le_of_ble_eq_true rfl) dX1_excessOf_6 rfl (congrArg (wX1 gg cI) (by rfl))
set_option maxHeartbeats 4000000 in
set_option maxRecDepth 100000 in
theorem c_X1_excessOf_bad (l : Launch) (D : va_G) (gg : Nat → Nat) (cI : ClassId) (v : S1) (x : Int32) (hm : isin x 0 ((rf v) 3 - 1) = 0) : zM l yX1_excessOf wsX1_excessOf 3 65 0 0 [.ref (gg 0), .int x] [(cI, .int)] D (wX1 gg cI v) (wX1 gg cI (vt v 1)) (some (.int 0)) := by
  refine z_met (cc := cX1_excessOf) (maxL := 2) (ret := (some .int)) (by decide) rfl (Nat.le_of_ble_eq_true rfl) ?_
  intro p e s m args below meth c A C hr hlocks
  have inl : ∀ w ∈ u_ws RX1 TX1 4, w ∈ wsX1_excessOf := by decide +kernel
  refine z_sub (L' := [(0, .ref (gg 0)), (1, .int x)]) [0, 1] rfl ?_
  refine z_aload_n C 0 dX1_excessOf_0 rfl rfl ?_
  refine z_iload_n C 1 dX1_excessOf_1 rfl rfl ?_
  refine z_iconst (v := 3) C dX1_excessOf_2 (by decide) ?_
  obtain ⟨v1, hv1⟩ : ∃ z, z = vt v 1 := ⟨_, rfl⟩
  refine z_callV (w := (wX1 gg cI v)) (w' := (wX1 gg cI v1)) (w1 := ([] : va_W)) (w2 := ([] : va_W)) (ws' := (wX1 gg cI v1)) (As := [.int x, .int 3]) (rest := []) (st' := [.int 0]) (rv := some (.int 0)) C (by rw [hv1]; exact c_X1_entry_bad l D gg cI v x 3 hm) (cwV 2 C.words gX1_excessOf_X1_entry rfl rfl rfl (by decide +kernel) ⟨(Nat.le_of_ble_eq_true rfl), (Nat.le_of_ble_eq_true rfl)⟩) (q0 := 0) (ci := 1) rfl rfl rfl [0] rfl rfl (Nat.le_of_ble_eq_true rfl) ⟨(Nat.le_of_ble_eq_true rfl), (Nat.le_of_ble_eq_true rfl)⟩ rfl rfl rfl rfl rfl dX1_excessOf_3 ?_
  subst hv1
  exact z_iret C hr hlocks (Nat.le_of_ble_eq_true rfl) (Nat.le_of_ble_eq_true rfl) dX1_excessOf_6 rfl (congrArg (wX1 gg cI) (by rfl))
set_option maxHeartbeats 4000000 in
set_option maxRecDepth 100000 in
theorem c_X1_isLeft (l : Launch) (D : va_G) (gg : Nat → Nat) (cI : ClassId) (v : S1) (t k : Nat) (hk : (rf v) 3 = nI k) (hk30 : k ≤ 30) (ht : t < k) : zM l yX1_isLeft wsX1_isLeft 3 65 0 0 [.ref (gg 0), .int (nI t)] [(cI, .int)] D (wX1 gg cI v) (wX1 gg cI (vt v 0)) (some (.int (if (rf v) (ti t 1) = 1 then 1 else 0))) := by
  refine z_met (cc := cX1_isLeft) (maxL := 2) (ret := (some .boolean)) (by decide) rfl (Nat.le_of_ble_eq_true rfl) ?_
  intro p e s m args below meth c A C hr hlocks
  have inl : ∀ w ∈ u_ws RX1 TX1 4, w ∈ wsX1_isLeft := by decide +kernel
  refine z_sub (L' := [(0, .ref (gg 0)), (1, .int (nI t))]) [0, 1] rfl ?_
  refine z_aload_n C 0 dX1_isLeft_0 rfl rfl ?_
  refine z_iload_n C 1 dX1_isLeft_1 rfl rfl ?_
  refine z_iconst (v := 1) C dX1_isLeft_2 (by decide) ?_
  obtain ⟨v1, hv1⟩ : ∃ z, z = vt v 0 := ⟨_, rfl⟩
  refine z_callV (w := (wX1 gg cI v)) (w' := (wX1 gg cI v1)) (w1 := ([] : va_W)) (w2 := ([] : va_W)) (ws' := (wX1 gg cI v1)) (As := [.int (nI t), .int 1]) (rest := []) (st' := [.int ((rf v) (ti t 1))]) (rv := some (.int ((rf v) (ti t 1)))) C (by rw [hv1]; exact c_X1_entry l D gg cI v t 1 k hk hk30 (by omega) (by omega)) (cwV 2 C.words gX1_isLeft_X1_entry rfl rfl rfl (by decide +kernel) ⟨(Nat.le_of_ble_eq_true rfl), (Nat.le_of_ble_eq_true rfl)⟩) (q0 := 0) (ci := 1) rfl rfl rfl [0] rfl rfl (Nat.le_of_ble_eq_true rfl) ⟨(Nat.le_of_ble_eq_true rfl), (Nat.le_of_ble_eq_true rfl)⟩ rfl rfl rfl rfl rfl dX1_isLeft_3 ?_
  refine z_iconst (v := 1) C dX1_isLeft_6 (by decide) ?_
  refine z_icmp_ne (tgt := 14) C dX1_isLeft_7 (by decide) (fun c7 => ?_) (fun c7 => ?_)
  · skip
    refine z_iconst (v := 0) C dX1_isLeft_14 (by decide) ?_
    subst hv1
    exact z_zret C hr hlocks (Nat.le_of_ble_eq_true rfl) (Nat.le_of_ble_eq_true rfl) (by first | exact Or.inl rfl | exact Or.inr rfl) dX1_isLeft_15 (by rw [if_neg c7]) (congrArg (wX1 gg cI) (by first | rfl | (simp only [t7, ↓reduceIte]; done) | (simp only [t7, ↓reduceIte]; rfl)))
  · skip
    refine z_iconst (v := 1) C dX1_isLeft_10 (by decide) ?_
    refine z_goto (tgt := 15) C dX1_isLeft_11 (by decide) ?_
    subst hv1
    exact z_zret C hr hlocks (Nat.le_of_ble_eq_true rfl) (Nat.le_of_ble_eq_true rfl) (by first | exact Or.inl rfl | exact Or.inr rfl) dX1_isLeft_15 (by rw [if_pos c7]) (congrArg (wX1 gg cI) (by first | rfl | (simp only [f7, ↓reduceIte]; done) | (simp only [f7, ↓reduceIte]; rfl)))
set_option maxHeartbeats 4000000 in
set_option maxRecDepth 100000 in
theorem c_X1_isLeft_bad (l : Launch) (D : va_G) (gg : Nat → Nat) (cI : ClassId) (v : S1) (x : Int32) (hm : isin x 0 ((rf v) 3 - 1) = 0) : zM l yX1_isLeft wsX1_isLeft 3 65 0 0 [.ref (gg 0), .int x] [(cI, .int)] D (wX1 gg cI v) (wX1 gg cI (vt v 1)) (some (.int 0)) := by
  refine z_met (cc := cX1_isLeft) (maxL := 2) (ret := (some .boolean)) (by decide) rfl (Nat.le_of_ble_eq_true rfl) ?_
  intro p e s m args below meth c A C hr hlocks
  have inl : ∀ w ∈ u_ws RX1 TX1 4, w ∈ wsX1_isLeft := by decide +kernel
  refine z_sub (L' := [(0, .ref (gg 0)), (1, .int x)]) [0, 1] rfl ?_
  refine z_aload_n C 0 dX1_isLeft_0 rfl rfl ?_
  refine z_iload_n C 1 dX1_isLeft_1 rfl rfl ?_
  refine z_iconst (v := 1) C dX1_isLeft_2 (by decide) ?_
  obtain ⟨v1, hv1⟩ : ∃ z, z = vt v 1 := ⟨_, rfl⟩
  refine z_callV (w := (wX1 gg cI v)) (w' := (wX1 gg cI v1)) (w1 := ([] : va_W)) (w2 := ([] : va_W)) (ws' := (wX1 gg cI v1)) (As := [.int x, .int 1]) (rest := []) (st' := [.int 0]) (rv := some (.int 0)) C (by rw [hv1]; exact c_X1_entry_bad l D gg cI v x 1 hm) (cwV 2 C.words gX1_isLeft_X1_entry rfl rfl rfl (by decide +kernel) ⟨(Nat.le_of_ble_eq_true rfl), (Nat.le_of_ble_eq_true rfl)⟩) (q0 := 0) (ci := 1) rfl rfl rfl [0] rfl rfl (Nat.le_of_ble_eq_true rfl) ⟨(Nat.le_of_ble_eq_true rfl), (Nat.le_of_ble_eq_true rfl)⟩ rfl rfl rfl rfl rfl dX1_isLeft_3 ?_
  refine z_iconst (v := 1) C dX1_isLeft_6 (by decide) ?_
  refine z_icmp_ne (tgt := 14) C dX1_isLeft_7 (by decide) (fun _ => ?_) (fun h9 => absurd h9 ((by decide)))
  refine z_iconst (v := 0) C dX1_isLeft_14 (by decide) ?_
  subst hv1
  exact z_zret C hr hlocks (Nat.le_of_ble_eq_true rfl) (Nat.le_of_ble_eq_true rfl) (by first | exact Or.inl rfl | exact Or.inr rfl) dX1_isLeft_15 rfl (congrArg (wX1 gg cI) (by rfl))
set_option maxHeartbeats 4000000 in
set_option maxRecDepth 100000 in
theorem c_X1_dailyLoss (l : Launch) (D : va_G) (gg : Nat → Nat) (cI : ClassId) (v : S1) (j : Nat) (hj : j < (rn v)) (hn : (rn v) ≤ 8) : zM l yX1_dailyLoss wsX1_dailyLoss 2 43 0 0 [.ref (gg 0), .int (nI j)] [(cI, .int)] D (wX1 gg cI v) (wX1 gg cI (vt v 0)) (some (.int (rloss (rf v) j))) := by
  refine z_met (cc := cX1_dailyLoss) (maxL := 2) (ret := (some .int)) (by decide) rfl (Nat.le_of_ble_eq_true rfl) ?_
  intro p e s m args below meth c A C hr hlocks
  have inl : ∀ w ∈ u_ws RX1 TX1 4, w ∈ wsX1_dailyLoss := by decide +kernel
  have wd0 : Cond.fieldLink RX1 16 "SaltOrderModel" "thrown" "I" ∈ wsX1_dailyLoss := by decide +kernel
  refine z_sub (L' := [(0, .ref (gg 0)), (1, .int (nI j))]) [0, 1] rfl ?_
  refine z_aload_n C 0 dX1_dailyLoss_0 rfl rfl ?_
  refine z_iconst (v := 0) C dX1_dailyLoss_1 (by decide) ?_
  refine z_put1 (ws' := (wX1 gg cI (0, rn v, rf v, rk v))) C inl 0 0 (by decide) rfl rfl (by decide) rfl wd0 dX1_dailyLoss_2 ?_
  refine z_aload_n C 0 dX1_dailyLoss_5 rfl rfl ?_
  refine z_iload_n C 1 dX1_dailyLoss_6 rfl rfl ?_
  refine z_callV (w := (wX1 gg cI (0, rn v, rf v, rk v))) (w' := (wX1 gg cI (0, rn v, rf v, rk v))) (w1 := ([] : va_W)) (w2 := ([] : va_W)) (ws' := (wX1 gg cI (0, rn v, rf v, rk v))) (As := [.int (nI j)]) (rest := []) (st' := [.int (isin (nI j) 0 (nI (rn v) - 1))]) (rv := some (.int (isin (nI j) 0 (nI (rn v) - 1)))) C (c_X1_isMember l D gg cI (0, rn v, rf v, rk v) (nI j)) (cwV 1 C.words gX1_dailyLoss_X1_isMember rfl rfl rfl (by decide +kernel) ⟨(Nat.le_of_ble_eq_true rfl), (Nat.le_of_ble_eq_true rfl)⟩) (q0 := 0) (ci := 1) rfl rfl rfl [0] rfl rfl (Nat.le_of_ble_eq_true rfl) ⟨(Nat.le_of_ble_eq_true rfl), (Nat.le_of_ble_eq_true rfl)⟩ rfl rfl rfl rfl rfl dX1_dailyLoss_7 ?_
  refine z_if_eq (tgt := 21) C dX1_dailyLoss_10 (by decide) (fun h9 => absurd h9 ((by rw [isin_m hj (by omega)]; decide))) (fun _ => ?_)
  refine z_aload_n C 0 dX1_dailyLoss_13 rfl rfl ?_
  refine z_iload_n C 1 dX1_dailyLoss_14 rfl rfl ?_
  refine z_callV (w := (wX1 gg cI (0, rn v, rf v, rk v))) (w' := (wX1 gg cI (0, rn v, rf v, rk v))) (w1 := ([] : va_W)) (w2 := ([] : va_W)) (ws' := (wX1 gg cI (0, rn v, rf v, rk v))) (As := [.int (nI j)]) (rest := []) (st' := [.int (rloss (rf v) j)]) (rv := some (.int (rloss (rf v) j))) C (c_X1_loss l D gg cI (0, rn v, rf v, rk v) j (by omega)) (cwV 1 C.words gX1_dailyLoss_X1_loss rfl rfl rfl (by decide +kernel) ⟨(Nat.le_of_ble_eq_true rfl), (Nat.le_of_ble_eq_true rfl)⟩) (q0 := 0) (ci := 1) rfl rfl rfl [0] rfl rfl (Nat.le_of_ble_eq_true rfl) ⟨(Nat.le_of_ble_eq_true rfl), (Nat.le_of_ble_eq_true rfl)⟩ rfl rfl rfl rfl rfl dX1_dailyLoss_15 ?_
  refine z_goto (tgt := 26) C dX1_dailyLoss_18 (by decide) ?_
  exact z_iret C hr hlocks (Nat.le_of_ble_eq_true rfl) (Nat.le_of_ble_eq_true rfl) dX1_dailyLoss_26 rfl (congrArg (wX1 gg cI) (by first | rfl | (simp only [vt, ↓reduceIte]; done) | (simp only [vt, ↓reduceIte]; rfl)))
set_option maxHeartbeats 4000000 in
set_option maxRecDepth 100000 in
theorem c_X1_dailyLoss_bad (l : Launch) (D : va_G) (gg : Nat → Nat) (cI : ClassId) (v : S1) (x : Int32) (hm : isin x 0 (nI (rn v) - 1) = 0) : zM l yX1_dailyLoss wsX1_dailyLoss 2 43 0 0 [.ref (gg 0), .int x] [(cI, .int)] D (wX1 gg cI v) (wX1 gg cI (vt v 1)) (some (.int 0)) := by
  refine z_met (cc := cX1_dailyLoss) (maxL := 2) (ret := (some .int)) (by decide) rfl (Nat.le_of_ble_eq_true rfl) ?_
  intro p e s m args below meth c A C hr hlocks
  have inl : ∀ w ∈ u_ws RX1 TX1 4, w ∈ wsX1_dailyLoss := by decide +kernel
  have wd0 : Cond.fieldLink RX1 16 "SaltOrderModel" "thrown" "I" ∈ wsX1_dailyLoss := by decide +kernel
  refine z_sub (L' := [(0, .ref (gg 0)), (1, .int x)]) [0, 1] rfl ?_
  refine z_aload_n C 0 dX1_dailyLoss_0 rfl rfl ?_
  refine z_iconst (v := 0) C dX1_dailyLoss_1 (by decide) ?_
  refine z_put1 (ws' := (wX1 gg cI (0, rn v, rf v, rk v))) C inl 0 0 (by decide) rfl rfl (by decide) rfl wd0 dX1_dailyLoss_2 ?_
  refine z_aload_n C 0 dX1_dailyLoss_5 rfl rfl ?_
  refine z_iload_n C 1 dX1_dailyLoss_6 rfl rfl ?_
  refine z_callV (w := (wX1 gg cI (0, rn v, rf v, rk v))) (w' := (wX1 gg cI (0, rn v, rf v, rk v))) (w1 := ([] : va_W)) (w2 := ([] : va_W)) (ws' := (wX1 gg cI (0, rn v, rf v, rk v))) (As := [.int x]) (rest := []) (st' := [.int (isin x 0 (nI (rn v) - 1))]) (rv := some (.int (isin x 0 (nI (rn v) - 1)))) C (c_X1_isMember l D gg cI (0, rn v, rf v, rk v) x) (cwV 1 C.words gX1_dailyLoss_X1_isMember rfl rfl rfl (by decide +kernel) ⟨(Nat.le_of_ble_eq_true rfl), (Nat.le_of_ble_eq_true rfl)⟩) (q0 := 0) (ci := 1) rfl rfl rfl [0] rfl rfl (Nat.le_of_ble_eq_true rfl) ⟨(Nat.le_of_ble_eq_true rfl), (Nat.le_of_ble_eq_true rfl)⟩ rfl rfl rfl rfl rfl dX1_dailyLoss_7 ?_
  refine z_if_eq (tgt := 21) C dX1_dailyLoss_10 (by decide) (fun _ => ?_) (fun h9 => absurd (hm) h9)
  refine z_aload_n C 0 dX1_dailyLoss_21 rfl rfl ?_
  refine z_iconst (v := 1) C dX1_dailyLoss_22 (by decide) ?_
  obtain ⟨v1, hv1⟩ : ∃ z, z = vt (0, rn v, rf v, rk v) 1 := ⟨_, rfl⟩
  refine z_callV (w := (wX1 gg cI (0, rn v, rf v, rk v))) (w' := (wX1 gg cI v1)) (w1 := ([] : va_W)) (w2 := ([] : va_W)) (ws' := (wX1 gg cI v1)) (As := [.int 1]) (rest := []) (st' := [.int 0]) (rv := some (.int 0)) C (by rw [hv1]; exact c_X1_fail l D gg cI (0, rn v, rf v, rk v) 1) (cwV 1 C.words gX1_dailyLoss_X1_fail rfl rfl rfl (by decide +kernel) ⟨(Nat.le_of_ble_eq_true rfl), (Nat.le_of_ble_eq_true rfl)⟩) (q0 := 0) (ci := 1) rfl rfl rfl [0] rfl rfl (Nat.le_of_ble_eq_true rfl) ⟨(Nat.le_of_ble_eq_true rfl), (Nat.le_of_ble_eq_true rfl)⟩ rfl rfl rfl rfl rfl dX1_dailyLoss_23 ?_
  subst hv1
  exact z_iret C hr hlocks (Nat.le_of_ble_eq_true rfl) (Nat.le_of_ble_eq_true rfl) dX1_dailyLoss_26 rfl (congrArg (wX1 gg cI) (by first | rfl | (simp only [vt, ↓reduceIte]; done) | (simp only [vt, ↓reduceIte]; rfl)))
set_option maxHeartbeats 4000000 in
set_option maxRecDepth 100000 in
theorem c_X1_arrearsByAudit (l : Launch) (D : va_G) (gg : Nat → Nat) (cI : ClassId) (v : S1) (j : Nat) (k : Nat) (W : Nat → Nat) (hj : j < (rn v)) (hn : (rn v) ≤ 8) (hL : rL (rf v) k W) : zM l yX1_arrearsByAudit wsX1_arrearsByAudit 2 45 0 0 [.ref (gg 0), .int (nI j)] [(cI, .int)] D (wX1 gg cI v) (wX1 gg cI (vt v 0)) (some (.int (raddN (rf v) (nI j) k))) := by
  refine z_met (cc := cX1_arrearsByAudit) (maxL := 2) (ret := (some .int)) (by decide) rfl (Nat.le_of_ble_eq_true rfl) ?_
  intro p e s m args below meth c A C hr hlocks
  have inl : ∀ w ∈ u_ws RX1 TX1 4, w ∈ wsX1_arrearsByAudit := by decide +kernel
  have wd0 : Cond.fieldLink RX1 16 "SaltOrderModel" "thrown" "I" ∈ wsX1_arrearsByAudit := by decide +kernel
  refine z_sub (L' := [(0, .ref (gg 0)), (1, .int (nI j))]) [0, 1] rfl ?_
  refine z_aload_n C 0 dX1_arrearsByAudit_0 rfl rfl ?_
  refine z_iconst (v := 0) C dX1_arrearsByAudit_1 (by decide) ?_
  refine z_put1 (ws' := (wX1 gg cI (0, rn v, rf v, rk v))) C inl 0 0 (by decide) rfl rfl (by decide) rfl wd0 dX1_arrearsByAudit_2 ?_
  refine z_aload_n C 0 dX1_arrearsByAudit_5 rfl rfl ?_
  refine z_iload_n C 1 dX1_arrearsByAudit_6 rfl rfl ?_
  refine z_callV (w := (wX1 gg cI (0, rn v, rf v, rk v))) (w' := (wX1 gg cI (0, rn v, rf v, rk v))) (w1 := ([] : va_W)) (w2 := ([] : va_W)) (ws' := (wX1 gg cI (0, rn v, rf v, rk v))) (As := [.int (nI j)]) (rest := []) (st' := [.int (isin (nI j) 0 (nI (rn v) - 1))]) (rv := some (.int (isin (nI j) 0 (nI (rn v) - 1)))) C (c_X1_isMember l D gg cI (0, rn v, rf v, rk v) (nI j)) (cwV 1 C.words gX1_arrearsByAudit_X1_isMember rfl rfl rfl (by decide +kernel) ⟨(Nat.le_of_ble_eq_true rfl), (Nat.le_of_ble_eq_true rfl)⟩) (q0 := 0) (ci := 1) rfl rfl rfl [0] rfl rfl (Nat.le_of_ble_eq_true rfl) ⟨(Nat.le_of_ble_eq_true rfl), (Nat.le_of_ble_eq_true rfl)⟩ rfl rfl rfl rfl rfl dX1_arrearsByAudit_7 ?_
  refine z_if_eq (tgt := 21) C dX1_arrearsByAudit_10 (by decide) (fun h9 => absurd h9 ((by rw [isin_m hj (by omega)]; decide))) (fun _ => ?_)
  refine z_aload_n C 0 dX1_arrearsByAudit_13 rfl rfl ?_
  refine z_iload_n C 1 dX1_arrearsByAudit_14 rfl rfl ?_
  refine z_callV (w := (wX1 gg cI (0, rn v, rf v, rk v))) (w' := (wX1 gg cI (0, rn v, rf v, rk v))) (w1 := ([] : va_W)) (w2 := ([] : va_W)) (ws' := (wX1 gg cI (0, rn v, rf v, rk v))) (As := [.int (nI j)]) (rest := []) (st' := [.int (raddN (rf v) (nI j) k)]) (rv := some (.int (raddN (rf v) (nI j) k))) C (c_X1_adds l D gg cI (0, rn v, rf v, rk v) (nI j) k W hL) (cwV 1 C.words gX1_arrearsByAudit_X1_adds rfl rfl rfl (by decide +kernel) ⟨(Nat.le_of_ble_eq_true rfl), (Nat.le_of_ble_eq_true rfl)⟩) (q0 := 0) (ci := 1) rfl rfl rfl [0] rfl rfl (Nat.le_of_ble_eq_true rfl) ⟨(Nat.le_of_ble_eq_true rfl), (Nat.le_of_ble_eq_true rfl)⟩ rfl rfl rfl rfl rfl dX1_arrearsByAudit_15 ?_
  refine z_goto (tgt := 26) C dX1_arrearsByAudit_18 (by decide) ?_
  exact z_iret C hr hlocks (Nat.le_of_ble_eq_true rfl) (Nat.le_of_ble_eq_true rfl) dX1_arrearsByAudit_26 rfl (congrArg (wX1 gg cI) (by first | rfl | (simp only [vt, ↓reduceIte]; done) | (simp only [vt, ↓reduceIte]; rfl)))
set_option maxHeartbeats 4000000 in
set_option maxRecDepth 100000 in
theorem c_X1_arrearsByAudit_bad (l : Launch) (D : va_G) (gg : Nat → Nat) (cI : ClassId) (v : S1) (x : Int32) (hm : isin x 0 (nI (rn v) - 1) = 0) : zM l yX1_arrearsByAudit wsX1_arrearsByAudit 2 43 0 0 [.ref (gg 0), .int x] [(cI, .int)] D (wX1 gg cI v) (wX1 gg cI (vt v 1)) (some (.int 0)) := by
  refine z_met (cc := cX1_arrearsByAudit) (maxL := 2) (ret := (some .int)) (by decide) rfl (Nat.le_of_ble_eq_true rfl) ?_
  intro p e s m args below meth c A C hr hlocks
  have inl : ∀ w ∈ u_ws RX1 TX1 4, w ∈ wsX1_arrearsByAudit := by decide +kernel
  have wd0 : Cond.fieldLink RX1 16 "SaltOrderModel" "thrown" "I" ∈ wsX1_arrearsByAudit := by decide +kernel
  refine z_sub (L' := [(0, .ref (gg 0)), (1, .int x)]) [0, 1] rfl ?_
  refine z_aload_n C 0 dX1_arrearsByAudit_0 rfl rfl ?_
  refine z_iconst (v := 0) C dX1_arrearsByAudit_1 (by decide) ?_
  refine z_put1 (ws' := (wX1 gg cI (0, rn v, rf v, rk v))) C inl 0 0 (by decide) rfl rfl (by decide) rfl wd0 dX1_arrearsByAudit_2 ?_
  refine z_aload_n C 0 dX1_arrearsByAudit_5 rfl rfl ?_
  refine z_iload_n C 1 dX1_arrearsByAudit_6 rfl rfl ?_
  refine z_callV (w := (wX1 gg cI (0, rn v, rf v, rk v))) (w' := (wX1 gg cI (0, rn v, rf v, rk v))) (w1 := ([] : va_W)) (w2 := ([] : va_W)) (ws' := (wX1 gg cI (0, rn v, rf v, rk v))) (As := [.int x]) (rest := []) (st' := [.int (isin x 0 (nI (rn v) - 1))]) (rv := some (.int (isin x 0 (nI (rn v) - 1)))) C (c_X1_isMember l D gg cI (0, rn v, rf v, rk v) x) (cwV 1 C.words gX1_arrearsByAudit_X1_isMember rfl rfl rfl (by decide +kernel) ⟨(Nat.le_of_ble_eq_true rfl), (Nat.le_of_ble_eq_true rfl)⟩) (q0 := 0) (ci := 1) rfl rfl rfl [0] rfl rfl (Nat.le_of_ble_eq_true rfl) ⟨(Nat.le_of_ble_eq_true rfl), (Nat.le_of_ble_eq_true rfl)⟩ rfl rfl rfl rfl rfl dX1_arrearsByAudit_7 ?_
  refine z_if_eq (tgt := 21) C dX1_arrearsByAudit_10 (by decide) (fun _ => ?_) (fun h9 => absurd (hm) h9)
  refine z_aload_n C 0 dX1_arrearsByAudit_21 rfl rfl ?_
  refine z_iconst (v := 1) C dX1_arrearsByAudit_22 (by decide) ?_
  obtain ⟨v1, hv1⟩ : ∃ z, z = vt (0, rn v, rf v, rk v) 1 := ⟨_, rfl⟩
  refine z_callV (w := (wX1 gg cI (0, rn v, rf v, rk v))) (w' := (wX1 gg cI v1)) (w1 := ([] : va_W)) (w2 := ([] : va_W)) (ws' := (wX1 gg cI v1)) (As := [.int 1]) (rest := []) (st' := [.int 0]) (rv := some (.int 0)) C (by rw [hv1]; exact c_X1_fail l D gg cI (0, rn v, rf v, rk v) 1) (cwV 1 C.words gX1_arrearsByAudit_X1_fail rfl rfl rfl (by decide +kernel) ⟨(Nat.le_of_ble_eq_true rfl), (Nat.le_of_ble_eq_true rfl)⟩) (q0 := 0) (ci := 1) rfl rfl rfl [0] rfl rfl (Nat.le_of_ble_eq_true rfl) ⟨(Nat.le_of_ble_eq_true rfl), (Nat.le_of_ble_eq_true rfl)⟩ rfl rfl rfl rfl rfl dX1_arrearsByAudit_23 ?_
  subst hv1
  exact z_iret C hr hlocks (Nat.le_of_ble_eq_true rfl) (Nat.le_of_ble_eq_true rfl) dX1_arrearsByAudit_26 rfl (congrArg (wX1 gg cI) (by first | rfl | (simp only [vt, ↓reduceIte]; done) | (simp only [vt, ↓reduceIte]; rfl)))
set_option maxHeartbeats 4000000 in
set_option maxRecDepth 100000 in
theorem c_X1_luckiest (l : Launch) (D : va_G) (gg : Nat → Nat) (cI : ClassId) (v : S1) (hn : (rn v) ≤ 8) : zM l yX1_luckiest wsX1_luckiest 2 44 0 0 [.ref (gg 0)] [(cI, .int)] D (wX1 gg cI v) (wX1 gg cI (vt v 0)) (some (.int (rbN (rf v) (rn v)))) := by
  refine z_met (cc := cX1_luckiest) (maxL := 1) (ret := (some .int)) (by decide) rfl (Nat.le_of_ble_eq_true rfl) ?_
  intro p e s m args below meth c A C hr hlocks
  have inl : ∀ w ∈ u_ws RX1 TX1 4, w ∈ wsX1_luckiest := by decide +kernel
  refine z_sub (L' := [(0, .ref (gg 0))]) [0] rfl ?_
  refine z_aload_n C 0 dX1_luckiest_0 rfl rfl ?_
  refine z_aload_n C 0 dX1_luckiest_1 rfl rfl ?_
  refine z_callV (w := (wX1 gg cI v)) (w' := (wX1 gg cI v)) (w1 := ([] : va_W)) (w2 := ([] : va_W)) (ws' := (wX1 gg cI v)) (As := []) (rest := [.ref (gg 0)]) (st' := [.int (rbN (rf v) (rn v)), .ref (gg 0)]) (rv := some (.int (rbN (rf v) (rn v)))) C (c_X1_best l D gg cI v (by first | exact hn | omega)) (cwV 0 C.words gX1_luckiest_X1_best rfl rfl rfl (by decide +kernel) ⟨(Nat.le_of_ble_eq_true rfl), (Nat.le_of_ble_eq_true rfl)⟩) (q0 := 0) (ci := 1) rfl rfl rfl [0] rfl rfl (Nat.le_of_ble_eq_true rfl) ⟨(Nat.le_of_ble_eq_true rfl), (Nat.le_of_ble_eq_true rfl)⟩ rfl rfl rfl rfl rfl dX1_luckiest_2 ?_
  obtain ⟨v1, hv1⟩ : ∃ z, z = vt v 0 := ⟨_, rfl⟩
  refine z_callV (w := (wX1 gg cI v)) (w' := (wX1 gg cI v1)) (w1 := ([] : va_W)) (w2 := ([] : va_W)) (ws' := (wX1 gg cI v1)) (As := [.int (rbN (rf v) (rn v))]) (rest := []) (st' := [.int ((rbN (rf v) (rn v)))]) (rv := some (.int ((rbN (rf v) (rn v))))) C (by rw [hv1]; exact c_X1_told l D gg cI v (rbN (rf v) (rn v))) (cwV 1 C.words gX1_luckiest_X1_told rfl rfl rfl (by decide +kernel) ⟨(Nat.le_of_ble_eq_true rfl), (Nat.le_of_ble_eq_true rfl)⟩) (q0 := 0) (ci := 1) rfl rfl rfl [0] rfl rfl (Nat.le_of_ble_eq_true rfl) ⟨(Nat.le_of_ble_eq_true rfl), (Nat.le_of_ble_eq_true rfl)⟩ rfl rfl rfl rfl rfl dX1_luckiest_5 ?_
  subst hv1
  exact z_iret C hr hlocks (Nat.le_of_ble_eq_true rfl) (Nat.le_of_ble_eq_true rfl) dX1_luckiest_8 (by rfl) (congrArg (wX1 gg cI) (by rfl))
set_option maxHeartbeats 4000000 in
set_option maxRecDepth 100000 in
theorem c_X1_allArrears (l : Launch) (D : va_G) (gg : Nat → Nat) (cI : ClassId) (v : S1) (hn : (rn v) ≤ 8) : zM l yX1_allArrears wsX1_allArrears 2 44 0 0 [.ref (gg 0)] [(cI, .int)] D (wX1 gg cI v) (wX1 gg cI (vt v 0)) (some (.int (rowS (rf v) 1 (rn v)))) := by
  refine z_met (cc := cX1_allArrears) (maxL := 1) (ret := (some .int)) (by decide) rfl (Nat.le_of_ble_eq_true rfl) ?_
  intro p e s m args below meth c A C hr hlocks
  have inl : ∀ w ∈ u_ws RX1 TX1 4, w ∈ wsX1_allArrears := by decide +kernel
  refine z_sub (L' := [(0, .ref (gg 0))]) [0] rfl ?_
  refine z_aload_n C 0 dX1_allArrears_0 rfl rfl ?_
  refine z_aload_n C 0 dX1_allArrears_1 rfl rfl ?_
  refine z_callV (w := (wX1 gg cI v)) (w' := (wX1 gg cI v)) (w1 := ([] : va_W)) (w2 := ([] : va_W)) (ws' := (wX1 gg cI v)) (As := []) (rest := [.ref (gg 0)]) (st' := [.int (rowS (rf v) 1 (rn v)), .ref (gg 0)]) (rv := some (.int (rowS (rf v) 1 (rn v)))) C (c_X1_owed l D gg cI v (by first | exact hn | omega)) (cwV 0 C.words gX1_allArrears_X1_owed rfl rfl rfl (by decide +kernel) ⟨(Nat.le_of_ble_eq_true rfl), (Nat.le_of_ble_eq_true rfl)⟩) (q0 := 0) (ci := 1) rfl rfl rfl [0] rfl rfl (Nat.le_of_ble_eq_true rfl) ⟨(Nat.le_of_ble_eq_true rfl), (Nat.le_of_ble_eq_true rfl)⟩ rfl rfl rfl rfl rfl dX1_allArrears_2 ?_
  obtain ⟨v1, hv1⟩ : ∃ z, z = vt v 0 := ⟨_, rfl⟩
  refine z_callV (w := (wX1 gg cI v)) (w' := (wX1 gg cI v1)) (w1 := ([] : va_W)) (w2 := ([] : va_W)) (ws' := (wX1 gg cI v1)) (As := [.int (rowS (rf v) 1 (rn v))]) (rest := []) (st' := [.int ((rowS (rf v) 1 (rn v)))]) (rv := some (.int ((rowS (rf v) 1 (rn v))))) C (by rw [hv1]; exact c_X1_told l D gg cI v (rowS (rf v) 1 (rn v))) (cwV 1 C.words gX1_allArrears_X1_told rfl rfl rfl (by decide +kernel) ⟨(Nat.le_of_ble_eq_true rfl), (Nat.le_of_ble_eq_true rfl)⟩) (q0 := 0) (ci := 1) rfl rfl rfl [0] rfl rfl (Nat.le_of_ble_eq_true rfl) ⟨(Nat.le_of_ble_eq_true rfl), (Nat.le_of_ble_eq_true rfl)⟩ rfl rfl rfl rfl rfl dX1_allArrears_5 ?_
  subst hv1
  exact z_iret C hr hlocks (Nat.le_of_ble_eq_true rfl) (Nat.le_of_ble_eq_true rfl) dX1_allArrears_8 (by rfl) (congrArg (wX1 gg cI) (by rfl))
set_option maxHeartbeats 4000000 in
set_option maxRecDepth 100000 in
theorem c_X1_clearMembers (l : Launch) (D : va_G) (gg : Nat → Nat) (cI : ClassId) (v : S1) (hn : (rn v) ≤ 8) : zM l yX1_clearMembers wsX1_clearMembers 1 22 0 0 [.ref (gg 0)] [(cI, .int)] D (wX1 gg cI v) (wX1 gg cI (vt v 0)) (some (.int (rclr (rf v) (rn v)))) := by
  refine z_met (cc := cX1_clearMembers) (maxL := 3) (ret := (some .int)) (by decide) rfl (Nat.le_of_ble_eq_true rfl) ?_
  intro p e s m args below meth c A C hr hlocks
  have inl : ∀ w ∈ u_ws RX1 TX1 4, w ∈ wsX1_clearMembers := by decide +kernel
  have wd0 : Cond.fieldLink RX1 20 "SaltOrderModel" "members" "I" ∈ wsX1_clearMembers := by decide +kernel
  have wd1 : Cond.fieldLink RX1 16 "SaltOrderModel" "thrown" "I" ∈ wsX1_clearMembers := by decide +kernel
  refine z_sub (L' := [(0, .ref (gg 0))]) [0] rfl ?_
  have lp9 : ∀ (dd i : Nat), i + dd = rn v → zG p l e ({ frames := 1, cells := 0, slots := 0, locals := 22 } : Room) s m args below meth c D 3 A 0 0 (MQ below (zQ (some (.int (rclr (rf v) (rn v)))) (fun t => va_P D vwCl (wX1 gg cI (vt v 0)) t.heap) A) args s 0 0 A) 9 [(0, .ref (gg 0)), (1, .int (rclr (rf v) i)), (2, .int (nI i))] [] (wX1 gg cI (0, rn v, rf v, rk v)) := by
    intro dd
    induction dd with
    | zero =>
      intro i hi
      have hi : i = rn v := by omega
      subst hi
      refine z_iload_n C 2 dX1_clearMembers_9 rfl rfl ?_
      refine z_aload_n C 0 dX1_clearMembers_10 rfl rfl ?_
      refine z_get1 (v := .int (nI (rn v))) C inl 0 1 (by decide) rfl rfl wd0 dX1_clearMembers_11 ?_
      refine z_icmp_ge (tgt := 40) C dX1_clearMembers_14 (by decide) (fun _ => ?_) (fun h9 => absurd (nI_le (by omega) (by omega)) h9)
      refine z_iload_n C 1 dX1_clearMembers_40 rfl rfl ?_
      exact z_iret C hr hlocks (Nat.le_of_ble_eq_true rfl) (Nat.le_of_ble_eq_true rfl) dX1_clearMembers_41 rfl (congrArg (wX1 gg cI) (by first | rfl | (simp only [vt, ↓reduceIte]; done) | (simp only [vt, ↓reduceIte]; rfl)))
    | succ dd ih =>
      intro i hi
      refine z_iload_n C 2 dX1_clearMembers_9 rfl rfl ?_
      refine z_aload_n C 0 dX1_clearMembers_10 rfl rfl ?_
      refine z_get1 (v := .int (nI (rn v))) C inl 0 1 (by decide) rfl rfl wd0 dX1_clearMembers_11 ?_
      refine z_icmp_ge (tgt := 40) C dX1_clearMembers_14 (by decide) (fun h9 => absurd h9 (nI_ge (by omega) (by omega))) (fun _ => ?_)
      refine z_iload_n C 1 dX1_clearMembers_17 rfl rfl ?_
      refine z_aload_n C 0 dX1_clearMembers_18 rfl rfl ?_
      refine z_iload_n C 2 dX1_clearMembers_19 rfl rfl ?_
      refine z_iconst (v := 1) C dX1_clearMembers_20 (by decide) ?_
      refine z_callV (w := (wX1 gg cI (0, rn v, rf v, rk v))) (w' := (wX1 gg cI (0, rn v, rf v, rk v))) (w1 := ([] : va_W)) (w2 := ([] : va_W)) (ws' := (wX1 gg cI (0, rn v, rf v, rk v))) (As := [.int (nI i), .int 1]) (rest := [.int (rclr (rf v) i)]) (st' := [.int ((rf v) (mi i 1)), .int (rclr (rf v) i)]) (rv := some (.int ((rf v) (mi i 1)))) C (c_X1_me l D gg cI (0, rn v, rf v, rk v) i 1 (by omega) (by omega)) (cwV 2 C.words gX1_clearMembers_X1_me rfl rfl rfl (by decide +kernel) ⟨(Nat.le_of_ble_eq_true rfl), (Nat.le_of_ble_eq_true rfl)⟩) (q0 := 0) (ci := 1) rfl rfl rfl [0] rfl rfl (Nat.le_of_ble_eq_true rfl) ⟨(Nat.le_of_ble_eq_true rfl), (Nat.le_of_ble_eq_true rfl)⟩ rfl rfl rfl rfl rfl dX1_clearMembers_21 ?_
      refine z_if_ne (tgt := 31) C dX1_clearMembers_24 (by decide) (fun c24 => ?_) (fun c24 => ?_)
      · skip
        refine z_iconst (v := 0) C dX1_clearMembers_31 (by decide) ?_
        refine z_iadd C dX1_clearMembers_32 ?_
        refine z_istore_n (L' := [(1, .int ((rclr (rf v) i) + 0)), (0, .ref (gg 0)), (2, .int (nI i))]) C dX1_clearMembers_33 rfl (by decide) rfl ?_
        refine z_iinc (v := nI (i + 1)) (L' := [(2, .int (nI (i + 1))), (1, .int ((rclr (rf v) i) + 0)), (0, .ref (gg 0))]) C 2 dX1_clearMembers_34 rfl (z_inc _) (by decide) rfl ?_
        refine z_goto (tgt := 9) C dX1_clearMembers_37 (by decide) ?_
        refine z_sub (L' := [(0, .ref (gg 0)), (1, .int ((rclr (rf v) i) + 0)), (2, .int (nI (i + 1)))]) [2, 1, 0] rfl ?_
        exact (by have e9 := ih (i + 1) (by omega); simp only [rclr, c24, ↓reduceIte] at e9; exact e9)
      · skip
        refine z_iconst (v := 1) C dX1_clearMembers_27 (by decide) ?_
        refine z_goto (tgt := 32) C dX1_clearMembers_28 (by decide) ?_
        refine z_iadd C dX1_clearMembers_32 ?_
        refine z_istore_n (L' := [(1, .int ((rclr (rf v) i) + 1)), (0, .ref (gg 0)), (2, .int (nI i))]) C dX1_clearMembers_33 rfl (by decide) rfl ?_
        refine z_iinc (v := nI (i + 1)) (L' := [(2, .int (nI (i + 1))), (1, .int ((rclr (rf v) i) + 1)), (0, .ref (gg 0))]) C 2 dX1_clearMembers_34 rfl (z_inc _) (by decide) rfl ?_
        refine z_goto (tgt := 9) C dX1_clearMembers_37 (by decide) ?_
        refine z_sub (L' := [(0, .ref (gg 0)), (1, .int ((rclr (rf v) i) + 1)), (2, .int (nI (i + 1)))]) [2, 1, 0] rfl ?_
        exact (by have e9 := ih (i + 1) (by omega); simp only [rclr, c24, ↓reduceIte] at e9; exact e9)
  refine z_aload_n C 0 dX1_clearMembers_0 rfl rfl ?_
  refine z_iconst (v := 0) C dX1_clearMembers_1 (by decide) ?_
  refine z_put1 (ws' := (wX1 gg cI (0, rn v, rf v, rk v))) C inl 0 0 (by decide) rfl rfl (by decide) rfl wd1 dX1_clearMembers_2 ?_
  refine z_iconst (v := 0) C dX1_clearMembers_5 (by decide) ?_
  refine z_istore_n (L' := [(1, .int 0), (0, .ref (gg 0))]) C dX1_clearMembers_6 rfl (by decide) rfl ?_
  refine z_iconst (v := 0) C dX1_clearMembers_7 (by decide) ?_
  refine z_istore_n (L' := [(2, .int 0), (1, .int 0), (0, .ref (gg 0))]) C dX1_clearMembers_8 rfl (by decide) rfl ?_
  refine z_sub (L' := [(0, .ref (gg 0)), (1, .int 0), (2, .int 0)]) [2, 1, 0] rfl ?_
  exact lp9 (rn v) 0 (by omega)
set_option maxHeartbeats 4000000 in
set_option maxRecDepth 100000 in
theorem c_X1_faults (l : Launch) (D : va_G) (gg : Nat → Nat) (cI : ClassId) (v : S1) (k : Nat) (W : Nat → Nat) (hL : rL (rf v) k W) : zM l yX1_faults wsX1_faults 2 44 0 0 [.ref (gg 0)] [(cI, .int)] D (wX1 gg cI v) (wX1 gg cI (vt v 0)) (some (.int (rfltN (rf v) k))) := by
  refine z_met (cc := cX1_faults) (maxL := 1) (ret := (some .int)) (by decide) rfl (Nat.le_of_ble_eq_true rfl) ?_
  intro p e s m args below meth c A C hr hlocks
  have inl : ∀ w ∈ u_ws RX1 TX1 4, w ∈ wsX1_faults := by decide +kernel
  refine z_sub (L' := [(0, .ref (gg 0))]) [0] rfl ?_
  refine z_aload_n C 0 dX1_faults_0 rfl rfl ?_
  refine z_aload_n C 0 dX1_faults_1 rfl rfl ?_
  refine z_callV (w := (wX1 gg cI v)) (w' := (wX1 gg cI v)) (w1 := ([] : va_W)) (w2 := ([] : va_W)) (ws' := (wX1 gg cI v)) (As := []) (rest := [.ref (gg 0)]) (st' := [.int (rfltN (rf v) k), .ref (gg 0)]) (rv := some (.int (rfltN (rf v) k))) C (c_X1_faultsNow l D gg cI v k W hL) (cwV 0 C.words gX1_faults_X1_faultsNow rfl rfl rfl (by decide +kernel) ⟨(Nat.le_of_ble_eq_true rfl), (Nat.le_of_ble_eq_true rfl)⟩) (q0 := 0) (ci := 1) rfl rfl rfl [0] rfl rfl (Nat.le_of_ble_eq_true rfl) ⟨(Nat.le_of_ble_eq_true rfl), (Nat.le_of_ble_eq_true rfl)⟩ rfl rfl rfl rfl rfl dX1_faults_2 ?_
  obtain ⟨v1, hv1⟩ : ∃ z, z = vt v 0 := ⟨_, rfl⟩
  refine z_callV (w := (wX1 gg cI v)) (w' := (wX1 gg cI v1)) (w1 := ([] : va_W)) (w2 := ([] : va_W)) (ws' := (wX1 gg cI v1)) (As := [.int (rfltN (rf v) k)]) (rest := []) (st' := [.int ((rfltN (rf v) k))]) (rv := some (.int ((rfltN (rf v) k)))) C (by rw [hv1]; exact c_X1_told l D gg cI v (rfltN (rf v) k)) (cwV 1 C.words gX1_faults_X1_told rfl rfl rfl (by decide +kernel) ⟨(Nat.le_of_ble_eq_true rfl), (Nat.le_of_ble_eq_true rfl)⟩) (q0 := 0) (ci := 1) rfl rfl rfl [0] rfl rfl (Nat.le_of_ble_eq_true rfl) ⟨(Nat.le_of_ble_eq_true rfl), (Nat.le_of_ble_eq_true rfl)⟩ rfl rfl rfl rfl rfl dX1_faults_5 ?_
  subst hv1
  exact z_iret C hr hlocks (Nat.le_of_ble_eq_true rfl) (Nat.le_of_ble_eq_true rfl) dX1_faults_8 (by rfl) (congrArg (wX1 gg cI) (by rfl))
set_option maxHeartbeats 4000000 in
set_option maxRecDepth 100000 in
theorem c_X1_daysUntilClear (l : Launch) (D : va_G) (gg : Nat → Nat) (cI : ClassId) (v : S1) (j : Nat) (k : Nat) (W : Nat → Nat) (hj : j < (rn v)) (hn : (rn v) ≤ 8) (hL : rL (rf v) k W) : zM l yX1_daysUntilClear wsX1_daysUntilClear 5 111 0 0 [.ref (gg 0), .int (nI j)] [(cI, .int)] D (wX1 gg cI v) (wX1 gg cI (runS (vt v 0) k W j 1)) (some (.int (runR (vt v 0) k W j 1))) := by
  refine z_met (cc := cX1_daysUntilClear) (maxL := 2) (ret := (some .int)) (by decide) rfl (Nat.le_of_ble_eq_true rfl) ?_
  intro p e s m args below meth c A C hr hlocks
  have inl : ∀ w ∈ u_ws RX1 TX1 4, w ∈ wsX1_daysUntilClear := by decide +kernel
  have wd0 : Cond.fieldLink RX1 16 "SaltOrderModel" "thrown" "I" ∈ wsX1_daysUntilClear := by decide +kernel
  refine z_sub (L' := [(0, .ref (gg 0)), (1, .int (nI j))]) [0, 1] rfl ?_
  refine z_aload_n C 0 dX1_daysUntilClear_0 rfl rfl ?_
  refine z_iconst (v := 0) C dX1_daysUntilClear_1 (by decide) ?_
  refine z_put1 (ws' := (wX1 gg cI (0, rn v, rf v, rk v))) C inl 0 0 (by decide) rfl rfl (by decide) rfl wd0 dX1_daysUntilClear_2 ?_
  refine z_aload_n C 0 dX1_daysUntilClear_5 rfl rfl ?_
  refine z_iload_n C 1 dX1_daysUntilClear_6 rfl rfl ?_
  refine z_callV (w := (wX1 gg cI (0, rn v, rf v, rk v))) (w' := (wX1 gg cI (0, rn v, rf v, rk v))) (w1 := ([] : va_W)) (w2 := ([] : va_W)) (ws' := (wX1 gg cI (0, rn v, rf v, rk v))) (As := [.int (nI j)]) (rest := []) (st' := [.int (isin (nI j) 0 (nI (rn v) - 1))]) (rv := some (.int (isin (nI j) 0 (nI (rn v) - 1)))) C (c_X1_isMember l D gg cI (0, rn v, rf v, rk v) (nI j)) (cwV 1 C.words gX1_daysUntilClear_X1_isMember rfl rfl rfl (by decide +kernel) ⟨(Nat.le_of_ble_eq_true rfl), (Nat.le_of_ble_eq_true rfl)⟩) (q0 := 0) (ci := 1) rfl rfl rfl [0] rfl rfl (Nat.le_of_ble_eq_true rfl) ⟨(Nat.le_of_ble_eq_true rfl), (Nat.le_of_ble_eq_true rfl)⟩ rfl rfl rfl rfl rfl dX1_daysUntilClear_7 ?_
  refine z_if_eq (tgt := 22) C dX1_daysUntilClear_10 (by decide) (fun h9 => absurd h9 ((by rw [isin_m hj (by omega)]; decide))) (fun _ => ?_)
  refine z_aload_n C 0 dX1_daysUntilClear_13 rfl rfl ?_
  refine z_iload_n C 1 dX1_daysUntilClear_14 rfl rfl ?_
  refine z_iconst (v := 1) C dX1_daysUntilClear_15 (by decide) ?_
  obtain ⟨v1, hv1⟩ : ∃ z, z = runS (0, rn v, rf v, rk v) k W j 1 := ⟨_, rfl⟩
  refine z_callV (w := (wX1 gg cI (0, rn v, rf v, rk v))) (w' := (wX1 gg cI v1)) (w1 := ([] : va_W)) (w2 := ([] : va_W)) (ws' := (wX1 gg cI v1)) (As := [.int (nI j), .int 1]) (rest := []) (st' := [.int (runR (0, rn v, rf v, rk v) k W j 1)]) (rv := some (.int (runR (0, rn v, rf v, rk v) k W j 1))) C (by rw [hv1]; exact c_X1_until l D gg cI (0, rn v, rf v, rk v) j 1 k W (by omega) (by omega) hL (by first | exact hn | omega)) (cwV 2 C.words gX1_daysUntilClear_X1_until rfl rfl rfl (by decide +kernel) ⟨(Nat.le_of_ble_eq_true rfl), (Nat.le_of_ble_eq_true rfl)⟩) (q0 := 0) (ci := 1) rfl rfl rfl [0] rfl rfl (Nat.le_of_ble_eq_true rfl) ⟨(Nat.le_of_ble_eq_true rfl), (Nat.le_of_ble_eq_true rfl)⟩ rfl rfl rfl rfl rfl dX1_daysUntilClear_16 ?_
  refine z_goto (tgt := 27) C dX1_daysUntilClear_19 (by decide) ?_
  subst hv1
  exact z_iret C hr hlocks (Nat.le_of_ble_eq_true rfl) (Nat.le_of_ble_eq_true rfl) dX1_daysUntilClear_27 (by first | rfl | (simp only [vt, ↓reduceIte]; done) | (simp only [vt, ↓reduceIte]; rfl)) (congrArg (wX1 gg cI) (by first | rfl | (simp only [vt, ↓reduceIte]; done) | (simp only [vt, ↓reduceIte]; rfl)))
set_option maxHeartbeats 4000000 in
set_option maxRecDepth 100000 in
theorem c_X1_daysUntilClear_bad (l : Launch) (D : va_G) (gg : Nat → Nat) (cI : ClassId) (v : S1) (x : Int32) (hm : isin x 0 (nI (rn v) - 1) = 0) : zM l yX1_daysUntilClear wsX1_daysUntilClear 2 43 0 0 [.ref (gg 0), .int x] [(cI, .int)] D (wX1 gg cI v) (wX1 gg cI (vt v 1)) (some (.int 0)) := by
  refine z_met (cc := cX1_daysUntilClear) (maxL := 2) (ret := (some .int)) (by decide) rfl (Nat.le_of_ble_eq_true rfl) ?_
  intro p e s m args below meth c A C hr hlocks
  have inl : ∀ w ∈ u_ws RX1 TX1 4, w ∈ wsX1_daysUntilClear := by decide +kernel
  have wd0 : Cond.fieldLink RX1 16 "SaltOrderModel" "thrown" "I" ∈ wsX1_daysUntilClear := by decide +kernel
  refine z_sub (L' := [(0, .ref (gg 0)), (1, .int x)]) [0, 1] rfl ?_
  refine z_aload_n C 0 dX1_daysUntilClear_0 rfl rfl ?_
  refine z_iconst (v := 0) C dX1_daysUntilClear_1 (by decide) ?_
  refine z_put1 (ws' := (wX1 gg cI (0, rn v, rf v, rk v))) C inl 0 0 (by decide) rfl rfl (by decide) rfl wd0 dX1_daysUntilClear_2 ?_
  refine z_aload_n C 0 dX1_daysUntilClear_5 rfl rfl ?_
  refine z_iload_n C 1 dX1_daysUntilClear_6 rfl rfl ?_
  refine z_callV (w := (wX1 gg cI (0, rn v, rf v, rk v))) (w' := (wX1 gg cI (0, rn v, rf v, rk v))) (w1 := ([] : va_W)) (w2 := ([] : va_W)) (ws' := (wX1 gg cI (0, rn v, rf v, rk v))) (As := [.int x]) (rest := []) (st' := [.int (isin x 0 (nI (rn v) - 1))]) (rv := some (.int (isin x 0 (nI (rn v) - 1)))) C (c_X1_isMember l D gg cI (0, rn v, rf v, rk v) x) (cwV 1 C.words gX1_daysUntilClear_X1_isMember rfl rfl rfl (by decide +kernel) ⟨(Nat.le_of_ble_eq_true rfl), (Nat.le_of_ble_eq_true rfl)⟩) (q0 := 0) (ci := 1) rfl rfl rfl [0] rfl rfl (Nat.le_of_ble_eq_true rfl) ⟨(Nat.le_of_ble_eq_true rfl), (Nat.le_of_ble_eq_true rfl)⟩ rfl rfl rfl rfl rfl dX1_daysUntilClear_7 ?_
  refine z_if_eq (tgt := 22) C dX1_daysUntilClear_10 (by decide) (fun _ => ?_) (fun h9 => absurd (hm) h9)
  refine z_aload_n C 0 dX1_daysUntilClear_22 rfl rfl ?_
  refine z_iconst (v := 1) C dX1_daysUntilClear_23 (by decide) ?_
  obtain ⟨v1, hv1⟩ : ∃ z, z = vt (0, rn v, rf v, rk v) 1 := ⟨_, rfl⟩
  refine z_callV (w := (wX1 gg cI (0, rn v, rf v, rk v))) (w' := (wX1 gg cI v1)) (w1 := ([] : va_W)) (w2 := ([] : va_W)) (ws' := (wX1 gg cI v1)) (As := [.int 1]) (rest := []) (st' := [.int 0]) (rv := some (.int 0)) C (by rw [hv1]; exact c_X1_fail l D gg cI (0, rn v, rf v, rk v) 1) (cwV 1 C.words gX1_daysUntilClear_X1_fail rfl rfl rfl (by decide +kernel) ⟨(Nat.le_of_ble_eq_true rfl), (Nat.le_of_ble_eq_true rfl)⟩) (q0 := 0) (ci := 1) rfl rfl rfl [0] rfl rfl (Nat.le_of_ble_eq_true rfl) ⟨(Nat.le_of_ble_eq_true rfl), (Nat.le_of_ble_eq_true rfl)⟩ rfl rfl rfl rfl rfl dX1_daysUntilClear_24 ?_
  subst hv1
  exact z_iret C hr hlocks (Nat.le_of_ble_eq_true rfl) (Nat.le_of_ble_eq_true rfl) dX1_daysUntilClear_27 rfl (congrArg (wX1 gg cI) (by first | rfl | (simp only [vt, ↓reduceIte]; done) | (simp only [vt, ↓reduceIte]; rfl)))
set_option maxHeartbeats 4000000 in
set_option maxRecDepth 100000 in
theorem c_X1_daysUntilUnlucky (l : Launch) (D : va_G) (gg : Nat → Nat) (cI : ClassId) (v : S1) (j : Nat) (k : Nat) (W : Nat → Nat) (hj : j < (rn v)) (hn : (rn v) ≤ 8) (hL : rL (rf v) k W) : zM l yX1_daysUntilUnlucky wsX1_daysUntilUnlucky 5 111 0 0 [.ref (gg 0), .int (nI j)] [(cI, .int)] D (wX1 gg cI v) (wX1 gg cI (runS (vt v 0) k W j 0)) (some (.int (runR (vt v 0) k W j 0))) := by
  refine z_met (cc := cX1_daysUntilUnlucky) (maxL := 2) (ret := (some .int)) (by decide) rfl (Nat.le_of_ble_eq_true rfl) ?_
  intro p e s m args below meth c A C hr hlocks
  have inl : ∀ w ∈ u_ws RX1 TX1 4, w ∈ wsX1_daysUntilUnlucky := by decide +kernel
  have wd0 : Cond.fieldLink RX1 16 "SaltOrderModel" "thrown" "I" ∈ wsX1_daysUntilUnlucky := by decide +kernel
  refine z_sub (L' := [(0, .ref (gg 0)), (1, .int (nI j))]) [0, 1] rfl ?_
  refine z_aload_n C 0 dX1_daysUntilUnlucky_0 rfl rfl ?_
  refine z_iconst (v := 0) C dX1_daysUntilUnlucky_1 (by decide) ?_
  refine z_put1 (ws' := (wX1 gg cI (0, rn v, rf v, rk v))) C inl 0 0 (by decide) rfl rfl (by decide) rfl wd0 dX1_daysUntilUnlucky_2 ?_
  refine z_aload_n C 0 dX1_daysUntilUnlucky_5 rfl rfl ?_
  refine z_iload_n C 1 dX1_daysUntilUnlucky_6 rfl rfl ?_
  refine z_callV (w := (wX1 gg cI (0, rn v, rf v, rk v))) (w' := (wX1 gg cI (0, rn v, rf v, rk v))) (w1 := ([] : va_W)) (w2 := ([] : va_W)) (ws' := (wX1 gg cI (0, rn v, rf v, rk v))) (As := [.int (nI j)]) (rest := []) (st' := [.int (isin (nI j) 0 (nI (rn v) - 1))]) (rv := some (.int (isin (nI j) 0 (nI (rn v) - 1)))) C (c_X1_isMember l D gg cI (0, rn v, rf v, rk v) (nI j)) (cwV 1 C.words gX1_daysUntilUnlucky_X1_isMember rfl rfl rfl (by decide +kernel) ⟨(Nat.le_of_ble_eq_true rfl), (Nat.le_of_ble_eq_true rfl)⟩) (q0 := 0) (ci := 1) rfl rfl rfl [0] rfl rfl (Nat.le_of_ble_eq_true rfl) ⟨(Nat.le_of_ble_eq_true rfl), (Nat.le_of_ble_eq_true rfl)⟩ rfl rfl rfl rfl rfl dX1_daysUntilUnlucky_7 ?_
  refine z_if_eq (tgt := 22) C dX1_daysUntilUnlucky_10 (by decide) (fun h9 => absurd h9 ((by rw [isin_m hj (by omega)]; decide))) (fun _ => ?_)
  refine z_aload_n C 0 dX1_daysUntilUnlucky_13 rfl rfl ?_
  refine z_iload_n C 1 dX1_daysUntilUnlucky_14 rfl rfl ?_
  refine z_iconst (v := 0) C dX1_daysUntilUnlucky_15 (by decide) ?_
  obtain ⟨v1, hv1⟩ : ∃ z, z = runS (0, rn v, rf v, rk v) k W j 0 := ⟨_, rfl⟩
  refine z_callV (w := (wX1 gg cI (0, rn v, rf v, rk v))) (w' := (wX1 gg cI v1)) (w1 := ([] : va_W)) (w2 := ([] : va_W)) (ws' := (wX1 gg cI v1)) (As := [.int (nI j), .int 0]) (rest := []) (st' := [.int (runR (0, rn v, rf v, rk v) k W j 0)]) (rv := some (.int (runR (0, rn v, rf v, rk v) k W j 0))) C (by rw [hv1]; exact c_X1_until l D gg cI (0, rn v, rf v, rk v) j 0 k W (by omega) (by omega) hL (by first | exact hn | omega)) (cwV 2 C.words gX1_daysUntilUnlucky_X1_until rfl rfl rfl (by decide +kernel) ⟨(Nat.le_of_ble_eq_true rfl), (Nat.le_of_ble_eq_true rfl)⟩) (q0 := 0) (ci := 1) rfl rfl rfl [0] rfl rfl (Nat.le_of_ble_eq_true rfl) ⟨(Nat.le_of_ble_eq_true rfl), (Nat.le_of_ble_eq_true rfl)⟩ rfl rfl rfl rfl rfl dX1_daysUntilUnlucky_16 ?_
  refine z_goto (tgt := 27) C dX1_daysUntilUnlucky_19 (by decide) ?_
  subst hv1
  exact z_iret C hr hlocks (Nat.le_of_ble_eq_true rfl) (Nat.le_of_ble_eq_true rfl) dX1_daysUntilUnlucky_27 (by first | rfl | (simp only [vt, ↓reduceIte]; done) | (simp only [vt, ↓reduceIte]; rfl)) (congrArg (wX1 gg cI) (by first | rfl | (simp only [vt, ↓reduceIte]; done) | (simp only [vt, ↓reduceIte]; rfl)))
set_option maxHeartbeats 4000000 in
set_option maxRecDepth 100000 in
theorem c_X1_daysUntilUnlucky_bad (l : Launch) (D : va_G) (gg : Nat → Nat) (cI : ClassId) (v : S1) (x : Int32) (hm : isin x 0 (nI (rn v) - 1) = 0) : zM l yX1_daysUntilUnlucky wsX1_daysUntilUnlucky 2 43 0 0 [.ref (gg 0), .int x] [(cI, .int)] D (wX1 gg cI v) (wX1 gg cI (vt v 1)) (some (.int 0)) := by
  refine z_met (cc := cX1_daysUntilUnlucky) (maxL := 2) (ret := (some .int)) (by decide) rfl (Nat.le_of_ble_eq_true rfl) ?_
  intro p e s m args below meth c A C hr hlocks
  have inl : ∀ w ∈ u_ws RX1 TX1 4, w ∈ wsX1_daysUntilUnlucky := by decide +kernel
  have wd0 : Cond.fieldLink RX1 16 "SaltOrderModel" "thrown" "I" ∈ wsX1_daysUntilUnlucky := by decide +kernel
  refine z_sub (L' := [(0, .ref (gg 0)), (1, .int x)]) [0, 1] rfl ?_
  refine z_aload_n C 0 dX1_daysUntilUnlucky_0 rfl rfl ?_
  refine z_iconst (v := 0) C dX1_daysUntilUnlucky_1 (by decide) ?_
  refine z_put1 (ws' := (wX1 gg cI (0, rn v, rf v, rk v))) C inl 0 0 (by decide) rfl rfl (by decide) rfl wd0 dX1_daysUntilUnlucky_2 ?_
  refine z_aload_n C 0 dX1_daysUntilUnlucky_5 rfl rfl ?_
  refine z_iload_n C 1 dX1_daysUntilUnlucky_6 rfl rfl ?_
  refine z_callV (w := (wX1 gg cI (0, rn v, rf v, rk v))) (w' := (wX1 gg cI (0, rn v, rf v, rk v))) (w1 := ([] : va_W)) (w2 := ([] : va_W)) (ws' := (wX1 gg cI (0, rn v, rf v, rk v))) (As := [.int x]) (rest := []) (st' := [.int (isin x 0 (nI (rn v) - 1))]) (rv := some (.int (isin x 0 (nI (rn v) - 1)))) C (c_X1_isMember l D gg cI (0, rn v, rf v, rk v) x) (cwV 1 C.words gX1_daysUntilUnlucky_X1_isMember rfl rfl rfl (by decide +kernel) ⟨(Nat.le_of_ble_eq_true rfl), (Nat.le_of_ble_eq_true rfl)⟩) (q0 := 0) (ci := 1) rfl rfl rfl [0] rfl rfl (Nat.le_of_ble_eq_true rfl) ⟨(Nat.le_of_ble_eq_true rfl), (Nat.le_of_ble_eq_true rfl)⟩ rfl rfl rfl rfl rfl dX1_daysUntilUnlucky_7 ?_
  refine z_if_eq (tgt := 22) C dX1_daysUntilUnlucky_10 (by decide) (fun _ => ?_) (fun h9 => absurd (hm) h9)
  refine z_aload_n C 0 dX1_daysUntilUnlucky_22 rfl rfl ?_
  refine z_iconst (v := 1) C dX1_daysUntilUnlucky_23 (by decide) ?_
  obtain ⟨v1, hv1⟩ : ∃ z, z = vt (0, rn v, rf v, rk v) 1 := ⟨_, rfl⟩
  refine z_callV (w := (wX1 gg cI (0, rn v, rf v, rk v))) (w' := (wX1 gg cI v1)) (w1 := ([] : va_W)) (w2 := ([] : va_W)) (ws' := (wX1 gg cI v1)) (As := [.int 1]) (rest := []) (st' := [.int 0]) (rv := some (.int 0)) C (by rw [hv1]; exact c_X1_fail l D gg cI (0, rn v, rf v, rk v) 1) (cwV 1 C.words gX1_daysUntilUnlucky_X1_fail rfl rfl rfl (by decide +kernel) ⟨(Nat.le_of_ble_eq_true rfl), (Nat.le_of_ble_eq_true rfl)⟩) (q0 := 0) (ci := 1) rfl rfl rfl [0] rfl rfl (Nat.le_of_ble_eq_true rfl) ⟨(Nat.le_of_ble_eq_true rfl), (Nat.le_of_ble_eq_true rfl)⟩ rfl rfl rfl rfl rfl dX1_daysUntilUnlucky_24 ?_
  subst hv1
  exact z_iret C hr hlocks (Nat.le_of_ble_eq_true rfl) (Nat.le_of_ble_eq_true rfl) dX1_daysUntilUnlucky_27 rfl (congrArg (wX1 gg cI) (by first | rfl | (simp only [vt, ↓reduceIte]; done) | (simp only [vt, ↓reduceIte]; rfl)))
set_option maxHeartbeats 4000000 in
set_option maxRecDepth 100000 in
theorem c_X1_luckIn (l : Launch) (D : va_G) (gg : Nat → Nat) (cI : ClassId) (v : S1) (j d : Nat) (k : Nat) (W : Nat → Nat) (hj : j < (rn v)) (hn : (rn v) ≤ 8) (h1 : 1 ≤ d) (h2 : d ≤ 60) (hL : rL (rf v) k W) : zM l yX1_luckIn wsX1_luckIn 5 111 0 0 [.ref (gg 0), .int (nI j), .int (nI d)] [(cI, .int)] D (wX1 gg cI v) (wX1 gg cI (rback (vf (rkeep (vt v 0)) (rdp (rf v) (rn v) k W d).1))) (some (.int ((rdp (rf v) (rn v) k W d).1 (mi j 0)))) := by
  refine z_met (cc := cX1_luckIn) (maxL := 4) (ret := (some .int)) (by decide) rfl (Nat.le_of_ble_eq_true rfl) ?_
  intro p e s m args below meth c A C hr hlocks
  have inl : ∀ w ∈ u_ws RX1 TX1 4, w ∈ wsX1_luckIn := by decide +kernel
  have wd0 : Cond.fieldLink RX1 16 "SaltOrderModel" "thrown" "I" ∈ wsX1_luckIn := by decide +kernel
  refine z_sub (L' := [(0, .ref (gg 0)), (1, .int (nI j)), (2, .int (nI d))]) [0, 1, 2] rfl ?_
  refine z_aload_n C 0 dX1_luckIn_0 rfl rfl ?_
  refine z_iconst (v := 0) C dX1_luckIn_1 (by decide) ?_
  refine z_put1 (ws' := (wX1 gg cI (0, rn v, rf v, rk v))) C inl 0 0 (by decide) rfl rfl (by decide) rfl wd0 dX1_luckIn_2 ?_
  refine z_aload_n C 0 dX1_luckIn_5 rfl rfl ?_
  refine z_iload_n C 1 dX1_luckIn_6 rfl rfl ?_
  refine z_callV (w := (wX1 gg cI (0, rn v, rf v, rk v))) (w' := (wX1 gg cI (0, rn v, rf v, rk v))) (w1 := ([] : va_W)) (w2 := ([] : va_W)) (ws' := (wX1 gg cI (0, rn v, rf v, rk v))) (As := [.int (nI j)]) (rest := []) (st' := [.int (isin (nI j) 0 (nI (rn v) - 1))]) (rv := some (.int (isin (nI j) 0 (nI (rn v) - 1)))) C (c_X1_isMember l D gg cI (0, rn v, rf v, rk v) (nI j)) (cwV 1 C.words gX1_luckIn_X1_isMember rfl rfl rfl (by decide +kernel) ⟨(Nat.le_of_ble_eq_true rfl), (Nat.le_of_ble_eq_true rfl)⟩) (q0 := 0) (ci := 1) rfl rfl rfl [0] rfl rfl (Nat.le_of_ble_eq_true rfl) ⟨(Nat.le_of_ble_eq_true rfl), (Nat.le_of_ble_eq_true rfl)⟩ rfl rfl rfl rfl rfl dX1_luckIn_7 ?_
  refine z_if_ne (tgt := 19) C dX1_luckIn_10 (by decide) (fun _ => ?_) (fun h9 => absurd h9 ((by rw [isin_m hj (by omega)]; decide)))
  refine z_iload_n C 2 dX1_luckIn_19 rfl rfl ?_
  refine z_iconst (v := 1) C dX1_luckIn_20 (by decide) ?_
  refine z_bipush (v := 60) C dX1_luckIn_21 (by decide) ?_
  refine z_callS (w := ([] : va_W)) (w' := ([] : va_W)) (w1 := (wX1 gg cI (0, rn v, rf v, rk v))) (w2 := ([] : va_W)) (ws' := (wX1 gg cI (0, rn v, rf v, rk v))) (As := [.int (nI d), .int 1, .int 60]) (rest := []) (st' := [.int (isin (nI d) 1 60)]) (rv := some (.int (isin (nI d) 1 60))) C (c_X1_isIn l D (nI d) 1 60) (va_cwS 3 C.words gX1_luckIn_X1_isIn rfl rfl rfl (by decide +kernel) ⟨(Nat.le_of_ble_eq_true rfl), (Nat.le_of_ble_eq_true rfl)⟩) [] rfl rfl (Nat.le_of_ble_eq_true rfl) ⟨(Nat.le_of_ble_eq_true rfl), (Nat.le_of_ble_eq_true rfl)⟩ rfl rfl rfl rfl rfl dX1_luckIn_23 ?_
  refine z_if_ne (tgt := 35) C dX1_luckIn_26 (by decide) (fun _ => ?_) (fun h9 => absurd h9 ((by rw [show isin (nI d) 1 60 = 1 from isin_r (lo := 1) (hi := 60) h1 h2 (by omega)]; decide)))
  refine z_aload_n C 0 dX1_luckIn_35 rfl rfl ?_
  obtain ⟨v1, hv1⟩ : ∃ z, z = rkeep (0, rn v, rf v, rk v) := ⟨_, rfl⟩
  refine z_callV (w := (wX1 gg cI (0, rn v, rf v, rk v))) (w' := (wX1 gg cI v1)) (w1 := ([] : va_W)) (w2 := ([] : va_W)) (ws' := (wX1 gg cI v1)) (As := []) (rest := []) (st' := []) (rv := none) C (by rw [hv1]; exact c_X1_keep l D gg cI (0, rn v, rf v, rk v)) (cwV 0 C.words gX1_luckIn_X1_keep rfl rfl rfl (by decide +kernel) ⟨(Nat.le_of_ble_eq_true rfl), (Nat.le_of_ble_eq_true rfl)⟩) (q0 := 0) (ci := 1) rfl rfl rfl [0] rfl rfl (Nat.le_of_ble_eq_true rfl) ⟨(Nat.le_of_ble_eq_true rfl), (Nat.le_of_ble_eq_true rfl)⟩ rfl rfl rfl rfl rfl dX1_luckIn_36 ?_
  have hL : rL (rf v1) k W := by rw [hv1]; exact hL
  have hn : rn v1 ≤ 8 := by rw [hv1]; exact hn
  refine z_aload_n C 0 dX1_luckIn_39 rfl rfl ?_
  refine z_iload_n C 2 dX1_luckIn_40 rfl rfl ?_
  obtain ⟨v2, hv2⟩ : ∃ z, z = vf v1 (rdp (rf v1) (rn v1) k W d).1 := ⟨_, rfl⟩
  refine z_callV (w := (wX1 gg cI v1)) (w' := (wX1 gg cI v2)) (w1 := ([] : va_W)) (w2 := ([] : va_W)) (ws' := (wX1 gg cI v2)) (As := [.int (nI d)]) (rest := []) (st' := [.int (rdpF (rf v1) (rn v1) k W d)]) (rv := some (.int (rdpF (rf v1) (rn v1) k W d))) C (by rw [hv2]; exact c_X1_daysOn l D gg cI v1 d k W (by omega) hL (by first | exact hn | omega)) (cwV 1 C.words gX1_luckIn_X1_daysOn rfl rfl rfl (by decide +kernel) ⟨(Nat.le_of_ble_eq_true rfl), (Nat.le_of_ble_eq_true rfl)⟩) (q0 := 0) (ci := 1) rfl rfl rfl [0] rfl rfl (Nat.le_of_ble_eq_true rfl) ⟨(Nat.le_of_ble_eq_true rfl), (Nat.le_of_ble_eq_true rfl)⟩ rfl rfl rfl rfl rfl dX1_luckIn_41 ?_
  refine z_pop C dX1_luckIn_44 rfl ?_
  refine z_aload_n C 0 dX1_luckIn_45 rfl rfl ?_
  refine z_iload_n C 1 dX1_luckIn_46 rfl rfl ?_
  refine z_iconst (v := 0) C dX1_luckIn_47 (by decide) ?_
  refine z_callV (w := (wX1 gg cI v2)) (w' := (wX1 gg cI v2)) (w1 := ([] : va_W)) (w2 := ([] : va_W)) (ws' := (wX1 gg cI v2)) (As := [.int (nI j), .int 0]) (rest := []) (st' := [.int ((rf v2) (mi j 0))]) (rv := some (.int ((rf v2) (mi j 0)))) C (c_X1_me l D gg cI v2 j 0 (by omega) (by omega)) (cwV 2 C.words gX1_luckIn_X1_me rfl rfl rfl (by decide +kernel) ⟨(Nat.le_of_ble_eq_true rfl), (Nat.le_of_ble_eq_true rfl)⟩) (q0 := 0) (ci := 1) rfl rfl rfl [0] rfl rfl (Nat.le_of_ble_eq_true rfl) ⟨(Nat.le_of_ble_eq_true rfl), (Nat.le_of_ble_eq_true rfl)⟩ rfl rfl rfl rfl rfl dX1_luckIn_48 ?_
  refine z_istore_n (L' := [(3, .int ((rf v2) (mi j 0))), (0, .ref (gg 0)), (1, .int (nI j)), (2, .int (nI d))]) C dX1_luckIn_51 rfl (by decide) rfl ?_
  refine z_aload_n C 1 dX1_luckIn_52 rfl rfl ?_
  obtain ⟨v3, hv3⟩ : ∃ z, z = rback v2 := ⟨_, rfl⟩
  refine z_callV (w := (wX1 gg cI v2)) (w' := (wX1 gg cI v3)) (w1 := ([] : va_W)) (w2 := ([] : va_W)) (ws' := (wX1 gg cI v3)) (As := []) (rest := []) (st' := []) (rv := none) C (by rw [hv3]; exact c_X1_bringBack l D gg cI v2) (cwV 0 C.words gX1_luckIn_X1_bringBack rfl rfl rfl (by decide +kernel) ⟨(Nat.le_of_ble_eq_true rfl), (Nat.le_of_ble_eq_true rfl)⟩) (q0 := 0) (ci := 1) rfl rfl rfl [0] rfl rfl (Nat.le_of_ble_eq_true rfl) ⟨(Nat.le_of_ble_eq_true rfl), (Nat.le_of_ble_eq_true rfl)⟩ rfl rfl rfl rfl rfl dX1_luckIn_53 ?_
  refine z_iload_n C 0 dX1_luckIn_56 rfl rfl ?_
  subst hv3
  subst hv2
  subst hv1
  exact z_iret C hr hlocks (Nat.le_of_ble_eq_true rfl) (Nat.le_of_ble_eq_true rfl) dX1_luckIn_57 (by first | rfl | (simp only [vt, ↓reduceIte]; done) | (simp only [vt, ↓reduceIte]; rfl)) (congrArg (wX1 gg cI) (by first | rfl | (simp only [vt, ↓reduceIte]; done) | (simp only [vt, ↓reduceIte]; rfl)))
set_option maxHeartbeats 4000000 in
set_option maxRecDepth 100000 in
theorem c_X1_luckIn_b1 (l : Launch) (D : va_G) (gg : Nat → Nat) (cI : ClassId) (v : S1) (x g : Int32) (hm : isin x 0 (nI (rn v) - 1) = 0) : zM l yX1_luckIn wsX1_luckIn 2 43 0 0 [.ref (gg 0), .int x, .int g] [(cI, .int)] D (wX1 gg cI v) (wX1 gg cI (vt v 1)) (some (.int 0)) := by
  refine z_met (cc := cX1_luckIn) (maxL := 4) (ret := (some .int)) (by decide) rfl (Nat.le_of_ble_eq_true rfl) ?_
  intro p e s m args below meth c A C hr hlocks
  have inl : ∀ w ∈ u_ws RX1 TX1 4, w ∈ wsX1_luckIn := by decide +kernel
  have wd0 : Cond.fieldLink RX1 16 "SaltOrderModel" "thrown" "I" ∈ wsX1_luckIn := by decide +kernel
  refine z_sub (L' := [(0, .ref (gg 0)), (1, .int x), (2, .int g)]) [0, 1, 2] rfl ?_
  refine z_aload_n C 0 dX1_luckIn_0 rfl rfl ?_
  refine z_iconst (v := 0) C dX1_luckIn_1 (by decide) ?_
  refine z_put1 (ws' := (wX1 gg cI (0, rn v, rf v, rk v))) C inl 0 0 (by decide) rfl rfl (by decide) rfl wd0 dX1_luckIn_2 ?_
  refine z_aload_n C 0 dX1_luckIn_5 rfl rfl ?_
  refine z_iload_n C 1 dX1_luckIn_6 rfl rfl ?_
  refine z_callV (w := (wX1 gg cI (0, rn v, rf v, rk v))) (w' := (wX1 gg cI (0, rn v, rf v, rk v))) (w1 := ([] : va_W)) (w2 := ([] : va_W)) (ws' := (wX1 gg cI (0, rn v, rf v, rk v))) (As := [.int x]) (rest := []) (st' := [.int (isin x 0 (nI (rn v) - 1))]) (rv := some (.int (isin x 0 (nI (rn v) - 1)))) C (c_X1_isMember l D gg cI (0, rn v, rf v, rk v) x) (cwV 1 C.words gX1_luckIn_X1_isMember rfl rfl rfl (by decide +kernel) ⟨(Nat.le_of_ble_eq_true rfl), (Nat.le_of_ble_eq_true rfl)⟩) (q0 := 0) (ci := 1) rfl rfl rfl [0] rfl rfl (Nat.le_of_ble_eq_true rfl) ⟨(Nat.le_of_ble_eq_true rfl), (Nat.le_of_ble_eq_true rfl)⟩ rfl rfl rfl rfl rfl dX1_luckIn_7 ?_
  refine z_if_ne (tgt := 19) C dX1_luckIn_10 (by decide) (fun h9 => absurd h9 ((fun h => h hm))) (fun _ => ?_)
  refine z_aload_n C 0 dX1_luckIn_13 rfl rfl ?_
  refine z_iconst (v := 1) C dX1_luckIn_14 (by decide) ?_
  obtain ⟨v1, hv1⟩ : ∃ z, z = vt (0, rn v, rf v, rk v) 1 := ⟨_, rfl⟩
  refine z_callV (w := (wX1 gg cI (0, rn v, rf v, rk v))) (w' := (wX1 gg cI v1)) (w1 := ([] : va_W)) (w2 := ([] : va_W)) (ws' := (wX1 gg cI v1)) (As := [.int 1]) (rest := []) (st' := [.int 0]) (rv := some (.int 0)) C (by rw [hv1]; exact c_X1_fail l D gg cI (0, rn v, rf v, rk v) 1) (cwV 1 C.words gX1_luckIn_X1_fail rfl rfl rfl (by decide +kernel) ⟨(Nat.le_of_ble_eq_true rfl), (Nat.le_of_ble_eq_true rfl)⟩) (q0 := 0) (ci := 1) rfl rfl rfl [0] rfl rfl (Nat.le_of_ble_eq_true rfl) ⟨(Nat.le_of_ble_eq_true rfl), (Nat.le_of_ble_eq_true rfl)⟩ rfl rfl rfl rfl rfl dX1_luckIn_15 ?_
  subst hv1
  exact z_iret C hr hlocks (Nat.le_of_ble_eq_true rfl) (Nat.le_of_ble_eq_true rfl) dX1_luckIn_18 rfl (congrArg (wX1 gg cI) (by first | rfl | (simp only [vt, ↓reduceIte]; done) | (simp only [vt, ↓reduceIte]; rfl)))
set_option maxHeartbeats 4000000 in
set_option maxRecDepth 100000 in
theorem c_X1_luckIn_b2 (l : Launch) (D : va_G) (gg : Nat → Nat) (cI : ClassId) (v : S1) (j : Nat) (g : Int32) (hj : j < (rn v)) (hn : (rn v) ≤ 8) (hg : isin g 1 60 = 0) : zM l yX1_luckIn wsX1_luckIn 2 43 0 0 [.ref (gg 0), .int (nI j), .int g] [(cI, .int)] D (wX1 gg cI v) (wX1 gg cI (vt v 2)) (some (.int 0)) := by
  refine z_met (cc := cX1_luckIn) (maxL := 4) (ret := (some .int)) (by decide) rfl (Nat.le_of_ble_eq_true rfl) ?_
  intro p e s m args below meth c A C hr hlocks
  have inl : ∀ w ∈ u_ws RX1 TX1 4, w ∈ wsX1_luckIn := by decide +kernel
  have wd0 : Cond.fieldLink RX1 16 "SaltOrderModel" "thrown" "I" ∈ wsX1_luckIn := by decide +kernel
  refine z_sub (L' := [(0, .ref (gg 0)), (1, .int (nI j)), (2, .int g)]) [0, 1, 2] rfl ?_
  refine z_aload_n C 0 dX1_luckIn_0 rfl rfl ?_
  refine z_iconst (v := 0) C dX1_luckIn_1 (by decide) ?_
  refine z_put1 (ws' := (wX1 gg cI (0, rn v, rf v, rk v))) C inl 0 0 (by decide) rfl rfl (by decide) rfl wd0 dX1_luckIn_2 ?_
  refine z_aload_n C 0 dX1_luckIn_5 rfl rfl ?_
  refine z_iload_n C 1 dX1_luckIn_6 rfl rfl ?_
  refine z_callV (w := (wX1 gg cI (0, rn v, rf v, rk v))) (w' := (wX1 gg cI (0, rn v, rf v, rk v))) (w1 := ([] : va_W)) (w2 := ([] : va_W)) (ws' := (wX1 gg cI (0, rn v, rf v, rk v))) (As := [.int (nI j)]) (rest := []) (st' := [.int (isin (nI j) 0 (nI (rn v) - 1))]) (rv := some (.int (isin (nI j) 0 (nI (rn v) - 1)))) C (c_X1_isMember l D gg cI (0, rn v, rf v, rk v) (nI j)) (cwV 1 C.words gX1_luckIn_X1_isMember rfl rfl rfl (by decide +kernel) ⟨(Nat.le_of_ble_eq_true rfl), (Nat.le_of_ble_eq_true rfl)⟩) (q0 := 0) (ci := 1) rfl rfl rfl [0] rfl rfl (Nat.le_of_ble_eq_true rfl) ⟨(Nat.le_of_ble_eq_true rfl), (Nat.le_of_ble_eq_true rfl)⟩ rfl rfl rfl rfl rfl dX1_luckIn_7 ?_
  refine z_if_ne (tgt := 19) C dX1_luckIn_10 (by decide) (fun _ => ?_) (fun h9 => absurd h9 ((by rw [isin_m hj (by omega)]; decide)))
  refine z_iload_n C 2 dX1_luckIn_19 rfl rfl ?_
  refine z_iconst (v := 1) C dX1_luckIn_20 (by decide) ?_
  refine z_bipush (v := 60) C dX1_luckIn_21 (by decide) ?_
  refine z_callS (w := ([] : va_W)) (w' := ([] : va_W)) (w1 := (wX1 gg cI (0, rn v, rf v, rk v))) (w2 := ([] : va_W)) (ws' := (wX1 gg cI (0, rn v, rf v, rk v))) (As := [.int g, .int 1, .int 60]) (rest := []) (st' := [.int (isin g 1 60)]) (rv := some (.int (isin g 1 60))) C (c_X1_isIn l D g 1 60) (va_cwS 3 C.words gX1_luckIn_X1_isIn rfl rfl rfl (by decide +kernel) ⟨(Nat.le_of_ble_eq_true rfl), (Nat.le_of_ble_eq_true rfl)⟩) [] rfl rfl (Nat.le_of_ble_eq_true rfl) ⟨(Nat.le_of_ble_eq_true rfl), (Nat.le_of_ble_eq_true rfl)⟩ rfl rfl rfl rfl rfl dX1_luckIn_23 ?_
  refine z_if_ne (tgt := 35) C dX1_luckIn_26 (by decide) (fun h9 => absurd h9 ((fun h => h hg))) (fun _ => ?_)
  refine z_aload_n C 0 dX1_luckIn_29 rfl rfl ?_
  refine z_iconst (v := 2) C dX1_luckIn_30 (by decide) ?_
  obtain ⟨v1, hv1⟩ : ∃ z, z = vt (0, rn v, rf v, rk v) 2 := ⟨_, rfl⟩
  refine z_callV (w := (wX1 gg cI (0, rn v, rf v, rk v))) (w' := (wX1 gg cI v1)) (w1 := ([] : va_W)) (w2 := ([] : va_W)) (ws' := (wX1 gg cI v1)) (As := [.int 2]) (rest := []) (st' := [.int 0]) (rv := some (.int 0)) C (by rw [hv1]; exact c_X1_fail l D gg cI (0, rn v, rf v, rk v) 2) (cwV 1 C.words gX1_luckIn_X1_fail rfl rfl rfl (by decide +kernel) ⟨(Nat.le_of_ble_eq_true rfl), (Nat.le_of_ble_eq_true rfl)⟩) (q0 := 0) (ci := 1) rfl rfl rfl [0] rfl rfl (Nat.le_of_ble_eq_true rfl) ⟨(Nat.le_of_ble_eq_true rfl), (Nat.le_of_ble_eq_true rfl)⟩ rfl rfl rfl rfl rfl dX1_luckIn_31 ?_
  subst hv1
  exact z_iret C hr hlocks (Nat.le_of_ble_eq_true rfl) (Nat.le_of_ble_eq_true rfl) dX1_luckIn_34 rfl (congrArg (wX1 gg cI) (by first | rfl | (simp only [vt, ↓reduceIte]; done) | (simp only [vt, ↓reduceIte]; rfl)))
set_option maxHeartbeats 4000000 in
set_option maxRecDepth 100000 in
theorem c_X1_bestPinch (l : Launch) (D : va_G) (gg : Nat → Nat) (cI : ClassId) (v : S1) (j sa : Nat) (k : Nat) (W : Nat → Nat) (hj : j < (rn v)) (hn : (rn v) ≤ 8) (hL : rL (rf v) k W) (hc : (rf v) 1 = nI sa) (hc5 : sa ≤ 500) : zM l yX1_bestPinch wsX1_bestPinch 6 137 0 0 [.ref (gg 0), .int (nI j)] [(cI, .int)] D (wX1 gg cI v) (wX1 gg cI (rpin (vt v 0) k W j sa)) (some (.int (rpinR (vt v 0) k W j sa))) := by
  refine z_met (cc := cX1_bestPinch) (maxL := 2) (ret := (some .int)) (by decide) rfl (Nat.le_of_ble_eq_true rfl) ?_
  intro p e s m args below meth c A C hr hlocks
  have inl : ∀ w ∈ u_ws RX1 TX1 4, w ∈ wsX1_bestPinch := by decide +kernel
  have wd0 : Cond.fieldLink RX1 16 "SaltOrderModel" "thrown" "I" ∈ wsX1_bestPinch := by decide +kernel
  refine z_sub (L' := [(0, .ref (gg 0)), (1, .int (nI j))]) [0, 1] rfl ?_
  refine z_aload_n C 0 dX1_bestPinch_0 rfl rfl ?_
  refine z_iconst (v := 0) C dX1_bestPinch_1 (by decide) ?_
  refine z_put1 (ws' := (wX1 gg cI (0, rn v, rf v, rk v))) C inl 0 0 (by decide) rfl rfl (by decide) rfl wd0 dX1_bestPinch_2 ?_
  refine z_aload_n C 0 dX1_bestPinch_5 rfl rfl ?_
  refine z_iload_n C 1 dX1_bestPinch_6 rfl rfl ?_
  refine z_callV (w := (wX1 gg cI (0, rn v, rf v, rk v))) (w' := (wX1 gg cI (0, rn v, rf v, rk v))) (w1 := ([] : va_W)) (w2 := ([] : va_W)) (ws' := (wX1 gg cI (0, rn v, rf v, rk v))) (As := [.int (nI j)]) (rest := []) (st' := [.int (isin (nI j) 0 (nI (rn v) - 1))]) (rv := some (.int (isin (nI j) 0 (nI (rn v) - 1)))) C (c_X1_isMember l D gg cI (0, rn v, rf v, rk v) (nI j)) (cwV 1 C.words gX1_bestPinch_X1_isMember rfl rfl rfl (by decide +kernel) ⟨(Nat.le_of_ble_eq_true rfl), (Nat.le_of_ble_eq_true rfl)⟩) (q0 := 0) (ci := 1) rfl rfl rfl [0] rfl rfl (Nat.le_of_ble_eq_true rfl) ⟨(Nat.le_of_ble_eq_true rfl), (Nat.le_of_ble_eq_true rfl)⟩ rfl rfl rfl rfl rfl dX1_bestPinch_7 ?_
  refine z_if_eq (tgt := 21) C dX1_bestPinch_10 (by decide) (fun h9 => absurd h9 ((by rw [isin_m hj (by omega)]; decide))) (fun _ => ?_)
  refine z_aload_n C 0 dX1_bestPinch_13 rfl rfl ?_
  refine z_iload_n C 1 dX1_bestPinch_14 rfl rfl ?_
  obtain ⟨v1, hv1⟩ : ∃ z, z = rpin (0, rn v, rf v, rk v) k W j sa := ⟨_, rfl⟩
  refine z_callV (w := (wX1 gg cI (0, rn v, rf v, rk v))) (w' := (wX1 gg cI v1)) (w1 := ([] : va_W)) (w2 := ([] : va_W)) (ws' := (wX1 gg cI v1)) (As := [.int (nI j)]) (rest := []) (st' := [.int (rpinR (0, rn v, rf v, rk v) k W j sa)]) (rv := some (.int (rpinR (0, rn v, rf v, rk v) k W j sa))) C (by rw [hv1]; exact c_X1_pinch l D gg cI (0, rn v, rf v, rk v) j sa k W (by omega) (by first | exact hn | omega) hL hc (by omega)) (cwV 1 C.words gX1_bestPinch_X1_pinch rfl rfl rfl (by decide +kernel) ⟨(Nat.le_of_ble_eq_true rfl), (Nat.le_of_ble_eq_true rfl)⟩) (q0 := 0) (ci := 1) rfl rfl rfl [0] rfl rfl (Nat.le_of_ble_eq_true rfl) ⟨(Nat.le_of_ble_eq_true rfl), (Nat.le_of_ble_eq_true rfl)⟩ rfl rfl rfl rfl rfl dX1_bestPinch_15 ?_
  refine z_goto (tgt := 26) C dX1_bestPinch_18 (by decide) ?_
  subst hv1
  exact z_iret C hr hlocks (Nat.le_of_ble_eq_true rfl) (Nat.le_of_ble_eq_true rfl) dX1_bestPinch_26 (by first | rfl | (simp only [vt, ↓reduceIte]; done) | (simp only [vt, ↓reduceIte]; rfl)) (congrArg (wX1 gg cI) (by first | rfl | (simp only [vt, ↓reduceIte]; done) | (simp only [vt, ↓reduceIte]; rfl)))
set_option maxHeartbeats 4000000 in
set_option maxRecDepth 100000 in
theorem c_X1_bestPinch_bad (l : Launch) (D : va_G) (gg : Nat → Nat) (cI : ClassId) (v : S1) (x : Int32) (hm : isin x 0 (nI (rn v) - 1) = 0) : zM l yX1_bestPinch wsX1_bestPinch 2 43 0 0 [.ref (gg 0), .int x] [(cI, .int)] D (wX1 gg cI v) (wX1 gg cI (vt v 1)) (some (.int 0)) := by
  refine z_met (cc := cX1_bestPinch) (maxL := 2) (ret := (some .int)) (by decide) rfl (Nat.le_of_ble_eq_true rfl) ?_
  intro p e s m args below meth c A C hr hlocks
  have inl : ∀ w ∈ u_ws RX1 TX1 4, w ∈ wsX1_bestPinch := by decide +kernel
  have wd0 : Cond.fieldLink RX1 16 "SaltOrderModel" "thrown" "I" ∈ wsX1_bestPinch := by decide +kernel
  refine z_sub (L' := [(0, .ref (gg 0)), (1, .int x)]) [0, 1] rfl ?_
  refine z_aload_n C 0 dX1_bestPinch_0 rfl rfl ?_
  refine z_iconst (v := 0) C dX1_bestPinch_1 (by decide) ?_
  refine z_put1 (ws' := (wX1 gg cI (0, rn v, rf v, rk v))) C inl 0 0 (by decide) rfl rfl (by decide) rfl wd0 dX1_bestPinch_2 ?_
  refine z_aload_n C 0 dX1_bestPinch_5 rfl rfl ?_
  refine z_iload_n C 1 dX1_bestPinch_6 rfl rfl ?_
  refine z_callV (w := (wX1 gg cI (0, rn v, rf v, rk v))) (w' := (wX1 gg cI (0, rn v, rf v, rk v))) (w1 := ([] : va_W)) (w2 := ([] : va_W)) (ws' := (wX1 gg cI (0, rn v, rf v, rk v))) (As := [.int x]) (rest := []) (st' := [.int (isin x 0 (nI (rn v) - 1))]) (rv := some (.int (isin x 0 (nI (rn v) - 1)))) C (c_X1_isMember l D gg cI (0, rn v, rf v, rk v) x) (cwV 1 C.words gX1_bestPinch_X1_isMember rfl rfl rfl (by decide +kernel) ⟨(Nat.le_of_ble_eq_true rfl), (Nat.le_of_ble_eq_true rfl)⟩) (q0 := 0) (ci := 1) rfl rfl rfl [0] rfl rfl (Nat.le_of_ble_eq_true rfl) ⟨(Nat.le_of_ble_eq_true rfl), (Nat.le_of_ble_eq_true rfl)⟩ rfl rfl rfl rfl rfl dX1_bestPinch_7 ?_
  refine z_if_eq (tgt := 21) C dX1_bestPinch_10 (by decide) (fun _ => ?_) (fun h9 => absurd (hm) h9)
  refine z_aload_n C 0 dX1_bestPinch_21 rfl rfl ?_
  refine z_iconst (v := 1) C dX1_bestPinch_22 (by decide) ?_
  obtain ⟨v1, hv1⟩ : ∃ z, z = vt (0, rn v, rf v, rk v) 1 := ⟨_, rfl⟩
  refine z_callV (w := (wX1 gg cI (0, rn v, rf v, rk v))) (w' := (wX1 gg cI v1)) (w1 := ([] : va_W)) (w2 := ([] : va_W)) (ws' := (wX1 gg cI v1)) (As := [.int 1]) (rest := []) (st' := [.int 0]) (rv := some (.int 0)) C (by rw [hv1]; exact c_X1_fail l D gg cI (0, rn v, rf v, rk v) 1) (cwV 1 C.words gX1_bestPinch_X1_fail rfl rfl rfl (by decide +kernel) ⟨(Nat.le_of_ble_eq_true rfl), (Nat.le_of_ble_eq_true rfl)⟩) (q0 := 0) (ci := 1) rfl rfl rfl [0] rfl rfl (Nat.le_of_ble_eq_true rfl) ⟨(Nat.le_of_ble_eq_true rfl), (Nat.le_of_ble_eq_true rfl)⟩ rfl rfl rfl rfl rfl dX1_bestPinch_23 ?_
  subst hv1
  exact z_iret C hr hlocks (Nat.le_of_ble_eq_true rfl) (Nat.le_of_ble_eq_true rfl) dX1_bestPinch_26 rfl (congrArg (wX1 gg cI) (by first | rfl | (simp only [vt, ↓reduceIte]; done) | (simp only [vt, ↓reduceIte]; rfl)))
set_option maxHeartbeats 4000000 in
set_option maxRecDepth 100000 in
theorem c_X1_bestPenance (l : Launch) (D : va_G) (gg : Nat → Nat) (cI : ClassId) (v : S1) (j : Nat) (k : Nat) (W : Nat → Nat) (hj : j < (rn v)) (hn : (rn v) ≤ 8) (hL : rL (rf v) k W) : zM l yX1_bestPenance wsX1_bestPenance 6 136 0 0 [.ref (gg 0), .int (nI j)] [(cI, .int)] D (wX1 gg cI v) (wX1 gg cI (rpen (vt v 0) k W j)) (some (.int (rpenR (vt v 0) k W j))) := by
  refine z_met (cc := cX1_bestPenance) (maxL := 2) (ret := (some .int)) (by decide) rfl (Nat.le_of_ble_eq_true rfl) ?_
  intro p e s m args below meth c A C hr hlocks
  have inl : ∀ w ∈ u_ws RX1 TX1 4, w ∈ wsX1_bestPenance := by decide +kernel
  have wd0 : Cond.fieldLink RX1 16 "SaltOrderModel" "thrown" "I" ∈ wsX1_bestPenance := by decide +kernel
  refine z_sub (L' := [(0, .ref (gg 0)), (1, .int (nI j))]) [0, 1] rfl ?_
  refine z_aload_n C 0 dX1_bestPenance_0 rfl rfl ?_
  refine z_iconst (v := 0) C dX1_bestPenance_1 (by decide) ?_
  refine z_put1 (ws' := (wX1 gg cI (0, rn v, rf v, rk v))) C inl 0 0 (by decide) rfl rfl (by decide) rfl wd0 dX1_bestPenance_2 ?_
  refine z_aload_n C 0 dX1_bestPenance_5 rfl rfl ?_
  refine z_iload_n C 1 dX1_bestPenance_6 rfl rfl ?_
  refine z_callV (w := (wX1 gg cI (0, rn v, rf v, rk v))) (w' := (wX1 gg cI (0, rn v, rf v, rk v))) (w1 := ([] : va_W)) (w2 := ([] : va_W)) (ws' := (wX1 gg cI (0, rn v, rf v, rk v))) (As := [.int (nI j)]) (rest := []) (st' := [.int (isin (nI j) 0 (nI (rn v) - 1))]) (rv := some (.int (isin (nI j) 0 (nI (rn v) - 1)))) C (c_X1_isMember l D gg cI (0, rn v, rf v, rk v) (nI j)) (cwV 1 C.words gX1_bestPenance_X1_isMember rfl rfl rfl (by decide +kernel) ⟨(Nat.le_of_ble_eq_true rfl), (Nat.le_of_ble_eq_true rfl)⟩) (q0 := 0) (ci := 1) rfl rfl rfl [0] rfl rfl (Nat.le_of_ble_eq_true rfl) ⟨(Nat.le_of_ble_eq_true rfl), (Nat.le_of_ble_eq_true rfl)⟩ rfl rfl rfl rfl rfl dX1_bestPenance_7 ?_
  refine z_if_eq (tgt := 21) C dX1_bestPenance_10 (by decide) (fun h9 => absurd h9 ((by rw [isin_m hj (by omega)]; decide))) (fun _ => ?_)
  refine z_aload_n C 0 dX1_bestPenance_13 rfl rfl ?_
  refine z_iload_n C 1 dX1_bestPenance_14 rfl rfl ?_
  obtain ⟨v1, hv1⟩ : ∃ z, z = rpen (0, rn v, rf v, rk v) k W j := ⟨_, rfl⟩
  refine z_callV (w := (wX1 gg cI (0, rn v, rf v, rk v))) (w' := (wX1 gg cI v1)) (w1 := ([] : va_W)) (w2 := ([] : va_W)) (ws' := (wX1 gg cI v1)) (As := [.int (nI j)]) (rest := []) (st' := [.int (rpenR (0, rn v, rf v, rk v) k W j)]) (rv := some (.int (rpenR (0, rn v, rf v, rk v) k W j))) C (by rw [hv1]; exact c_X1_penance l D gg cI (0, rn v, rf v, rk v) j k W (by omega) (by first | exact hn | omega) hL) (cwV 1 C.words gX1_bestPenance_X1_penance rfl rfl rfl (by decide +kernel) ⟨(Nat.le_of_ble_eq_true rfl), (Nat.le_of_ble_eq_true rfl)⟩) (q0 := 0) (ci := 1) rfl rfl rfl [0] rfl rfl (Nat.le_of_ble_eq_true rfl) ⟨(Nat.le_of_ble_eq_true rfl), (Nat.le_of_ble_eq_true rfl)⟩ rfl rfl rfl rfl rfl dX1_bestPenance_15 ?_
  refine z_goto (tgt := 26) C dX1_bestPenance_18 (by decide) ?_
  subst hv1
  exact z_iret C hr hlocks (Nat.le_of_ble_eq_true rfl) (Nat.le_of_ble_eq_true rfl) dX1_bestPenance_26 (by first | rfl | (simp only [vt, ↓reduceIte]; done) | (simp only [vt, ↓reduceIte]; rfl)) (congrArg (wX1 gg cI) (by first | rfl | (simp only [vt, ↓reduceIte]; done) | (simp only [vt, ↓reduceIte]; rfl)))
set_option maxHeartbeats 4000000 in
set_option maxRecDepth 100000 in
theorem c_X1_bestPenance_bad (l : Launch) (D : va_G) (gg : Nat → Nat) (cI : ClassId) (v : S1) (x : Int32) (hm : isin x 0 (nI (rn v) - 1) = 0) : zM l yX1_bestPenance wsX1_bestPenance 2 43 0 0 [.ref (gg 0), .int x] [(cI, .int)] D (wX1 gg cI v) (wX1 gg cI (vt v 1)) (some (.int 0)) := by
  refine z_met (cc := cX1_bestPenance) (maxL := 2) (ret := (some .int)) (by decide) rfl (Nat.le_of_ble_eq_true rfl) ?_
  intro p e s m args below meth c A C hr hlocks
  have inl : ∀ w ∈ u_ws RX1 TX1 4, w ∈ wsX1_bestPenance := by decide +kernel
  have wd0 : Cond.fieldLink RX1 16 "SaltOrderModel" "thrown" "I" ∈ wsX1_bestPenance := by decide +kernel
  refine z_sub (L' := [(0, .ref (gg 0)), (1, .int x)]) [0, 1] rfl ?_
  refine z_aload_n C 0 dX1_bestPenance_0 rfl rfl ?_
  refine z_iconst (v := 0) C dX1_bestPenance_1 (by decide) ?_
  refine z_put1 (ws' := (wX1 gg cI (0, rn v, rf v, rk v))) C inl 0 0 (by decide) rfl rfl (by decide) rfl wd0 dX1_bestPenance_2 ?_
  refine z_aload_n C 0 dX1_bestPenance_5 rfl rfl ?_
  refine z_iload_n C 1 dX1_bestPenance_6 rfl rfl ?_
  refine z_callV (w := (wX1 gg cI (0, rn v, rf v, rk v))) (w' := (wX1 gg cI (0, rn v, rf v, rk v))) (w1 := ([] : va_W)) (w2 := ([] : va_W)) (ws' := (wX1 gg cI (0, rn v, rf v, rk v))) (As := [.int x]) (rest := []) (st' := [.int (isin x 0 (nI (rn v) - 1))]) (rv := some (.int (isin x 0 (nI (rn v) - 1)))) C (c_X1_isMember l D gg cI (0, rn v, rf v, rk v) x) (cwV 1 C.words gX1_bestPenance_X1_isMember rfl rfl rfl (by decide +kernel) ⟨(Nat.le_of_ble_eq_true rfl), (Nat.le_of_ble_eq_true rfl)⟩) (q0 := 0) (ci := 1) rfl rfl rfl [0] rfl rfl (Nat.le_of_ble_eq_true rfl) ⟨(Nat.le_of_ble_eq_true rfl), (Nat.le_of_ble_eq_true rfl)⟩ rfl rfl rfl rfl rfl dX1_bestPenance_7 ?_
  refine z_if_eq (tgt := 21) C dX1_bestPenance_10 (by decide) (fun _ => ?_) (fun h9 => absurd (hm) h9)
  refine z_aload_n C 0 dX1_bestPenance_21 rfl rfl ?_
  refine z_iconst (v := 1) C dX1_bestPenance_22 (by decide) ?_
  obtain ⟨v1, hv1⟩ : ∃ z, z = vt (0, rn v, rf v, rk v) 1 := ⟨_, rfl⟩
  refine z_callV (w := (wX1 gg cI (0, rn v, rf v, rk v))) (w' := (wX1 gg cI v1)) (w1 := ([] : va_W)) (w2 := ([] : va_W)) (ws' := (wX1 gg cI v1)) (As := [.int 1]) (rest := []) (st' := [.int 0]) (rv := some (.int 0)) C (by rw [hv1]; exact c_X1_fail l D gg cI (0, rn v, rf v, rk v) 1) (cwV 1 C.words gX1_bestPenance_X1_fail rfl rfl rfl (by decide +kernel) ⟨(Nat.le_of_ble_eq_true rfl), (Nat.le_of_ble_eq_true rfl)⟩) (q0 := 0) (ci := 1) rfl rfl rfl [0] rfl rfl (Nat.le_of_ble_eq_true rfl) ⟨(Nat.le_of_ble_eq_true rfl), (Nat.le_of_ble_eq_true rfl)⟩ rfl rfl rfl rfl rfl dX1_bestPenance_23 ?_
  subst hv1
  exact z_iret C hr hlocks (Nat.le_of_ble_eq_true rfl) (Nat.le_of_ble_eq_true rfl) dX1_bestPenance_26 rfl (congrArg (wX1 gg cI) (by first | rfl | (simp only [vt, ↓reduceIte]; done) | (simp only [vt, ↓reduceIte]; rfl)))
set_option maxHeartbeats 4000000 in
set_option maxRecDepth 100000 in
theorem c_X1_meanLuck (l : Launch) (D : va_G) (gg : Nat → Nat) (cI : ClassId) (v : S1) (hn : (rn v) ≤ 8) (hf : ¬ nI (rn v) = 0 → vf_n64 (FP.ddiv (FP.i2d (rowS (rf v) 0 (rn v))) (FP.i2d (nI (rn v))))) : zM l yX1_meanLuck wsX1_meanLuck 1 22 0 0 [.ref (gg 0)] [(cI, .int)] D (wX1 gg cI v) (wX1 gg cI (vt v 0)) (some (.double (rmean v))) := by
  refine z_met (cc := cX1_meanLuck) (maxL := 3) (ret := (some .double)) (by decide) rfl (Nat.le_of_ble_eq_true rfl) ?_
  intro p e s m args below meth c A C hr hlocks
  have inl : ∀ w ∈ u_ws RX1 TX1 4, w ∈ wsX1_meanLuck := by decide +kernel
  have wd0 : Cond.fieldLink RX1 20 "SaltOrderModel" "members" "I" ∈ wsX1_meanLuck := by decide +kernel
  have wd1 : Cond.fieldLink RX1 16 "SaltOrderModel" "thrown" "I" ∈ wsX1_meanLuck := by decide +kernel
  refine z_sub (L' := [(0, .ref (gg 0))]) [0] rfl ?_
  have lp9 : ∀ (dd i : Nat), i + dd = rn v → zG p l e ({ frames := 1, cells := 0, slots := 0, locals := 22 } : Room) s m args below meth c D 3 A 0 0 (MQ below (zQ (some (.double (rmean v))) (fun t => va_P D vwCl (wX1 gg cI (vt v 0)) t.heap) A) args s 0 0 A) 9 [(0, .ref (gg 0)), (1, .int (rowS (rf v) 0 i)), (2, .int (nI i))] [] (wX1 gg cI (0, rn v, rf v, rk v)) := by
    intro dd
    induction dd with
    | zero =>
      intro i hi
      have hi : i = rn v := by omega
      subst hi
      refine z_iload_n C 2 dX1_meanLuck_9 rfl rfl ?_
      refine z_aload_n C 0 dX1_meanLuck_10 rfl rfl ?_
      refine z_get1 (v := .int (nI (rn v))) C inl 0 1 (by decide) rfl rfl wd0 dX1_meanLuck_11 ?_
      refine z_icmp_ge (tgt := 32) C dX1_meanLuck_14 (by decide) (fun _ => ?_) (fun h9 => absurd (nI_le (by omega) (by omega)) h9)
      refine z_aload_n C 0 dX1_meanLuck_32 rfl rfl ?_
      refine z_get1 (v := .int (nI (rn v))) C inl 0 1 (by decide) rfl rfl wd0 dX1_meanLuck_33 ?_
      refine z_if_ne (tgt := 43) C dX1_meanLuck_36 (by decide) (fun c36 => ?_) (fun c36 => ?_)
      · skip
        refine z_iload_n C 1 dX1_meanLuck_43 rfl rfl ?_
        refine z_i2d C dX1_meanLuck_44 ?_
        refine z_aload_n C 0 dX1_meanLuck_45 rfl rfl ?_
        refine z_get1 (v := .int (nI (rn v))) C inl 0 1 (by decide) rfl rfl wd0 dX1_meanLuck_46 ?_
        refine z_i2d C dX1_meanLuck_49 ?_
        refine z_ddiv C dX1_meanLuck_50 (hf c36) ?_
        exact z_dret C hr hlocks (Nat.le_of_ble_eq_true rfl) (Nat.le_of_ble_eq_true rfl) dX1_meanLuck_51 (by (unfold rmean; rw [if_neg c36])) (congrArg (wX1 gg cI) (by first | rfl | (simp only [rmean, vt, t36, ↓reduceIte]; done) | (simp only [rmean, vt, t36, ↓reduceIte]; rfl)))
      · skip
        refine z_dconst0 C dX1_meanLuck_39 ?_
        refine z_goto (tgt := 51) C dX1_meanLuck_40 (by decide) ?_
        exact z_dret C hr hlocks (Nat.le_of_ble_eq_true rfl) (Nat.le_of_ble_eq_true rfl) dX1_meanLuck_51 (by (unfold rmean; rw [if_pos c36])) (congrArg (wX1 gg cI) (by first | rfl | (simp only [rmean, vt, f36, ↓reduceIte]; done) | (simp only [rmean, vt, f36, ↓reduceIte]; rfl)))
    | succ dd ih =>
      intro i hi
      refine z_iload_n C 2 dX1_meanLuck_9 rfl rfl ?_
      refine z_aload_n C 0 dX1_meanLuck_10 rfl rfl ?_
      refine z_get1 (v := .int (nI (rn v))) C inl 0 1 (by decide) rfl rfl wd0 dX1_meanLuck_11 ?_
      refine z_icmp_ge (tgt := 32) C dX1_meanLuck_14 (by decide) (fun h9 => absurd h9 (nI_ge (by omega) (by omega))) (fun _ => ?_)
      refine z_iload_n C 1 dX1_meanLuck_17 rfl rfl ?_
      refine z_aload_n C 0 dX1_meanLuck_18 rfl rfl ?_
      refine z_iload_n C 2 dX1_meanLuck_19 rfl rfl ?_
      refine z_iconst (v := 0) C dX1_meanLuck_20 (by decide) ?_
      refine z_callV (w := (wX1 gg cI (0, rn v, rf v, rk v))) (w' := (wX1 gg cI (0, rn v, rf v, rk v))) (w1 := ([] : va_W)) (w2 := ([] : va_W)) (ws' := (wX1 gg cI (0, rn v, rf v, rk v))) (As := [.int (nI i), .int 0]) (rest := [.int (rowS (rf v) 0 i)]) (st' := [.int ((rf v) (mi i 0)), .int (rowS (rf v) 0 i)]) (rv := some (.int ((rf v) (mi i 0)))) C (c_X1_me l D gg cI (0, rn v, rf v, rk v) i 0 (by omega) (by omega)) (cwV 2 C.words gX1_meanLuck_X1_me rfl rfl rfl (by decide +kernel) ⟨(Nat.le_of_ble_eq_true rfl), (Nat.le_of_ble_eq_true rfl)⟩) (q0 := 0) (ci := 1) rfl rfl rfl [0] rfl rfl (Nat.le_of_ble_eq_true rfl) ⟨(Nat.le_of_ble_eq_true rfl), (Nat.le_of_ble_eq_true rfl)⟩ rfl rfl rfl rfl rfl dX1_meanLuck_21 ?_
      refine z_iadd C dX1_meanLuck_24 ?_
      refine z_istore_n (L' := [(1, .int ((rowS (rf v) 0 i) + ((rf v) (mi i 0)))), (0, .ref (gg 0)), (2, .int (nI i))]) C dX1_meanLuck_25 rfl (by decide) rfl ?_
      refine z_iinc (v := nI (i + 1)) (L' := [(2, .int (nI (i + 1))), (1, .int ((rowS (rf v) 0 i) + ((rf v) (mi i 0)))), (0, .ref (gg 0))]) C 2 dX1_meanLuck_26 rfl (z_inc _) (by decide) rfl ?_
      refine z_goto (tgt := 9) C dX1_meanLuck_29 (by decide) ?_
      refine z_sub (L' := [(0, .ref (gg 0)), (1, .int ((rowS (rf v) 0 i) + ((rf v) (mi i 0)))), (2, .int (nI (i + 1)))]) [2, 1, 0] rfl ?_
      exact ih (i + 1) (by omega)
  refine z_aload_n C 0 dX1_meanLuck_0 rfl rfl ?_
  refine z_iconst (v := 0) C dX1_meanLuck_1 (by decide) ?_
  refine z_put1 (ws' := (wX1 gg cI (0, rn v, rf v, rk v))) C inl 0 0 (by decide) rfl rfl (by decide) rfl wd1 dX1_meanLuck_2 ?_
  refine z_iconst (v := 0) C dX1_meanLuck_5 (by decide) ?_
  refine z_istore_n (L' := [(1, .int 0), (0, .ref (gg 0))]) C dX1_meanLuck_6 rfl (by decide) rfl ?_
  refine z_iconst (v := 0) C dX1_meanLuck_7 (by decide) ?_
  refine z_istore_n (L' := [(2, .int 0), (1, .int 0), (0, .ref (gg 0))]) C dX1_meanLuck_8 rfl (by decide) rfl ?_
  refine z_sub (L' := [(0, .ref (gg 0)), (1, .int 0), (2, .int 0)]) [2, 1, 0] rfl ?_
  exact lp9 (rn v) 0 (by omega)
