set_option maxHeartbeats 4000000 in
set_option maxRecDepth 100000 in
theorem w_L_dailyLoss (l : Launch) (D : va_G) (hh : Nat → Nat) (cI cZ cJ : ClassId) (o : Nat) (f : Nat → Int64) (x0 : Int32) {v v2 : S0} {r : Int32} (hM : zM l yX0_dailyLoss wsX0_dailyLoss 1 21 0 0 [.ref (hh 0), .int x0] [(cI, .int), (cZ, .boolean)] D (wX0 hh cI cZ v) (wX0 hh cI cZ v2) (some (.int r))) : zMT l yL_dailyLoss wsL_dailyLoss 8 140 0 0 [.ref (hh 0), .int x0, .ref o] [(cI, .int), (cZ, .boolean), (cJ, .long)] D (wX0 hh cI cZ v ++ wO o cJ f) (wX0 hh cI cZ v2 ++ wO o cJ (vp_updL f 0 r.toInt64)) (some (.int 0)) := by
  refine z_tmet (cc := cL_dailyLoss) (maxL := 4) (ret := (some .int)) (hx := [(0, 9, 12, 19)]) (by decide) rfl (Nat.le_of_ble_eq_true rfl) ?_
  intro p e s m args below meth c A C hT hN htab hr hlocks
  refine z_sub (L' := [(0, .ref (hh 0)), (1, .int x0), (2, .ref o)]) [0, 1, 2] rfl ?_
  refine z_aload_n C 2 dL_dailyLoss_0 rfl rfl ?_
  refine z_iconst (v := 0) C dL_dailyLoss_1 (by decide) ?_
  refine z_aload_n C 0 dL_dailyLoss_2 rfl rfl ?_
  refine z_iload_n C 1 dL_dailyLoss_3 rfl rfl ?_
  refine z_callV (w := (wX0 hh cI cZ v)) (w' := (wX0 hh cI cZ v2)) (w1 := ([] : va_W)) (w2 := wO o cJ f) (ws' := (wX0 hh cI cZ v2 ++ wO o cJ f)) (As := [.int x0]) (rest := [.int 0, .ref o]) (st' := [.int r, .int 0, .ref o]) (rv := some (.int r)) C hM (cwV 1 C.words gL_dailyLoss_X0_dailyLoss rfl rfl rfl (by decide +kernel) ⟨(Nat.le_of_ble_eq_true rfl), (Nat.le_of_ble_eq_true rfl)⟩) (q0 := 0) (ci := 0) rfl rfl rfl [0, 1] rfl rfl (Nat.le_of_ble_eq_true rfl) ⟨(Nat.le_of_ble_eq_true rfl), (Nat.le_of_ble_eq_true rfl)⟩ rfl rfl rfl rfl rfl dL_dailyLoss_4 ?_
  refine z_i2l (v := r.toInt64) C dL_dailyLoss_7 rfl ?_
  refine z_last (ws' := (wX0 hh cI cZ v2 ++ wO o cJ (vp_updL f 0 (r.toInt64)))) C 8 2 rfl rfl 0 rfl (by decide) (by decide) rfl dL_dailyLoss_8 ?_
  refine z_goto (tgt := 15) C dL_dailyLoss_9 (by decide) ?_
  refine z_iconst (v := 0) C dL_dailyLoss_15 (by decide) ?_
  exact z_iret C hr hlocks (Nat.le_of_ble_eq_true rfl) (Nat.le_of_ble_eq_true rfl) dL_dailyLoss_16 rfl rfl
set_option maxHeartbeats 4000000 in
set_option maxRecDepth 100000 in
theorem w_L_dailyLoss_x1 (l : Launch) (D : va_G) (hh : Nat → Nat) (cI cZ cJ : ClassId) (o : Nat) (f : Nat → Int64) (x0 : Int32) {v : S0} (hM : zX l yX0_dailyLoss wsX0_dailyLoss 7 103 [.ref (hh 0), .int x0] [(cI, .int), (cZ, .boolean)] D (wX0 hh cI cZ v) zI) : zMT l yL_dailyLoss wsL_dailyLoss 8 140 1 6 [.ref (hh 0), .int x0, .ref o] [(cI, .int), (cZ, .boolean), (cJ, .long)] D (wX0 hh cI cZ v ++ wO o cJ f) (wX0 hh cI cZ v ++ wO o cJ f) (some (.int 1)) := by
  refine z_tmet (cc := cL_dailyLoss) (maxL := 4) (ret := (some .int)) (hx := [(0, 9, 12, 19)]) (by decide) rfl (Nat.le_of_ble_eq_true rfl) ?_
  intro p e s m args below meth c A C hT hN htab hr hlocks
  refine z_sub (L' := [(0, .ref (hh 0)), (1, .int x0), (2, .ref o)]) [0, 1, 2] rfl ?_
  refine z_aload_n C 2 dL_dailyLoss_0 rfl rfl ?_
  refine z_iconst (v := 0) C dL_dailyLoss_1 (by decide) ?_
  refine z_aload_n C 0 dL_dailyLoss_2 rfl rfl ?_
  refine z_iload_n C 1 dL_dailyLoss_3 rfl rfl ?_
  refine z_xcatch (w := (wX0 hh cI cZ v)) (w1 := ([] : va_W)) (w2 := wO o cJ f) (As := [.int x0]) (rest := [.int 0, .ref o]) (pre := tableOf []) (x := ⟨0, 9, 12, 19⟩) (suf := tableOf []) (hpc := 12) C hT hM (cwV 1 C.words gL_dailyLoss_X0_dailyLoss rfl rfl rfl (by decide +kernel) ⟨(Nat.le_of_ble_eq_true rfl), (Nat.le_of_ble_eq_true rfl)⟩) (q0 := 0) (ci := 0) rfl rfl rfl [0, 1] rfl rfl (Nat.le_of_ble_eq_true rfl) ⟨(Nat.le_of_ble_eq_true rfl), (Nat.le_of_ble_eq_true rfl)⟩ rfl rfl (htab.trans rfl) (fun _ h => nomatch h) (by decide) (by decide) (by decide +kernel) zx_cI rfl dL_dailyLoss_4 (fun q => ?_)
  refine z_astore_n (L' := [(3, .ref q), (0, .ref (hh 0)), (1, .int x0), (2, .ref o)]) C dL_dailyLoss_12 rfl (by decide) rfl ?_
  refine z_iconst (v := 1) C dL_dailyLoss_13 (by decide) ?_
  exact z_iret C hr hlocks (Nat.le_of_ble_eq_true rfl) (Nat.le_of_ble_eq_true rfl) dL_dailyLoss_14 rfl rfl
set_option maxHeartbeats 4000000 in
set_option maxRecDepth 100000 in
theorem w_L_memberOf (l : Launch) (D : va_G) (hh : Nat → Nat) (cI cZ cJ : ClassId) (o : Nat) (f : Nat → Int64) (x0 : Int32) {v v2 : S0} {r : Int32} (hM : zM l yX0_memberOf wsX0_memberOf 1 21 0 0 [.ref (hh 0), .int x0] [(cI, .int), (cZ, .boolean)] D (wX0 hh cI cZ v) (wX0 hh cI cZ v2) (some (.int r))) : zMT l yL_memberOf wsL_memberOf 8 140 0 0 [.ref (hh 0), .int x0, .ref o] [(cI, .int), (cZ, .boolean), (cJ, .long)] D (wX0 hh cI cZ v ++ wO o cJ f) (wX0 hh cI cZ v2 ++ wO o cJ (vp_updL f 0 r.toInt64)) (some (.int 0)) := by
  refine z_tmet (cc := cL_memberOf) (maxL := 4) (ret := (some .int)) (hx := [(0, 9, 12, 19)]) (by decide) rfl (Nat.le_of_ble_eq_true rfl) ?_
  intro p e s m args below meth c A C hT hN htab hr hlocks
  refine z_sub (L' := [(0, .ref (hh 0)), (1, .int x0), (2, .ref o)]) [0, 1, 2] rfl ?_
  refine z_aload_n C 2 dL_memberOf_0 rfl rfl ?_
  refine z_iconst (v := 0) C dL_memberOf_1 (by decide) ?_
  refine z_aload_n C 0 dL_memberOf_2 rfl rfl ?_
  refine z_iload_n C 1 dL_memberOf_3 rfl rfl ?_
  refine z_callV (w := (wX0 hh cI cZ v)) (w' := (wX0 hh cI cZ v2)) (w1 := ([] : va_W)) (w2 := wO o cJ f) (ws' := (wX0 hh cI cZ v2 ++ wO o cJ f)) (As := [.int x0]) (rest := [.int 0, .ref o]) (st' := [.int r, .int 0, .ref o]) (rv := some (.int r)) C hM (cwV 1 C.words gL_memberOf_X0_memberOf rfl rfl rfl (by decide +kernel) ⟨(Nat.le_of_ble_eq_true rfl), (Nat.le_of_ble_eq_true rfl)⟩) (q0 := 0) (ci := 0) rfl rfl rfl [0, 1] rfl rfl (Nat.le_of_ble_eq_true rfl) ⟨(Nat.le_of_ble_eq_true rfl), (Nat.le_of_ble_eq_true rfl)⟩ rfl rfl rfl rfl rfl dL_memberOf_4 ?_
  refine z_i2l (v := r.toInt64) C dL_memberOf_7 rfl ?_
  refine z_last (ws' := (wX0 hh cI cZ v2 ++ wO o cJ (vp_updL f 0 (r.toInt64)))) C 8 2 rfl rfl 0 rfl (by decide) (by decide) rfl dL_memberOf_8 ?_
  refine z_goto (tgt := 15) C dL_memberOf_9 (by decide) ?_
  refine z_iconst (v := 0) C dL_memberOf_15 (by decide) ?_
  exact z_iret C hr hlocks (Nat.le_of_ble_eq_true rfl) (Nat.le_of_ble_eq_true rfl) dL_memberOf_16 rfl rfl
set_option maxHeartbeats 4000000 in
set_option maxRecDepth 100000 in
theorem w_L_memberOf_x1 (l : Launch) (D : va_G) (hh : Nat → Nat) (cI cZ cJ : ClassId) (o : Nat) (f : Nat → Int64) (x0 : Int32) {v : S0} (hM : zX l yX0_memberOf wsX0_memberOf 7 103 [.ref (hh 0), .int x0] [(cI, .int), (cZ, .boolean)] D (wX0 hh cI cZ v) zI) : zMT l yL_memberOf wsL_memberOf 8 140 1 6 [.ref (hh 0), .int x0, .ref o] [(cI, .int), (cZ, .boolean), (cJ, .long)] D (wX0 hh cI cZ v ++ wO o cJ f) (wX0 hh cI cZ v ++ wO o cJ f) (some (.int 1)) := by
  refine z_tmet (cc := cL_memberOf) (maxL := 4) (ret := (some .int)) (hx := [(0, 9, 12, 19)]) (by decide) rfl (Nat.le_of_ble_eq_true rfl) ?_
  intro p e s m args below meth c A C hT hN htab hr hlocks
  refine z_sub (L' := [(0, .ref (hh 0)), (1, .int x0), (2, .ref o)]) [0, 1, 2] rfl ?_
  refine z_aload_n C 2 dL_memberOf_0 rfl rfl ?_
  refine z_iconst (v := 0) C dL_memberOf_1 (by decide) ?_
  refine z_aload_n C 0 dL_memberOf_2 rfl rfl ?_
  refine z_iload_n C 1 dL_memberOf_3 rfl rfl ?_
  refine z_xcatch (w := (wX0 hh cI cZ v)) (w1 := ([] : va_W)) (w2 := wO o cJ f) (As := [.int x0]) (rest := [.int 0, .ref o]) (pre := tableOf []) (x := ⟨0, 9, 12, 19⟩) (suf := tableOf []) (hpc := 12) C hT hM (cwV 1 C.words gL_memberOf_X0_memberOf rfl rfl rfl (by decide +kernel) ⟨(Nat.le_of_ble_eq_true rfl), (Nat.le_of_ble_eq_true rfl)⟩) (q0 := 0) (ci := 0) rfl rfl rfl [0, 1] rfl rfl (Nat.le_of_ble_eq_true rfl) ⟨(Nat.le_of_ble_eq_true rfl), (Nat.le_of_ble_eq_true rfl)⟩ rfl rfl (htab.trans rfl) (fun _ h => nomatch h) (by decide) (by decide) (by decide +kernel) zx_cI rfl dL_memberOf_4 (fun q => ?_)
  refine z_astore_n (L' := [(3, .ref q), (0, .ref (hh 0)), (1, .int x0), (2, .ref o)]) C dL_memberOf_12 rfl (by decide) rfl ?_
  refine z_iconst (v := 1) C dL_memberOf_13 (by decide) ?_
  exact z_iret C hr hlocks (Nat.le_of_ble_eq_true rfl) (Nat.le_of_ble_eq_true rfl) dL_memberOf_14 rfl rfl
set_option maxHeartbeats 4000000 in
set_option maxRecDepth 100000 in
theorem w_L_isLeft (l : Launch) (D : va_G) (hh : Nat → Nat) (cI cZ cJ : ClassId) (o : Nat) (f : Nat → Int64) (x0 : Int32) {v v2 : S0} {r : Int32} (hM : zM l yX0_isLeft wsX0_isLeft 1 21 0 0 [.ref (hh 0), .int x0] [(cI, .int), (cZ, .boolean)] D (wX0 hh cI cZ v) (wX0 hh cI cZ v2) (some (.int r))) : zMT l yL_isLeft wsL_isLeft 8 140 0 0 [.ref (hh 0), .int x0, .ref o] [(cI, .int), (cZ, .boolean), (cJ, .long)] D (wX0 hh cI cZ v ++ wO o cJ f) (wX0 hh cI cZ v2 ++ wO o cJ (vp_updL f 0 (if r = 0 then 0 else 1))) (some (.int 0)) := by
  refine z_tmet (cc := cL_isLeft) (maxL := 4) (ret := (some .int)) (hx := [(0, 16, 19, 19)]) (by decide) rfl (Nat.le_of_ble_eq_true rfl) ?_
  intro p e s m args below meth c A C hT hN htab hr hlocks
  refine z_sub (L' := [(0, .ref (hh 0)), (1, .int x0), (2, .ref o)]) [0, 1, 2] rfl ?_
  refine z_aload_n C 2 dL_isLeft_0 rfl rfl ?_
  refine z_iconst (v := 0) C dL_isLeft_1 (by decide) ?_
  refine z_aload_n C 0 dL_isLeft_2 rfl rfl ?_
  refine z_iload_n C 1 dL_isLeft_3 rfl rfl ?_
  refine z_callV (w := (wX0 hh cI cZ v)) (w' := (wX0 hh cI cZ v2)) (w1 := ([] : va_W)) (w2 := wO o cJ f) (ws' := (wX0 hh cI cZ v2 ++ wO o cJ f)) (As := [.int x0]) (rest := [.int 0, .ref o]) (st' := [.int r, .int 0, .ref o]) (rv := some (.int r)) C hM (cwV 1 C.words gL_isLeft_X0_isLeft rfl rfl rfl (by decide +kernel) ⟨(Nat.le_of_ble_eq_true rfl), (Nat.le_of_ble_eq_true rfl)⟩) (q0 := 0) (ci := 0) rfl rfl rfl [0, 1] rfl rfl (Nat.le_of_ble_eq_true rfl) ⟨(Nat.le_of_ble_eq_true rfl), (Nat.le_of_ble_eq_true rfl)⟩ rfl rfl rfl rfl rfl dL_isLeft_4 ?_
  refine z_if_eq (tgt := 14) C dL_isLeft_7 (by decide) (fun c7 => ?_) (fun c7 => ?_)
  · have e9 : wX0 hh cI cZ v2 ++ wO o cJ (vp_updL f 0 0) = wX0 hh cI cZ v2 ++ wO o cJ (vp_updL f 0 (if r = 0 then 0 else 1)) := by rw [if_pos c7]
    refine z_lconst (v := 0) C dL_isLeft_14 (by decide) ?_
    refine z_last (ws' := (wX0 hh cI cZ v2 ++ wO o cJ (vp_updL f 0 (0)))) C 8 2 rfl rfl 0 rfl (by decide) (by decide) rfl dL_isLeft_15 ?_
    refine z_goto (tgt := 22) C dL_isLeft_16 (by decide) ?_
    refine z_iconst (v := 0) C dL_isLeft_22 (by decide) ?_
    exact z_iret C hr hlocks (Nat.le_of_ble_eq_true rfl) (Nat.le_of_ble_eq_true rfl) dL_isLeft_23 rfl e9
  · have e9 : wX0 hh cI cZ v2 ++ wO o cJ (vp_updL f 0 1) = wX0 hh cI cZ v2 ++ wO o cJ (vp_updL f 0 (if r = 0 then 0 else 1)) := by rw [if_neg c7]
    refine z_lconst (v := 1) C dL_isLeft_10 (by decide) ?_
    refine z_goto (tgt := 15) C dL_isLeft_11 (by decide) ?_
    refine z_last (ws' := (wX0 hh cI cZ v2 ++ wO o cJ (vp_updL f 0 (1)))) C 8 2 rfl rfl 0 rfl (by decide) (by decide) rfl dL_isLeft_15 ?_
    refine z_goto (tgt := 22) C dL_isLeft_16 (by decide) ?_
    refine z_iconst (v := 0) C dL_isLeft_22 (by decide) ?_
    exact z_iret C hr hlocks (Nat.le_of_ble_eq_true rfl) (Nat.le_of_ble_eq_true rfl) dL_isLeft_23 rfl e9
set_option maxHeartbeats 4000000 in
set_option maxRecDepth 100000 in
theorem w_L_isLeft_x1 (l : Launch) (D : va_G) (hh : Nat → Nat) (cI cZ cJ : ClassId) (o : Nat) (f : Nat → Int64) (x0 : Int32) {v : S0} (hM : zX l yX0_isLeft wsX0_isLeft 7 103 [.ref (hh 0), .int x0] [(cI, .int), (cZ, .boolean)] D (wX0 hh cI cZ v) zI) : zMT l yL_isLeft wsL_isLeft 8 140 1 6 [.ref (hh 0), .int x0, .ref o] [(cI, .int), (cZ, .boolean), (cJ, .long)] D (wX0 hh cI cZ v ++ wO o cJ f) (wX0 hh cI cZ v ++ wO o cJ f) (some (.int 1)) := by
  refine z_tmet (cc := cL_isLeft) (maxL := 4) (ret := (some .int)) (hx := [(0, 16, 19, 19)]) (by decide) rfl (Nat.le_of_ble_eq_true rfl) ?_
  intro p e s m args below meth c A C hT hN htab hr hlocks
  refine z_sub (L' := [(0, .ref (hh 0)), (1, .int x0), (2, .ref o)]) [0, 1, 2] rfl ?_
  refine z_aload_n C 2 dL_isLeft_0 rfl rfl ?_
  refine z_iconst (v := 0) C dL_isLeft_1 (by decide) ?_
  refine z_aload_n C 0 dL_isLeft_2 rfl rfl ?_
  refine z_iload_n C 1 dL_isLeft_3 rfl rfl ?_
  refine z_xcatch (w := (wX0 hh cI cZ v)) (w1 := ([] : va_W)) (w2 := wO o cJ f) (As := [.int x0]) (rest := [.int 0, .ref o]) (pre := tableOf []) (x := ⟨0, 16, 19, 19⟩) (suf := tableOf []) (hpc := 19) C hT hM (cwV 1 C.words gL_isLeft_X0_isLeft rfl rfl rfl (by decide +kernel) ⟨(Nat.le_of_ble_eq_true rfl), (Nat.le_of_ble_eq_true rfl)⟩) (q0 := 0) (ci := 0) rfl rfl rfl [0, 1] rfl rfl (Nat.le_of_ble_eq_true rfl) ⟨(Nat.le_of_ble_eq_true rfl), (Nat.le_of_ble_eq_true rfl)⟩ rfl rfl (htab.trans rfl) (fun _ h => nomatch h) (by decide) (by decide) (by decide +kernel) zx_cI rfl dL_isLeft_4 (fun q => ?_)
  refine z_astore_n (L' := [(3, .ref q), (0, .ref (hh 0)), (1, .int x0), (2, .ref o)]) C dL_isLeft_19 rfl (by decide) rfl ?_
  refine z_iconst (v := 1) C dL_isLeft_20 (by decide) ?_
  exact z_iret C hr hlocks (Nat.le_of_ble_eq_true rfl) (Nat.le_of_ble_eq_true rfl) dL_isLeft_21 rfl rfl
set_option maxHeartbeats 4000000 in
set_option maxRecDepth 100000 in
theorem w_L_grainsOf (l : Launch) (D : va_G) (hh : Nat → Nat) (cI cZ cJ : ClassId) (o : Nat) (f : Nat → Int64) (x0 : Int32) {v v2 : S0} {r : Int32} (hM : zM l yX0_grainsOf wsX0_grainsOf 1 21 0 0 [.ref (hh 0), .int x0] [(cI, .int), (cZ, .boolean)] D (wX0 hh cI cZ v) (wX0 hh cI cZ v2) (some (.int r))) : zMT l yL_grainsOf wsL_grainsOf 8 140 0 0 [.ref (hh 0), .int x0, .ref o] [(cI, .int), (cZ, .boolean), (cJ, .long)] D (wX0 hh cI cZ v ++ wO o cJ f) (wX0 hh cI cZ v2 ++ wO o cJ (vp_updL f 0 r.toInt64)) (some (.int 0)) := by
  refine z_tmet (cc := cL_grainsOf) (maxL := 4) (ret := (some .int)) (hx := [(0, 9, 12, 19)]) (by decide) rfl (Nat.le_of_ble_eq_true rfl) ?_
  intro p e s m args below meth c A C hT hN htab hr hlocks
  refine z_sub (L' := [(0, .ref (hh 0)), (1, .int x0), (2, .ref o)]) [0, 1, 2] rfl ?_
  refine z_aload_n C 2 dL_grainsOf_0 rfl rfl ?_
  refine z_iconst (v := 0) C dL_grainsOf_1 (by decide) ?_
  refine z_aload_n C 0 dL_grainsOf_2 rfl rfl ?_
  refine z_iload_n C 1 dL_grainsOf_3 rfl rfl ?_
  refine z_callV (w := (wX0 hh cI cZ v)) (w' := (wX0 hh cI cZ v2)) (w1 := ([] : va_W)) (w2 := wO o cJ f) (ws' := (wX0 hh cI cZ v2 ++ wO o cJ f)) (As := [.int x0]) (rest := [.int 0, .ref o]) (st' := [.int r, .int 0, .ref o]) (rv := some (.int r)) C hM (cwV 1 C.words gL_grainsOf_X0_grainsOf rfl rfl rfl (by decide +kernel) ⟨(Nat.le_of_ble_eq_true rfl), (Nat.le_of_ble_eq_true rfl)⟩) (q0 := 0) (ci := 0) rfl rfl rfl [0, 1] rfl rfl (Nat.le_of_ble_eq_true rfl) ⟨(Nat.le_of_ble_eq_true rfl), (Nat.le_of_ble_eq_true rfl)⟩ rfl rfl rfl rfl rfl dL_grainsOf_4 ?_
  refine z_i2l (v := r.toInt64) C dL_grainsOf_7 rfl ?_
  refine z_last (ws' := (wX0 hh cI cZ v2 ++ wO o cJ (vp_updL f 0 (r.toInt64)))) C 8 2 rfl rfl 0 rfl (by decide) (by decide) rfl dL_grainsOf_8 ?_
  refine z_goto (tgt := 15) C dL_grainsOf_9 (by decide) ?_
  refine z_iconst (v := 0) C dL_grainsOf_15 (by decide) ?_
  exact z_iret C hr hlocks (Nat.le_of_ble_eq_true rfl) (Nat.le_of_ble_eq_true rfl) dL_grainsOf_16 rfl rfl
set_option maxHeartbeats 4000000 in
set_option maxRecDepth 100000 in
theorem w_L_grainsOf_x1 (l : Launch) (D : va_G) (hh : Nat → Nat) (cI cZ cJ : ClassId) (o : Nat) (f : Nat → Int64) (x0 : Int32) {v : S0} (hM : zX l yX0_grainsOf wsX0_grainsOf 7 103 [.ref (hh 0), .int x0] [(cI, .int), (cZ, .boolean)] D (wX0 hh cI cZ v) zI) : zMT l yL_grainsOf wsL_grainsOf 8 140 1 6 [.ref (hh 0), .int x0, .ref o] [(cI, .int), (cZ, .boolean), (cJ, .long)] D (wX0 hh cI cZ v ++ wO o cJ f) (wX0 hh cI cZ v ++ wO o cJ f) (some (.int 1)) := by
  refine z_tmet (cc := cL_grainsOf) (maxL := 4) (ret := (some .int)) (hx := [(0, 9, 12, 19)]) (by decide) rfl (Nat.le_of_ble_eq_true rfl) ?_
  intro p e s m args below meth c A C hT hN htab hr hlocks
  refine z_sub (L' := [(0, .ref (hh 0)), (1, .int x0), (2, .ref o)]) [0, 1, 2] rfl ?_
  refine z_aload_n C 2 dL_grainsOf_0 rfl rfl ?_
  refine z_iconst (v := 0) C dL_grainsOf_1 (by decide) ?_
  refine z_aload_n C 0 dL_grainsOf_2 rfl rfl ?_
  refine z_iload_n C 1 dL_grainsOf_3 rfl rfl ?_
  refine z_xcatch (w := (wX0 hh cI cZ v)) (w1 := ([] : va_W)) (w2 := wO o cJ f) (As := [.int x0]) (rest := [.int 0, .ref o]) (pre := tableOf []) (x := ⟨0, 9, 12, 19⟩) (suf := tableOf []) (hpc := 12) C hT hM (cwV 1 C.words gL_grainsOf_X0_grainsOf rfl rfl rfl (by decide +kernel) ⟨(Nat.le_of_ble_eq_true rfl), (Nat.le_of_ble_eq_true rfl)⟩) (q0 := 0) (ci := 0) rfl rfl rfl [0, 1] rfl rfl (Nat.le_of_ble_eq_true rfl) ⟨(Nat.le_of_ble_eq_true rfl), (Nat.le_of_ble_eq_true rfl)⟩ rfl rfl (htab.trans rfl) (fun _ h => nomatch h) (by decide) (by decide) (by decide +kernel) zx_cI rfl dL_grainsOf_4 (fun q => ?_)
  refine z_astore_n (L' := [(3, .ref q), (0, .ref (hh 0)), (1, .int x0), (2, .ref o)]) C dL_grainsOf_12 rfl (by decide) rfl ?_
  refine z_iconst (v := 1) C dL_grainsOf_13 (by decide) ?_
  exact z_iret C hr hlocks (Nat.le_of_ble_eq_true rfl) (Nat.le_of_ble_eq_true rfl) dL_grainsOf_14 rfl rfl
set_option maxHeartbeats 4000000 in
set_option maxRecDepth 100000 in
theorem w_L_excessOf (l : Launch) (D : va_G) (hh : Nat → Nat) (cI cZ cJ : ClassId) (o : Nat) (f : Nat → Int64) (x0 : Int32) {v v2 : S0} {r : Int32} (hM : zM l yX0_excessOf wsX0_excessOf 1 21 0 0 [.ref (hh 0), .int x0] [(cI, .int), (cZ, .boolean)] D (wX0 hh cI cZ v) (wX0 hh cI cZ v2) (some (.int r))) : zMT l yL_excessOf wsL_excessOf 8 140 0 0 [.ref (hh 0), .int x0, .ref o] [(cI, .int), (cZ, .boolean), (cJ, .long)] D (wX0 hh cI cZ v ++ wO o cJ f) (wX0 hh cI cZ v2 ++ wO o cJ (vp_updL f 0 r.toInt64)) (some (.int 0)) := by
  refine z_tmet (cc := cL_excessOf) (maxL := 4) (ret := (some .int)) (hx := [(0, 9, 12, 19)]) (by decide) rfl (Nat.le_of_ble_eq_true rfl) ?_
  intro p e s m args below meth c A C hT hN htab hr hlocks
  refine z_sub (L' := [(0, .ref (hh 0)), (1, .int x0), (2, .ref o)]) [0, 1, 2] rfl ?_
  refine z_aload_n C 2 dL_excessOf_0 rfl rfl ?_
  refine z_iconst (v := 0) C dL_excessOf_1 (by decide) ?_
  refine z_aload_n C 0 dL_excessOf_2 rfl rfl ?_
  refine z_iload_n C 1 dL_excessOf_3 rfl rfl ?_
  refine z_callV (w := (wX0 hh cI cZ v)) (w' := (wX0 hh cI cZ v2)) (w1 := ([] : va_W)) (w2 := wO o cJ f) (ws' := (wX0 hh cI cZ v2 ++ wO o cJ f)) (As := [.int x0]) (rest := [.int 0, .ref o]) (st' := [.int r, .int 0, .ref o]) (rv := some (.int r)) C hM (cwV 1 C.words gL_excessOf_X0_excessOf rfl rfl rfl (by decide +kernel) ⟨(Nat.le_of_ble_eq_true rfl), (Nat.le_of_ble_eq_true rfl)⟩) (q0 := 0) (ci := 0) rfl rfl rfl [0, 1] rfl rfl (Nat.le_of_ble_eq_true rfl) ⟨(Nat.le_of_ble_eq_true rfl), (Nat.le_of_ble_eq_true rfl)⟩ rfl rfl rfl rfl rfl dL_excessOf_4 ?_
  refine z_i2l (v := r.toInt64) C dL_excessOf_7 rfl ?_
  refine z_last (ws' := (wX0 hh cI cZ v2 ++ wO o cJ (vp_updL f 0 (r.toInt64)))) C 8 2 rfl rfl 0 rfl (by decide) (by decide) rfl dL_excessOf_8 ?_
  refine z_goto (tgt := 15) C dL_excessOf_9 (by decide) ?_
  refine z_iconst (v := 0) C dL_excessOf_15 (by decide) ?_
  exact z_iret C hr hlocks (Nat.le_of_ble_eq_true rfl) (Nat.le_of_ble_eq_true rfl) dL_excessOf_16 rfl rfl
set_option maxHeartbeats 4000000 in
set_option maxRecDepth 100000 in
theorem w_L_excessOf_x1 (l : Launch) (D : va_G) (hh : Nat → Nat) (cI cZ cJ : ClassId) (o : Nat) (f : Nat → Int64) (x0 : Int32) {v : S0} (hM : zX l yX0_excessOf wsX0_excessOf 7 103 [.ref (hh 0), .int x0] [(cI, .int), (cZ, .boolean)] D (wX0 hh cI cZ v) zI) : zMT l yL_excessOf wsL_excessOf 8 140 1 6 [.ref (hh 0), .int x0, .ref o] [(cI, .int), (cZ, .boolean), (cJ, .long)] D (wX0 hh cI cZ v ++ wO o cJ f) (wX0 hh cI cZ v ++ wO o cJ f) (some (.int 1)) := by
  refine z_tmet (cc := cL_excessOf) (maxL := 4) (ret := (some .int)) (hx := [(0, 9, 12, 19)]) (by decide) rfl (Nat.le_of_ble_eq_true rfl) ?_
  intro p e s m args below meth c A C hT hN htab hr hlocks
  refine z_sub (L' := [(0, .ref (hh 0)), (1, .int x0), (2, .ref o)]) [0, 1, 2] rfl ?_
  refine z_aload_n C 2 dL_excessOf_0 rfl rfl ?_
  refine z_iconst (v := 0) C dL_excessOf_1 (by decide) ?_
  refine z_aload_n C 0 dL_excessOf_2 rfl rfl ?_
  refine z_iload_n C 1 dL_excessOf_3 rfl rfl ?_
  refine z_xcatch (w := (wX0 hh cI cZ v)) (w1 := ([] : va_W)) (w2 := wO o cJ f) (As := [.int x0]) (rest := [.int 0, .ref o]) (pre := tableOf []) (x := ⟨0, 9, 12, 19⟩) (suf := tableOf []) (hpc := 12) C hT hM (cwV 1 C.words gL_excessOf_X0_excessOf rfl rfl rfl (by decide +kernel) ⟨(Nat.le_of_ble_eq_true rfl), (Nat.le_of_ble_eq_true rfl)⟩) (q0 := 0) (ci := 0) rfl rfl rfl [0, 1] rfl rfl (Nat.le_of_ble_eq_true rfl) ⟨(Nat.le_of_ble_eq_true rfl), (Nat.le_of_ble_eq_true rfl)⟩ rfl rfl (htab.trans rfl) (fun _ h => nomatch h) (by decide) (by decide) (by decide +kernel) zx_cI rfl dL_excessOf_4 (fun q => ?_)
  refine z_astore_n (L' := [(3, .ref q), (0, .ref (hh 0)), (1, .int x0), (2, .ref o)]) C dL_excessOf_12 rfl (by decide) rfl ?_
  refine z_iconst (v := 1) C dL_excessOf_13 (by decide) ?_
  exact z_iret C hr hlocks (Nat.le_of_ble_eq_true rfl) (Nat.le_of_ble_eq_true rfl) dL_excessOf_14 rfl rfl
set_option maxHeartbeats 4000000 in
set_option maxRecDepth 100000 in
theorem w_L_arrearsByAudit (l : Launch) (D : va_G) (hh : Nat → Nat) (cI cZ cJ : ClassId) (o : Nat) (f : Nat → Int64) (x0 : Int32) {v v2 : S0} {r : Int32} (hM : zM l yX0_arrearsByAudit wsX0_arrearsByAudit 1 23 0 0 [.ref (hh 0), .int x0] [(cI, .int), (cZ, .boolean)] D (wX0 hh cI cZ v) (wX0 hh cI cZ v2) (some (.int r))) : zMT l yL_arrearsByAudit wsL_arrearsByAudit 8 140 0 0 [.ref (hh 0), .int x0, .ref o] [(cI, .int), (cZ, .boolean), (cJ, .long)] D (wX0 hh cI cZ v ++ wO o cJ f) (wX0 hh cI cZ v2 ++ wO o cJ (vp_updL f 0 r.toInt64)) (some (.int 0)) := by
  refine z_tmet (cc := cL_arrearsByAudit) (maxL := 4) (ret := (some .int)) (hx := [(0, 9, 12, 19)]) (by decide) rfl (Nat.le_of_ble_eq_true rfl) ?_
  intro p e s m args below meth c A C hT hN htab hr hlocks
  refine z_sub (L' := [(0, .ref (hh 0)), (1, .int x0), (2, .ref o)]) [0, 1, 2] rfl ?_
  refine z_aload_n C 2 dL_arrearsByAudit_0 rfl rfl ?_
  refine z_iconst (v := 0) C dL_arrearsByAudit_1 (by decide) ?_
  refine z_aload_n C 0 dL_arrearsByAudit_2 rfl rfl ?_
  refine z_iload_n C 1 dL_arrearsByAudit_3 rfl rfl ?_
  refine z_callV (w := (wX0 hh cI cZ v)) (w' := (wX0 hh cI cZ v2)) (w1 := ([] : va_W)) (w2 := wO o cJ f) (ws' := (wX0 hh cI cZ v2 ++ wO o cJ f)) (As := [.int x0]) (rest := [.int 0, .ref o]) (st' := [.int r, .int 0, .ref o]) (rv := some (.int r)) C hM (cwV 1 C.words gL_arrearsByAudit_X0_arrearsByAudit rfl rfl rfl (by decide +kernel) ⟨(Nat.le_of_ble_eq_true rfl), (Nat.le_of_ble_eq_true rfl)⟩) (q0 := 0) (ci := 0) rfl rfl rfl [0, 1] rfl rfl (Nat.le_of_ble_eq_true rfl) ⟨(Nat.le_of_ble_eq_true rfl), (Nat.le_of_ble_eq_true rfl)⟩ rfl rfl rfl rfl rfl dL_arrearsByAudit_4 ?_
  refine z_i2l (v := r.toInt64) C dL_arrearsByAudit_7 rfl ?_
  refine z_last (ws' := (wX0 hh cI cZ v2 ++ wO o cJ (vp_updL f 0 (r.toInt64)))) C 8 2 rfl rfl 0 rfl (by decide) (by decide) rfl dL_arrearsByAudit_8 ?_
  refine z_goto (tgt := 15) C dL_arrearsByAudit_9 (by decide) ?_
  refine z_iconst (v := 0) C dL_arrearsByAudit_15 (by decide) ?_
  exact z_iret C hr hlocks (Nat.le_of_ble_eq_true rfl) (Nat.le_of_ble_eq_true rfl) dL_arrearsByAudit_16 rfl rfl
set_option maxHeartbeats 4000000 in
set_option maxRecDepth 100000 in
theorem w_L_arrearsByAudit_x1 (l : Launch) (D : va_G) (hh : Nat → Nat) (cI cZ cJ : ClassId) (o : Nat) (f : Nat → Int64) (x0 : Int32) {v : S0} (hM : zX l yX0_arrearsByAudit wsX0_arrearsByAudit 7 103 [.ref (hh 0), .int x0] [(cI, .int), (cZ, .boolean)] D (wX0 hh cI cZ v) zI) : zMT l yL_arrearsByAudit wsL_arrearsByAudit 8 140 1 6 [.ref (hh 0), .int x0, .ref o] [(cI, .int), (cZ, .boolean), (cJ, .long)] D (wX0 hh cI cZ v ++ wO o cJ f) (wX0 hh cI cZ v ++ wO o cJ f) (some (.int 1)) := by
  refine z_tmet (cc := cL_arrearsByAudit) (maxL := 4) (ret := (some .int)) (hx := [(0, 9, 12, 19)]) (by decide) rfl (Nat.le_of_ble_eq_true rfl) ?_
  intro p e s m args below meth c A C hT hN htab hr hlocks
  refine z_sub (L' := [(0, .ref (hh 0)), (1, .int x0), (2, .ref o)]) [0, 1, 2] rfl ?_
  refine z_aload_n C 2 dL_arrearsByAudit_0 rfl rfl ?_
  refine z_iconst (v := 0) C dL_arrearsByAudit_1 (by decide) ?_
  refine z_aload_n C 0 dL_arrearsByAudit_2 rfl rfl ?_
  refine z_iload_n C 1 dL_arrearsByAudit_3 rfl rfl ?_
  refine z_xcatch (w := (wX0 hh cI cZ v)) (w1 := ([] : va_W)) (w2 := wO o cJ f) (As := [.int x0]) (rest := [.int 0, .ref o]) (pre := tableOf []) (x := ⟨0, 9, 12, 19⟩) (suf := tableOf []) (hpc := 12) C hT hM (cwV 1 C.words gL_arrearsByAudit_X0_arrearsByAudit rfl rfl rfl (by decide +kernel) ⟨(Nat.le_of_ble_eq_true rfl), (Nat.le_of_ble_eq_true rfl)⟩) (q0 := 0) (ci := 0) rfl rfl rfl [0, 1] rfl rfl (Nat.le_of_ble_eq_true rfl) ⟨(Nat.le_of_ble_eq_true rfl), (Nat.le_of_ble_eq_true rfl)⟩ rfl rfl (htab.trans rfl) (fun _ h => nomatch h) (by decide) (by decide) (by decide +kernel) zx_cI rfl dL_arrearsByAudit_4 (fun q => ?_)
  refine z_astore_n (L' := [(3, .ref q), (0, .ref (hh 0)), (1, .int x0), (2, .ref o)]) C dL_arrearsByAudit_12 rfl (by decide) rfl ?_
  refine z_iconst (v := 1) C dL_arrearsByAudit_13 (by decide) ?_
  exact z_iret C hr hlocks (Nat.le_of_ble_eq_true rfl) (Nat.le_of_ble_eq_true rfl) dL_arrearsByAudit_14 rfl rfl
set_option maxHeartbeats 4000000 in
set_option maxRecDepth 100000 in
theorem w_L_luckIn (l : Launch) (D : va_G) (hh : Nat → Nat) (cI cZ cJ : ClassId) (o : Nat) (f : Nat → Int64) (x0 x1 : Int32) {v v2 : S0} {r : Int32} (hM : zM l yX0_luckIn wsX0_luckIn 5 100 0 0 [.ref (hh 0), .int x0, .int x1] [(cI, .int), (cZ, .boolean)] D (wX0 hh cI cZ v) (wX0 hh cI cZ v2) (some (.int r))) : zMT l yL_luckIn wsL_luckIn 8 140 0 0 [.ref (hh 0), .int x0, .int x1, .ref o] [(cI, .int), (cZ, .boolean), (cJ, .long)] D (wX0 hh cI cZ v ++ wO o cJ f) (wX0 hh cI cZ v2 ++ wO o cJ (vp_updL f 0 r.toInt64)) (some (.int 0)) := by
  refine z_tmet (cc := cL_luckIn) (maxL := 5) (ret := (some .int)) (hx := [(0, 10, 13, 19), (0, 10, 17, 21)]) (by decide) rfl (Nat.le_of_ble_eq_true rfl) ?_
  intro p e s m args below meth c A C hT hN htab hr hlocks
  refine z_sub (L' := [(0, .ref (hh 0)), (1, .int x0), (2, .int x1), (3, .ref o)]) [0, 1, 2, 3] rfl ?_
  refine z_aload_n C 3 dL_luckIn_0 rfl rfl ?_
  refine z_iconst (v := 0) C dL_luckIn_1 (by decide) ?_
  refine z_aload_n C 0 dL_luckIn_2 rfl rfl ?_
  refine z_iload_n C 1 dL_luckIn_3 rfl rfl ?_
  refine z_iload_n C 2 dL_luckIn_4 rfl rfl ?_
  refine z_callV (w := (wX0 hh cI cZ v)) (w' := (wX0 hh cI cZ v2)) (w1 := ([] : va_W)) (w2 := wO o cJ f) (ws' := (wX0 hh cI cZ v2 ++ wO o cJ f)) (As := [.int x0, .int x1]) (rest := [.int 0, .ref o]) (st' := [.int r, .int 0, .ref o]) (rv := some (.int r)) C hM (cwV 2 C.words gL_luckIn_X0_luckIn rfl rfl rfl (by decide +kernel) ⟨(Nat.le_of_ble_eq_true rfl), (Nat.le_of_ble_eq_true rfl)⟩) (q0 := 0) (ci := 0) rfl rfl rfl [0, 1] rfl rfl (Nat.le_of_ble_eq_true rfl) ⟨(Nat.le_of_ble_eq_true rfl), (Nat.le_of_ble_eq_true rfl)⟩ rfl rfl rfl rfl rfl dL_luckIn_5 ?_
  refine z_i2l (v := r.toInt64) C dL_luckIn_8 rfl ?_
  refine z_last (ws' := (wX0 hh cI cZ v2 ++ wO o cJ (vp_updL f 0 (r.toInt64)))) C 8 2 rfl rfl 0 rfl (by decide) (by decide) rfl dL_luckIn_9 ?_
  refine z_goto (tgt := 21) C dL_luckIn_10 (by decide) ?_
  refine z_iconst (v := 0) C dL_luckIn_21 (by decide) ?_
  exact z_iret C hr hlocks (Nat.le_of_ble_eq_true rfl) (Nat.le_of_ble_eq_true rfl) dL_luckIn_22 rfl rfl
set_option maxHeartbeats 4000000 in
set_option maxRecDepth 100000 in
theorem w_L_luckIn_x1 (l : Launch) (D : va_G) (hh : Nat → Nat) (cI cZ cJ : ClassId) (o : Nat) (f : Nat → Int64) (x0 x1 : Int32) {v : S0} (hM : zX l yX0_luckIn wsX0_luckIn 7 103 [.ref (hh 0), .int x0, .int x1] [(cI, .int), (cZ, .boolean)] D (wX0 hh cI cZ v) zI) : zMT l yL_luckIn wsL_luckIn 8 140 1 6 [.ref (hh 0), .int x0, .int x1, .ref o] [(cI, .int), (cZ, .boolean), (cJ, .long)] D (wX0 hh cI cZ v ++ wO o cJ f) (wX0 hh cI cZ v ++ wO o cJ f) (some (.int 1)) := by
  refine z_tmet (cc := cL_luckIn) (maxL := 5) (ret := (some .int)) (hx := [(0, 10, 13, 19), (0, 10, 17, 21)]) (by decide) rfl (Nat.le_of_ble_eq_true rfl) ?_
  intro p e s m args below meth c A C hT hN htab hr hlocks
  refine z_sub (L' := [(0, .ref (hh 0)), (1, .int x0), (2, .int x1), (3, .ref o)]) [0, 1, 2, 3] rfl ?_
  refine z_aload_n C 3 dL_luckIn_0 rfl rfl ?_
  refine z_iconst (v := 0) C dL_luckIn_1 (by decide) ?_
  refine z_aload_n C 0 dL_luckIn_2 rfl rfl ?_
  refine z_iload_n C 1 dL_luckIn_3 rfl rfl ?_
  refine z_iload_n C 2 dL_luckIn_4 rfl rfl ?_
  refine z_xcatch (w := (wX0 hh cI cZ v)) (w1 := ([] : va_W)) (w2 := wO o cJ f) (As := [.int x0, .int x1]) (rest := [.int 0, .ref o]) (pre := tableOf []) (x := ⟨0, 10, 13, 19⟩) (suf := tableOf [(0, 10, 17, 21)]) (hpc := 13) C hT hM (cwV 2 C.words gL_luckIn_X0_luckIn rfl rfl rfl (by decide +kernel) ⟨(Nat.le_of_ble_eq_true rfl), (Nat.le_of_ble_eq_true rfl)⟩) (q0 := 0) (ci := 0) rfl rfl rfl [0, 1] rfl rfl (Nat.le_of_ble_eq_true rfl) ⟨(Nat.le_of_ble_eq_true rfl), (Nat.le_of_ble_eq_true rfl)⟩ rfl rfl (htab.trans rfl) (fun _ h => nomatch h) (by decide) (by decide) (by decide +kernel) zx_cI rfl dL_luckIn_5 (fun q => ?_)
  refine z_astore (L' := [(4, .ref q), (0, .ref (hh 0)), (1, .int x0), (2, .int x1), (3, .ref o)]) C dL_luckIn_13 (by decide) rfl ?_
  refine z_iconst (v := 1) C dL_luckIn_15 (by decide) ?_
  exact z_iret C hr hlocks (Nat.le_of_ble_eq_true rfl) (Nat.le_of_ble_eq_true rfl) dL_luckIn_16 rfl rfl
set_option maxHeartbeats 4000000 in
set_option maxRecDepth 100000 in
theorem w_L_luckIn_x2 (l : Launch) (D : va_G) (hh : Nat → Nat) (cI cZ cJ : ClassId) (o : Nat) (f : Nat → Int64) (x0 x1 : Int32) {v : S0} (hM : zX l yX0_luckIn wsX0_luckIn 7 103 [.ref (hh 0), .int x0, .int x1] [(cI, .int), (cZ, .boolean)] D (wX0 hh cI cZ v) zA) : zMT l yL_luckIn wsL_luckIn 8 140 1 6 [.ref (hh 0), .int x0, .int x1, .ref o] [(cI, .int), (cZ, .boolean), (cJ, .long)] D (wX0 hh cI cZ v ++ wO o cJ f) (wX0 hh cI cZ v ++ wO o cJ f) (some (.int 2)) := by
  refine z_tmet (cc := cL_luckIn) (maxL := 5) (ret := (some .int)) (hx := [(0, 10, 13, 19), (0, 10, 17, 21)]) (by decide) rfl (Nat.le_of_ble_eq_true rfl) ?_
  intro p e s m args below meth c A C hT hN htab hr hlocks
  refine z_sub (L' := [(0, .ref (hh 0)), (1, .int x0), (2, .int x1), (3, .ref o)]) [0, 1, 2, 3] rfl ?_
  refine z_aload_n C 3 dL_luckIn_0 rfl rfl ?_
  refine z_iconst (v := 0) C dL_luckIn_1 (by decide) ?_
  refine z_aload_n C 0 dL_luckIn_2 rfl rfl ?_
  refine z_iload_n C 1 dL_luckIn_3 rfl rfl ?_
  refine z_iload_n C 2 dL_luckIn_4 rfl rfl ?_
  refine z_xcatch (w := (wX0 hh cI cZ v)) (w1 := ([] : va_W)) (w2 := wO o cJ f) (As := [.int x0, .int x1]) (rest := [.int 0, .ref o]) (pre := tableOf [(0, 10, 13, 19)]) (x := ⟨0, 10, 17, 21⟩) (suf := tableOf []) (hpc := 17) C hT hM (cwV 2 C.words gL_luckIn_X0_luckIn rfl rfl rfl (by decide +kernel) ⟨(Nat.le_of_ble_eq_true rfl), (Nat.le_of_ble_eq_true rfl)⟩) (q0 := 0) (ci := 0) rfl rfl rfl [0, 1] rfl rfl (Nat.le_of_ble_eq_true rfl) ⟨(Nat.le_of_ble_eq_true rfl), (Nat.le_of_ble_eq_true rfl)⟩ rfl rfl (htab.trans rfl) (List.forall_mem_cons.mpr ⟨Or.inr ⟨by decide, zI, by decide +kernel, hN.1⟩, (fun _ h => nomatch h)⟩) (by decide) (by decide) (by decide +kernel) zx_cA rfl dL_luckIn_5 (fun q => ?_)
  refine z_astore (L' := [(4, .ref q), (0, .ref (hh 0)), (1, .int x0), (2, .int x1), (3, .ref o)]) C dL_luckIn_17 (by decide) rfl ?_
  refine z_iconst (v := 2) C dL_luckIn_19 (by decide) ?_
  exact z_iret C hr hlocks (Nat.le_of_ble_eq_true rfl) (Nat.le_of_ble_eq_true rfl) dL_luckIn_20 rfl rfl
set_option maxHeartbeats 4000000 in
set_option maxRecDepth 100000 in
theorem w_L_daysUntilClear (l : Launch) (D : va_G) (hh : Nat → Nat) (cI cZ cJ : ClassId) (o : Nat) (f : Nat → Int64) (x0 : Int32) {v v2 : S0} {r : Int32} (hM : zM l yX0_daysUntilClear wsX0_daysUntilClear 4 78 0 0 [.ref (hh 0), .int x0] [(cI, .int), (cZ, .boolean)] D (wX0 hh cI cZ v) (wX0 hh cI cZ v2) (some (.int r))) : zMT l yL_daysUntilClear wsL_daysUntilClear 8 140 0 0 [.ref (hh 0), .int x0, .ref o] [(cI, .int), (cZ, .boolean), (cJ, .long)] D (wX0 hh cI cZ v ++ wO o cJ f) (wX0 hh cI cZ v2 ++ wO o cJ (vp_updL f 0 r.toInt64)) (some (.int 0)) := by
  refine z_tmet (cc := cL_daysUntilClear) (maxL := 4) (ret := (some .int)) (hx := [(0, 9, 12, 19)]) (by decide) rfl (Nat.le_of_ble_eq_true rfl) ?_
  intro p e s m args below meth c A C hT hN htab hr hlocks
  refine z_sub (L' := [(0, .ref (hh 0)), (1, .int x0), (2, .ref o)]) [0, 1, 2] rfl ?_
  refine z_aload_n C 2 dL_daysUntilClear_0 rfl rfl ?_
  refine z_iconst (v := 0) C dL_daysUntilClear_1 (by decide) ?_
  refine z_aload_n C 0 dL_daysUntilClear_2 rfl rfl ?_
  refine z_iload_n C 1 dL_daysUntilClear_3 rfl rfl ?_
  refine z_callV (w := (wX0 hh cI cZ v)) (w' := (wX0 hh cI cZ v2)) (w1 := ([] : va_W)) (w2 := wO o cJ f) (ws' := (wX0 hh cI cZ v2 ++ wO o cJ f)) (As := [.int x0]) (rest := [.int 0, .ref o]) (st' := [.int r, .int 0, .ref o]) (rv := some (.int r)) C hM (cwV 1 C.words gL_daysUntilClear_X0_daysUntilClear rfl rfl rfl (by decide +kernel) ⟨(Nat.le_of_ble_eq_true rfl), (Nat.le_of_ble_eq_true rfl)⟩) (q0 := 0) (ci := 0) rfl rfl rfl [0, 1] rfl rfl (Nat.le_of_ble_eq_true rfl) ⟨(Nat.le_of_ble_eq_true rfl), (Nat.le_of_ble_eq_true rfl)⟩ rfl rfl rfl rfl rfl dL_daysUntilClear_4 ?_
  refine z_i2l (v := r.toInt64) C dL_daysUntilClear_7 rfl ?_
  refine z_last (ws' := (wX0 hh cI cZ v2 ++ wO o cJ (vp_updL f 0 (r.toInt64)))) C 8 2 rfl rfl 0 rfl (by decide) (by decide) rfl dL_daysUntilClear_8 ?_
  refine z_goto (tgt := 15) C dL_daysUntilClear_9 (by decide) ?_
  refine z_iconst (v := 0) C dL_daysUntilClear_15 (by decide) ?_
  exact z_iret C hr hlocks (Nat.le_of_ble_eq_true rfl) (Nat.le_of_ble_eq_true rfl) dL_daysUntilClear_16 rfl rfl
set_option maxHeartbeats 4000000 in
set_option maxRecDepth 100000 in
theorem w_L_daysUntilClear_x1 (l : Launch) (D : va_G) (hh : Nat → Nat) (cI cZ cJ : ClassId) (o : Nat) (f : Nat → Int64) (x0 : Int32) {v : S0} (hM : zX l yX0_daysUntilClear wsX0_daysUntilClear 7 103 [.ref (hh 0), .int x0] [(cI, .int), (cZ, .boolean)] D (wX0 hh cI cZ v) zI) : zMT l yL_daysUntilClear wsL_daysUntilClear 8 140 1 6 [.ref (hh 0), .int x0, .ref o] [(cI, .int), (cZ, .boolean), (cJ, .long)] D (wX0 hh cI cZ v ++ wO o cJ f) (wX0 hh cI cZ v ++ wO o cJ f) (some (.int 1)) := by
  refine z_tmet (cc := cL_daysUntilClear) (maxL := 4) (ret := (some .int)) (hx := [(0, 9, 12, 19)]) (by decide) rfl (Nat.le_of_ble_eq_true rfl) ?_
  intro p e s m args below meth c A C hT hN htab hr hlocks
  refine z_sub (L' := [(0, .ref (hh 0)), (1, .int x0), (2, .ref o)]) [0, 1, 2] rfl ?_
  refine z_aload_n C 2 dL_daysUntilClear_0 rfl rfl ?_
  refine z_iconst (v := 0) C dL_daysUntilClear_1 (by decide) ?_
  refine z_aload_n C 0 dL_daysUntilClear_2 rfl rfl ?_
  refine z_iload_n C 1 dL_daysUntilClear_3 rfl rfl ?_
  refine z_xcatch (w := (wX0 hh cI cZ v)) (w1 := ([] : va_W)) (w2 := wO o cJ f) (As := [.int x0]) (rest := [.int 0, .ref o]) (pre := tableOf []) (x := ⟨0, 9, 12, 19⟩) (suf := tableOf []) (hpc := 12) C hT hM (cwV 1 C.words gL_daysUntilClear_X0_daysUntilClear rfl rfl rfl (by decide +kernel) ⟨(Nat.le_of_ble_eq_true rfl), (Nat.le_of_ble_eq_true rfl)⟩) (q0 := 0) (ci := 0) rfl rfl rfl [0, 1] rfl rfl (Nat.le_of_ble_eq_true rfl) ⟨(Nat.le_of_ble_eq_true rfl), (Nat.le_of_ble_eq_true rfl)⟩ rfl rfl (htab.trans rfl) (fun _ h => nomatch h) (by decide) (by decide) (by decide +kernel) zx_cI rfl dL_daysUntilClear_4 (fun q => ?_)
  refine z_astore_n (L' := [(3, .ref q), (0, .ref (hh 0)), (1, .int x0), (2, .ref o)]) C dL_daysUntilClear_12 rfl (by decide) rfl ?_
  refine z_iconst (v := 1) C dL_daysUntilClear_13 (by decide) ?_
  exact z_iret C hr hlocks (Nat.le_of_ble_eq_true rfl) (Nat.le_of_ble_eq_true rfl) dL_daysUntilClear_14 rfl rfl
set_option maxHeartbeats 4000000 in
set_option maxRecDepth 100000 in
theorem w_L_daysUntilUnlucky (l : Launch) (D : va_G) (hh : Nat → Nat) (cI cZ cJ : ClassId) (o : Nat) (f : Nat → Int64) (x0 : Int32) {v v2 : S0} {r : Int32} (hM : zM l yX0_daysUntilUnlucky wsX0_daysUntilUnlucky 4 78 0 0 [.ref (hh 0), .int x0] [(cI, .int), (cZ, .boolean)] D (wX0 hh cI cZ v) (wX0 hh cI cZ v2) (some (.int r))) : zMT l yL_daysUntilUnlucky wsL_daysUntilUnlucky 8 140 0 0 [.ref (hh 0), .int x0, .ref o] [(cI, .int), (cZ, .boolean), (cJ, .long)] D (wX0 hh cI cZ v ++ wO o cJ f) (wX0 hh cI cZ v2 ++ wO o cJ (vp_updL f 0 r.toInt64)) (some (.int 0)) := by
  refine z_tmet (cc := cL_daysUntilUnlucky) (maxL := 4) (ret := (some .int)) (hx := [(0, 9, 12, 19)]) (by decide) rfl (Nat.le_of_ble_eq_true rfl) ?_
  intro p e s m args below meth c A C hT hN htab hr hlocks
  refine z_sub (L' := [(0, .ref (hh 0)), (1, .int x0), (2, .ref o)]) [0, 1, 2] rfl ?_
  refine z_aload_n C 2 dL_daysUntilUnlucky_0 rfl rfl ?_
  refine z_iconst (v := 0) C dL_daysUntilUnlucky_1 (by decide) ?_
  refine z_aload_n C 0 dL_daysUntilUnlucky_2 rfl rfl ?_
  refine z_iload_n C 1 dL_daysUntilUnlucky_3 rfl rfl ?_
  refine z_callV (w := (wX0 hh cI cZ v)) (w' := (wX0 hh cI cZ v2)) (w1 := ([] : va_W)) (w2 := wO o cJ f) (ws' := (wX0 hh cI cZ v2 ++ wO o cJ f)) (As := [.int x0]) (rest := [.int 0, .ref o]) (st' := [.int r, .int 0, .ref o]) (rv := some (.int r)) C hM (cwV 1 C.words gL_daysUntilUnlucky_X0_daysUntilUnlucky rfl rfl rfl (by decide +kernel) ⟨(Nat.le_of_ble_eq_true rfl), (Nat.le_of_ble_eq_true rfl)⟩) (q0 := 0) (ci := 0) rfl rfl rfl [0, 1] rfl rfl (Nat.le_of_ble_eq_true rfl) ⟨(Nat.le_of_ble_eq_true rfl), (Nat.le_of_ble_eq_true rfl)⟩ rfl rfl rfl rfl rfl dL_daysUntilUnlucky_4 ?_
  refine z_i2l (v := r.toInt64) C dL_daysUntilUnlucky_7 rfl ?_
  refine z_last (ws' := (wX0 hh cI cZ v2 ++ wO o cJ (vp_updL f 0 (r.toInt64)))) C 8 2 rfl rfl 0 rfl (by decide) (by decide) rfl dL_daysUntilUnlucky_8 ?_
  refine z_goto (tgt := 15) C dL_daysUntilUnlucky_9 (by decide) ?_
  refine z_iconst (v := 0) C dL_daysUntilUnlucky_15 (by decide) ?_
  exact z_iret C hr hlocks (Nat.le_of_ble_eq_true rfl) (Nat.le_of_ble_eq_true rfl) dL_daysUntilUnlucky_16 rfl rfl
set_option maxHeartbeats 4000000 in
set_option maxRecDepth 100000 in
theorem w_L_daysUntilUnlucky_x1 (l : Launch) (D : va_G) (hh : Nat → Nat) (cI cZ cJ : ClassId) (o : Nat) (f : Nat → Int64) (x0 : Int32) {v : S0} (hM : zX l yX0_daysUntilUnlucky wsX0_daysUntilUnlucky 7 103 [.ref (hh 0), .int x0] [(cI, .int), (cZ, .boolean)] D (wX0 hh cI cZ v) zI) : zMT l yL_daysUntilUnlucky wsL_daysUntilUnlucky 8 140 1 6 [.ref (hh 0), .int x0, .ref o] [(cI, .int), (cZ, .boolean), (cJ, .long)] D (wX0 hh cI cZ v ++ wO o cJ f) (wX0 hh cI cZ v ++ wO o cJ f) (some (.int 1)) := by
  refine z_tmet (cc := cL_daysUntilUnlucky) (maxL := 4) (ret := (some .int)) (hx := [(0, 9, 12, 19)]) (by decide) rfl (Nat.le_of_ble_eq_true rfl) ?_
  intro p e s m args below meth c A C hT hN htab hr hlocks
  refine z_sub (L' := [(0, .ref (hh 0)), (1, .int x0), (2, .ref o)]) [0, 1, 2] rfl ?_
  refine z_aload_n C 2 dL_daysUntilUnlucky_0 rfl rfl ?_
  refine z_iconst (v := 0) C dL_daysUntilUnlucky_1 (by decide) ?_
  refine z_aload_n C 0 dL_daysUntilUnlucky_2 rfl rfl ?_
  refine z_iload_n C 1 dL_daysUntilUnlucky_3 rfl rfl ?_
  refine z_xcatch (w := (wX0 hh cI cZ v)) (w1 := ([] : va_W)) (w2 := wO o cJ f) (As := [.int x0]) (rest := [.int 0, .ref o]) (pre := tableOf []) (x := ⟨0, 9, 12, 19⟩) (suf := tableOf []) (hpc := 12) C hT hM (cwV 1 C.words gL_daysUntilUnlucky_X0_daysUntilUnlucky rfl rfl rfl (by decide +kernel) ⟨(Nat.le_of_ble_eq_true rfl), (Nat.le_of_ble_eq_true rfl)⟩) (q0 := 0) (ci := 0) rfl rfl rfl [0, 1] rfl rfl (Nat.le_of_ble_eq_true rfl) ⟨(Nat.le_of_ble_eq_true rfl), (Nat.le_of_ble_eq_true rfl)⟩ rfl rfl (htab.trans rfl) (fun _ h => nomatch h) (by decide) (by decide) (by decide +kernel) zx_cI rfl dL_daysUntilUnlucky_4 (fun q => ?_)
  refine z_astore_n (L' := [(3, .ref q), (0, .ref (hh 0)), (1, .int x0), (2, .ref o)]) C dL_daysUntilUnlucky_12 rfl (by decide) rfl ?_
  refine z_iconst (v := 1) C dL_daysUntilUnlucky_13 (by decide) ?_
  exact z_iret C hr hlocks (Nat.le_of_ble_eq_true rfl) (Nat.le_of_ble_eq_true rfl) dL_daysUntilUnlucky_14 rfl rfl
set_option maxHeartbeats 4000000 in
set_option maxRecDepth 100000 in
theorem w_L_bestPinch (l : Launch) (D : va_G) (hh : Nat → Nat) (cI cZ cJ : ClassId) (o : Nat) (f : Nat → Int64) (x0 : Int32) {v v2 : S0} {r : Int32} (hM : zM l yX0_bestPinch wsX0_bestPinch 5 100 0 0 [.ref (hh 0), .int x0] [(cI, .int), (cZ, .boolean)] D (wX0 hh cI cZ v) (wX0 hh cI cZ v2) (some (.int r))) : zMT l yL_bestPinch wsL_bestPinch 8 140 0 0 [.ref (hh 0), .int x0, .ref o] [(cI, .int), (cZ, .boolean), (cJ, .long)] D (wX0 hh cI cZ v ++ wO o cJ f) (wX0 hh cI cZ v2 ++ wO o cJ (vp_updL f 0 r.toInt64)) (some (.int 0)) := by
  refine z_tmet (cc := cL_bestPinch) (maxL := 4) (ret := (some .int)) (hx := [(0, 9, 12, 19)]) (by decide) rfl (Nat.le_of_ble_eq_true rfl) ?_
  intro p e s m args below meth c A C hT hN htab hr hlocks
  refine z_sub (L' := [(0, .ref (hh 0)), (1, .int x0), (2, .ref o)]) [0, 1, 2] rfl ?_
  refine z_aload_n C 2 dL_bestPinch_0 rfl rfl ?_
  refine z_iconst (v := 0) C dL_bestPinch_1 (by decide) ?_
  refine z_aload_n C 0 dL_bestPinch_2 rfl rfl ?_
  refine z_iload_n C 1 dL_bestPinch_3 rfl rfl ?_
  refine z_callV (w := (wX0 hh cI cZ v)) (w' := (wX0 hh cI cZ v2)) (w1 := ([] : va_W)) (w2 := wO o cJ f) (ws' := (wX0 hh cI cZ v2 ++ wO o cJ f)) (As := [.int x0]) (rest := [.int 0, .ref o]) (st' := [.int r, .int 0, .ref o]) (rv := some (.int r)) C hM (cwV 1 C.words gL_bestPinch_X0_bestPinch rfl rfl rfl (by decide +kernel) ⟨(Nat.le_of_ble_eq_true rfl), (Nat.le_of_ble_eq_true rfl)⟩) (q0 := 0) (ci := 0) rfl rfl rfl [0, 1] rfl rfl (Nat.le_of_ble_eq_true rfl) ⟨(Nat.le_of_ble_eq_true rfl), (Nat.le_of_ble_eq_true rfl)⟩ rfl rfl rfl rfl rfl dL_bestPinch_4 ?_
  refine z_i2l (v := r.toInt64) C dL_bestPinch_7 rfl ?_
  refine z_last (ws' := (wX0 hh cI cZ v2 ++ wO o cJ (vp_updL f 0 (r.toInt64)))) C 8 2 rfl rfl 0 rfl (by decide) (by decide) rfl dL_bestPinch_8 ?_
  refine z_goto (tgt := 15) C dL_bestPinch_9 (by decide) ?_
  refine z_iconst (v := 0) C dL_bestPinch_15 (by decide) ?_
  exact z_iret C hr hlocks (Nat.le_of_ble_eq_true rfl) (Nat.le_of_ble_eq_true rfl) dL_bestPinch_16 rfl rfl
set_option maxHeartbeats 4000000 in
set_option maxRecDepth 100000 in
theorem w_L_bestPinch_x1 (l : Launch) (D : va_G) (hh : Nat → Nat) (cI cZ cJ : ClassId) (o : Nat) (f : Nat → Int64) (x0 : Int32) {v : S0} (hM : zX l yX0_bestPinch wsX0_bestPinch 7 103 [.ref (hh 0), .int x0] [(cI, .int), (cZ, .boolean)] D (wX0 hh cI cZ v) zI) : zMT l yL_bestPinch wsL_bestPinch 8 140 1 6 [.ref (hh 0), .int x0, .ref o] [(cI, .int), (cZ, .boolean), (cJ, .long)] D (wX0 hh cI cZ v ++ wO o cJ f) (wX0 hh cI cZ v ++ wO o cJ f) (some (.int 1)) := by
  refine z_tmet (cc := cL_bestPinch) (maxL := 4) (ret := (some .int)) (hx := [(0, 9, 12, 19)]) (by decide) rfl (Nat.le_of_ble_eq_true rfl) ?_
  intro p e s m args below meth c A C hT hN htab hr hlocks
  refine z_sub (L' := [(0, .ref (hh 0)), (1, .int x0), (2, .ref o)]) [0, 1, 2] rfl ?_
  refine z_aload_n C 2 dL_bestPinch_0 rfl rfl ?_
  refine z_iconst (v := 0) C dL_bestPinch_1 (by decide) ?_
  refine z_aload_n C 0 dL_bestPinch_2 rfl rfl ?_
  refine z_iload_n C 1 dL_bestPinch_3 rfl rfl ?_
  refine z_xcatch (w := (wX0 hh cI cZ v)) (w1 := ([] : va_W)) (w2 := wO o cJ f) (As := [.int x0]) (rest := [.int 0, .ref o]) (pre := tableOf []) (x := ⟨0, 9, 12, 19⟩) (suf := tableOf []) (hpc := 12) C hT hM (cwV 1 C.words gL_bestPinch_X0_bestPinch rfl rfl rfl (by decide +kernel) ⟨(Nat.le_of_ble_eq_true rfl), (Nat.le_of_ble_eq_true rfl)⟩) (q0 := 0) (ci := 0) rfl rfl rfl [0, 1] rfl rfl (Nat.le_of_ble_eq_true rfl) ⟨(Nat.le_of_ble_eq_true rfl), (Nat.le_of_ble_eq_true rfl)⟩ rfl rfl (htab.trans rfl) (fun _ h => nomatch h) (by decide) (by decide) (by decide +kernel) zx_cI rfl dL_bestPinch_4 (fun q => ?_)
  refine z_astore_n (L' := [(3, .ref q), (0, .ref (hh 0)), (1, .int x0), (2, .ref o)]) C dL_bestPinch_12 rfl (by decide) rfl ?_
  refine z_iconst (v := 1) C dL_bestPinch_13 (by decide) ?_
  exact z_iret C hr hlocks (Nat.le_of_ble_eq_true rfl) (Nat.le_of_ble_eq_true rfl) dL_bestPinch_14 rfl rfl
set_option maxHeartbeats 4000000 in
set_option maxRecDepth 100000 in
theorem w_L_bestPenance (l : Launch) (D : va_G) (hh : Nat → Nat) (cI cZ cJ : ClassId) (o : Nat) (f : Nat → Int64) (x0 : Int32) {v v2 : S0} {r : Int32} (hM : zM l yX0_bestPenance wsX0_bestPenance 5 100 0 0 [.ref (hh 0), .int x0] [(cI, .int), (cZ, .boolean)] D (wX0 hh cI cZ v) (wX0 hh cI cZ v2) (some (.int r))) : zMT l yL_bestPenance wsL_bestPenance 8 140 0 0 [.ref (hh 0), .int x0, .ref o] [(cI, .int), (cZ, .boolean), (cJ, .long)] D (wX0 hh cI cZ v ++ wO o cJ f) (wX0 hh cI cZ v2 ++ wO o cJ (vp_updL f 0 r.toInt64)) (some (.int 0)) := by
  refine z_tmet (cc := cL_bestPenance) (maxL := 4) (ret := (some .int)) (hx := [(0, 9, 12, 19)]) (by decide) rfl (Nat.le_of_ble_eq_true rfl) ?_
  intro p e s m args below meth c A C hT hN htab hr hlocks
  refine z_sub (L' := [(0, .ref (hh 0)), (1, .int x0), (2, .ref o)]) [0, 1, 2] rfl ?_
  refine z_aload_n C 2 dL_bestPenance_0 rfl rfl ?_
  refine z_iconst (v := 0) C dL_bestPenance_1 (by decide) ?_
  refine z_aload_n C 0 dL_bestPenance_2 rfl rfl ?_
  refine z_iload_n C 1 dL_bestPenance_3 rfl rfl ?_
  refine z_callV (w := (wX0 hh cI cZ v)) (w' := (wX0 hh cI cZ v2)) (w1 := ([] : va_W)) (w2 := wO o cJ f) (ws' := (wX0 hh cI cZ v2 ++ wO o cJ f)) (As := [.int x0]) (rest := [.int 0, .ref o]) (st' := [.int r, .int 0, .ref o]) (rv := some (.int r)) C hM (cwV 1 C.words gL_bestPenance_X0_bestPenance rfl rfl rfl (by decide +kernel) ⟨(Nat.le_of_ble_eq_true rfl), (Nat.le_of_ble_eq_true rfl)⟩) (q0 := 0) (ci := 0) rfl rfl rfl [0, 1] rfl rfl (Nat.le_of_ble_eq_true rfl) ⟨(Nat.le_of_ble_eq_true rfl), (Nat.le_of_ble_eq_true rfl)⟩ rfl rfl rfl rfl rfl dL_bestPenance_4 ?_
  refine z_i2l (v := r.toInt64) C dL_bestPenance_7 rfl ?_
  refine z_last (ws' := (wX0 hh cI cZ v2 ++ wO o cJ (vp_updL f 0 (r.toInt64)))) C 8 2 rfl rfl 0 rfl (by decide) (by decide) rfl dL_bestPenance_8 ?_
  refine z_goto (tgt := 15) C dL_bestPenance_9 (by decide) ?_
  refine z_iconst (v := 0) C dL_bestPenance_15 (by decide) ?_
  exact z_iret C hr hlocks (Nat.le_of_ble_eq_true rfl) (Nat.le_of_ble_eq_true rfl) dL_bestPenance_16 rfl rfl
set_option maxHeartbeats 4000000 in
set_option maxRecDepth 100000 in
theorem w_L_bestPenance_x1 (l : Launch) (D : va_G) (hh : Nat → Nat) (cI cZ cJ : ClassId) (o : Nat) (f : Nat → Int64) (x0 : Int32) {v : S0} (hM : zX l yX0_bestPenance wsX0_bestPenance 7 103 [.ref (hh 0), .int x0] [(cI, .int), (cZ, .boolean)] D (wX0 hh cI cZ v) zI) : zMT l yL_bestPenance wsL_bestPenance 8 140 1 6 [.ref (hh 0), .int x0, .ref o] [(cI, .int), (cZ, .boolean), (cJ, .long)] D (wX0 hh cI cZ v ++ wO o cJ f) (wX0 hh cI cZ v ++ wO o cJ f) (some (.int 1)) := by
  refine z_tmet (cc := cL_bestPenance) (maxL := 4) (ret := (some .int)) (hx := [(0, 9, 12, 19)]) (by decide) rfl (Nat.le_of_ble_eq_true rfl) ?_
  intro p e s m args below meth c A C hT hN htab hr hlocks
  refine z_sub (L' := [(0, .ref (hh 0)), (1, .int x0), (2, .ref o)]) [0, 1, 2] rfl ?_
  refine z_aload_n C 2 dL_bestPenance_0 rfl rfl ?_
  refine z_iconst (v := 0) C dL_bestPenance_1 (by decide) ?_
  refine z_aload_n C 0 dL_bestPenance_2 rfl rfl ?_
  refine z_iload_n C 1 dL_bestPenance_3 rfl rfl ?_
  refine z_xcatch (w := (wX0 hh cI cZ v)) (w1 := ([] : va_W)) (w2 := wO o cJ f) (As := [.int x0]) (rest := [.int 0, .ref o]) (pre := tableOf []) (x := ⟨0, 9, 12, 19⟩) (suf := tableOf []) (hpc := 12) C hT hM (cwV 1 C.words gL_bestPenance_X0_bestPenance rfl rfl rfl (by decide +kernel) ⟨(Nat.le_of_ble_eq_true rfl), (Nat.le_of_ble_eq_true rfl)⟩) (q0 := 0) (ci := 0) rfl rfl rfl [0, 1] rfl rfl (Nat.le_of_ble_eq_true rfl) ⟨(Nat.le_of_ble_eq_true rfl), (Nat.le_of_ble_eq_true rfl)⟩ rfl rfl (htab.trans rfl) (fun _ h => nomatch h) (by decide) (by decide) (by decide +kernel) zx_cI rfl dL_bestPenance_4 (fun q => ?_)
  refine z_astore_n (L' := [(3, .ref q), (0, .ref (hh 0)), (1, .int x0), (2, .ref o)]) C dL_bestPenance_12 rfl (by decide) rfl ?_
  refine z_iconst (v := 1) C dL_bestPenance_13 (by decide) ?_
  exact z_iret C hr hlocks (Nat.le_of_ble_eq_true rfl) (Nat.le_of_ble_eq_true rfl) dL_bestPenance_14 rfl rfl
