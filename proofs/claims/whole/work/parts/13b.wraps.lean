set_option maxHeartbeats 4000000 in
set_option maxRecDepth 100000 in
theorem w_L_join (l : Launch) (D : va_G) (hh : Nat → Nat) (cI cZ cJ : ClassId) (o : Nat) (f : Nat → Int64) {v v2 : S0} {r : Int32} (hM : zM l yX0_join wsX0_join 0 0 0 0 [.ref (hh 0)] [(cI, .int), (cZ, .boolean)] D (wX0 hh cI cZ v) (wX0 hh cI cZ v2) (some (.int r))) : zMT l yL_join wsL_join 8 140 0 0 [.ref (hh 0), .ref o] [(cI, .int), (cZ, .boolean), (cJ, .long)] D (wX0 hh cI cZ v ++ wO o cJ f) (wX0 hh cI cZ v2 ++ wO o cJ (vp_updL f 0 r.toInt64)) (some (.int 0)) := by
  refine z_tmet (cc := cL_join) (maxL := 3) (ret := (some .int)) (hx := [(0, 8, 11, 13)]) (by decide) rfl (Nat.le_of_ble_eq_true rfl) ?_
  intro p e s m args below meth c A C hT hN htab hr hlocks
  refine z_sub (L' := [(0, .ref (hh 0)), (1, .ref o)]) [0, 1] rfl ?_
  refine z_aload_n C 1 dL_join_0 rfl rfl ?_
  refine z_iconst (v := 0) C dL_join_1 (by decide) ?_
  refine z_aload_n C 0 dL_join_2 rfl rfl ?_
  refine z_callV (w := (wX0 hh cI cZ v)) (w' := (wX0 hh cI cZ v2)) (w1 := ([] : va_W)) (w2 := wO o cJ f) (ws' := (wX0 hh cI cZ v2 ++ wO o cJ f)) (As := []) (rest := [.int 0, .ref o]) (st' := [.int r, .int 0, .ref o]) (rv := some (.int r)) C hM (cwV 0 C.words gL_join_X0_join rfl rfl rfl (by decide +kernel) ⟨(Nat.le_of_ble_eq_true rfl), (Nat.le_of_ble_eq_true rfl)⟩) (q0 := 0) (ci := 0) rfl rfl rfl [0, 1] rfl rfl (Nat.le_of_ble_eq_true rfl) ⟨(Nat.le_of_ble_eq_true rfl), (Nat.le_of_ble_eq_true rfl)⟩ rfl rfl rfl rfl rfl dL_join_3 ?_
  refine z_i2l (v := r.toInt64) C dL_join_6 rfl ?_
  refine z_last (ws' := (wX0 hh cI cZ v2 ++ wO o cJ (vp_updL f 0 (r.toInt64)))) C 8 2 rfl rfl 0 rfl (by decide) (by decide) rfl dL_join_7 ?_
  refine z_goto (tgt := 14) C dL_join_8 (by decide) ?_
  refine z_iconst (v := 0) C dL_join_14 (by decide) ?_
  exact z_iret C hr hlocks (Nat.le_of_ble_eq_true rfl) (Nat.le_of_ble_eq_true rfl) dL_join_15 rfl rfl
set_option maxHeartbeats 4000000 in
set_option maxRecDepth 100000 in
theorem w_L_join_x1 (l : Launch) (D : va_G) (hh : Nat → Nat) (cI cZ cJ : ClassId) (o : Nat) (f : Nat → Int64) {v : S0} (hM : zX l yX0_join wsX0_join 6 82 [.ref (hh 0)] [(cI, .int), (cZ, .boolean)] D (wX0 hh cI cZ v) zS) : zMT l yL_join wsL_join 8 140 1 6 [.ref (hh 0), .ref o] [(cI, .int), (cZ, .boolean), (cJ, .long)] D (wX0 hh cI cZ v ++ wO o cJ f) (wX0 hh cI cZ v ++ wO o cJ f) (some (.int 1)) := by
  refine z_tmet (cc := cL_join) (maxL := 3) (ret := (some .int)) (hx := [(0, 8, 11, 13)]) (by decide) rfl (Nat.le_of_ble_eq_true rfl) ?_
  intro p e s m args below meth c A C hT hN htab hr hlocks
  refine z_sub (L' := [(0, .ref (hh 0)), (1, .ref o)]) [0, 1] rfl ?_
  refine z_aload_n C 1 dL_join_0 rfl rfl ?_
  refine z_iconst (v := 0) C dL_join_1 (by decide) ?_
  refine z_aload_n C 0 dL_join_2 rfl rfl ?_
  refine z_xcatch (w := (wX0 hh cI cZ v)) (w1 := ([] : va_W)) (w2 := wO o cJ f) (As := []) (rest := [.int 0, .ref o]) (pre := tableOf []) (x := ⟨0, 8, 11, 13⟩) (suf := tableOf []) (hpc := 11) C hT hM (cwV 0 C.words gL_join_X0_join rfl rfl rfl (by decide +kernel) ⟨(Nat.le_of_ble_eq_true rfl), (Nat.le_of_ble_eq_true rfl)⟩) (q0 := 0) (ci := 0) rfl rfl rfl [0, 1] rfl rfl (Nat.le_of_ble_eq_true rfl) ⟨(Nat.le_of_ble_eq_true rfl), (Nat.le_of_ble_eq_true rfl)⟩ rfl rfl (htab.trans rfl) (fun _ h => nomatch h) (by decide) (by decide) (by decide +kernel) zx_cS rfl dL_join_3 (fun q => ?_)
  refine z_astore_n (L' := [(2, .ref q), (0, .ref (hh 0)), (1, .ref o)]) C dL_join_11 rfl (by decide) rfl ?_
  refine z_iconst (v := 1) C dL_join_12 (by decide) ?_
  exact z_iret C hr hlocks (Nat.le_of_ble_eq_true rfl) (Nat.le_of_ble_eq_true rfl) dL_join_13 rfl rfl
set_option maxHeartbeats 4000000 in
set_option maxRecDepth 100000 in
theorem w_L_spill (l : Launch) (D : va_G) (hh : Nat → Nat) (cI cZ cJ : ClassId) (o : Nat) (f : Nat → Int64) (x0 x1 : Int32) {v v2 : S0} {r : Int32} (hM : zM l yX0_spill wsX0_spill 2 37 0 0 [.ref (hh 0), .int x0, .int x1] [(cI, .int), (cZ, .boolean)] D (wX0 hh cI cZ v) (wX0 hh cI cZ v2) (some (.int r))) : zMT l yL_spill wsL_spill 8 140 0 0 [.ref (hh 0), .int x0, .int x1, .ref o] [(cI, .int), (cZ, .boolean), (cJ, .long)] D (wX0 hh cI cZ v ++ wO o cJ f) (wX0 hh cI cZ v2 ++ wO o cJ (vp_updL f 0 r.toInt64)) (some (.int 0)) := by
  refine z_tmet (cc := cL_spill) (maxL := 5) (ret := (some .int)) (hx := [(0, 10, 13, 19), (0, 10, 17, 21), (0, 10, 21, 13)]) (by decide) rfl (Nat.le_of_ble_eq_true rfl) ?_
  intro p e s m args below meth c A C hT hN htab hr hlocks
  refine z_sub (L' := [(0, .ref (hh 0)), (1, .int x0), (2, .int x1), (3, .ref o)]) [0, 1, 2, 3] rfl ?_
  refine z_aload_n C 3 dL_spill_0 rfl rfl ?_
  refine z_iconst (v := 0) C dL_spill_1 (by decide) ?_
  refine z_aload_n C 0 dL_spill_2 rfl rfl ?_
  refine z_iload_n C 1 dL_spill_3 rfl rfl ?_
  refine z_iload_n C 2 dL_spill_4 rfl rfl ?_
  refine z_callV (w := (wX0 hh cI cZ v)) (w' := (wX0 hh cI cZ v2)) (w1 := ([] : va_W)) (w2 := wO o cJ f) (ws' := (wX0 hh cI cZ v2 ++ wO o cJ f)) (As := [.int x0, .int x1]) (rest := [.int 0, .ref o]) (st' := [.int r, .int 0, .ref o]) (rv := some (.int r)) C hM (cwV 2 C.words gL_spill_X0_spill rfl rfl rfl (by decide +kernel) ⟨(Nat.le_of_ble_eq_true rfl), (Nat.le_of_ble_eq_true rfl)⟩) (q0 := 0) (ci := 0) rfl rfl rfl [0, 1] rfl rfl (Nat.le_of_ble_eq_true rfl) ⟨(Nat.le_of_ble_eq_true rfl), (Nat.le_of_ble_eq_true rfl)⟩ rfl rfl rfl rfl rfl dL_spill_5 ?_
  refine z_i2l (v := r.toInt64) C dL_spill_8 rfl ?_
  refine z_last (ws' := (wX0 hh cI cZ v2 ++ wO o cJ (vp_updL f 0 (r.toInt64)))) C 8 2 rfl rfl 0 rfl (by decide) (by decide) rfl dL_spill_9 ?_
  refine z_goto (tgt := 25) C dL_spill_10 (by decide) ?_
  refine z_iconst (v := 0) C dL_spill_25 (by decide) ?_
  exact z_iret C hr hlocks (Nat.le_of_ble_eq_true rfl) (Nat.le_of_ble_eq_true rfl) dL_spill_26 rfl rfl
set_option maxHeartbeats 4000000 in
set_option maxRecDepth 100000 in
theorem w_L_spill_x1 (l : Launch) (D : va_G) (hh : Nat → Nat) (cI cZ cJ : ClassId) (o : Nat) (f : Nat → Int64) (x0 x1 : Int32) {v : S0} (hM : zX l yX0_spill wsX0_spill 7 103 [.ref (hh 0), .int x0, .int x1] [(cI, .int), (cZ, .boolean)] D (wX0 hh cI cZ v) zI) : zMT l yL_spill wsL_spill 8 140 1 6 [.ref (hh 0), .int x0, .int x1, .ref o] [(cI, .int), (cZ, .boolean), (cJ, .long)] D (wX0 hh cI cZ v ++ wO o cJ f) (wX0 hh cI cZ v ++ wO o cJ f) (some (.int 1)) := by
  refine z_tmet (cc := cL_spill) (maxL := 5) (ret := (some .int)) (hx := [(0, 10, 13, 19), (0, 10, 17, 21), (0, 10, 21, 13)]) (by decide) rfl (Nat.le_of_ble_eq_true rfl) ?_
  intro p e s m args below meth c A C hT hN htab hr hlocks
  refine z_sub (L' := [(0, .ref (hh 0)), (1, .int x0), (2, .int x1), (3, .ref o)]) [0, 1, 2, 3] rfl ?_
  refine z_aload_n C 3 dL_spill_0 rfl rfl ?_
  refine z_iconst (v := 0) C dL_spill_1 (by decide) ?_
  refine z_aload_n C 0 dL_spill_2 rfl rfl ?_
  refine z_iload_n C 1 dL_spill_3 rfl rfl ?_
  refine z_iload_n C 2 dL_spill_4 rfl rfl ?_
  refine z_xcatch (w := (wX0 hh cI cZ v)) (w1 := ([] : va_W)) (w2 := wO o cJ f) (As := [.int x0, .int x1]) (rest := [.int 0, .ref o]) (pre := tableOf []) (x := ⟨0, 10, 13, 19⟩) (suf := tableOf [(0, 10, 17, 21), (0, 10, 21, 13)]) (hpc := 13) C hT hM (cwV 2 C.words gL_spill_X0_spill rfl rfl rfl (by decide +kernel) ⟨(Nat.le_of_ble_eq_true rfl), (Nat.le_of_ble_eq_true rfl)⟩) (q0 := 0) (ci := 0) rfl rfl rfl [0, 1] rfl rfl (Nat.le_of_ble_eq_true rfl) ⟨(Nat.le_of_ble_eq_true rfl), (Nat.le_of_ble_eq_true rfl)⟩ rfl rfl (htab.trans rfl) (fun _ h => nomatch h) (by decide) (by decide) (by decide +kernel) zx_cI rfl dL_spill_5 (fun q => ?_)
  refine z_astore (L' := [(4, .ref q), (0, .ref (hh 0)), (1, .int x0), (2, .int x1), (3, .ref o)]) C dL_spill_13 (by decide) rfl ?_
  refine z_iconst (v := 1) C dL_spill_15 (by decide) ?_
  exact z_iret C hr hlocks (Nat.le_of_ble_eq_true rfl) (Nat.le_of_ble_eq_true rfl) dL_spill_16 rfl rfl
set_option maxHeartbeats 4000000 in
set_option maxRecDepth 100000 in
theorem w_L_spill_x2 (l : Launch) (D : va_G) (hh : Nat → Nat) (cI cZ cJ : ClassId) (o : Nat) (f : Nat → Int64) (x0 x1 : Int32) {v : S0} (hM : zX l yX0_spill wsX0_spill 7 103 [.ref (hh 0), .int x0, .int x1] [(cI, .int), (cZ, .boolean)] D (wX0 hh cI cZ v) zA) : zMT l yL_spill wsL_spill 8 140 1 6 [.ref (hh 0), .int x0, .int x1, .ref o] [(cI, .int), (cZ, .boolean), (cJ, .long)] D (wX0 hh cI cZ v ++ wO o cJ f) (wX0 hh cI cZ v ++ wO o cJ f) (some (.int 2)) := by
  refine z_tmet (cc := cL_spill) (maxL := 5) (ret := (some .int)) (hx := [(0, 10, 13, 19), (0, 10, 17, 21), (0, 10, 21, 13)]) (by decide) rfl (Nat.le_of_ble_eq_true rfl) ?_
  intro p e s m args below meth c A C hT hN htab hr hlocks
  refine z_sub (L' := [(0, .ref (hh 0)), (1, .int x0), (2, .int x1), (3, .ref o)]) [0, 1, 2, 3] rfl ?_
  refine z_aload_n C 3 dL_spill_0 rfl rfl ?_
  refine z_iconst (v := 0) C dL_spill_1 (by decide) ?_
  refine z_aload_n C 0 dL_spill_2 rfl rfl ?_
  refine z_iload_n C 1 dL_spill_3 rfl rfl ?_
  refine z_iload_n C 2 dL_spill_4 rfl rfl ?_
  refine z_xcatch (w := (wX0 hh cI cZ v)) (w1 := ([] : va_W)) (w2 := wO o cJ f) (As := [.int x0, .int x1]) (rest := [.int 0, .ref o]) (pre := tableOf [(0, 10, 13, 19)]) (x := ⟨0, 10, 17, 21⟩) (suf := tableOf [(0, 10, 21, 13)]) (hpc := 17) C hT hM (cwV 2 C.words gL_spill_X0_spill rfl rfl rfl (by decide +kernel) ⟨(Nat.le_of_ble_eq_true rfl), (Nat.le_of_ble_eq_true rfl)⟩) (q0 := 0) (ci := 0) rfl rfl rfl [0, 1] rfl rfl (Nat.le_of_ble_eq_true rfl) ⟨(Nat.le_of_ble_eq_true rfl), (Nat.le_of_ble_eq_true rfl)⟩ rfl rfl (htab.trans rfl) (List.forall_mem_cons.mpr ⟨Or.inr ⟨by decide, zI, by decide +kernel, hN.1⟩, (fun _ h => nomatch h)⟩) (by decide) (by decide) (by decide +kernel) zx_cA rfl dL_spill_5 (fun q => ?_)
  refine z_astore (L' := [(4, .ref q), (0, .ref (hh 0)), (1, .int x0), (2, .int x1), (3, .ref o)]) C dL_spill_17 (by decide) rfl ?_
  refine z_iconst (v := 2) C dL_spill_19 (by decide) ?_
  exact z_iret C hr hlocks (Nat.le_of_ble_eq_true rfl) (Nat.le_of_ble_eq_true rfl) dL_spill_20 rfl rfl
set_option maxHeartbeats 4000000 in
set_option maxRecDepth 100000 in
theorem w_L_spill_x3 (l : Launch) (D : va_G) (hh : Nat → Nat) (cI cZ cJ : ClassId) (o : Nat) (f : Nat → Int64) (x0 x1 : Int32) {v : S0} (hM : zX l yX0_spill wsX0_spill 7 103 [.ref (hh 0), .int x0, .int x1] [(cI, .int), (cZ, .boolean)] D (wX0 hh cI cZ v) zS) : zMT l yL_spill wsL_spill 8 140 1 6 [.ref (hh 0), .int x0, .int x1, .ref o] [(cI, .int), (cZ, .boolean), (cJ, .long)] D (wX0 hh cI cZ v ++ wO o cJ f) (wX0 hh cI cZ v ++ wO o cJ f) (some (.int 3)) := by
  refine z_tmet (cc := cL_spill) (maxL := 5) (ret := (some .int)) (hx := [(0, 10, 13, 19), (0, 10, 17, 21), (0, 10, 21, 13)]) (by decide) rfl (Nat.le_of_ble_eq_true rfl) ?_
  intro p e s m args below meth c A C hT hN htab hr hlocks
  refine z_sub (L' := [(0, .ref (hh 0)), (1, .int x0), (2, .int x1), (3, .ref o)]) [0, 1, 2, 3] rfl ?_
  refine z_aload_n C 3 dL_spill_0 rfl rfl ?_
  refine z_iconst (v := 0) C dL_spill_1 (by decide) ?_
  refine z_aload_n C 0 dL_spill_2 rfl rfl ?_
  refine z_iload_n C 1 dL_spill_3 rfl rfl ?_
  refine z_iload_n C 2 dL_spill_4 rfl rfl ?_
  refine z_xcatch (w := (wX0 hh cI cZ v)) (w1 := ([] : va_W)) (w2 := wO o cJ f) (As := [.int x0, .int x1]) (rest := [.int 0, .ref o]) (pre := tableOf [(0, 10, 13, 19), (0, 10, 17, 21)]) (x := ⟨0, 10, 21, 13⟩) (suf := tableOf []) (hpc := 21) C hT hM (cwV 2 C.words gL_spill_X0_spill rfl rfl rfl (by decide +kernel) ⟨(Nat.le_of_ble_eq_true rfl), (Nat.le_of_ble_eq_true rfl)⟩) (q0 := 0) (ci := 0) rfl rfl rfl [0, 1] rfl rfl (Nat.le_of_ble_eq_true rfl) ⟨(Nat.le_of_ble_eq_true rfl), (Nat.le_of_ble_eq_true rfl)⟩ rfl rfl (htab.trans rfl) (List.forall_mem_cons.mpr ⟨Or.inr ⟨by decide, zI, by decide +kernel, hN.2.1⟩, (List.forall_mem_cons.mpr ⟨Or.inr ⟨by decide, zA, by decide +kernel, hN.2.2⟩, (fun _ h => nomatch h)⟩)⟩) (by decide) (by decide) (by decide +kernel) zx_cS rfl dL_spill_5 (fun q => ?_)
  refine z_astore (L' := [(4, .ref q), (0, .ref (hh 0)), (1, .int x0), (2, .int x1), (3, .ref o)]) C dL_spill_21 (by decide) rfl ?_
  refine z_iconst (v := 3) C dL_spill_23 (by decide) ?_
  exact z_iret C hr hlocks (Nat.le_of_ble_eq_true rfl) (Nat.le_of_ble_eq_true rfl) dL_spill_24 rfl rfl
set_option maxHeartbeats 4000000 in
set_option maxRecDepth 100000 in
theorem w_L_throwSalt (l : Launch) (D : va_G) (hh : Nat → Nat) (cI cZ cJ : ClassId) (o : Nat) (f : Nat → Int64) (x0 x1 x2 : Int32) {v v2 : S0} {r : Int32} (hM : zM l yX0_throwSalt wsX0_throwSalt 2 37 0 0 [.ref (hh 0), .int x0, .int x1, .int x2] [(cI, .int), (cZ, .boolean)] D (wX0 hh cI cZ v) (wX0 hh cI cZ v2) (some (.int r))) : zMT l yL_throwSalt wsL_throwSalt 8 140 0 0 [.ref (hh 0), .int x0, .int x1, .int x2, .ref o] [(cI, .int), (cZ, .boolean), (cJ, .long)] D (wX0 hh cI cZ v ++ wO o cJ f) (wX0 hh cI cZ v2 ++ wO o cJ (vp_updL f 0 r.toInt64)) (some (.int 0)) := by
  refine z_tmet (cc := cL_throwSalt) (maxL := 6) (ret := (some .int)) (hx := [(0, 12, 15, 19), (0, 12, 19, 21), (0, 12, 23, 13)]) (by decide) rfl (Nat.le_of_ble_eq_true rfl) ?_
  intro p e s m args below meth c A C hT hN htab hr hlocks
  refine z_sub (L' := [(0, .ref (hh 0)), (1, .int x0), (2, .int x1), (3, .int x2), (4, .ref o)]) [0, 1, 2, 3, 4] rfl ?_
  refine z_aload C 4 dL_throwSalt_0 rfl ?_
  refine z_iconst (v := 0) C dL_throwSalt_2 (by decide) ?_
  refine z_aload_n C 0 dL_throwSalt_3 rfl rfl ?_
  refine z_iload_n C 1 dL_throwSalt_4 rfl rfl ?_
  refine z_iload_n C 2 dL_throwSalt_5 rfl rfl ?_
  refine z_iload_n C 3 dL_throwSalt_6 rfl rfl ?_
  refine z_callV (w := (wX0 hh cI cZ v)) (w' := (wX0 hh cI cZ v2)) (w1 := ([] : va_W)) (w2 := wO o cJ f) (ws' := (wX0 hh cI cZ v2 ++ wO o cJ f)) (As := [.int x0, .int x1, .int x2]) (rest := [.int 0, .ref o]) (st' := [.int r, .int 0, .ref o]) (rv := some (.int r)) C hM (cwV 3 C.words gL_throwSalt_X0_throwSalt rfl rfl rfl (by decide +kernel) ⟨(Nat.le_of_ble_eq_true rfl), (Nat.le_of_ble_eq_true rfl)⟩) (q0 := 0) (ci := 0) rfl rfl rfl [0, 1] rfl rfl (Nat.le_of_ble_eq_true rfl) ⟨(Nat.le_of_ble_eq_true rfl), (Nat.le_of_ble_eq_true rfl)⟩ rfl rfl rfl rfl rfl dL_throwSalt_7 ?_
  refine z_i2l (v := r.toInt64) C dL_throwSalt_10 rfl ?_
  refine z_last (ws' := (wX0 hh cI cZ v2 ++ wO o cJ (vp_updL f 0 (r.toInt64)))) C 8 2 rfl rfl 0 rfl (by decide) (by decide) rfl dL_throwSalt_11 ?_
  refine z_goto (tgt := 27) C dL_throwSalt_12 (by decide) ?_
  refine z_iconst (v := 0) C dL_throwSalt_27 (by decide) ?_
  exact z_iret C hr hlocks (Nat.le_of_ble_eq_true rfl) (Nat.le_of_ble_eq_true rfl) dL_throwSalt_28 rfl rfl
set_option maxHeartbeats 4000000 in
set_option maxRecDepth 100000 in
theorem w_L_throwSalt_x1 (l : Launch) (D : va_G) (hh : Nat → Nat) (cI cZ cJ : ClassId) (o : Nat) (f : Nat → Int64) (x0 x1 x2 : Int32) {v : S0} (hM : zX l yX0_throwSalt wsX0_throwSalt 7 103 [.ref (hh 0), .int x0, .int x1, .int x2] [(cI, .int), (cZ, .boolean)] D (wX0 hh cI cZ v) zI) : zMT l yL_throwSalt wsL_throwSalt 8 140 1 6 [.ref (hh 0), .int x0, .int x1, .int x2, .ref o] [(cI, .int), (cZ, .boolean), (cJ, .long)] D (wX0 hh cI cZ v ++ wO o cJ f) (wX0 hh cI cZ v ++ wO o cJ f) (some (.int 1)) := by
  refine z_tmet (cc := cL_throwSalt) (maxL := 6) (ret := (some .int)) (hx := [(0, 12, 15, 19), (0, 12, 19, 21), (0, 12, 23, 13)]) (by decide) rfl (Nat.le_of_ble_eq_true rfl) ?_
  intro p e s m args below meth c A C hT hN htab hr hlocks
  refine z_sub (L' := [(0, .ref (hh 0)), (1, .int x0), (2, .int x1), (3, .int x2), (4, .ref o)]) [0, 1, 2, 3, 4] rfl ?_
  refine z_aload C 4 dL_throwSalt_0 rfl ?_
  refine z_iconst (v := 0) C dL_throwSalt_2 (by decide) ?_
  refine z_aload_n C 0 dL_throwSalt_3 rfl rfl ?_
  refine z_iload_n C 1 dL_throwSalt_4 rfl rfl ?_
  refine z_iload_n C 2 dL_throwSalt_5 rfl rfl ?_
  refine z_iload_n C 3 dL_throwSalt_6 rfl rfl ?_
  refine z_xcatch (w := (wX0 hh cI cZ v)) (w1 := ([] : va_W)) (w2 := wO o cJ f) (As := [.int x0, .int x1, .int x2]) (rest := [.int 0, .ref o]) (pre := tableOf []) (x := ⟨0, 12, 15, 19⟩) (suf := tableOf [(0, 12, 19, 21), (0, 12, 23, 13)]) (hpc := 15) C hT hM (cwV 3 C.words gL_throwSalt_X0_throwSalt rfl rfl rfl (by decide +kernel) ⟨(Nat.le_of_ble_eq_true rfl), (Nat.le_of_ble_eq_true rfl)⟩) (q0 := 0) (ci := 0) rfl rfl rfl [0, 1] rfl rfl (Nat.le_of_ble_eq_true rfl) ⟨(Nat.le_of_ble_eq_true rfl), (Nat.le_of_ble_eq_true rfl)⟩ rfl rfl (htab.trans rfl) (fun _ h => nomatch h) (by decide) (by decide) (by decide +kernel) zx_cI rfl dL_throwSalt_7 (fun q => ?_)
  refine z_astore (L' := [(5, .ref q), (0, .ref (hh 0)), (1, .int x0), (2, .int x1), (3, .int x2), (4, .ref o)]) C dL_throwSalt_15 (by decide) rfl ?_
  refine z_iconst (v := 1) C dL_throwSalt_17 (by decide) ?_
  exact z_iret C hr hlocks (Nat.le_of_ble_eq_true rfl) (Nat.le_of_ble_eq_true rfl) dL_throwSalt_18 rfl rfl
set_option maxHeartbeats 4000000 in
set_option maxRecDepth 100000 in
theorem w_L_throwSalt_x2 (l : Launch) (D : va_G) (hh : Nat → Nat) (cI cZ cJ : ClassId) (o : Nat) (f : Nat → Int64) (x0 x1 x2 : Int32) {v : S0} (hM : zX l yX0_throwSalt wsX0_throwSalt 7 103 [.ref (hh 0), .int x0, .int x1, .int x2] [(cI, .int), (cZ, .boolean)] D (wX0 hh cI cZ v) zA) : zMT l yL_throwSalt wsL_throwSalt 8 140 1 6 [.ref (hh 0), .int x0, .int x1, .int x2, .ref o] [(cI, .int), (cZ, .boolean), (cJ, .long)] D (wX0 hh cI cZ v ++ wO o cJ f) (wX0 hh cI cZ v ++ wO o cJ f) (some (.int 2)) := by
  refine z_tmet (cc := cL_throwSalt) (maxL := 6) (ret := (some .int)) (hx := [(0, 12, 15, 19), (0, 12, 19, 21), (0, 12, 23, 13)]) (by decide) rfl (Nat.le_of_ble_eq_true rfl) ?_
  intro p e s m args below meth c A C hT hN htab hr hlocks
  refine z_sub (L' := [(0, .ref (hh 0)), (1, .int x0), (2, .int x1), (3, .int x2), (4, .ref o)]) [0, 1, 2, 3, 4] rfl ?_
  refine z_aload C 4 dL_throwSalt_0 rfl ?_
  refine z_iconst (v := 0) C dL_throwSalt_2 (by decide) ?_
  refine z_aload_n C 0 dL_throwSalt_3 rfl rfl ?_
  refine z_iload_n C 1 dL_throwSalt_4 rfl rfl ?_
  refine z_iload_n C 2 dL_throwSalt_5 rfl rfl ?_
  refine z_iload_n C 3 dL_throwSalt_6 rfl rfl ?_
  refine z_xcatch (w := (wX0 hh cI cZ v)) (w1 := ([] : va_W)) (w2 := wO o cJ f) (As := [.int x0, .int x1, .int x2]) (rest := [.int 0, .ref o]) (pre := tableOf [(0, 12, 15, 19)]) (x := ⟨0, 12, 19, 21⟩) (suf := tableOf [(0, 12, 23, 13)]) (hpc := 19) C hT hM (cwV 3 C.words gL_throwSalt_X0_throwSalt rfl rfl rfl (by decide +kernel) ⟨(Nat.le_of_ble_eq_true rfl), (Nat.le_of_ble_eq_true rfl)⟩) (q0 := 0) (ci := 0) rfl rfl rfl [0, 1] rfl rfl (Nat.le_of_ble_eq_true rfl) ⟨(Nat.le_of_ble_eq_true rfl), (Nat.le_of_ble_eq_true rfl)⟩ rfl rfl (htab.trans rfl) (List.forall_mem_cons.mpr ⟨Or.inr ⟨by decide, zI, by decide +kernel, hN.1⟩, (fun _ h => nomatch h)⟩) (by decide) (by decide) (by decide +kernel) zx_cA rfl dL_throwSalt_7 (fun q => ?_)
  refine z_astore (L' := [(5, .ref q), (0, .ref (hh 0)), (1, .int x0), (2, .int x1), (3, .int x2), (4, .ref o)]) C dL_throwSalt_19 (by decide) rfl ?_
  refine z_iconst (v := 2) C dL_throwSalt_21 (by decide) ?_
  exact z_iret C hr hlocks (Nat.le_of_ble_eq_true rfl) (Nat.le_of_ble_eq_true rfl) dL_throwSalt_22 rfl rfl
set_option maxHeartbeats 4000000 in
set_option maxRecDepth 100000 in
theorem w_L_throwSalt_x3 (l : Launch) (D : va_G) (hh : Nat → Nat) (cI cZ cJ : ClassId) (o : Nat) (f : Nat → Int64) (x0 x1 x2 : Int32) {v : S0} (hM : zX l yX0_throwSalt wsX0_throwSalt 7 103 [.ref (hh 0), .int x0, .int x1, .int x2] [(cI, .int), (cZ, .boolean)] D (wX0 hh cI cZ v) zS) : zMT l yL_throwSalt wsL_throwSalt 8 140 1 6 [.ref (hh 0), .int x0, .int x1, .int x2, .ref o] [(cI, .int), (cZ, .boolean), (cJ, .long)] D (wX0 hh cI cZ v ++ wO o cJ f) (wX0 hh cI cZ v ++ wO o cJ f) (some (.int 3)) := by
  refine z_tmet (cc := cL_throwSalt) (maxL := 6) (ret := (some .int)) (hx := [(0, 12, 15, 19), (0, 12, 19, 21), (0, 12, 23, 13)]) (by decide) rfl (Nat.le_of_ble_eq_true rfl) ?_
  intro p e s m args below meth c A C hT hN htab hr hlocks
  refine z_sub (L' := [(0, .ref (hh 0)), (1, .int x0), (2, .int x1), (3, .int x2), (4, .ref o)]) [0, 1, 2, 3, 4] rfl ?_
  refine z_aload C 4 dL_throwSalt_0 rfl ?_
  refine z_iconst (v := 0) C dL_throwSalt_2 (by decide) ?_
  refine z_aload_n C 0 dL_throwSalt_3 rfl rfl ?_
  refine z_iload_n C 1 dL_throwSalt_4 rfl rfl ?_
  refine z_iload_n C 2 dL_throwSalt_5 rfl rfl ?_
  refine z_iload_n C 3 dL_throwSalt_6 rfl rfl ?_
  refine z_xcatch (w := (wX0 hh cI cZ v)) (w1 := ([] : va_W)) (w2 := wO o cJ f) (As := [.int x0, .int x1, .int x2]) (rest := [.int 0, .ref o]) (pre := tableOf [(0, 12, 15, 19), (0, 12, 19, 21)]) (x := ⟨0, 12, 23, 13⟩) (suf := tableOf []) (hpc := 23) C hT hM (cwV 3 C.words gL_throwSalt_X0_throwSalt rfl rfl rfl (by decide +kernel) ⟨(Nat.le_of_ble_eq_true rfl), (Nat.le_of_ble_eq_true rfl)⟩) (q0 := 0) (ci := 0) rfl rfl rfl [0, 1] rfl rfl (Nat.le_of_ble_eq_true rfl) ⟨(Nat.le_of_ble_eq_true rfl), (Nat.le_of_ble_eq_true rfl)⟩ rfl rfl (htab.trans rfl) (List.forall_mem_cons.mpr ⟨Or.inr ⟨by decide, zI, by decide +kernel, hN.2.1⟩, (List.forall_mem_cons.mpr ⟨Or.inr ⟨by decide, zA, by decide +kernel, hN.2.2⟩, (fun _ h => nomatch h)⟩)⟩) (by decide) (by decide) (by decide +kernel) zx_cS rfl dL_throwSalt_7 (fun q => ?_)
  refine z_astore (L' := [(5, .ref q), (0, .ref (hh 0)), (1, .int x0), (2, .int x1), (3, .int x2), (4, .ref o)]) C dL_throwSalt_23 (by decide) rfl ?_
  refine z_iconst (v := 3) C dL_throwSalt_25 (by decide) ?_
  exact z_iret C hr hlocks (Nat.le_of_ble_eq_true rfl) (Nat.le_of_ble_eq_true rfl) dL_throwSalt_26 rfl rfl
set_option maxHeartbeats 4000000 in
set_option maxRecDepth 100000 in
theorem w_L_doPenance (l : Launch) (D : va_G) (hh : Nat → Nat) (cI cZ cJ : ClassId) (o : Nat) (f : Nat → Int64) (x0 x1 : Int32) {v v2 : S0} {r : Int32} (hM : zM l yX0_doPenance wsX0_doPenance 2 37 0 0 [.ref (hh 0), .int x0, .int x1] [(cI, .int), (cZ, .boolean)] D (wX0 hh cI cZ v) (wX0 hh cI cZ v2) (some (.int r))) : zMT l yL_doPenance wsL_doPenance 8 140 0 0 [.ref (hh 0), .int x0, .int x1, .ref o] [(cI, .int), (cZ, .boolean), (cJ, .long)] D (wX0 hh cI cZ v ++ wO o cJ f) (wX0 hh cI cZ v2 ++ wO o cJ (vp_updL f 0 r.toInt64)) (some (.int 0)) := by
  refine z_tmet (cc := cL_doPenance) (maxL := 5) (ret := (some .int)) (hx := [(0, 10, 13, 19), (0, 10, 17, 21)]) (by decide) rfl (Nat.le_of_ble_eq_true rfl) ?_
  intro p e s m args below meth c A C hT hN htab hr hlocks
  refine z_sub (L' := [(0, .ref (hh 0)), (1, .int x0), (2, .int x1), (3, .ref o)]) [0, 1, 2, 3] rfl ?_
  refine z_aload_n C 3 dL_doPenance_0 rfl rfl ?_
  refine z_iconst (v := 0) C dL_doPenance_1 (by decide) ?_
  refine z_aload_n C 0 dL_doPenance_2 rfl rfl ?_
  refine z_iload_n C 1 dL_doPenance_3 rfl rfl ?_
  refine z_iload_n C 2 dL_doPenance_4 rfl rfl ?_
  refine z_callV (w := (wX0 hh cI cZ v)) (w' := (wX0 hh cI cZ v2)) (w1 := ([] : va_W)) (w2 := wO o cJ f) (ws' := (wX0 hh cI cZ v2 ++ wO o cJ f)) (As := [.int x0, .int x1]) (rest := [.int 0, .ref o]) (st' := [.int r, .int 0, .ref o]) (rv := some (.int r)) C hM (cwV 2 C.words gL_doPenance_X0_doPenance rfl rfl rfl (by decide +kernel) ⟨(Nat.le_of_ble_eq_true rfl), (Nat.le_of_ble_eq_true rfl)⟩) (q0 := 0) (ci := 0) rfl rfl rfl [0, 1] rfl rfl (Nat.le_of_ble_eq_true rfl) ⟨(Nat.le_of_ble_eq_true rfl), (Nat.le_of_ble_eq_true rfl)⟩ rfl rfl rfl rfl rfl dL_doPenance_5 ?_
  refine z_i2l (v := r.toInt64) C dL_doPenance_8 rfl ?_
  refine z_last (ws' := (wX0 hh cI cZ v2 ++ wO o cJ (vp_updL f 0 (r.toInt64)))) C 8 2 rfl rfl 0 rfl (by decide) (by decide) rfl dL_doPenance_9 ?_
  refine z_goto (tgt := 21) C dL_doPenance_10 (by decide) ?_
  refine z_iconst (v := 0) C dL_doPenance_21 (by decide) ?_
  exact z_iret C hr hlocks (Nat.le_of_ble_eq_true rfl) (Nat.le_of_ble_eq_true rfl) dL_doPenance_22 rfl rfl
set_option maxHeartbeats 4000000 in
set_option maxRecDepth 100000 in
theorem w_L_doPenance_x1 (l : Launch) (D : va_G) (hh : Nat → Nat) (cI cZ cJ : ClassId) (o : Nat) (f : Nat → Int64) (x0 x1 : Int32) {v : S0} (hM : zX l yX0_doPenance wsX0_doPenance 7 103 [.ref (hh 0), .int x0, .int x1] [(cI, .int), (cZ, .boolean)] D (wX0 hh cI cZ v) zI) : zMT l yL_doPenance wsL_doPenance 8 140 1 6 [.ref (hh 0), .int x0, .int x1, .ref o] [(cI, .int), (cZ, .boolean), (cJ, .long)] D (wX0 hh cI cZ v ++ wO o cJ f) (wX0 hh cI cZ v ++ wO o cJ f) (some (.int 1)) := by
  refine z_tmet (cc := cL_doPenance) (maxL := 5) (ret := (some .int)) (hx := [(0, 10, 13, 19), (0, 10, 17, 21)]) (by decide) rfl (Nat.le_of_ble_eq_true rfl) ?_
  intro p e s m args below meth c A C hT hN htab hr hlocks
  refine z_sub (L' := [(0, .ref (hh 0)), (1, .int x0), (2, .int x1), (3, .ref o)]) [0, 1, 2, 3] rfl ?_
  refine z_aload_n C 3 dL_doPenance_0 rfl rfl ?_
  refine z_iconst (v := 0) C dL_doPenance_1 (by decide) ?_
  refine z_aload_n C 0 dL_doPenance_2 rfl rfl ?_
  refine z_iload_n C 1 dL_doPenance_3 rfl rfl ?_
  refine z_iload_n C 2 dL_doPenance_4 rfl rfl ?_
  refine z_xcatch (w := (wX0 hh cI cZ v)) (w1 := ([] : va_W)) (w2 := wO o cJ f) (As := [.int x0, .int x1]) (rest := [.int 0, .ref o]) (pre := tableOf []) (x := ⟨0, 10, 13, 19⟩) (suf := tableOf [(0, 10, 17, 21)]) (hpc := 13) C hT hM (cwV 2 C.words gL_doPenance_X0_doPenance rfl rfl rfl (by decide +kernel) ⟨(Nat.le_of_ble_eq_true rfl), (Nat.le_of_ble_eq_true rfl)⟩) (q0 := 0) (ci := 0) rfl rfl rfl [0, 1] rfl rfl (Nat.le_of_ble_eq_true rfl) ⟨(Nat.le_of_ble_eq_true rfl), (Nat.le_of_ble_eq_true rfl)⟩ rfl rfl (htab.trans rfl) (fun _ h => nomatch h) (by decide) (by decide) (by decide +kernel) zx_cI rfl dL_doPenance_5 (fun q => ?_)
  refine z_astore (L' := [(4, .ref q), (0, .ref (hh 0)), (1, .int x0), (2, .int x1), (3, .ref o)]) C dL_doPenance_13 (by decide) rfl ?_
  refine z_iconst (v := 1) C dL_doPenance_15 (by decide) ?_
  exact z_iret C hr hlocks (Nat.le_of_ble_eq_true rfl) (Nat.le_of_ble_eq_true rfl) dL_doPenance_16 rfl rfl
set_option maxHeartbeats 4000000 in
set_option maxRecDepth 100000 in
theorem w_L_doPenance_x2 (l : Launch) (D : va_G) (hh : Nat → Nat) (cI cZ cJ : ClassId) (o : Nat) (f : Nat → Int64) (x0 x1 : Int32) {v : S0} (hM : zX l yX0_doPenance wsX0_doPenance 7 103 [.ref (hh 0), .int x0, .int x1] [(cI, .int), (cZ, .boolean)] D (wX0 hh cI cZ v) zA) : zMT l yL_doPenance wsL_doPenance 8 140 1 6 [.ref (hh 0), .int x0, .int x1, .ref o] [(cI, .int), (cZ, .boolean), (cJ, .long)] D (wX0 hh cI cZ v ++ wO o cJ f) (wX0 hh cI cZ v ++ wO o cJ f) (some (.int 2)) := by
  refine z_tmet (cc := cL_doPenance) (maxL := 5) (ret := (some .int)) (hx := [(0, 10, 13, 19), (0, 10, 17, 21)]) (by decide) rfl (Nat.le_of_ble_eq_true rfl) ?_
  intro p e s m args below meth c A C hT hN htab hr hlocks
  refine z_sub (L' := [(0, .ref (hh 0)), (1, .int x0), (2, .int x1), (3, .ref o)]) [0, 1, 2, 3] rfl ?_
  refine z_aload_n C 3 dL_doPenance_0 rfl rfl ?_
  refine z_iconst (v := 0) C dL_doPenance_1 (by decide) ?_
  refine z_aload_n C 0 dL_doPenance_2 rfl rfl ?_
  refine z_iload_n C 1 dL_doPenance_3 rfl rfl ?_
  refine z_iload_n C 2 dL_doPenance_4 rfl rfl ?_
  refine z_xcatch (w := (wX0 hh cI cZ v)) (w1 := ([] : va_W)) (w2 := wO o cJ f) (As := [.int x0, .int x1]) (rest := [.int 0, .ref o]) (pre := tableOf [(0, 10, 13, 19)]) (x := ⟨0, 10, 17, 21⟩) (suf := tableOf []) (hpc := 17) C hT hM (cwV 2 C.words gL_doPenance_X0_doPenance rfl rfl rfl (by decide +kernel) ⟨(Nat.le_of_ble_eq_true rfl), (Nat.le_of_ble_eq_true rfl)⟩) (q0 := 0) (ci := 0) rfl rfl rfl [0, 1] rfl rfl (Nat.le_of_ble_eq_true rfl) ⟨(Nat.le_of_ble_eq_true rfl), (Nat.le_of_ble_eq_true rfl)⟩ rfl rfl (htab.trans rfl) (List.forall_mem_cons.mpr ⟨Or.inr ⟨by decide, zI, by decide +kernel, hN.1⟩, (fun _ h => nomatch h)⟩) (by decide) (by decide) (by decide +kernel) zx_cA rfl dL_doPenance_5 (fun q => ?_)
  refine z_astore (L' := [(4, .ref q), (0, .ref (hh 0)), (1, .int x0), (2, .int x1), (3, .ref o)]) C dL_doPenance_17 (by decide) rfl ?_
  refine z_iconst (v := 2) C dL_doPenance_19 (by decide) ?_
  exact z_iret C hr hlocks (Nat.le_of_ble_eq_true rfl) (Nat.le_of_ble_eq_true rfl) dL_doPenance_20 rfl rfl
set_option maxHeartbeats 4000000 in
set_option maxRecDepth 100000 in
theorem w_L_bringSalt (l : Launch) (D : va_G) (hh : Nat → Nat) (cI cZ cJ : ClassId) (o : Nat) (f : Nat → Int64) (x0 : Int32) {v v2 : S0} {r : Int32} (hM : zM l yX0_bringSalt wsX0_bringSalt 1 21 0 0 [.ref (hh 0), .int x0] [(cI, .int), (cZ, .boolean)] D (wX0 hh cI cZ v) (wX0 hh cI cZ v2) (some (.int r))) : zMT l yL_bringSalt wsL_bringSalt 8 140 0 0 [.ref (hh 0), .int x0, .ref o] [(cI, .int), (cZ, .boolean), (cJ, .long)] D (wX0 hh cI cZ v ++ wO o cJ f) (wX0 hh cI cZ v2 ++ wO o cJ (vp_updL f 0 r.toInt64)) (some (.int 0)) := by
  refine z_tmet (cc := cL_bringSalt) (maxL := 4) (ret := (some .int)) (hx := [(0, 9, 12, 21)]) (by decide) rfl (Nat.le_of_ble_eq_true rfl) ?_
  intro p e s m args below meth c A C hT hN htab hr hlocks
  refine z_sub (L' := [(0, .ref (hh 0)), (1, .int x0), (2, .ref o)]) [0, 1, 2] rfl ?_
  refine z_aload_n C 2 dL_bringSalt_0 rfl rfl ?_
  refine z_iconst (v := 0) C dL_bringSalt_1 (by decide) ?_
  refine z_aload_n C 0 dL_bringSalt_2 rfl rfl ?_
  refine z_iload_n C 1 dL_bringSalt_3 rfl rfl ?_
  refine z_callV (w := (wX0 hh cI cZ v)) (w' := (wX0 hh cI cZ v2)) (w1 := ([] : va_W)) (w2 := wO o cJ f) (ws' := (wX0 hh cI cZ v2 ++ wO o cJ f)) (As := [.int x0]) (rest := [.int 0, .ref o]) (st' := [.int r, .int 0, .ref o]) (rv := some (.int r)) C hM (cwV 1 C.words gL_bringSalt_X0_bringSalt rfl rfl rfl (by decide +kernel) ⟨(Nat.le_of_ble_eq_true rfl), (Nat.le_of_ble_eq_true rfl)⟩) (q0 := 0) (ci := 0) rfl rfl rfl [0, 1] rfl rfl (Nat.le_of_ble_eq_true rfl) ⟨(Nat.le_of_ble_eq_true rfl), (Nat.le_of_ble_eq_true rfl)⟩ rfl rfl rfl rfl rfl dL_bringSalt_4 ?_
  refine z_i2l (v := r.toInt64) C dL_bringSalt_7 rfl ?_
  refine z_last (ws' := (wX0 hh cI cZ v2 ++ wO o cJ (vp_updL f 0 (r.toInt64)))) C 8 2 rfl rfl 0 rfl (by decide) (by decide) rfl dL_bringSalt_8 ?_
  refine z_goto (tgt := 15) C dL_bringSalt_9 (by decide) ?_
  refine z_iconst (v := 0) C dL_bringSalt_15 (by decide) ?_
  exact z_iret C hr hlocks (Nat.le_of_ble_eq_true rfl) (Nat.le_of_ble_eq_true rfl) dL_bringSalt_16 rfl rfl
set_option maxHeartbeats 4000000 in
set_option maxRecDepth 100000 in
theorem w_L_bringSalt_x1 (l : Launch) (D : va_G) (hh : Nat → Nat) (cI cZ cJ : ClassId) (o : Nat) (f : Nat → Int64) (x0 : Int32) {v : S0} (hM : zX l yX0_bringSalt wsX0_bringSalt 7 103 [.ref (hh 0), .int x0] [(cI, .int), (cZ, .boolean)] D (wX0 hh cI cZ v) zA) : zMT l yL_bringSalt wsL_bringSalt 8 140 1 6 [.ref (hh 0), .int x0, .ref o] [(cI, .int), (cZ, .boolean), (cJ, .long)] D (wX0 hh cI cZ v ++ wO o cJ f) (wX0 hh cI cZ v ++ wO o cJ f) (some (.int 1)) := by
  refine z_tmet (cc := cL_bringSalt) (maxL := 4) (ret := (some .int)) (hx := [(0, 9, 12, 21)]) (by decide) rfl (Nat.le_of_ble_eq_true rfl) ?_
  intro p e s m args below meth c A C hT hN htab hr hlocks
  refine z_sub (L' := [(0, .ref (hh 0)), (1, .int x0), (2, .ref o)]) [0, 1, 2] rfl ?_
  refine z_aload_n C 2 dL_bringSalt_0 rfl rfl ?_
  refine z_iconst (v := 0) C dL_bringSalt_1 (by decide) ?_
  refine z_aload_n C 0 dL_bringSalt_2 rfl rfl ?_
  refine z_iload_n C 1 dL_bringSalt_3 rfl rfl ?_
  refine z_xcatch (w := (wX0 hh cI cZ v)) (w1 := ([] : va_W)) (w2 := wO o cJ f) (As := [.int x0]) (rest := [.int 0, .ref o]) (pre := tableOf []) (x := ⟨0, 9, 12, 21⟩) (suf := tableOf []) (hpc := 12) C hT hM (cwV 1 C.words gL_bringSalt_X0_bringSalt rfl rfl rfl (by decide +kernel) ⟨(Nat.le_of_ble_eq_true rfl), (Nat.le_of_ble_eq_true rfl)⟩) (q0 := 0) (ci := 0) rfl rfl rfl [0, 1] rfl rfl (Nat.le_of_ble_eq_true rfl) ⟨(Nat.le_of_ble_eq_true rfl), (Nat.le_of_ble_eq_true rfl)⟩ rfl rfl (htab.trans rfl) (fun _ h => nomatch h) (by decide) (by decide) (by decide +kernel) zx_cA rfl dL_bringSalt_4 (fun q => ?_)
  refine z_astore_n (L' := [(3, .ref q), (0, .ref (hh 0)), (1, .int x0), (2, .ref o)]) C dL_bringSalt_12 rfl (by decide) rfl ?_
  refine z_iconst (v := 1) C dL_bringSalt_13 (by decide) ?_
  exact z_iret C hr hlocks (Nat.le_of_ble_eq_true rfl) (Nat.le_of_ble_eq_true rfl) dL_bringSalt_14 rfl rfl
set_option maxHeartbeats 4000000 in
set_option maxRecDepth 100000 in
theorem w_L_pass (l : Launch) (D : va_G) (hh : Nat → Nat) (cI cZ cJ : ClassId) (o : Nat) (f : Nat → Int64) (x0 : Int32) {v v2 : S0} {r : Int32} (hM : zM l yX0_pass wsX0_pass 4 81 0 0 [.ref (hh 0), .int x0] [(cI, .int), (cZ, .boolean)] D (wX0 hh cI cZ v) (wX0 hh cI cZ v2) (some (.int r))) : zMT l yL_pass wsL_pass 8 140 0 0 [.ref (hh 0), .int x0, .ref o] [(cI, .int), (cZ, .boolean), (cJ, .long)] D (wX0 hh cI cZ v ++ wO o cJ f) (wX0 hh cI cZ v2 ++ wO o cJ (vp_updL f 0 r.toInt64)) (some (.int 0)) := by
  refine z_tmet (cc := cL_pass) (maxL := 4) (ret := (some .int)) (hx := [(0, 9, 12, 21)]) (by decide) rfl (Nat.le_of_ble_eq_true rfl) ?_
  intro p e s m args below meth c A C hT hN htab hr hlocks
  refine z_sub (L' := [(0, .ref (hh 0)), (1, .int x0), (2, .ref o)]) [0, 1, 2] rfl ?_
  refine z_aload_n C 2 dL_pass_0 rfl rfl ?_
  refine z_iconst (v := 0) C dL_pass_1 (by decide) ?_
  refine z_aload_n C 0 dL_pass_2 rfl rfl ?_
  refine z_iload_n C 1 dL_pass_3 rfl rfl ?_
  refine z_callV (w := (wX0 hh cI cZ v)) (w' := (wX0 hh cI cZ v2)) (w1 := ([] : va_W)) (w2 := wO o cJ f) (ws' := (wX0 hh cI cZ v2 ++ wO o cJ f)) (As := [.int x0]) (rest := [.int 0, .ref o]) (st' := [.int r, .int 0, .ref o]) (rv := some (.int r)) C hM (cwV 1 C.words gL_pass_X0_pass rfl rfl rfl (by decide +kernel) ⟨(Nat.le_of_ble_eq_true rfl), (Nat.le_of_ble_eq_true rfl)⟩) (q0 := 0) (ci := 0) rfl rfl rfl [0, 1] rfl rfl (Nat.le_of_ble_eq_true rfl) ⟨(Nat.le_of_ble_eq_true rfl), (Nat.le_of_ble_eq_true rfl)⟩ rfl rfl rfl rfl rfl dL_pass_4 ?_
  refine z_i2l (v := r.toInt64) C dL_pass_7 rfl ?_
  refine z_last (ws' := (wX0 hh cI cZ v2 ++ wO o cJ (vp_updL f 0 (r.toInt64)))) C 8 2 rfl rfl 0 rfl (by decide) (by decide) rfl dL_pass_8 ?_
  refine z_goto (tgt := 15) C dL_pass_9 (by decide) ?_
  refine z_iconst (v := 0) C dL_pass_15 (by decide) ?_
  exact z_iret C hr hlocks (Nat.le_of_ble_eq_true rfl) (Nat.le_of_ble_eq_true rfl) dL_pass_16 rfl rfl
set_option maxHeartbeats 4000000 in
set_option maxRecDepth 100000 in
theorem w_L_pass_x1 (l : Launch) (D : va_G) (hh : Nat → Nat) (cI cZ cJ : ClassId) (o : Nat) (f : Nat → Int64) (x0 : Int32) {v : S0} (hM : zX l yX0_pass wsX0_pass 7 103 [.ref (hh 0), .int x0] [(cI, .int), (cZ, .boolean)] D (wX0 hh cI cZ v) zA) : zMT l yL_pass wsL_pass 8 140 1 6 [.ref (hh 0), .int x0, .ref o] [(cI, .int), (cZ, .boolean), (cJ, .long)] D (wX0 hh cI cZ v ++ wO o cJ f) (wX0 hh cI cZ v ++ wO o cJ f) (some (.int 1)) := by
  refine z_tmet (cc := cL_pass) (maxL := 4) (ret := (some .int)) (hx := [(0, 9, 12, 21)]) (by decide) rfl (Nat.le_of_ble_eq_true rfl) ?_
  intro p e s m args below meth c A C hT hN htab hr hlocks
  refine z_sub (L' := [(0, .ref (hh 0)), (1, .int x0), (2, .ref o)]) [0, 1, 2] rfl ?_
  refine z_aload_n C 2 dL_pass_0 rfl rfl ?_
  refine z_iconst (v := 0) C dL_pass_1 (by decide) ?_
  refine z_aload_n C 0 dL_pass_2 rfl rfl ?_
  refine z_iload_n C 1 dL_pass_3 rfl rfl ?_
  refine z_xcatch (w := (wX0 hh cI cZ v)) (w1 := ([] : va_W)) (w2 := wO o cJ f) (As := [.int x0]) (rest := [.int 0, .ref o]) (pre := tableOf []) (x := ⟨0, 9, 12, 21⟩) (suf := tableOf []) (hpc := 12) C hT hM (cwV 1 C.words gL_pass_X0_pass rfl rfl rfl (by decide +kernel) ⟨(Nat.le_of_ble_eq_true rfl), (Nat.le_of_ble_eq_true rfl)⟩) (q0 := 0) (ci := 0) rfl rfl rfl [0, 1] rfl rfl (Nat.le_of_ble_eq_true rfl) ⟨(Nat.le_of_ble_eq_true rfl), (Nat.le_of_ble_eq_true rfl)⟩ rfl rfl (htab.trans rfl) (fun _ h => nomatch h) (by decide) (by decide) (by decide +kernel) zx_cA rfl dL_pass_4 (fun q => ?_)
  refine z_astore_n (L' := [(3, .ref q), (0, .ref (hh 0)), (1, .int x0), (2, .ref o)]) C dL_pass_12 rfl (by decide) rfl ?_
  refine z_iconst (v := 1) C dL_pass_13 (by decide) ?_
  exact z_iret C hr hlocks (Nat.le_of_ble_eq_true rfl) (Nat.le_of_ble_eq_true rfl) dL_pass_14 rfl rfl
set_option maxHeartbeats 4000000 in
set_option maxRecDepth 100000 in
theorem w_L_luckOf (l : Launch) (D : va_G) (hh : Nat → Nat) (cI cZ cJ : ClassId) (o : Nat) (f : Nat → Int64) (x0 : Int32) {v v2 : S0} {r : Int32} (hM : zM l yX0_luckOf wsX0_luckOf 1 21 0 0 [.ref (hh 0), .int x0] [(cI, .int), (cZ, .boolean)] D (wX0 hh cI cZ v) (wX0 hh cI cZ v2) (some (.int r))) : zMT l yL_luckOf wsL_luckOf 8 140 0 0 [.ref (hh 0), .int x0, .ref o] [(cI, .int), (cZ, .boolean), (cJ, .long)] D (wX0 hh cI cZ v ++ wO o cJ f) (wX0 hh cI cZ v2 ++ wO o cJ (vp_updL f 0 r.toInt64)) (some (.int 0)) := by
  refine z_tmet (cc := cL_luckOf) (maxL := 4) (ret := (some .int)) (hx := [(0, 9, 12, 19)]) (by decide) rfl (Nat.le_of_ble_eq_true rfl) ?_
  intro p e s m args below meth c A C hT hN htab hr hlocks
  refine z_sub (L' := [(0, .ref (hh 0)), (1, .int x0), (2, .ref o)]) [0, 1, 2] rfl ?_
  refine z_aload_n C 2 dL_luckOf_0 rfl rfl ?_
  refine z_iconst (v := 0) C dL_luckOf_1 (by decide) ?_
  refine z_aload_n C 0 dL_luckOf_2 rfl rfl ?_
  refine z_iload_n C 1 dL_luckOf_3 rfl rfl ?_
  refine z_callV (w := (wX0 hh cI cZ v)) (w' := (wX0 hh cI cZ v2)) (w1 := ([] : va_W)) (w2 := wO o cJ f) (ws' := (wX0 hh cI cZ v2 ++ wO o cJ f)) (As := [.int x0]) (rest := [.int 0, .ref o]) (st' := [.int r, .int 0, .ref o]) (rv := some (.int r)) C hM (cwV 1 C.words gL_luckOf_X0_luckOf rfl rfl rfl (by decide +kernel) ⟨(Nat.le_of_ble_eq_true rfl), (Nat.le_of_ble_eq_true rfl)⟩) (q0 := 0) (ci := 0) rfl rfl rfl [0, 1] rfl rfl (Nat.le_of_ble_eq_true rfl) ⟨(Nat.le_of_ble_eq_true rfl), (Nat.le_of_ble_eq_true rfl)⟩ rfl rfl rfl rfl rfl dL_luckOf_4 ?_
  refine z_i2l (v := r.toInt64) C dL_luckOf_7 rfl ?_
  refine z_last (ws' := (wX0 hh cI cZ v2 ++ wO o cJ (vp_updL f 0 (r.toInt64)))) C 8 2 rfl rfl 0 rfl (by decide) (by decide) rfl dL_luckOf_8 ?_
  refine z_goto (tgt := 15) C dL_luckOf_9 (by decide) ?_
  refine z_iconst (v := 0) C dL_luckOf_15 (by decide) ?_
  exact z_iret C hr hlocks (Nat.le_of_ble_eq_true rfl) (Nat.le_of_ble_eq_true rfl) dL_luckOf_16 rfl rfl
set_option maxHeartbeats 4000000 in
set_option maxRecDepth 100000 in
theorem w_L_luckOf_x1 (l : Launch) (D : va_G) (hh : Nat → Nat) (cI cZ cJ : ClassId) (o : Nat) (f : Nat → Int64) (x0 : Int32) {v : S0} (hM : zX l yX0_luckOf wsX0_luckOf 7 103 [.ref (hh 0), .int x0] [(cI, .int), (cZ, .boolean)] D (wX0 hh cI cZ v) zI) : zMT l yL_luckOf wsL_luckOf 8 140 1 6 [.ref (hh 0), .int x0, .ref o] [(cI, .int), (cZ, .boolean), (cJ, .long)] D (wX0 hh cI cZ v ++ wO o cJ f) (wX0 hh cI cZ v ++ wO o cJ f) (some (.int 1)) := by
  refine z_tmet (cc := cL_luckOf) (maxL := 4) (ret := (some .int)) (hx := [(0, 9, 12, 19)]) (by decide) rfl (Nat.le_of_ble_eq_true rfl) ?_
  intro p e s m args below meth c A C hT hN htab hr hlocks
  refine z_sub (L' := [(0, .ref (hh 0)), (1, .int x0), (2, .ref o)]) [0, 1, 2] rfl ?_
  refine z_aload_n C 2 dL_luckOf_0 rfl rfl ?_
  refine z_iconst (v := 0) C dL_luckOf_1 (by decide) ?_
  refine z_aload_n C 0 dL_luckOf_2 rfl rfl ?_
  refine z_iload_n C 1 dL_luckOf_3 rfl rfl ?_
  refine z_xcatch (w := (wX0 hh cI cZ v)) (w1 := ([] : va_W)) (w2 := wO o cJ f) (As := [.int x0]) (rest := [.int 0, .ref o]) (pre := tableOf []) (x := ⟨0, 9, 12, 19⟩) (suf := tableOf []) (hpc := 12) C hT hM (cwV 1 C.words gL_luckOf_X0_luckOf rfl rfl rfl (by decide +kernel) ⟨(Nat.le_of_ble_eq_true rfl), (Nat.le_of_ble_eq_true rfl)⟩) (q0 := 0) (ci := 0) rfl rfl rfl [0, 1] rfl rfl (Nat.le_of_ble_eq_true rfl) ⟨(Nat.le_of_ble_eq_true rfl), (Nat.le_of_ble_eq_true rfl)⟩ rfl rfl (htab.trans rfl) (fun _ h => nomatch h) (by decide) (by decide) (by decide +kernel) zx_cI rfl dL_luckOf_4 (fun q => ?_)
  refine z_astore_n (L' := [(3, .ref q), (0, .ref (hh 0)), (1, .int x0), (2, .ref o)]) C dL_luckOf_12 rfl (by decide) rfl ?_
  refine z_iconst (v := 1) C dL_luckOf_13 (by decide) ?_
  exact z_iret C hr hlocks (Nat.le_of_ble_eq_true rfl) (Nat.le_of_ble_eq_true rfl) dL_luckOf_14 rfl rfl
set_option maxHeartbeats 4000000 in
set_option maxRecDepth 100000 in
theorem w_L_arrearsOf (l : Launch) (D : va_G) (hh : Nat → Nat) (cI cZ cJ : ClassId) (o : Nat) (f : Nat → Int64) (x0 : Int32) {v v2 : S0} {r : Int32} (hM : zM l yX0_arrearsOf wsX0_arrearsOf 1 21 0 0 [.ref (hh 0), .int x0] [(cI, .int), (cZ, .boolean)] D (wX0 hh cI cZ v) (wX0 hh cI cZ v2) (some (.int r))) : zMT l yL_arrearsOf wsL_arrearsOf 8 140 0 0 [.ref (hh 0), .int x0, .ref o] [(cI, .int), (cZ, .boolean), (cJ, .long)] D (wX0 hh cI cZ v ++ wO o cJ f) (wX0 hh cI cZ v2 ++ wO o cJ (vp_updL f 0 r.toInt64)) (some (.int 0)) := by
  refine z_tmet (cc := cL_arrearsOf) (maxL := 4) (ret := (some .int)) (hx := [(0, 9, 12, 19)]) (by decide) rfl (Nat.le_of_ble_eq_true rfl) ?_
  intro p e s m args below meth c A C hT hN htab hr hlocks
  refine z_sub (L' := [(0, .ref (hh 0)), (1, .int x0), (2, .ref o)]) [0, 1, 2] rfl ?_
  refine z_aload_n C 2 dL_arrearsOf_0 rfl rfl ?_
  refine z_iconst (v := 0) C dL_arrearsOf_1 (by decide) ?_
  refine z_aload_n C 0 dL_arrearsOf_2 rfl rfl ?_
  refine z_iload_n C 1 dL_arrearsOf_3 rfl rfl ?_
  refine z_callV (w := (wX0 hh cI cZ v)) (w' := (wX0 hh cI cZ v2)) (w1 := ([] : va_W)) (w2 := wO o cJ f) (ws' := (wX0 hh cI cZ v2 ++ wO o cJ f)) (As := [.int x0]) (rest := [.int 0, .ref o]) (st' := [.int r, .int 0, .ref o]) (rv := some (.int r)) C hM (cwV 1 C.words gL_arrearsOf_X0_arrearsOf rfl rfl rfl (by decide +kernel) ⟨(Nat.le_of_ble_eq_true rfl), (Nat.le_of_ble_eq_true rfl)⟩) (q0 := 0) (ci := 0) rfl rfl rfl [0, 1] rfl rfl (Nat.le_of_ble_eq_true rfl) ⟨(Nat.le_of_ble_eq_true rfl), (Nat.le_of_ble_eq_true rfl)⟩ rfl rfl rfl rfl rfl dL_arrearsOf_4 ?_
  refine z_i2l (v := r.toInt64) C dL_arrearsOf_7 rfl ?_
  refine z_last (ws' := (wX0 hh cI cZ v2 ++ wO o cJ (vp_updL f 0 (r.toInt64)))) C 8 2 rfl rfl 0 rfl (by decide) (by decide) rfl dL_arrearsOf_8 ?_
  refine z_goto (tgt := 15) C dL_arrearsOf_9 (by decide) ?_
  refine z_iconst (v := 0) C dL_arrearsOf_15 (by decide) ?_
  exact z_iret C hr hlocks (Nat.le_of_ble_eq_true rfl) (Nat.le_of_ble_eq_true rfl) dL_arrearsOf_16 rfl rfl
set_option maxHeartbeats 4000000 in
set_option maxRecDepth 100000 in
theorem w_L_arrearsOf_x1 (l : Launch) (D : va_G) (hh : Nat → Nat) (cI cZ cJ : ClassId) (o : Nat) (f : Nat → Int64) (x0 : Int32) {v : S0} (hM : zX l yX0_arrearsOf wsX0_arrearsOf 7 103 [.ref (hh 0), .int x0] [(cI, .int), (cZ, .boolean)] D (wX0 hh cI cZ v) zI) : zMT l yL_arrearsOf wsL_arrearsOf 8 140 1 6 [.ref (hh 0), .int x0, .ref o] [(cI, .int), (cZ, .boolean), (cJ, .long)] D (wX0 hh cI cZ v ++ wO o cJ f) (wX0 hh cI cZ v ++ wO o cJ f) (some (.int 1)) := by
  refine z_tmet (cc := cL_arrearsOf) (maxL := 4) (ret := (some .int)) (hx := [(0, 9, 12, 19)]) (by decide) rfl (Nat.le_of_ble_eq_true rfl) ?_
  intro p e s m args below meth c A C hT hN htab hr hlocks
  refine z_sub (L' := [(0, .ref (hh 0)), (1, .int x0), (2, .ref o)]) [0, 1, 2] rfl ?_
  refine z_aload_n C 2 dL_arrearsOf_0 rfl rfl ?_
  refine z_iconst (v := 0) C dL_arrearsOf_1 (by decide) ?_
  refine z_aload_n C 0 dL_arrearsOf_2 rfl rfl ?_
  refine z_iload_n C 1 dL_arrearsOf_3 rfl rfl ?_
  refine z_xcatch (w := (wX0 hh cI cZ v)) (w1 := ([] : va_W)) (w2 := wO o cJ f) (As := [.int x0]) (rest := [.int 0, .ref o]) (pre := tableOf []) (x := ⟨0, 9, 12, 19⟩) (suf := tableOf []) (hpc := 12) C hT hM (cwV 1 C.words gL_arrearsOf_X0_arrearsOf rfl rfl rfl (by decide +kernel) ⟨(Nat.le_of_ble_eq_true rfl), (Nat.le_of_ble_eq_true rfl)⟩) (q0 := 0) (ci := 0) rfl rfl rfl [0, 1] rfl rfl (Nat.le_of_ble_eq_true rfl) ⟨(Nat.le_of_ble_eq_true rfl), (Nat.le_of_ble_eq_true rfl)⟩ rfl rfl (htab.trans rfl) (fun _ h => nomatch h) (by decide) (by decide) (by decide +kernel) zx_cI rfl dL_arrearsOf_4 (fun q => ?_)
  refine z_astore_n (L' := [(3, .ref q), (0, .ref (hh 0)), (1, .int x0), (2, .ref o)]) C dL_arrearsOf_12 rfl (by decide) rfl ?_
  refine z_iconst (v := 1) C dL_arrearsOf_13 (by decide) ?_
  exact z_iret C hr hlocks (Nat.le_of_ble_eq_true rfl) (Nat.le_of_ble_eq_true rfl) dL_arrearsOf_14 rfl rfl
set_option maxHeartbeats 4000000 in
set_option maxRecDepth 100000 in
theorem w_L_lumpsOf (l : Launch) (D : va_G) (hh : Nat → Nat) (cI cZ cJ : ClassId) (o : Nat) (f : Nat → Int64) (x0 : Int32) {v v2 : S0} {r : Int32} (hM : zM l yX0_lumpsOf wsX0_lumpsOf 1 21 0 0 [.ref (hh 0), .int x0] [(cI, .int), (cZ, .boolean)] D (wX0 hh cI cZ v) (wX0 hh cI cZ v2) (some (.int r))) : zMT l yL_lumpsOf wsL_lumpsOf 8 140 0 0 [.ref (hh 0), .int x0, .ref o] [(cI, .int), (cZ, .boolean), (cJ, .long)] D (wX0 hh cI cZ v ++ wO o cJ f) (wX0 hh cI cZ v2 ++ wO o cJ (vp_updL f 0 r.toInt64)) (some (.int 0)) := by
  refine z_tmet (cc := cL_lumpsOf) (maxL := 4) (ret := (some .int)) (hx := [(0, 9, 12, 19)]) (by decide) rfl (Nat.le_of_ble_eq_true rfl) ?_
  intro p e s m args below meth c A C hT hN htab hr hlocks
  refine z_sub (L' := [(0, .ref (hh 0)), (1, .int x0), (2, .ref o)]) [0, 1, 2] rfl ?_
  refine z_aload_n C 2 dL_lumpsOf_0 rfl rfl ?_
  refine z_iconst (v := 0) C dL_lumpsOf_1 (by decide) ?_
  refine z_aload_n C 0 dL_lumpsOf_2 rfl rfl ?_
  refine z_iload_n C 1 dL_lumpsOf_3 rfl rfl ?_
  refine z_callV (w := (wX0 hh cI cZ v)) (w' := (wX0 hh cI cZ v2)) (w1 := ([] : va_W)) (w2 := wO o cJ f) (ws' := (wX0 hh cI cZ v2 ++ wO o cJ f)) (As := [.int x0]) (rest := [.int 0, .ref o]) (st' := [.int r, .int 0, .ref o]) (rv := some (.int r)) C hM (cwV 1 C.words gL_lumpsOf_X0_lumpsOf rfl rfl rfl (by decide +kernel) ⟨(Nat.le_of_ble_eq_true rfl), (Nat.le_of_ble_eq_true rfl)⟩) (q0 := 0) (ci := 0) rfl rfl rfl [0, 1] rfl rfl (Nat.le_of_ble_eq_true rfl) ⟨(Nat.le_of_ble_eq_true rfl), (Nat.le_of_ble_eq_true rfl)⟩ rfl rfl rfl rfl rfl dL_lumpsOf_4 ?_
  refine z_i2l (v := r.toInt64) C dL_lumpsOf_7 rfl ?_
  refine z_last (ws' := (wX0 hh cI cZ v2 ++ wO o cJ (vp_updL f 0 (r.toInt64)))) C 8 2 rfl rfl 0 rfl (by decide) (by decide) rfl dL_lumpsOf_8 ?_
  refine z_goto (tgt := 15) C dL_lumpsOf_9 (by decide) ?_
  refine z_iconst (v := 0) C dL_lumpsOf_15 (by decide) ?_
  exact z_iret C hr hlocks (Nat.le_of_ble_eq_true rfl) (Nat.le_of_ble_eq_true rfl) dL_lumpsOf_16 rfl rfl
set_option maxHeartbeats 4000000 in
set_option maxRecDepth 100000 in
theorem w_L_lumpsOf_x1 (l : Launch) (D : va_G) (hh : Nat → Nat) (cI cZ cJ : ClassId) (o : Nat) (f : Nat → Int64) (x0 : Int32) {v : S0} (hM : zX l yX0_lumpsOf wsX0_lumpsOf 7 103 [.ref (hh 0), .int x0] [(cI, .int), (cZ, .boolean)] D (wX0 hh cI cZ v) zI) : zMT l yL_lumpsOf wsL_lumpsOf 8 140 1 6 [.ref (hh 0), .int x0, .ref o] [(cI, .int), (cZ, .boolean), (cJ, .long)] D (wX0 hh cI cZ v ++ wO o cJ f) (wX0 hh cI cZ v ++ wO o cJ f) (some (.int 1)) := by
  refine z_tmet (cc := cL_lumpsOf) (maxL := 4) (ret := (some .int)) (hx := [(0, 9, 12, 19)]) (by decide) rfl (Nat.le_of_ble_eq_true rfl) ?_
  intro p e s m args below meth c A C hT hN htab hr hlocks
  refine z_sub (L' := [(0, .ref (hh 0)), (1, .int x0), (2, .ref o)]) [0, 1, 2] rfl ?_
  refine z_aload_n C 2 dL_lumpsOf_0 rfl rfl ?_
  refine z_iconst (v := 0) C dL_lumpsOf_1 (by decide) ?_
  refine z_aload_n C 0 dL_lumpsOf_2 rfl rfl ?_
  refine z_iload_n C 1 dL_lumpsOf_3 rfl rfl ?_
  refine z_xcatch (w := (wX0 hh cI cZ v)) (w1 := ([] : va_W)) (w2 := wO o cJ f) (As := [.int x0]) (rest := [.int 0, .ref o]) (pre := tableOf []) (x := ⟨0, 9, 12, 19⟩) (suf := tableOf []) (hpc := 12) C hT hM (cwV 1 C.words gL_lumpsOf_X0_lumpsOf rfl rfl rfl (by decide +kernel) ⟨(Nat.le_of_ble_eq_true rfl), (Nat.le_of_ble_eq_true rfl)⟩) (q0 := 0) (ci := 0) rfl rfl rfl [0, 1] rfl rfl (Nat.le_of_ble_eq_true rfl) ⟨(Nat.le_of_ble_eq_true rfl), (Nat.le_of_ble_eq_true rfl)⟩ rfl rfl (htab.trans rfl) (fun _ h => nomatch h) (by decide) (by decide) (by decide +kernel) zx_cI rfl dL_lumpsOf_4 (fun q => ?_)
  refine z_astore_n (L' := [(3, .ref q), (0, .ref (hh 0)), (1, .int x0), (2, .ref o)]) C dL_lumpsOf_12 rfl (by decide) rfl ?_
  refine z_iconst (v := 1) C dL_lumpsOf_13 (by decide) ?_
  exact z_iret C hr hlocks (Nat.le_of_ble_eq_true rfl) (Nat.le_of_ble_eq_true rfl) dL_lumpsOf_14 rfl rfl
