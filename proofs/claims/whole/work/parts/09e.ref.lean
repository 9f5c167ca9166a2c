set_option maxHeartbeats 4000000 in
set_option maxRecDepth 100000 in
theorem c_X1_digest (l : Launch) (D : va_G) (gg : Nat → Nat) (cI : ClassId) (v : S1) (sa : Nat) (k : Nat) (W : Nat → Nat) (hn : (rn v) ≤ 8) (hL : rL (rf v) k W) (hc : (rf v) 1 = nI sa) (hc5 : sa ≤ 500) : zM l yX1_digest wsX1_digest 6 137 9 64 [.ref (gg 0)] [(cI, .int)] D (wX1 gg cI v) (wX1 gg cI (rdig v k W sa)) (some (.long (rdigR v k W sa))) := by
  refine z_met (cc := cX1_digest) (maxL := 10) (ret := (some .long)) (by decide) rfl (Nat.le_of_ble_eq_true rfl) ?_
  intro p e s m args below meth c A C hr hlocks
  have inl : ∀ w ∈ u_ws RX1 TX1 4, w ∈ wsX1_digest := by decide +kernel
  have wd0 : Cond.fieldLink RX1 9 "SaltOrderModel" "now" "[I" ∈ wsX1_digest := by decide +kernel
  have wd1 : Cond.constantLong RX1 122 (31) ∈ wsX1_digest := by decide +kernel
  have wd2 : Cond.fieldLink RX1 20 "SaltOrderModel" "members" "I" ∈ wsX1_digest := by decide +kernel
  have wd3 : Cond.arrayClass .int ∈ wsX1_digest := by decide +kernel
  have wd4 : Cond.fieldLink RX1 16 "SaltOrderModel" "thrown" "I" ∈ wsX1_digest := by decide +kernel
  have wd5 : Cond.constantLong RX1 120 (2011) ∈ wsX1_digest := by decide +kernel
  refine z_sub (L' := [(0, .ref (gg 0))]) [0] rfl ?_
  have hk := hL.1
  have hk30 := hL.2.1
  have lp257 : ∀ (dd i : Nat), i + dd = k → zG p l e ({ frames := 6, cells := 9, slots := 64, locals := 137 } : Room) s m args below meth c D 10 A (1 + rn v) (8 + 7 * rn v) (MQ below (zQ (some (.long (rdigR v k W sa))) (fun t => va_P D vwCl (wX1 gg cI (rdig v k W sa)) t.heap) A) args s 9 64 A) 257 [(0, .ref (gg 0)), (2, .long (rthDN (rf (rdig v k W sa)) (rmemDN (vt v 0) k W sa (rdig8 v k) (rn v)) i)), (4, .int (nI i))] [] (wX1 gg cI (rdig v k W sa)) := by
    intro dd
    induction dd with
    | zero =>
      intro i hi
      obtain rfl : k = i := by omega
      have hkR : rf (rdig v k W sa) 3 = nI k := (rmemN_f _ _ _ _ _ (by omega)).trans hk
      refine z_iload C 2 dX1_digest_257 rfl ?_
      refine z_aload_n C 0 dX1_digest_259 rfl rfl ?_
      refine z_get1 (v := .ref (gg 1)) C inl 0 2 (by decide) rfl rfl wd0 dX1_digest_260 ?_
      refine z_iconst (v := 3) C dX1_digest_263 (by decide) ?_
      refine z_iald (f := rf (rdig v k W sa)) C 1 0 rfl rfl 3 rfl (by omega) (by decide) dX1_digest_264 ?_
      refine z_icmp_ge (tgt := 305) C dX1_digest_265 (by decide) (fun _ => ?_) (fun h9 => absurd ((by rw [show _ = nI k from hkR]; exact nI_le (by omega) (by omega))) h9)
      refine z_lload_n C 1 dX1_digest_305 rfl rfl ?_
      exact z_lret C hr hlocks (by show _ ≤ 9; omega) (by show _ ≤ 64; omega) dX1_digest_306 (by rfl) rfl
    | succ dd ih =>
      intro i hi
      have hkR : rf (rdig v k W sa) 3 = nI k := (rmemN_f _ _ _ _ _ (by omega)).trans hk
      refine z_iload C 2 dX1_digest_257 rfl ?_
      refine z_aload_n C 0 dX1_digest_259 rfl rfl ?_
      refine z_get1 (v := .ref (gg 1)) C inl 0 2 (by decide) rfl rfl wd0 dX1_digest_260 ?_
      refine z_iconst (v := 3) C dX1_digest_263 (by decide) ?_
      refine z_iald (f := rf (rdig v k W sa)) C 1 0 rfl rfl 3 rfl (by omega) (by decide) dX1_digest_264 ?_
      refine z_icmp_ge (tgt := 305) C dX1_digest_265 (by decide) (fun h9 => absurd h9 ((by rw [show _ = nI k from hkR]; exact nI_ge (by omega) (by omega)))) (fun _ => ?_)
      refine z_iconst (v := 0) C dX1_digest_268 (by decide) ?_
      refine z_istore (L' := [(5, .int 0), (0, .ref (gg 0)), (2, .long (rthDN (rf (rdig v k W sa)) (rmemDN (vt v 0) k W sa (rdig8 v k) (rn v)) i)), (4, .int (nI i))]) C dX1_digest_269 (by decide) rfl ?_
      refine z_iload C 0 dX1_digest_271 rfl ?_
      refine z_iconst (v := 4) C dX1_digest_273 (by decide) ?_
      refine z_icmp_ge (tgt := 299) C dX1_digest_274 (by decide) (fun h9 => absurd h9 (by decide)) (fun _ => ?_)
      refine z_lload_n C 2 dX1_digest_277 rfl rfl ?_
      refine z_ldc2 C wd1 dX1_digest_278 ?_
      refine z_lmul C dX1_digest_281 ?_
      refine z_aload_n C 1 dX1_digest_282 rfl rfl ?_
      refine z_iload C 3 dX1_digest_283 rfl ?_
      refine z_iload C 0 dX1_digest_285 rfl ?_
      refine z_callV (w := (wX1 gg cI (rdig v k W sa))) (w' := (wX1 gg cI (rdig v k W sa))) (w1 := ([] : va_W)) (w2 := ([] : va_W)) (ws' := (wX1 gg cI (rdig v k W sa))) (As := [.int (nI i), .int 0]) (rest := [.long ((rthDN (rf (rdig v k W sa)) (rmemDN (vt v 0) k W sa (rdig8 v k) (rn v)) i) * 31)]) (st' := [.int ((rf (rdig v k W sa)) (ti i 0)), .long ((rthDN (rf (rdig v k W sa)) (rmemDN (vt v 0) k W sa (rdig8 v k) (rn v)) i) * 31)]) (rv := some (.int ((rf (rdig v k W sa)) (ti i 0)))) C (c_X1_th l D gg cI (rdig v k W sa) i 0 (by omega) (by omega)) (cwV 2 C.words gX1_digest_X1_th rfl rfl rfl (by decide +kernel) ⟨(Nat.le_of_ble_eq_true rfl), (Nat.le_of_ble_eq_true rfl)⟩) (q0 := 0) (ci := 1) rfl rfl rfl [0] rfl rfl (Nat.le_of_ble_eq_true rfl) ⟨(by show _ ≤ 9; omega), (by show _ ≤ 64; omega)⟩ rfl rfl rfl rfl rfl dX1_digest_287 ?_
      refine z_i2l (v := ((rf (rdig v k W sa)) (ti i 0)).toInt64) C dX1_digest_290 rfl ?_
      refine z_ladd C dX1_digest_291 ?_
      refine z_topl (y := mixd (rthDN (rf (rdig v k W sa)) (rmemDN (vt v 0) k W sa (rdig8 v k) (rn v)) i) ((rf (rdig v k W sa)) (ti i 0))) rfl ?_
      refine z_lstore_n (L' := [(2, .long (mixd (rthDN (rf (rdig v k W sa)) (rmemDN (vt v 0) k W sa (rdig8 v k) (rn v)) i) ((rf (rdig v k W sa)) (ti i 0)))), (5, .int 0), (0, .ref (gg 0)), (4, .int (nI i))]) C dX1_digest_292 rfl (by decide) rfl ?_
      refine z_iinc (v := 1) (L' := [(5, .int 1), (2, .long (mixd (rthDN (rf (rdig v k W sa)) (rmemDN (vt v 0) k W sa (rdig8 v k) (rn v)) i) ((rf (rdig v k W sa)) (ti i 0)))), (0, .ref (gg 0)), (4, .int (nI i))]) C 1 dX1_digest_293 rfl (by decide) (by decide) rfl ?_
      refine z_goto (tgt := 271) C dX1_digest_296 (by decide) ?_
      refine z_iload C 0 dX1_digest_271 rfl ?_
      refine z_iconst (v := 4) C dX1_digest_273 (by decide) ?_
      refine z_icmp_ge (tgt := 299) C dX1_digest_274 (by decide) (fun h9 => absurd h9 (by decide)) (fun _ => ?_)
      refine z_lload_n C 1 dX1_digest_277 rfl rfl ?_
      refine z_ldc2 C wd1 dX1_digest_278 ?_
      refine z_lmul C dX1_digest_281 ?_
      refine z_aload_n C 2 dX1_digest_282 rfl rfl ?_
      refine z_iload C 3 dX1_digest_283 rfl ?_
      refine z_iload C 0 dX1_digest_285 rfl ?_
      refine z_callV (w := (wX1 gg cI (rdig v k W sa))) (w' := (wX1 gg cI (rdig v k W sa))) (w1 := ([] : va_W)) (w2 := ([] : va_W)) (ws' := (wX1 gg cI (rdig v k W sa))) (As := [.int (nI i), .int 1]) (rest := [.long ((mixd (rthDN (rf (rdig v k W sa)) (rmemDN (vt v 0) k W sa (rdig8 v k) (rn v)) i) ((rf (rdig v k W sa)) (ti i 0))) * 31)]) (st' := [.int ((rf (rdig v k W sa)) (ti i 1)), .long ((mixd (rthDN (rf (rdig v k W sa)) (rmemDN (vt v 0) k W sa (rdig8 v k) (rn v)) i) ((rf (rdig v k W sa)) (ti i 0))) * 31)]) (rv := some (.int ((rf (rdig v k W sa)) (ti i 1)))) C (c_X1_th l D gg cI (rdig v k W sa) i 1 (by omega) (by omega)) (cwV 2 C.words gX1_digest_X1_th rfl rfl rfl (by decide +kernel) ⟨(Nat.le_of_ble_eq_true rfl), (Nat.le_of_ble_eq_true rfl)⟩) (q0 := 0) (ci := 1) rfl rfl rfl [0] rfl rfl (Nat.le_of_ble_eq_true rfl) ⟨(by show _ ≤ 9; omega), (by show _ ≤ 64; omega)⟩ rfl rfl rfl rfl rfl dX1_digest_287 ?_
      refine z_i2l (v := ((rf (rdig v k W sa)) (ti i 1)).toInt64) C dX1_digest_290 rfl ?_
      refine z_ladd C dX1_digest_291 ?_
      refine z_topl (y := mixd (mixd (rthDN (rf (rdig v k W sa)) (rmemDN (vt v 0) k W sa (rdig8 v k) (rn v)) i) ((rf (rdig v k W sa)) (ti i 0))) ((rf (rdig v k W sa)) (ti i 1))) rfl ?_
      refine z_lstore_n (L' := [(2, .long (mixd (mixd (rthDN (rf (rdig v k W sa)) (rmemDN (vt v 0) k W sa (rdig8 v k) (rn v)) i) ((rf (rdig v k W sa)) (ti i 0))) ((rf (rdig v k W sa)) (ti i 1)))), (5, .int 1), (0, .ref (gg 0)), (4, .int (nI i))]) C dX1_digest_292 rfl (by decide) rfl ?_
      refine z_iinc (v := 2) (L' := [(5, .int 2), (2, .long (mixd (mixd (rthDN (rf (rdig v k W sa)) (rmemDN (vt v 0) k W sa (rdig8 v k) (rn v)) i) ((rf (rdig v k W sa)) (ti i 0))) ((rf (rdig v k W sa)) (ti i 1)))), (0, .ref (gg 0)), (4, .int (nI i))]) C 1 dX1_digest_293 rfl (by decide) (by decide) rfl ?_
      refine z_goto (tgt := 271) C dX1_digest_296 (by decide) ?_
      refine z_iload C 0 dX1_digest_271 rfl ?_
      refine z_iconst (v := 4) C dX1_digest_273 (by decide) ?_
      refine z_icmp_ge (tgt := 299) C dX1_digest_274 (by decide) (fun h9 => absurd h9 (by decide)) (fun _ => ?_)
      refine z_lload_n C 1 dX1_digest_277 rfl rfl ?_
      refine z_ldc2 C wd1 dX1_digest_278 ?_
      refine z_lmul C dX1_digest_281 ?_
      refine z_aload_n C 2 dX1_digest_282 rfl rfl ?_
      refine z_iload C 3 dX1_digest_283 rfl ?_
      refine z_iload C 0 dX1_digest_285 rfl ?_
      refine z_callV (w := (wX1 gg cI (rdig v k W sa))) (w' := (wX1 gg cI (rdig v k W sa))) (w1 := ([] : va_W)) (w2 := ([] : va_W)) (ws' := (wX1 gg cI (rdig v k W sa))) (As := [.int (nI i), .int 2]) (rest := [.long ((mixd (mixd (rthDN (rf (rdig v k W sa)) (rmemDN (vt v 0) k W sa (rdig8 v k) (rn v)) i) ((rf (rdig v k W sa)) (ti i 0))) ((rf (rdig v k W sa)) (ti i 1))) * 31)]) (st' := [.int ((rf (rdig v k W sa)) (ti i 2)), .long ((mixd (mixd (rthDN (rf (rdig v k W sa)) (rmemDN (vt v 0) k W sa (rdig8 v k) (rn v)) i) ((rf (rdig v k W sa)) (ti i 0))) ((rf (rdig v k W sa)) (ti i 1))) * 31)]) (rv := some (.int ((rf (rdig v k W sa)) (ti i 2)))) C (c_X1_th l D gg cI (rdig v k W sa) i 2 (by omega) (by omega)) (cwV 2 C.words gX1_digest_X1_th rfl rfl rfl (by decide +kernel) ⟨(Nat.le_of_ble_eq_true rfl), (Nat.le_of_ble_eq_true rfl)⟩) (q0 := 0) (ci := 1) rfl rfl rfl [0] rfl rfl (Nat.le_of_ble_eq_true rfl) ⟨(by show _ ≤ 9; omega), (by show _ ≤ 64; omega)⟩ rfl rfl rfl rfl rfl dX1_digest_287 ?_
      refine z_i2l (v := ((rf (rdig v k W sa)) (ti i 2)).toInt64) C dX1_digest_290 rfl ?_
      refine z_ladd C dX1_digest_291 ?_
      refine z_topl (y := mixd (mixd (mixd (rthDN (rf (rdig v k W sa)) (rmemDN (vt v 0) k W sa (rdig8 v k) (rn v)) i) ((rf (rdig v k W sa)) (ti i 0))) ((rf (rdig v k W sa)) (ti i 1))) ((rf (rdig v k W sa)) (ti i 2))) rfl ?_
      refine z_lstore_n (L' := [(2, .long (mixd (mixd (mixd (rthDN (rf (rdig v k W sa)) (rmemDN (vt v 0) k W sa (rdig8 v k) (rn v)) i) ((rf (rdig v k W sa)) (ti i 0))) ((rf (rdig v k W sa)) (ti i 1))) ((rf (rdig v k W sa)) (ti i 2)))), (5, .int 2), (0, .ref (gg 0)), (4, .int (nI i))]) C dX1_digest_292 rfl (by decide) rfl ?_
      refine z_iinc (v := 3) (L' := [(5, .int 3), (2, .long (mixd (mixd (mixd (rthDN (rf (rdig v k W sa)) (rmemDN (vt v 0) k W sa (rdig8 v k) (rn v)) i) ((rf (rdig v k W sa)) (ti i 0))) ((rf (rdig v k W sa)) (ti i 1))) ((rf (rdig v k W sa)) (ti i 2)))), (0, .ref (gg 0)), (4, .int (nI i))]) C 1 dX1_digest_293 rfl (by decide) (by decide) rfl ?_
      refine z_goto (tgt := 271) C dX1_digest_296 (by decide) ?_
      refine z_iload C 0 dX1_digest_271 rfl ?_
      refine z_iconst (v := 4) C dX1_digest_273 (by decide) ?_
      refine z_icmp_ge (tgt := 299) C dX1_digest_274 (by decide) (fun h9 => absurd h9 (by decide)) (fun _ => ?_)
      refine z_lload_n C 1 dX1_digest_277 rfl rfl ?_
      refine z_ldc2 C wd1 dX1_digest_278 ?_
      refine z_lmul C dX1_digest_281 ?_
      refine z_aload_n C 2 dX1_digest_282 rfl rfl ?_
      refine z_iload C 3 dX1_digest_283 rfl ?_
      refine z_iload C 0 dX1_digest_285 rfl ?_
      refine z_callV (w := (wX1 gg cI (rdig v k W sa))) (w' := (wX1 gg cI (rdig v k W sa))) (w1 := ([] : va_W)) (w2 := ([] : va_W)) (ws' := (wX1 gg cI (rdig v k W sa))) (As := [.int (nI i), .int 3]) (rest := [.long ((mixd (mixd (mixd (rthDN (rf (rdig v k W sa)) (rmemDN (vt v 0) k W sa (rdig8 v k) (rn v)) i) ((rf (rdig v k W sa)) (ti i 0))) ((rf (rdig v k W sa)) (ti i 1))) ((rf (rdig v k W sa)) (ti i 2))) * 31)]) (st' := [.int ((rf (rdig v k W sa)) (ti i 3)), .long ((mixd (mixd (mixd (rthDN (rf (rdig v k W sa)) (rmemDN (vt v 0) k W sa (rdig8 v k) (rn v)) i) ((rf (rdig v k W sa)) (ti i 0))) ((rf (rdig v k W sa)) (ti i 1))) ((rf (rdig v k W sa)) (ti i 2))) * 31)]) (rv := some (.int ((rf (rdig v k W sa)) (ti i 3)))) C (c_X1_th l D gg cI (rdig v k W sa) i 3 (by omega) (by omega)) (cwV 2 C.words gX1_digest_X1_th rfl rfl rfl (by decide +kernel) ⟨(Nat.le_of_ble_eq_true rfl), (Nat.le_of_ble_eq_true rfl)⟩) (q0 := 0) (ci := 1) rfl rfl rfl [0] rfl rfl (Nat.le_of_ble_eq_true rfl) ⟨(by show _ ≤ 9; omega), (by show _ ≤ 64; omega)⟩ rfl rfl rfl rfl rfl dX1_digest_287 ?_
      refine z_i2l (v := ((rf (rdig v k W sa)) (ti i 3)).toInt64) C dX1_digest_290 rfl ?_
      refine z_ladd C dX1_digest_291 ?_
      refine z_topl (y := mixd (mixd (mixd (mixd (rthDN (rf (rdig v k W sa)) (rmemDN (vt v 0) k W sa (rdig8 v k) (rn v)) i) ((rf (rdig v k W sa)) (ti i 0))) ((rf (rdig v k W sa)) (ti i 1))) ((rf (rdig v k W sa)) (ti i 2))) ((rf (rdig v k W sa)) (ti i 3))) rfl ?_
      refine z_lstore_n (L' := [(2, .long (mixd (mixd (mixd (mixd (rthDN (rf (rdig v k W sa)) (rmemDN (vt v 0) k W sa (rdig8 v k) (rn v)) i) ((rf (rdig v k W sa)) (ti i 0))) ((rf (rdig v k W sa)) (ti i 1))) ((rf (rdig v k W sa)) (ti i 2))) ((rf (rdig v k W sa)) (ti i 3)))), (5, .int 3), (0, .ref (gg 0)), (4, .int (nI i))]) C dX1_digest_292 rfl (by decide) rfl ?_
      refine z_iinc (v := 4) (L' := [(5, .int 4), (2, .long (mixd (mixd (mixd (mixd (rthDN (rf (rdig v k W sa)) (rmemDN (vt v 0) k W sa (rdig8 v k) (rn v)) i) ((rf (rdig v k W sa)) (ti i 0))) ((rf (rdig v k W sa)) (ti i 1))) ((rf (rdig v k W sa)) (ti i 2))) ((rf (rdig v k W sa)) (ti i 3)))), (0, .ref (gg 0)), (4, .int (nI i))]) C 1 dX1_digest_293 rfl (by decide) (by decide) rfl ?_
      refine z_goto (tgt := 271) C dX1_digest_296 (by decide) ?_
      refine z_iload C 0 dX1_digest_271 rfl ?_
      refine z_iconst (v := 4) C dX1_digest_273 (by decide) ?_
      refine z_icmp_ge (tgt := 299) C dX1_digest_274 (by decide) (fun _ => ?_) (fun h9 => absurd (by decide) h9)
      refine z_iinc (v := nI (i + 1)) (L' := [(4, .int (nI (i + 1))), (5, .int 4), (2, .long (mixd (mixd (mixd (mixd (rthDN (rf (rdig v k W sa)) (rmemDN (vt v 0) k W sa (rdig8 v k) (rn v)) i) ((rf (rdig v k W sa)) (ti i 0))) ((rf (rdig v k W sa)) (ti i 1))) ((rf (rdig v k W sa)) (ti i 2))) ((rf (rdig v k W sa)) (ti i 3)))), (0, .ref (gg 0))]) C 3 dX1_digest_299 rfl (z_inc _) (by decide) rfl ?_
      refine z_goto (tgt := 257) C dX1_digest_302 (by decide) ?_
      refine z_sub (L' := [(0, .ref (gg 0)), (2, .long (mixd (mixd (mixd (mixd (rthDN (rf (rdig v k W sa)) (rmemDN (vt v 0) k W sa (rdig8 v k) (rn v)) i) ((rf (rdig v k W sa)) (ti i 0))) ((rf (rdig v k W sa)) (ti i 1))) ((rf (rdig v k W sa)) (ti i 2))) ((rf (rdig v k W sa)) (ti i 3)))), (4, .int (nI (i + 1)))]) [3, 2, 0] rfl ?_
      exact ih (i + 1) (by omega)
  have lp124 : ∀ (dd i : Nat), i + dd = rn v → zG p l e ({ frames := 6, cells := 9, slots := 64, locals := 137 } : Room) s m args below meth c D 10 A (1 + i) (8 + 7 * i) (MQ below (zQ (some (.long (rdigR v k W sa))) (fun t => va_P D vwCl (wX1 gg cI (rdig v k W sa)) t.heap) A) args s 9 64 A) 124 [(0, .ref (gg 0)), (2, .long (rmemDN (vt v 0) k W sa (rdig8 v k) i)), (4, .int (nI i))] [] (wX1 gg cI (rmemN (vt v 0) k W sa i)) := by
    intro dd
    induction dd with
    | zero =>
      intro i hi
      have hi : i = rn v := by omega
      subst hi
      have hni : rn (rmemN (vt v 0) k W sa (rn v)) = rn v := rmemN_n _ _ _ _ _
      refine z_iload C 2 dX1_digest_124 rfl ?_
      refine z_aload_n C 0 dX1_digest_126 rfl rfl ?_
      refine z_get1 (v := .int (nI (rn (rmemN (vt v 0) k W sa (rn v))))) C inl 0 1 (by decide) rfl rfl wd2 dX1_digest_127 ?_
      refine z_icmp_ge (tgt := 254) C dX1_digest_130 (by decide) (fun _ => ?_) (fun h9 => absurd ((by rw [hni]; exact nI_le (by omega) (by omega))) h9)
      refine z_iconst (v := 0) C dX1_digest_254 (by decide) ?_
      refine z_istore (L' := [(4, .int 0), (0, .ref (gg 0)), (2, .long (rmemDN (vt v 0) k W sa (rdig8 v k) (rn v)))]) C dX1_digest_255 (by decide) rfl ?_
      refine z_sub (L' := [(0, .ref (gg 0)), (2, .long (rmemDN (vt v 0) k W sa (rdig8 v k) (rn v))), (4, .int 0)]) [1, 2, 0] rfl ?_
      exact lp257 k 0 (by omega)
    | succ dd ih =>
      intro i hi
      have hni : rn (rmemN (vt v 0) k W sa i) = rn v := rmemN_n _ _ _ _ _
      have hLi : rL (rf (rmemN (vt v 0) k W sa i)) k W := rmemN_L (v := vt v 0) hL sa i
      have hci : rf (rmemN (vt v 0) k W sa i) 1 = nI sa := (rmemN_f _ _ _ _ _ (by omega)).trans hc
      refine z_iload C 2 dX1_digest_124 rfl ?_
      refine z_aload_n C 0 dX1_digest_126 rfl rfl ?_
      refine z_get1 (v := .int (nI (rn (rmemN (vt v 0) k W sa i)))) C inl 0 1 (by decide) rfl rfl wd2 dX1_digest_127 ?_
      refine z_icmp_ge (tgt := 254) C dX1_digest_130 (by decide) (fun h9 => absurd h9 ((by rw [hni]; exact nI_ge (by omega) (by omega)))) (fun _ => ?_)
      refine z_bipush (v := 7) C dX1_digest_133 (by decide) ?_
      refine z_newi (N := 7) C 0 rfl wd3 (by decide) (by decide) (by decide) (by show _ ≤ 9; omega) (by show _ ≤ 64; omega) dX1_digest_135 (fun q1 => ?_)
      refine z_dup C dX1_digest_137 rfl ?_
      refine z_iconst (v := 0) C dX1_digest_138 (by decide) ?_
      refine z_aload_n C 0 dX1_digest_139 rfl rfl ?_
      refine z_iload C 2 dX1_digest_140 rfl ?_
      refine z_iconst (v := 0) C dX1_digest_142 (by decide) ?_
      refine z_callV (w := (wX1 gg cI (rmemN (vt v 0) k W sa i))) (w' := (wX1 gg cI (rmemN (vt v 0) k W sa i))) (w1 := ([] : va_W)) (w2 := [(q1, .inl (cI, 7, .inl (fun _ => 0)))]) (ws' := ((wX1 gg cI (rmemN (vt v 0) k W sa i)) ++ [(q1, .inl (cI, 7, .inl (fun _ => 0)))])) (As := [.int (nI i), .int 0]) (rest := [.int 0, .ref q1, .ref q1]) (st' := [.int ((rf (rmemN (vt v 0) k W sa i)) (mi i 0)), .int 0, .ref q1, .ref q1]) (rv := some (.int ((rf (rmemN (vt v 0) k W sa i)) (mi i 0)))) C (c_X1_me l D gg cI (rmemN (vt v 0) k W sa i) i 0 (by omega) (by omega)) (cwV 2 C.words gX1_digest_X1_me rfl rfl rfl (by decide +kernel) ⟨(Nat.le_of_ble_eq_true rfl), (Nat.le_of_ble_eq_true rfl)⟩) (q0 := 0) (ci := 1) rfl rfl rfl [0] rfl rfl (Nat.le_of_ble_eq_true rfl) ⟨(by show _ ≤ 9; omega), (by show _ ≤ 64; omega)⟩ rfl rfl rfl rfl rfl dX1_digest_143 ?_
      refine z_iast (ws' := ((wX1 gg cI (rmemN (vt v 0) k W sa i)) ++ [(q1, .inl (cI, 7, .inl (upd (fun _ => 0) 0 ((rf (rmemN (vt v 0) k W sa i)) (mi i 0)))))])) C 3 0 rfl rfl 0 rfl (by omega) (by decide) rfl dX1_digest_146 ?_
      refine z_dup C dX1_digest_147 rfl ?_
      refine z_iconst (v := 1) C dX1_digest_148 (by decide) ?_
      refine z_aload_n C 0 dX1_digest_149 rfl rfl ?_
      refine z_iload C 2 dX1_digest_150 rfl ?_
      refine z_iconst (v := 1) C dX1_digest_152 (by decide) ?_
      refine z_callV (w := (wX1 gg cI (rmemN (vt v 0) k W sa i))) (w' := (wX1 gg cI (rmemN (vt v 0) k W sa i))) (w1 := ([] : va_W)) (w2 := [(q1, .inl (cI, 7, .inl (upd (fun _ => 0) 0 ((rf (rmemN (vt v 0) k W sa i)) (mi i 0)))))]) (ws' := ((wX1 gg cI (rmemN (vt v 0) k W sa i)) ++ [(q1, .inl (cI, 7, .inl (upd (fun _ => 0) 0 ((rf (rmemN (vt v 0) k W sa i)) (mi i 0)))))])) (As := [.int (nI i), .int 1]) (rest := [.int 1, .ref q1, .ref q1]) (st' := [.int ((rf (rmemN (vt v 0) k W sa i)) (mi i 1)), .int 1, .ref q1, .ref q1]) (rv := some (.int ((rf (rmemN (vt v 0) k W sa i)) (mi i 1)))) C (c_X1_me l D gg cI (rmemN (vt v 0) k W sa i) i 1 (by omega) (by omega)) (cwV 2 C.words gX1_digest_X1_me rfl rfl rfl (by decide +kernel) ⟨(Nat.le_of_ble_eq_true rfl), (Nat.le_of_ble_eq_true rfl)⟩) (q0 := 0) (ci := 1) rfl rfl rfl [0] rfl rfl (Nat.le_of_ble_eq_true rfl) ⟨(by show _ ≤ 9; omega), (by show _ ≤ 64; omega)⟩ rfl rfl rfl rfl rfl dX1_digest_153 ?_
      refine z_iast (ws' := ((wX1 gg cI (rmemN (vt v 0) k W sa i)) ++ [(q1, .inl (cI, 7, .inl (upd (upd (fun _ => 0) 0 ((rf (rmemN (vt v 0) k W sa i)) (mi i 0))) 1 ((rf (rmemN (vt v 0) k W sa i)) (mi i 1)))))])) C 3 0 rfl rfl 1 rfl (by omega) (by decide) rfl dX1_digest_156 ?_
      refine z_dup C dX1_digest_157 rfl ?_
      refine z_iconst (v := 2) C dX1_digest_158 (by decide) ?_
      refine z_aload_n C 0 dX1_digest_159 rfl rfl ?_
      refine z_iload C 2 dX1_digest_160 rfl ?_
      refine z_iconst (v := 2) C dX1_digest_162 (by decide) ?_
      refine z_callV (w := (wX1 gg cI (rmemN (vt v 0) k W sa i))) (w' := (wX1 gg cI (rmemN (vt v 0) k W sa i))) (w1 := ([] : va_W)) (w2 := [(q1, .inl (cI, 7, .inl (upd (upd (fun _ => 0) 0 ((rf (rmemN (vt v 0) k W sa i)) (mi i 0))) 1 ((rf (rmemN (vt v 0) k W sa i)) (mi i 1)))))]) (ws' := ((wX1 gg cI (rmemN (vt v 0) k W sa i)) ++ [(q1, .inl (cI, 7, .inl (upd (upd (fun _ => 0) 0 ((rf (rmemN (vt v 0) k W sa i)) (mi i 0))) 1 ((rf (rmemN (vt v 0) k W sa i)) (mi i 1)))))])) (As := [.int (nI i), .int 2]) (rest := [.int 2, .ref q1, .ref q1]) (st' := [.int ((rf (rmemN (vt v 0) k W sa i)) (mi i 2)), .int 2, .ref q1, .ref q1]) (rv := some (.int ((rf (rmemN (vt v 0) k W sa i)) (mi i 2)))) C (c_X1_me l D gg cI (rmemN (vt v 0) k W sa i) i 2 (by omega) (by omega)) (cwV 2 C.words gX1_digest_X1_me rfl rfl rfl (by decide +kernel) ⟨(Nat.le_of_ble_eq_true rfl), (Nat.le_of_ble_eq_true rfl)⟩) (q0 := 0) (ci := 1) rfl rfl rfl [0] rfl rfl (Nat.le_of_ble_eq_true rfl) ⟨(by show _ ≤ 9; omega), (by show _ ≤ 64; omega)⟩ rfl rfl rfl rfl rfl dX1_digest_163 ?_
      refine z_iast (ws' := ((wX1 gg cI (rmemN (vt v 0) k W sa i)) ++ [(q1, .inl (cI, 7, .inl (upd (upd (upd (fun _ => 0) 0 ((rf (rmemN (vt v 0) k W sa i)) (mi i 0))) 1 ((rf (rmemN (vt v 0) k W sa i)) (mi i 1))) 2 ((rf (rmemN (vt v 0) k W sa i)) (mi i 2)))))])) C 3 0 rfl rfl 2 rfl (by omega) (by decide) rfl dX1_digest_166 ?_
      refine z_dup C dX1_digest_167 rfl ?_
      refine z_iconst (v := 3) C dX1_digest_168 (by decide) ?_
      refine z_aload_n C 0 dX1_digest_169 rfl rfl ?_
      refine z_iload C 2 dX1_digest_170 rfl ?_
      refine z_callV (w := (wX1 gg cI (rmemN (vt v 0) k W sa i))) (w' := (wX1 gg cI (rmemN (vt v 0) k W sa i))) (w1 := ([] : va_W)) (w2 := [(q1, .inl (cI, 7, .inl (upd (upd (upd (fun _ => 0) 0 ((rf (rmemN (vt v 0) k W sa i)) (mi i 0))) 1 ((rf (rmemN (vt v 0) k W sa i)) (mi i 1))) 2 ((rf (rmemN (vt v 0) k W sa i)) (mi i 2)))))]) (ws' := ((wX1 gg cI (rmemN (vt v 0) k W sa i)) ++ [(q1, .inl (cI, 7, .inl (upd (upd (upd (fun _ => 0) 0 ((rf (rmemN (vt v 0) k W sa i)) (mi i 0))) 1 ((rf (rmemN (vt v 0) k W sa i)) (mi i 1))) 2 ((rf (rmemN (vt v 0) k W sa i)) (mi i 2)))))])) (As := [.int (nI i)]) (rest := [.int 3, .ref q1, .ref q1]) (st' := [.int (rloss (rf (rmemN (vt v 0) k W sa i)) i), .int 3, .ref q1, .ref q1]) (rv := some (.int (rloss (rf (rmemN (vt v 0) k W sa i)) i))) C (c_X1_loss l D gg cI (rmemN (vt v 0) k W sa i) i (by omega)) (cwV 1 C.words gX1_digest_X1_loss rfl rfl rfl (by decide +kernel) ⟨(Nat.le_of_ble_eq_true rfl), (Nat.le_of_ble_eq_true rfl)⟩) (q0 := 0) (ci := 1) rfl rfl rfl [0] rfl rfl (Nat.le_of_ble_eq_true rfl) ⟨(by show _ ≤ 9; omega), (by show _ ≤ 64; omega)⟩ rfl rfl rfl rfl rfl dX1_digest_172 ?_
      refine z_iast (ws' := ((wX1 gg cI (rmemN (vt v 0) k W sa i)) ++ [(q1, .inl (cI, 7, .inl (upd (upd (upd (upd (fun _ => 0) 0 ((rf (rmemN (vt v 0) k W sa i)) (mi i 0))) 1 ((rf (rmemN (vt v 0) k W sa i)) (mi i 1))) 2 ((rf (rmemN (vt v 0) k W sa i)) (mi i 2))) 3 (rloss (rf (rmemN (vt v 0) k W sa i)) i))))])) C 3 0 rfl rfl 3 rfl (by omega) (by decide) rfl dX1_digest_175 ?_
      refine z_dup C dX1_digest_176 rfl ?_
      refine z_iconst (v := 4) C dX1_digest_177 (by decide) ?_
      refine z_aload_n C 0 dX1_digest_178 rfl rfl ?_
      refine z_iload C 2 dX1_digest_179 rfl ?_
      refine z_callV (w := (wX1 gg cI (rmemN (vt v 0) k W sa i))) (w' := (wX1 gg cI (rmemN (vt v 0) k W sa i))) (w1 := ([] : va_W)) (w2 := [(q1, .inl (cI, 7, .inl (upd (upd (upd (upd (fun _ => 0) 0 ((rf (rmemN (vt v 0) k W sa i)) (mi i 0))) 1 ((rf (rmemN (vt v 0) k W sa i)) (mi i 1))) 2 ((rf (rmemN (vt v 0) k W sa i)) (mi i 2))) 3 (rloss (rf (rmemN (vt v 0) k W sa i)) i))))]) (ws' := ((wX1 gg cI (rmemN (vt v 0) k W sa i)) ++ [(q1, .inl (cI, 7, .inl (upd (upd (upd (upd (fun _ => 0) 0 ((rf (rmemN (vt v 0) k W sa i)) (mi i 0))) 1 ((rf (rmemN (vt v 0) k W sa i)) (mi i 1))) 2 ((rf (rmemN (vt v 0) k W sa i)) (mi i 2))) 3 (rloss (rf (rmemN (vt v 0) k W sa i)) i))))])) (As := [.int (nI i)]) (rest := [.int 4, .ref q1, .ref q1]) (st' := [.int (raddN (rf (rmemN (vt v 0) k W sa i)) (nI i) k), .int 4, .ref q1, .ref q1]) (rv := some (.int (raddN (rf (rmemN (vt v 0) k W sa i)) (nI i) k))) C (c_X1_adds l D gg cI (rmemN (vt v 0) k W sa i) (nI i) k W hLi) (cwV 1 C.words gX1_digest_X1_adds rfl rfl rfl (by decide +kernel) ⟨(Nat.le_of_ble_eq_true rfl), (Nat.le_of_ble_eq_true rfl)⟩) (q0 := 0) (ci := 1) rfl rfl rfl [0] rfl rfl (Nat.le_of_ble_eq_true rfl) ⟨(by show _ ≤ 9; omega), (by show _ ≤ 64; omega)⟩ rfl rfl rfl rfl rfl dX1_digest_181 ?_
      refine z_iast (ws' := ((wX1 gg cI (rmemN (vt v 0) k W sa i)) ++ [(q1, .inl (cI, 7, .inl (upd (upd (upd (upd (upd (fun _ => 0) 0 ((rf (rmemN (vt v 0) k W sa i)) (mi i 0))) 1 ((rf (rmemN (vt v 0) k W sa i)) (mi i 1))) 2 ((rf (rmemN (vt v 0) k W sa i)) (mi i 2))) 3 (rloss (rf (rmemN (vt v 0) k W sa i)) i)) 4 (raddN (rf (rmemN (vt v 0) k W sa i)) (nI i) k))))])) C 3 0 rfl rfl 4 rfl (by omega) (by decide) rfl dX1_digest_184 ?_
      refine z_dup C dX1_digest_185 rfl ?_
      refine z_iconst (v := 5) C dX1_digest_186 (by decide) ?_
      refine z_aload_n C 0 dX1_digest_187 rfl rfl ?_
      refine z_iload C 2 dX1_digest_188 rfl ?_
      obtain ⟨v2, hv2⟩ : ∃ z, z = rpin (rmemN (vt v 0) k W sa i) k W i sa := ⟨_, rfl⟩
      refine z_callV (w := (wX1 gg cI (rmemN (vt v 0) k W sa i))) (w' := (wX1 gg cI v2)) (w1 := ([] : va_W)) (w2 := [(q1, .inl (cI, 7, .inl (upd (upd (upd (upd (upd (fun _ => 0) 0 ((rf (rmemN (vt v 0) k W sa i)) (mi i 0))) 1 ((rf (rmemN (vt v 0) k W sa i)) (mi i 1))) 2 ((rf (rmemN (vt v 0) k W sa i)) (mi i 2))) 3 (rloss (rf (rmemN (vt v 0) k W sa i)) i)) 4 (raddN (rf (rmemN (vt v 0) k W sa i)) (nI i) k))))]) (ws' := ((wX1 gg cI v2) ++ [(q1, .inl (cI, 7, .inl (upd (upd (upd (upd (upd (fun _ => 0) 0 ((rf (rmemN (vt v 0) k W sa i)) (mi i 0))) 1 ((rf (rmemN (vt v 0) k W sa i)) (mi i 1))) 2 ((rf (rmemN (vt v 0) k W sa i)) (mi i 2))) 3 (rloss (rf (rmemN (vt v 0) k W sa i)) i)) 4 (raddN (rf (rmemN (vt v 0) k W sa i)) (nI i) k))))])) (As := [.int (nI i)]) (rest := [.int 5, .ref q1, .ref q1]) (st' := [.int (rpinR (rmemN (vt v 0) k W sa i) k W i sa), .int 5, .ref q1, .ref q1]) (rv := some (.int (rpinR (rmemN (vt v 0) k W sa i) k W i sa))) C (by rw [hv2]; exact c_X1_pinch l D gg cI (rmemN (vt v 0) k W sa i) i sa k W (by omega) (by omega) hLi hci (by omega)) (cwV 1 C.words gX1_digest_X1_pinch rfl rfl rfl (by decide +kernel) ⟨(Nat.le_of_ble_eq_true rfl), (Nat.le_of_ble_eq_true rfl)⟩) (q0 := 0) (ci := 1) rfl rfl rfl [0] rfl rfl (Nat.le_of_ble_eq_true rfl) ⟨(by show _ ≤ 9; omega), (by show _ ≤ 64; omega)⟩ rfl rfl rfl rfl rfl dX1_digest_190 ?_
      have hni : rn v2 = rn v := by rw [hv2]; exact (rpin_n _ _ _ _ _).trans hni
      have hLi : rL (rf v2) k W := by rw [hv2]; exact rpin_L hLi _ _
      refine z_iast (ws' := ((wX1 gg cI v2) ++ [(q1, .inl (cI, 7, .inl (upd (upd (upd (upd (upd (upd (fun _ => 0) 0 ((rf (rmemN (vt v 0) k W sa i)) (mi i 0))) 1 ((rf (rmemN (vt v 0) k W sa i)) (mi i 1))) 2 ((rf (rmemN (vt v 0) k W sa i)) (mi i 2))) 3 (rloss (rf (rmemN (vt v 0) k W sa i)) i)) 4 (raddN (rf (rmemN (vt v 0) k W sa i)) (nI i) k)) 5 (rpinR (rmemN (vt v 0) k W sa i) k W i sa))))])) C 3 0 rfl rfl 5 rfl (by omega) (by decide) rfl dX1_digest_193 ?_
      refine z_dup C dX1_digest_194 rfl ?_
      refine z_bipush (v := 6) C dX1_digest_195 (by decide) ?_
      refine z_aload_n C 0 dX1_digest_197 rfl rfl ?_
      refine z_iload C 2 dX1_digest_198 rfl ?_
      obtain ⟨v3, hv3⟩ : ∃ z, z = rpen v2 k W i := ⟨_, rfl⟩
      refine z_callV (w := (wX1 gg cI v2)) (w' := (wX1 gg cI v3)) (w1 := ([] : va_W)) (w2 := [(q1, .inl (cI, 7, .inl (upd (upd (upd (upd (upd (upd (fun _ => 0) 0 ((rf (rmemN (vt v 0) k W sa i)) (mi i 0))) 1 ((rf (rmemN (vt v 0) k W sa i)) (mi i 1))) 2 ((rf (rmemN (vt v 0) k W sa i)) (mi i 2))) 3 (rloss (rf (rmemN (vt v 0) k W sa i)) i)) 4 (raddN (rf (rmemN (vt v 0) k W sa i)) (nI i) k)) 5 (rpinR (rmemN (vt v 0) k W sa i) k W i sa))))]) (ws' := ((wX1 gg cI v3) ++ [(q1, .inl (cI, 7, .inl (upd (upd (upd (upd (upd (upd (fun _ => 0) 0 ((rf (rmemN (vt v 0) k W sa i)) (mi i 0))) 1 ((rf (rmemN (vt v 0) k W sa i)) (mi i 1))) 2 ((rf (rmemN (vt v 0) k W sa i)) (mi i 2))) 3 (rloss (rf (rmemN (vt v 0) k W sa i)) i)) 4 (raddN (rf (rmemN (vt v 0) k W sa i)) (nI i) k)) 5 (rpinR (rmemN (vt v 0) k W sa i) k W i sa))))])) (As := [.int (nI i)]) (rest := [.int 6, .ref q1, .ref q1]) (st' := [.int (rpenR v2 k W i), .int 6, .ref q1, .ref q1]) (rv := some (.int (rpenR v2 k W i))) C (by rw [hv3]; exact c_X1_penance l D gg cI v2 i k W (by omega) (by omega) hLi) (cwV 1 C.words gX1_digest_X1_penance rfl rfl rfl (by decide +kernel) ⟨(Nat.le_of_ble_eq_true rfl), (Nat.le_of_ble_eq_true rfl)⟩) (q0 := 0) (ci := 1) rfl rfl rfl [0] rfl rfl (Nat.le_of_ble_eq_true rfl) ⟨(by show _ ≤ 9; omega), (by show _ ≤ 64; omega)⟩ rfl rfl rfl rfl rfl dX1_digest_200 ?_
      refine z_iast (ws' := ((wX1 gg cI v3) ++ [(q1, .inl (cI, 7, .inl (upd (upd (upd (upd (upd (upd (upd (fun _ => 0) 0 ((rf (rmemN (vt v 0) k W sa i)) (mi i 0))) 1 ((rf (rmemN (vt v 0) k W sa i)) (mi i 1))) 2 ((rf (rmemN (vt v 0) k W sa i)) (mi i 2))) 3 (rloss (rf (rmemN (vt v 0) k W sa i)) i)) 4 (raddN (rf (rmemN (vt v 0) k W sa i)) (nI i) k)) 5 (rpinR (rmemN (vt v 0) k W sa i) k W i sa)) 6 (rpenR v2 k W i))))])) C 3 0 rfl rfl 6 rfl (by omega) (by decide) rfl dX1_digest_203 ?_
      refine z_astore (L' := [(5, .ref q1), (0, .ref (gg 0)), (2, .long (rmemDN (vt v 0) k W sa (rdig8 v k) i)), (4, .int (nI i))]) C dX1_digest_204 (by decide) rfl ?_
      refine z_aload C 0 dX1_digest_206 rfl ?_
      refine z_astore (L' := [(6, .ref q1), (5, .ref q1), (0, .ref (gg 0)), (2, .long (rmemDN (vt v 0) k W sa (rdig8 v k) i)), (4, .int (nI i))]) C dX1_digest_208 (by decide) rfl ?_
      refine z_aload C 0 dX1_digest_210 rfl ?_
      refine z_alen (v := 7) C 3 0 rfl rfl rfl dX1_digest_212 ?_
      refine z_istore (L' := [(7, .int 7), (6, .ref q1), (5, .ref q1), (0, .ref (gg 0)), (2, .long (rmemDN (vt v 0) k W sa (rdig8 v k) i)), (4, .int (nI i))]) C dX1_digest_213 (by decide) rfl ?_
      refine z_iconst (v := 0) C dX1_digest_215 (by decide) ?_
      refine z_istore (L' := [(8, .int 0), (7, .int 7), (6, .ref q1), (5, .ref q1), (0, .ref (gg 0)), (2, .long (rmemDN (vt v 0) k W sa (rdig8 v k) i)), (4, .int (nI i))]) C dX1_digest_216 (by decide) rfl ?_
      refine z_iload C 0 dX1_digest_218 rfl ?_
      refine z_iload C 1 dX1_digest_220 rfl ?_
      refine z_icmp_ge (tgt := 248) C dX1_digest_222 (by decide) (fun h9 => absurd h9 (by decide)) (fun _ => ?_)
      refine z_aload C 2 dX1_digest_225 rfl ?_
      refine z_iload C 0 dX1_digest_227 rfl ?_
      refine z_iald (f := upd (upd (upd (upd (upd (upd (upd (fun _ => 0) 0 ((rf (rmemN (vt v 0) k W sa i)) (mi i 0))) 1 ((rf (rmemN (vt v 0) k W sa i)) (mi i 1))) 2 ((rf (rmemN (vt v 0) k W sa i)) (mi i 2))) 3 (rloss (rf (rmemN (vt v 0) k W sa i)) i)) 4 (raddN (rf (rmemN (vt v 0) k W sa i)) (nI i) k)) 5 (rpinR (rmemN (vt v 0) k W sa i) k W i sa)) 6 (rpenR v2 k W i)) C 3 0 rfl rfl 0 rfl (by omega) (by decide) dX1_digest_229 ?_
      refine z_top (y := (rf (rmemN (vt v 0) k W sa i)) (mi i 0)) rfl ?_
      refine z_istore (L' := [(9, .int ((rf (rmemN (vt v 0) k W sa i)) (mi i 0))), (8, .int 0), (7, .int 7), (6, .ref q1), (5, .ref q1), (0, .ref (gg 0)), (2, .long (rmemDN (vt v 0) k W sa (rdig8 v k) i)), (4, .int (nI i))]) C dX1_digest_230 (by decide) rfl ?_
      refine z_lload_n C 6 dX1_digest_232 rfl rfl ?_
      refine z_ldc2 C wd1 dX1_digest_233 ?_
      refine z_lmul C dX1_digest_236 ?_
      refine z_iload C 0 dX1_digest_237 rfl ?_
      refine z_i2l (v := ((rf (rmemN (vt v 0) k W sa i)) (mi i 0)).toInt64) C dX1_digest_239 rfl ?_
      refine z_ladd C dX1_digest_240 ?_
      refine z_topl (y := mixd (rmemDN (vt v 0) k W sa (rdig8 v k) i) ((rf (rmemN (vt v 0) k W sa i)) (mi i 0))) rfl ?_
      refine z_lstore_n (L' := [(2, .long (mixd (rmemDN (vt v 0) k W sa (rdig8 v k) i) ((rf (rmemN (vt v 0) k W sa i)) (mi i 0)))), (9, .int ((rf (rmemN (vt v 0) k W sa i)) (mi i 0))), (8, .int 0), (7, .int 7), (6, .ref q1), (5, .ref q1), (0, .ref (gg 0)), (4, .int (nI i))]) C dX1_digest_241 rfl (by decide) rfl ?_
      refine z_iinc (v := 1) (L' := [(8, .int 1), (2, .long (mixd (rmemDN (vt v 0) k W sa (rdig8 v k) i) ((rf (rmemN (vt v 0) k W sa i)) (mi i 0)))), (9, .int ((rf (rmemN (vt v 0) k W sa i)) (mi i 0))), (7, .int 7), (6, .ref q1), (5, .ref q1), (0, .ref (gg 0)), (4, .int (nI i))]) C 2 dX1_digest_242 rfl (by decide) (by decide) rfl ?_
      refine z_goto (tgt := 218) C dX1_digest_245 (by decide) ?_
      refine z_iload C 0 dX1_digest_218 rfl ?_
      refine z_iload C 3 dX1_digest_220 rfl ?_
      refine z_icmp_ge (tgt := 248) C dX1_digest_222 (by decide) (fun h9 => absurd h9 (by decide)) (fun _ => ?_)
      refine z_aload C 4 dX1_digest_225 rfl ?_
      refine z_iload C 0 dX1_digest_227 rfl ?_
      refine z_iald (f := upd (upd (upd (upd (upd (upd (upd (fun _ => 0) 0 ((rf (rmemN (vt v 0) k W sa i)) (mi i 0))) 1 ((rf (rmemN (vt v 0) k W sa i)) (mi i 1))) 2 ((rf (rmemN (vt v 0) k W sa i)) (mi i 2))) 3 (rloss (rf (rmemN (vt v 0) k W sa i)) i)) 4 (raddN (rf (rmemN (vt v 0) k W sa i)) (nI i) k)) 5 (rpinR (rmemN (vt v 0) k W sa i) k W i sa)) 6 (rpenR v2 k W i)) C 3 0 rfl rfl 1 rfl (by omega) (by decide) dX1_digest_229 ?_
      refine z_top (y := (rf (rmemN (vt v 0) k W sa i)) (mi i 1)) rfl ?_
      refine z_istore (L' := [(9, .int ((rf (rmemN (vt v 0) k W sa i)) (mi i 1))), (8, .int 1), (2, .long (mixd (rmemDN (vt v 0) k W sa (rdig8 v k) i) ((rf (rmemN (vt v 0) k W sa i)) (mi i 0)))), (7, .int 7), (6, .ref q1), (5, .ref q1), (0, .ref (gg 0)), (4, .int (nI i))]) C dX1_digest_230 (by decide) rfl ?_
      refine z_lload_n C 2 dX1_digest_232 rfl rfl ?_
      refine z_ldc2 C wd1 dX1_digest_233 ?_
      refine z_lmul C dX1_digest_236 ?_
      refine z_iload C 0 dX1_digest_237 rfl ?_
      refine z_i2l (v := ((rf (rmemN (vt v 0) k W sa i)) (mi i 1)).toInt64) C dX1_digest_239 rfl ?_
      refine z_ladd C dX1_digest_240 ?_
      refine z_topl (y := mixd (mixd (rmemDN (vt v 0) k W sa (rdig8 v k) i) ((rf (rmemN (vt v 0) k W sa i)) (mi i 0))) ((rf (rmemN (vt v 0) k W sa i)) (mi i 1))) rfl ?_
      refine z_lstore_n (L' := [(2, .long (mixd (mixd (rmemDN (vt v 0) k W sa (rdig8 v k) i) ((rf (rmemN (vt v 0) k W sa i)) (mi i 0))) ((rf (rmemN (vt v 0) k W sa i)) (mi i 1)))), (9, .int ((rf (rmemN (vt v 0) k W sa i)) (mi i 1))), (8, .int 1), (7, .int 7), (6, .ref q1), (5, .ref q1), (0, .ref (gg 0)), (4, .int (nI i))]) C dX1_digest_241 rfl (by decide) rfl ?_
      refine z_iinc (v := 2) (L' := [(8, .int 2), (2, .long (mixd (mixd (rmemDN (vt v 0) k W sa (rdig8 v k) i) ((rf (rmemN (vt v 0) k W sa i)) (mi i 0))) ((rf (rmemN (vt v 0) k W sa i)) (mi i 1)))), (9, .int ((rf (rmemN (vt v 0) k W sa i)) (mi i 1))), (7, .int 7), (6, .ref q1), (5, .ref q1), (0, .ref (gg 0)), (4, .int (nI i))]) C 2 dX1_digest_242 rfl (by decide) (by decide) rfl ?_
      refine z_goto (tgt := 218) C dX1_digest_245 (by decide) ?_
      refine z_iload C 0 dX1_digest_218 rfl ?_
      refine z_iload C 3 dX1_digest_220 rfl ?_
      refine z_icmp_ge (tgt := 248) C dX1_digest_222 (by decide) (fun h9 => absurd h9 (by decide)) (fun _ => ?_)
      refine z_aload C 4 dX1_digest_225 rfl ?_
      refine z_iload C 0 dX1_digest_227 rfl ?_
      refine z_iald (f := upd (upd (upd (upd (upd (upd (upd (fun _ => 0) 0 ((rf (rmemN (vt v 0) k W sa i)) (mi i 0))) 1 ((rf (rmemN (vt v 0) k W sa i)) (mi i 1))) 2 ((rf (rmemN (vt v 0) k W sa i)) (mi i 2))) 3 (rloss (rf (rmemN (vt v 0) k W sa i)) i)) 4 (raddN (rf (rmemN (vt v 0) k W sa i)) (nI i) k)) 5 (rpinR (rmemN (vt v 0) k W sa i) k W i sa)) 6 (rpenR v2 k W i)) C 3 0 rfl rfl 2 rfl (by omega) (by decide) dX1_digest_229 ?_
      refine z_top (y := (rf (rmemN (vt v 0) k W sa i)) (mi i 2)) rfl ?_
      refine z_istore (L' := [(9, .int ((rf (rmemN (vt v 0) k W sa i)) (mi i 2))), (8, .int 2), (2, .long (mixd (mixd (rmemDN (vt v 0) k W sa (rdig8 v k) i) ((rf (rmemN (vt v 0) k W sa i)) (mi i 0))) ((rf (rmemN (vt v 0) k W sa i)) (mi i 1)))), (7, .int 7), (6, .ref q1), (5, .ref q1), (0, .ref (gg 0)), (4, .int (nI i))]) C dX1_digest_230 (by decide) rfl ?_
      refine z_lload_n C 2 dX1_digest_232 rfl rfl ?_
      refine z_ldc2 C wd1 dX1_digest_233 ?_
      refine z_lmul C dX1_digest_236 ?_
      refine z_iload C 0 dX1_digest_237 rfl ?_
      refine z_i2l (v := ((rf (rmemN (vt v 0) k W sa i)) (mi i 2)).toInt64) C dX1_digest_239 rfl ?_
      refine z_ladd C dX1_digest_240 ?_
      refine z_topl (y := mixd (mixd (mixd (rmemDN (vt v 0) k W sa (rdig8 v k) i) ((rf (rmemN (vt v 0) k W sa i)) (mi i 0))) ((rf (rmemN (vt v 0) k W sa i)) (mi i 1))) ((rf (rmemN (vt v 0) k W sa i)) (mi i 2))) rfl ?_
      refine z_lstore_n (L' := [(2, .long (mixd (mixd (mixd (rmemDN (vt v 0) k W sa (rdig8 v k) i) ((rf (rmemN (vt v 0) k W sa i)) (mi i 0))) ((rf (rmemN (vt v 0) k W sa i)) (mi i 1))) ((rf (rmemN (vt v 0) k W sa i)) (mi i 2)))), (9, .int ((rf (rmemN (vt v 0) k W sa i)) (mi i 2))), (8, .int 2), (7, .int 7), (6, .ref q1), (5, .ref q1), (0, .ref (gg 0)), (4, .int (nI i))]) C dX1_digest_241 rfl (by decide) rfl ?_
      refine z_iinc (v := 3) (L' := [(8, .int 3), (2, .long (mixd (mixd (mixd (rmemDN (vt v 0) k W sa (rdig8 v k) i) ((rf (rmemN (vt v 0) k W sa i)) (mi i 0))) ((rf (rmemN (vt v 0) k W sa i)) (mi i 1))) ((rf (rmemN (vt v 0) k W sa i)) (mi i 2)))), (9, .int ((rf (rmemN (vt v 0) k W sa i)) (mi i 2))), (7, .int 7), (6, .ref q1), (5, .ref q1), (0, .ref (gg 0)), (4, .int (nI i))]) C 2 dX1_digest_242 rfl (by decide) (by decide) rfl ?_
      refine z_goto (tgt := 218) C dX1_digest_245 (by decide) ?_
      refine z_iload C 0 dX1_digest_218 rfl ?_
      refine z_iload C 3 dX1_digest_220 rfl ?_
      refine z_icmp_ge (tgt := 248) C dX1_digest_222 (by decide) (fun h9 => absurd h9 (by decide)) (fun _ => ?_)
      refine z_aload C 4 dX1_digest_225 rfl ?_
      refine z_iload C 0 dX1_digest_227 rfl ?_
      refine z_iald (f := upd (upd (upd (upd (upd (upd (upd (fun _ => 0) 0 ((rf (rmemN (vt v 0) k W sa i)) (mi i 0))) 1 ((rf (rmemN (vt v 0) k W sa i)) (mi i 1))) 2 ((rf (rmemN (vt v 0) k W sa i)) (mi i 2))) 3 (rloss (rf (rmemN (vt v 0) k W sa i)) i)) 4 (raddN (rf (rmemN (vt v 0) k W sa i)) (nI i) k)) 5 (rpinR (rmemN (vt v 0) k W sa i) k W i sa)) 6 (rpenR v2 k W i)) C 3 0 rfl rfl 3 rfl (by omega) (by decide) dX1_digest_229 ?_
      refine z_top (y := rloss (rf (rmemN (vt v 0) k W sa i)) i) rfl ?_
      refine z_istore (L' := [(9, .int (rloss (rf (rmemN (vt v 0) k W sa i)) i)), (8, .int 3), (2, .long (mixd (mixd (mixd (rmemDN (vt v 0) k W sa (rdig8 v k) i) ((rf (rmemN (vt v 0) k W sa i)) (mi i 0))) ((rf (rmemN (vt v 0) k W sa i)) (mi i 1))) ((rf (rmemN (vt v 0) k W sa i)) (mi i 2)))), (7, .int 7), (6, .ref q1), (5, .ref q1), (0, .ref (gg 0)), (4, .int (nI i))]) C dX1_digest_230 (by decide) rfl ?_
      refine z_lload_n C 2 dX1_digest_232 rfl rfl ?_
      refine z_ldc2 C wd1 dX1_digest_233 ?_
      refine z_lmul C dX1_digest_236 ?_
      refine z_iload C 0 dX1_digest_237 rfl ?_
      refine z_i2l (v := (rloss (rf (rmemN (vt v 0) k W sa i)) i).toInt64) C dX1_digest_239 rfl ?_
      refine z_ladd C dX1_digest_240 ?_
      refine z_topl (y := mixd (mixd (mixd (mixd (rmemDN (vt v 0) k W sa (rdig8 v k) i) ((rf (rmemN (vt v 0) k W sa i)) (mi i 0))) ((rf (rmemN (vt v 0) k W sa i)) (mi i 1))) ((rf (rmemN (vt v 0) k W sa i)) (mi i 2))) (rloss (rf (rmemN (vt v 0) k W sa i)) i)) rfl ?_
      refine z_lstore_n (L' := [(2, .long (mixd (mixd (mixd (mixd (rmemDN (vt v 0) k W sa (rdig8 v k) i) ((rf (rmemN (vt v 0) k W sa i)) (mi i 0))) ((rf (rmemN (vt v 0) k W sa i)) (mi i 1))) ((rf (rmemN (vt v 0) k W sa i)) (mi i 2))) (rloss (rf (rmemN (vt v 0) k W sa i)) i))), (9, .int (rloss (rf (rmemN (vt v 0) k W sa i)) i)), (8, .int 3), (7, .int 7), (6, .ref q1), (5, .ref q1), (0, .ref (gg 0)), (4, .int (nI i))]) C dX1_digest_241 rfl (by decide) rfl ?_
      refine z_iinc (v := 4) (L' := [(8, .int 4), (2, .long (mixd (mixd (mixd (mixd (rmemDN (vt v 0) k W sa (rdig8 v k) i) ((rf (rmemN (vt v 0) k W sa i)) (mi i 0))) ((rf (rmemN (vt v 0) k W sa i)) (mi i 1))) ((rf (rmemN (vt v 0) k W sa i)) (mi i 2))) (rloss (rf (rmemN (vt v 0) k W sa i)) i))), (9, .int (rloss (rf (rmemN (vt v 0) k W sa i)) i)), (7, .int 7), (6, .ref q1), (5, .ref q1), (0, .ref (gg 0)), (4, .int (nI i))]) C 2 dX1_digest_242 rfl (by decide) (by decide) rfl ?_
      refine z_goto (tgt := 218) C dX1_digest_245 (by decide) ?_
      refine z_iload C 0 dX1_digest_218 rfl ?_
      refine z_iload C 3 dX1_digest_220 rfl ?_
      refine z_icmp_ge (tgt := 248) C dX1_digest_222 (by decide) (fun h9 => absurd h9 (by decide)) (fun _ => ?_)
      refine z_aload C 4 dX1_digest_225 rfl ?_
      refine z_iload C 0 dX1_digest_227 rfl ?_
      refine z_iald (f := upd (upd (upd (upd (upd (upd (upd (fun _ => 0) 0 ((rf (rmemN (vt v 0) k W sa i)) (mi i 0))) 1 ((rf (rmemN (vt v 0) k W sa i)) (mi i 1))) 2 ((rf (rmemN (vt v 0) k W sa i)) (mi i 2))) 3 (rloss (rf (rmemN (vt v 0) k W sa i)) i)) 4 (raddN (rf (rmemN (vt v 0) k W sa i)) (nI i) k)) 5 (rpinR (rmemN (vt v 0) k W sa i) k W i sa)) 6 (rpenR v2 k W i)) C 3 0 rfl rfl 4 rfl (by omega) (by decide) dX1_digest_229 ?_
      refine z_top (y := raddN (rf (rmemN (vt v 0) k W sa i)) (nI i) k) rfl ?_
      refine z_istore (L' := [(9, .int (raddN (rf (rmemN (vt v 0) k W sa i)) (nI i) k)), (8, .int 4), (2, .long (mixd (mixd (mixd (mixd (rmemDN (vt v 0) k W sa (rdig8 v k) i) ((rf (rmemN (vt v 0) k W sa i)) (mi i 0))) ((rf (rmemN (vt v 0) k W sa i)) (mi i 1))) ((rf (rmemN (vt v 0) k W sa i)) (mi i 2))) (rloss (rf (rmemN (vt v 0) k W sa i)) i))), (7, .int 7), (6, .ref q1), (5, .ref q1), (0, .ref (gg 0)), (4, .int (nI i))]) C dX1_digest_230 (by decide) rfl ?_
      refine z_lload_n C 2 dX1_digest_232 rfl rfl ?_
      refine z_ldc2 C wd1 dX1_digest_233 ?_
      refine z_lmul C dX1_digest_236 ?_
      refine z_iload C 0 dX1_digest_237 rfl ?_
      refine z_i2l (v := (raddN (rf (rmemN (vt v 0) k W sa i)) (nI i) k).toInt64) C dX1_digest_239 rfl ?_
      refine z_ladd C dX1_digest_240 ?_
      refine z_topl (y := mixd (mixd (mixd (mixd (mixd (rmemDN (vt v 0) k W sa (rdig8 v k) i) ((rf (rmemN (vt v 0) k W sa i)) (mi i 0))) ((rf (rmemN (vt v 0) k W sa i)) (mi i 1))) ((rf (rmemN (vt v 0) k W sa i)) (mi i 2))) (rloss (rf (rmemN (vt v 0) k W sa i)) i)) (raddN (rf (rmemN (vt v 0) k W sa i)) (nI i) k)) rfl ?_
      refine z_lstore_n (L' := [(2, .long (mixd (mixd (mixd (mixd (mixd (rmemDN (vt v 0) k W sa (rdig8 v k) i) ((rf (rmemN (vt v 0) k W sa i)) (mi i 0))) ((rf (rmemN (vt v 0) k W sa i)) (mi i 1))) ((rf (rmemN (vt v 0) k W sa i)) (mi i 2))) (rloss (rf (rmemN (vt v 0) k W sa i)) i)) (raddN (rf (rmemN (vt v 0) k W sa i)) (nI i) k))), (9, .int (raddN (rf (rmemN (vt v 0) k W sa i)) (nI i) k)), (8, .int 4), (7, .int 7), (6, .ref q1), (5, .ref q1), (0, .ref (gg 0)), (4, .int (nI i))]) C dX1_digest_241 rfl (by decide) rfl ?_
      refine z_iinc (v := 5) (L' := [(8, .int 5), (2, .long (mixd (mixd (mixd (mixd (mixd (rmemDN (vt v 0) k W sa (rdig8 v k) i) ((rf (rmemN (vt v 0) k W sa i)) (mi i 0))) ((rf (rmemN (vt v 0) k W sa i)) (mi i 1))) ((rf (rmemN (vt v 0) k W sa i)) (mi i 2))) (rloss (rf (rmemN (vt v 0) k W sa i)) i)) (raddN (rf (rmemN (vt v 0) k W sa i)) (nI i) k))), (9, .int (raddN (rf (rmemN (vt v 0) k W sa i)) (nI i) k)), (7, .int 7), (6, .ref q1), (5, .ref q1), (0, .ref (gg 0)), (4, .int (nI i))]) C 2 dX1_digest_242 rfl (by decide) (by decide) rfl ?_
      refine z_goto (tgt := 218) C dX1_digest_245 (by decide) ?_
      refine z_iload C 0 dX1_digest_218 rfl ?_
      refine z_iload C 3 dX1_digest_220 rfl ?_
      refine z_icmp_ge (tgt := 248) C dX1_digest_222 (by decide) (fun h9 => absurd h9 (by decide)) (fun _ => ?_)
      refine z_aload C 4 dX1_digest_225 rfl ?_
      refine z_iload C 0 dX1_digest_227 rfl ?_
      refine z_iald (f := upd (upd (upd (upd (upd (upd (upd (fun _ => 0) 0 ((rf (rmemN (vt v 0) k W sa i)) (mi i 0))) 1 ((rf (rmemN (vt v 0) k W sa i)) (mi i 1))) 2 ((rf (rmemN (vt v 0) k W sa i)) (mi i 2))) 3 (rloss (rf (rmemN (vt v 0) k W sa i)) i)) 4 (raddN (rf (rmemN (vt v 0) k W sa i)) (nI i) k)) 5 (rpinR (rmemN (vt v 0) k W sa i) k W i sa)) 6 (rpenR v2 k W i)) C 3 0 rfl rfl 5 rfl (by omega) (by decide) dX1_digest_229 ?_
      refine z_top (y := rpinR (rmemN (vt v 0) k W sa i) k W i sa) rfl ?_
      refine z_istore (L' := [(9, .int (rpinR (rmemN (vt v 0) k W sa i) k W i sa)), (8, .int 5), (2, .long (mixd (mixd (mixd (mixd (mixd (rmemDN (vt v 0) k W sa (rdig8 v k) i) ((rf (rmemN (vt v 0) k W sa i)) (mi i 0))) ((rf (rmemN (vt v 0) k W sa i)) (mi i 1))) ((rf (rmemN (vt v 0) k W sa i)) (mi i 2))) (rloss (rf (rmemN (vt v 0) k W sa i)) i)) (raddN (rf (rmemN (vt v 0) k W sa i)) (nI i) k))), (7, .int 7), (6, .ref q1), (5, .ref q1), (0, .ref (gg 0)), (4, .int (nI i))]) C dX1_digest_230 (by decide) rfl ?_
      refine z_lload_n C 2 dX1_digest_232 rfl rfl ?_
      refine z_ldc2 C wd1 dX1_digest_233 ?_
      refine z_lmul C dX1_digest_236 ?_
      refine z_iload C 0 dX1_digest_237 rfl ?_
      refine z_i2l (v := (rpinR (rmemN (vt v 0) k W sa i) k W i sa).toInt64) C dX1_digest_239 rfl ?_
      refine z_ladd C dX1_digest_240 ?_
      refine z_topl (y := mixd (mixd (mixd (mixd (mixd (mixd (rmemDN (vt v 0) k W sa (rdig8 v k) i) ((rf (rmemN (vt v 0) k W sa i)) (mi i 0))) ((rf (rmemN (vt v 0) k W sa i)) (mi i 1))) ((rf (rmemN (vt v 0) k W sa i)) (mi i 2))) (rloss (rf (rmemN (vt v 0) k W sa i)) i)) (raddN (rf (rmemN (vt v 0) k W sa i)) (nI i) k)) (rpinR (rmemN (vt v 0) k W sa i) k W i sa)) rfl ?_
      refine z_lstore_n (L' := [(2, .long (mixd (mixd (mixd (mixd (mixd (mixd (rmemDN (vt v 0) k W sa (rdig8 v k) i) ((rf (rmemN (vt v 0) k W sa i)) (mi i 0))) ((rf (rmemN (vt v 0) k W sa i)) (mi i 1))) ((rf (rmemN (vt v 0) k W sa i)) (mi i 2))) (rloss (rf (rmemN (vt v 0) k W sa i)) i)) (raddN (rf (rmemN (vt v 0) k W sa i)) (nI i) k)) (rpinR (rmemN (vt v 0) k W sa i) k W i sa))), (9, .int (rpinR (rmemN (vt v 0) k W sa i) k W i sa)), (8, .int 5), (7, .int 7), (6, .ref q1), (5, .ref q1), (0, .ref (gg 0)), (4, .int (nI i))]) C dX1_digest_241 rfl (by decide) rfl ?_
      refine z_iinc (v := 6) (L' := [(8, .int 6), (2, .long (mixd (mixd (mixd (mixd (mixd (mixd (rmemDN (vt v 0) k W sa (rdig8 v k) i) ((rf (rmemN (vt v 0) k W sa i)) (mi i 0))) ((rf (rmemN (vt v 0) k W sa i)) (mi i 1))) ((rf (rmemN (vt v 0) k W sa i)) (mi i 2))) (rloss (rf (rmemN (vt v 0) k W sa i)) i)) (raddN (rf (rmemN (vt v 0) k W sa i)) (nI i) k)) (rpinR (rmemN (vt v 0) k W sa i) k W i sa))), (9, .int (rpinR (rmemN (vt v 0) k W sa i) k W i sa)), (7, .int 7), (6, .ref q1), (5, .ref q1), (0, .ref (gg 0)), (4, .int (nI i))]) C 2 dX1_digest_242 rfl (by decide) (by decide) rfl ?_
      refine z_goto (tgt := 218) C dX1_digest_245 (by decide) ?_
      refine z_iload C 0 dX1_digest_218 rfl ?_
      refine z_iload C 3 dX1_digest_220 rfl ?_
      refine z_icmp_ge (tgt := 248) C dX1_digest_222 (by decide) (fun h9 => absurd h9 (by decide)) (fun _ => ?_)
      refine z_aload C 4 dX1_digest_225 rfl ?_
      refine z_iload C 0 dX1_digest_227 rfl ?_
      refine z_iald (f := upd (upd (upd (upd (upd (upd (upd (fun _ => 0) 0 ((rf (rmemN (vt v 0) k W sa i)) (mi i 0))) 1 ((rf (rmemN (vt v 0) k W sa i)) (mi i 1))) 2 ((rf (rmemN (vt v 0) k W sa i)) (mi i 2))) 3 (rloss (rf (rmemN (vt v 0) k W sa i)) i)) 4 (raddN (rf (rmemN (vt v 0) k W sa i)) (nI i) k)) 5 (rpinR (rmemN (vt v 0) k W sa i) k W i sa)) 6 (rpenR v2 k W i)) C 3 0 rfl rfl 6 rfl (by omega) (by decide) dX1_digest_229 ?_
      refine z_top (y := rpenR v2 k W i) rfl ?_
      refine z_istore (L' := [(9, .int (rpenR v2 k W i)), (8, .int 6), (2, .long (mixd (mixd (mixd (mixd (mixd (mixd (rmemDN (vt v 0) k W sa (rdig8 v k) i) ((rf (rmemN (vt v 0) k W sa i)) (mi i 0))) ((rf (rmemN (vt v 0) k W sa i)) (mi i 1))) ((rf (rmemN (vt v 0) k W sa i)) (mi i 2))) (rloss (rf (rmemN (vt v 0) k W sa i)) i)) (raddN (rf (rmemN (vt v 0) k W sa i)) (nI i) k)) (rpinR (rmemN (vt v 0) k W sa i) k W i sa))), (7, .int 7), (6, .ref q1), (5, .ref q1), (0, .ref (gg 0)), (4, .int (nI i))]) C dX1_digest_230 (by decide) rfl ?_
      refine z_lload_n C 2 dX1_digest_232 rfl rfl ?_
      refine z_ldc2 C wd1 dX1_digest_233 ?_
      refine z_lmul C dX1_digest_236 ?_
      refine z_iload C 0 dX1_digest_237 rfl ?_
      refine z_i2l (v := (rpenR v2 k W i).toInt64) C dX1_digest_239 rfl ?_
      refine z_ladd C dX1_digest_240 ?_
      refine z_topl (y := mixd (mixd (mixd (mixd (mixd (mixd (mixd (rmemDN (vt v 0) k W sa (rdig8 v k) i) ((rf (rmemN (vt v 0) k W sa i)) (mi i 0))) ((rf (rmemN (vt v 0) k W sa i)) (mi i 1))) ((rf (rmemN (vt v 0) k W sa i)) (mi i 2))) (rloss (rf (rmemN (vt v 0) k W sa i)) i)) (raddN (rf (rmemN (vt v 0) k W sa i)) (nI i) k)) (rpinR (rmemN (vt v 0) k W sa i) k W i sa)) (rpenR v2 k W i)) rfl ?_
      refine z_lstore_n (L' := [(2, .long (mixd (mixd (mixd (mixd (mixd (mixd (mixd (rmemDN (vt v 0) k W sa (rdig8 v k) i) ((rf (rmemN (vt v 0) k W sa i)) (mi i 0))) ((rf (rmemN (vt v 0) k W sa i)) (mi i 1))) ((rf (rmemN (vt v 0) k W sa i)) (mi i 2))) (rloss (rf (rmemN (vt v 0) k W sa i)) i)) (raddN (rf (rmemN (vt v 0) k W sa i)) (nI i) k)) (rpinR (rmemN (vt v 0) k W sa i) k W i sa)) (rpenR v2 k W i))), (9, .int (rpenR v2 k W i)), (8, .int 6), (7, .int 7), (6, .ref q1), (5, .ref q1), (0, .ref (gg 0)), (4, .int (nI i))]) C dX1_digest_241 rfl (by decide) rfl ?_
      refine z_iinc (v := 7) (L' := [(8, .int 7), (2, .long (mixd (mixd (mixd (mixd (mixd (mixd (mixd (rmemDN (vt v 0) k W sa (rdig8 v k) i) ((rf (rmemN (vt v 0) k W sa i)) (mi i 0))) ((rf (rmemN (vt v 0) k W sa i)) (mi i 1))) ((rf (rmemN (vt v 0) k W sa i)) (mi i 2))) (rloss (rf (rmemN (vt v 0) k W sa i)) i)) (raddN (rf (rmemN (vt v 0) k W sa i)) (nI i) k)) (rpinR (rmemN (vt v 0) k W sa i) k W i sa)) (rpenR v2 k W i))), (9, .int (rpenR v2 k W i)), (7, .int 7), (6, .ref q1), (5, .ref q1), (0, .ref (gg 0)), (4, .int (nI i))]) C 2 dX1_digest_242 rfl (by decide) (by decide) rfl ?_
      refine z_goto (tgt := 218) C dX1_digest_245 (by decide) ?_
      refine z_iload C 0 dX1_digest_218 rfl ?_
      refine z_iload C 3 dX1_digest_220 rfl ?_
      refine z_icmp_ge (tgt := 248) C dX1_digest_222 (by decide) (fun _ => ?_) (fun h9 => absurd (by decide) h9)
      refine z_iinc (v := nI (i + 1)) (L' := [(4, .int (nI (i + 1))), (8, .int 7), (2, .long (mixd (mixd (mixd (mixd (mixd (mixd (mixd (rmemDN (vt v 0) k W sa (rdig8 v k) i) ((rf (rmemN (vt v 0) k W sa i)) (mi i 0))) ((rf (rmemN (vt v 0) k W sa i)) (mi i 1))) ((rf (rmemN (vt v 0) k W sa i)) (mi i 2))) (rloss (rf (rmemN (vt v 0) k W sa i)) i)) (raddN (rf (rmemN (vt v 0) k W sa i)) (nI i) k)) (rpinR (rmemN (vt v 0) k W sa i) k W i sa)) (rpenR v2 k W i))), (9, .int (rpenR v2 k W i)), (7, .int 7), (6, .ref q1), (5, .ref q1), (0, .ref (gg 0))]) C 7 dX1_digest_248 rfl (z_inc _) (by decide) rfl ?_
      refine z_goto (tgt := 124) C dX1_digest_251 (by decide) ?_
      refine z_sub (L' := [(0, .ref (gg 0)), (2, .long (mixd (mixd (mixd (mixd (mixd (mixd (mixd (rmemDN (vt v 0) k W sa (rdig8 v k) i) ((rf (rmemN (vt v 0) k W sa i)) (mi i 0))) ((rf (rmemN (vt v 0) k W sa i)) (mi i 1))) ((rf (rmemN (vt v 0) k W sa i)) (mi i 2))) (rloss (rf (rmemN (vt v 0) k W sa i)) i)) (raddN (rf (rmemN (vt v 0) k W sa i)) (nI i) k)) (rpinR (rmemN (vt v 0) k W sa i) k W i sa)) (rpenR v2 k W i))), (4, .int (nI (i + 1)))]) [7, 2, 0] rfl ?_
      refine z_part (ws' := (wX1 gg cI v3)) [0, 1, 2] rfl rfl rfl ?_
      subst hv3
      subst hv2
      refine z_more (cells' := 1 + (i + 1)) (slots' := 8 + 7 * (i + 1)) (by omega) (by omega) ?_
      exact ih (i + 1) (by omega)
  refine z_aload_n C 0 dX1_digest_0 rfl rfl ?_
  refine z_iconst (v := 0) C dX1_digest_1 (by decide) ?_
  refine z_put1 (ws' := (wX1 gg cI (0, rn v, rf v, rk v))) C inl 0 0 (by decide) rfl rfl (by decide) rfl wd4 dX1_digest_2 ?_
  refine z_bipush (v := 8) C dX1_digest_5 (by decide) ?_
  refine z_newi (N := 8) C 0 rfl wd3 (by decide) (by decide) (by decide) (by show _ ≤ 9; omega) (by show _ ≤ 64; omega) dX1_digest_7 (fun q4 => ?_)
  refine z_dup C dX1_digest_9 rfl ?_
  refine z_iconst (v := 0) C dX1_digest_10 (by decide) ?_
  refine z_aload_n C 0 dX1_digest_11 rfl rfl ?_
  refine z_get1 (v := .ref (gg 1)) C inl 0 2 (by decide) rfl rfl wd0 dX1_digest_12 ?_
  refine z_iconst (v := 0) C dX1_digest_15 (by decide) ?_
  refine z_iald (f := rf v) C 1 0 rfl rfl 0 rfl (by omega) (by decide) dX1_digest_16 ?_
  refine z_iast (ws' := ((wX1 gg cI (0, rn v, rf v, rk v)) ++ [(q4, .inl (cI, 8, .inl (upd (fun _ => 0) 0 ((rf v) 0))))])) C 3 0 rfl rfl 0 rfl (by omega) (by decide) rfl dX1_digest_17 ?_
  refine z_dup C dX1_digest_18 rfl ?_
  refine z_iconst (v := 1) C dX1_digest_19 (by decide) ?_
  refine z_aload_n C 0 dX1_digest_20 rfl rfl ?_
  refine z_get1 (v := .int (nI (rn v))) C inl 0 1 (by decide) rfl rfl wd2 dX1_digest_21 ?_
  refine z_iast (ws' := ((wX1 gg cI (0, rn v, rf v, rk v)) ++ [(q4, .inl (cI, 8, .inl (upd (upd (fun _ => 0) 0 ((rf v) 0)) 1 (nI (rn v)))))])) C 3 0 rfl rfl 1 rfl (by omega) (by decide) rfl dX1_digest_24 ?_
  refine z_dup C dX1_digest_25 rfl ?_
  refine z_iconst (v := 2) C dX1_digest_26 (by decide) ?_
  refine z_aload_n C 0 dX1_digest_27 rfl rfl ?_
  refine z_get1 (v := .ref (gg 1)) C inl 0 2 (by decide) rfl rfl wd0 dX1_digest_28 ?_
  refine z_iconst (v := 1) C dX1_digest_31 (by decide) ?_
  refine z_iald (f := rf v) C 1 0 rfl rfl 1 rfl (by omega) (by decide) dX1_digest_32 ?_
  refine z_iast (ws' := ((wX1 gg cI (0, rn v, rf v, rk v)) ++ [(q4, .inl (cI, 8, .inl (upd (upd (upd (fun _ => 0) 0 ((rf v) 0)) 1 (nI (rn v))) 2 ((rf v) 1))))])) C 3 0 rfl rfl 2 rfl (by omega) (by decide) rfl dX1_digest_33 ?_
  refine z_dup C dX1_digest_34 rfl ?_
  refine z_iconst (v := 3) C dX1_digest_35 (by decide) ?_
  refine z_aload_n C 0 dX1_digest_36 rfl rfl ?_
  refine z_get1 (v := .ref (gg 1)) C inl 0 2 (by decide) rfl rfl wd0 dX1_digest_37 ?_
  refine z_iconst (v := 3) C dX1_digest_40 (by decide) ?_
  refine z_iald (f := rf v) C 1 0 rfl rfl 3 rfl (by omega) (by decide) dX1_digest_41 ?_
  refine z_iast (ws' := ((wX1 gg cI (0, rn v, rf v, rk v)) ++ [(q4, .inl (cI, 8, .inl (upd (upd (upd (upd (fun _ => 0) 0 ((rf v) 0)) 1 (nI (rn v))) 2 ((rf v) 1)) 3 ((rf v) 3))))])) C 3 0 rfl rfl 3 rfl (by omega) (by decide) rfl dX1_digest_42 ?_
  refine z_dup C dX1_digest_43 rfl ?_
  refine z_iconst (v := 4) C dX1_digest_44 (by decide) ?_
  refine z_aload_n C 0 dX1_digest_45 rfl rfl ?_
  refine z_callV (w := (wX1 gg cI (0, rn v, rf v, rk v))) (w' := (wX1 gg cI (0, rn v, rf v, rk v))) (w1 := ([] : va_W)) (w2 := [(q4, .inl (cI, 8, .inl (upd (upd (upd (upd (fun _ => 0) 0 ((rf v) 0)) 1 (nI (rn v))) 2 ((rf v) 1)) 3 ((rf v) 3))))]) (ws' := ((wX1 gg cI (0, rn v, rf v, rk v)) ++ [(q4, .inl (cI, 8, .inl (upd (upd (upd (upd (fun _ => 0) 0 ((rf v) 0)) 1 (nI (rn v))) 2 ((rf v) 1)) 3 ((rf v) 3))))])) (As := []) (rest := [.int 4, .ref q4, .ref q4]) (st' := [.int (rfltN (rf v) k), .int 4, .ref q4, .ref q4]) (rv := some (.int (rfltN (rf v) k))) C (c_X1_faultsNow l D gg cI (0, rn v, rf v, rk v) k W hL) (cwV 0 C.words gX1_digest_X1_faultsNow rfl rfl rfl (by decide +kernel) ⟨(Nat.le_of_ble_eq_true rfl), (Nat.le_of_ble_eq_true rfl)⟩) (q0 := 0) (ci := 1) rfl rfl rfl [0] rfl rfl (Nat.le_of_ble_eq_true rfl) ⟨(by show _ ≤ 9; omega), (by show _ ≤ 64; omega)⟩ rfl rfl rfl rfl rfl dX1_digest_46 ?_
  refine z_iast (ws' := ((wX1 gg cI (0, rn v, rf v, rk v)) ++ [(q4, .inl (cI, 8, .inl (upd (upd (upd (upd (upd (fun _ => 0) 0 ((rf v) 0)) 1 (nI (rn v))) 2 ((rf v) 1)) 3 ((rf v) 3)) 4 (rfltN (rf v) k))))])) C 3 0 rfl rfl 4 rfl (by omega) (by decide) rfl dX1_digest_49 ?_
  refine z_dup C dX1_digest_50 rfl ?_
  refine z_iconst (v := 5) C dX1_digest_51 (by decide) ?_
  refine z_aload_n C 0 dX1_digest_52 rfl rfl ?_
  refine z_get1 (v := .ref (gg 1)) C inl 0 2 (by decide) rfl rfl wd0 dX1_digest_53 ?_
  refine z_iconst (v := 2) C dX1_digest_56 (by decide) ?_
  refine z_iald (f := rf v) C 1 0 rfl rfl 2 rfl (by omega) (by decide) dX1_digest_57 ?_
  refine z_iast (ws' := ((wX1 gg cI (0, rn v, rf v, rk v)) ++ [(q4, .inl (cI, 8, .inl (upd (upd (upd (upd (upd (upd (fun _ => 0) 0 ((rf v) 0)) 1 (nI (rn v))) 2 ((rf v) 1)) 3 ((rf v) 3)) 4 (rfltN (rf v) k)) 5 ((rf v) 2))))])) C 3 0 rfl rfl 5 rfl (by omega) (by decide) rfl dX1_digest_58 ?_
  refine z_dup C dX1_digest_59 rfl ?_
  refine z_bipush (v := 6) C dX1_digest_60 (by decide) ?_
  refine z_aload_n C 0 dX1_digest_62 rfl rfl ?_
  refine z_callV (w := (wX1 gg cI (0, rn v, rf v, rk v))) (w' := (wX1 gg cI (0, rn v, rf v, rk v))) (w1 := ([] : va_W)) (w2 := [(q4, .inl (cI, 8, .inl (upd (upd (upd (upd (upd (upd (fun _ => 0) 0 ((rf v) 0)) 1 (nI (rn v))) 2 ((rf v) 1)) 3 ((rf v) 3)) 4 (rfltN (rf v) k)) 5 ((rf v) 2))))]) (ws' := ((wX1 gg cI (0, rn v, rf v, rk v)) ++ [(q4, .inl (cI, 8, .inl (upd (upd (upd (upd (upd (upd (fun _ => 0) 0 ((rf v) 0)) 1 (nI (rn v))) 2 ((rf v) 1)) 3 ((rf v) 3)) 4 (rfltN (rf v) k)) 5 ((rf v) 2))))])) (As := []) (rest := [.int 6, .ref q4, .ref q4]) (st' := [.int (rbN (rf v) (rn v)), .int 6, .ref q4, .ref q4]) (rv := some (.int (rbN (rf v) (rn v)))) C (c_X1_best l D gg cI (0, rn v, rf v, rk v) (by first | exact hn | omega)) (cwV 0 C.words gX1_digest_X1_best rfl rfl rfl (by decide +kernel) ⟨(Nat.le_of_ble_eq_true rfl), (Nat.le_of_ble_eq_true rfl)⟩) (q0 := 0) (ci := 1) rfl rfl rfl [0] rfl rfl (Nat.le_of_ble_eq_true rfl) ⟨(by show _ ≤ 9; omega), (by show _ ≤ 64; omega)⟩ rfl rfl rfl rfl rfl dX1_digest_63 ?_
  refine z_iast (ws' := ((wX1 gg cI (0, rn v, rf v, rk v)) ++ [(q4, .inl (cI, 8, .inl (upd (upd (upd (upd (upd (upd (upd (fun _ => 0) 0 ((rf v) 0)) 1 (nI (rn v))) 2 ((rf v) 1)) 3 ((rf v) 3)) 4 (rfltN (rf v) k)) 5 ((rf v) 2)) 6 (rbN (rf v) (rn v)))))])) C 3 0 rfl rfl 6 rfl (by omega) (by decide) rfl dX1_digest_66 ?_
  refine z_dup C dX1_digest_67 rfl ?_
  refine z_bipush (v := 7) C dX1_digest_68 (by decide) ?_
  refine z_aload_n C 0 dX1_digest_70 rfl rfl ?_
  refine z_callV (w := (wX1 gg cI (0, rn v, rf v, rk v))) (w' := (wX1 gg cI (0, rn v, rf v, rk v))) (w1 := ([] : va_W)) (w2 := [(q4, .inl (cI, 8, .inl (upd (upd (upd (upd (upd (upd (upd (fun _ => 0) 0 ((rf v) 0)) 1 (nI (rn v))) 2 ((rf v) 1)) 3 ((rf v) 3)) 4 (rfltN (rf v) k)) 5 ((rf v) 2)) 6 (rbN (rf v) (rn v)))))]) (ws' := ((wX1 gg cI (0, rn v, rf v, rk v)) ++ [(q4, .inl (cI, 8, .inl (upd (upd (upd (upd (upd (upd (upd (fun _ => 0) 0 ((rf v) 0)) 1 (nI (rn v))) 2 ((rf v) 1)) 3 ((rf v) 3)) 4 (rfltN (rf v) k)) 5 ((rf v) 2)) 6 (rbN (rf v) (rn v)))))])) (As := []) (rest := [.int 7, .ref q4, .ref q4]) (st' := [.int (rowS (rf v) 1 (rn v)), .int 7, .ref q4, .ref q4]) (rv := some (.int (rowS (rf v) 1 (rn v)))) C (c_X1_owed l D gg cI (0, rn v, rf v, rk v) (by first | exact hn | omega)) (cwV 0 C.words gX1_digest_X1_owed rfl rfl rfl (by decide +kernel) ⟨(Nat.le_of_ble_eq_true rfl), (Nat.le_of_ble_eq_true rfl)⟩) (q0 := 0) (ci := 1) rfl rfl rfl [0] rfl rfl (Nat.le_of_ble_eq_true rfl) ⟨(by show _ ≤ 9; omega), (by show _ ≤ 64; omega)⟩ rfl rfl rfl rfl rfl dX1_digest_71 ?_
  refine z_iast (ws' := ((wX1 gg cI (0, rn v, rf v, rk v)) ++ [(q4, .inl (cI, 8, .inl (upd (upd (upd (upd (upd (upd (upd (upd (fun _ => 0) 0 ((rf v) 0)) 1 (nI (rn v))) 2 ((rf v) 1)) 3 ((rf v) 3)) 4 (rfltN (rf v) k)) 5 ((rf v) 2)) 6 (rbN (rf v) (rn v))) 7 (rowS (rf v) 1 (rn v)))))])) C 3 0 rfl rfl 7 rfl (by omega) (by decide) rfl dX1_digest_74 ?_
  refine z_astore_n (L' := [(1, .ref q4), (0, .ref (gg 0))]) C dX1_digest_75 rfl (by decide) rfl ?_
  refine z_ldc2 C wd5 dX1_digest_76 ?_
  refine z_lstore_n (L' := [(2, .long 2011), (1, .ref q4), (0, .ref (gg 0))]) C dX1_digest_79 rfl (by decide) rfl ?_
  refine z_aload_n C 1 dX1_digest_80 rfl rfl ?_
  refine z_astore (L' := [(4, .ref q4), (2, .long 2011), (1, .ref q4), (0, .ref (gg 0))]) C dX1_digest_81 (by decide) rfl ?_
  refine z_aload C 0 dX1_digest_83 rfl ?_
  refine z_alen (v := 8) C 3 0 rfl rfl rfl dX1_digest_85 ?_
  refine z_istore (L' := [(5, .int 8), (4, .ref q4), (2, .long 2011), (1, .ref q4), (0, .ref (gg 0))]) C dX1_digest_86 (by decide) rfl ?_
  refine z_iconst (v := 0) C dX1_digest_88 (by decide) ?_
  refine z_istore (L' := [(6, .int 0), (5, .int 8), (4, .ref q4), (2, .long 2011), (1, .ref q4), (0, .ref (gg 0))]) C dX1_digest_89 (by decide) rfl ?_
  refine z_iload C 0 dX1_digest_91 rfl ?_
  refine z_iload C 1 dX1_digest_93 rfl ?_
  refine z_icmp_ge (tgt := 121) C dX1_digest_95 (by decide) (fun h9 => absurd h9 (by decide)) (fun _ => ?_)
  refine z_aload C 2 dX1_digest_98 rfl ?_
  refine z_iload C 0 dX1_digest_100 rfl ?_
  refine z_iald (f := upd (upd (upd (upd (upd (upd (upd (upd (fun _ => 0) 0 ((rf v) 0)) 1 (nI (rn v))) 2 ((rf v) 1)) 3 ((rf v) 3)) 4 (rfltN (rf v) k)) 5 ((rf v) 2)) 6 (rbN (rf v) (rn v))) 7 (rowS (rf v) 1 (rn v))) C 3 0 rfl rfl 0 rfl (by omega) (by decide) dX1_digest_102 ?_
  refine z_top (y := (rf v) 0) rfl ?_
  refine z_istore (L' := [(7, .int ((rf v) 0)), (6, .int 0), (5, .int 8), (4, .ref q4), (2, .long 2011), (1, .ref q4), (0, .ref (gg 0))]) C dX1_digest_103 (by decide) rfl ?_
  refine z_lload_n C 4 dX1_digest_105 rfl rfl ?_
  refine z_ldc2 C wd1 dX1_digest_106 ?_
  refine z_lmul C dX1_digest_109 ?_
  refine z_iload C 0 dX1_digest_110 rfl ?_
  refine z_i2l (v := ((rf v) 0).toInt64) C dX1_digest_112 rfl ?_
  refine z_ladd C dX1_digest_113 ?_
  refine z_topl (y := mixd 2011 ((rf v) 0)) rfl ?_
  refine z_lstore_n (L' := [(2, .long (mixd 2011 ((rf v) 0))), (7, .int ((rf v) 0)), (6, .int 0), (5, .int 8), (4, .ref q4), (1, .ref q4), (0, .ref (gg 0))]) C dX1_digest_114 rfl (by decide) rfl ?_
  refine z_iinc (v := 1) (L' := [(6, .int 1), (2, .long (mixd 2011 ((rf v) 0))), (7, .int ((rf v) 0)), (5, .int 8), (4, .ref q4), (1, .ref q4), (0, .ref (gg 0))]) C 2 dX1_digest_115 rfl (by decide) (by decide) rfl ?_
  refine z_goto (tgt := 91) C dX1_digest_118 (by decide) ?_
  refine z_iload C 0 dX1_digest_91 rfl ?_
  refine z_iload C 3 dX1_digest_93 rfl ?_
  refine z_icmp_ge (tgt := 121) C dX1_digest_95 (by decide) (fun h9 => absurd h9 (by decide)) (fun _ => ?_)
  refine z_aload C 4 dX1_digest_98 rfl ?_
  refine z_iload C 0 dX1_digest_100 rfl ?_
  refine z_iald (f := upd (upd (upd (upd (upd (upd (upd (upd (fun _ => 0) 0 ((rf v) 0)) 1 (nI (rn v))) 2 ((rf v) 1)) 3 ((rf v) 3)) 4 (rfltN (rf v) k)) 5 ((rf v) 2)) 6 (rbN (rf v) (rn v))) 7 (rowS (rf v) 1 (rn v))) C 3 0 rfl rfl 1 rfl (by omega) (by decide) dX1_digest_102 ?_
  refine z_top (y := nI (rn v)) rfl ?_
  refine z_istore (L' := [(7, .int (nI (rn v))), (6, .int 1), (2, .long (mixd 2011 ((rf v) 0))), (5, .int 8), (4, .ref q4), (1, .ref q4), (0, .ref (gg 0))]) C dX1_digest_103 (by decide) rfl ?_
  refine z_lload_n C 2 dX1_digest_105 rfl rfl ?_
  refine z_ldc2 C wd1 dX1_digest_106 ?_
  refine z_lmul C dX1_digest_109 ?_
  refine z_iload C 0 dX1_digest_110 rfl ?_
  refine z_i2l (v := (nI (rn v)).toInt64) C dX1_digest_112 rfl ?_
  refine z_ladd C dX1_digest_113 ?_
  refine z_topl (y := mixd (mixd 2011 ((rf v) 0)) (nI (rn v))) rfl ?_
  refine z_lstore_n (L' := [(2, .long (mixd (mixd 2011 ((rf v) 0)) (nI (rn v)))), (7, .int (nI (rn v))), (6, .int 1), (5, .int 8), (4, .ref q4), (1, .ref q4), (0, .ref (gg 0))]) C dX1_digest_114 rfl (by decide) rfl ?_
  refine z_iinc (v := 2) (L' := [(6, .int 2), (2, .long (mixd (mixd 2011 ((rf v) 0)) (nI (rn v)))), (7, .int (nI (rn v))), (5, .int 8), (4, .ref q4), (1, .ref q4), (0, .ref (gg 0))]) C 2 dX1_digest_115 rfl (by decide) (by decide) rfl ?_
  refine z_goto (tgt := 91) C dX1_digest_118 (by decide) ?_
  refine z_iload C 0 dX1_digest_91 rfl ?_
  refine z_iload C 3 dX1_digest_93 rfl ?_
  refine z_icmp_ge (tgt := 121) C dX1_digest_95 (by decide) (fun h9 => absurd h9 (by decide)) (fun _ => ?_)
  refine z_aload C 4 dX1_digest_98 rfl ?_
  refine z_iload C 0 dX1_digest_100 rfl ?_
  refine z_iald (f := upd (upd (upd (upd (upd (upd (upd (upd (fun _ => 0) 0 ((rf v) 0)) 1 (nI (rn v))) 2 ((rf v) 1)) 3 ((rf v) 3)) 4 (rfltN (rf v) k)) 5 ((rf v) 2)) 6 (rbN (rf v) (rn v))) 7 (rowS (rf v) 1 (rn v))) C 3 0 rfl rfl 2 rfl (by omega) (by decide) dX1_digest_102 ?_
  refine z_top (y := (rf v) 1) rfl ?_
  refine z_istore (L' := [(7, .int ((rf v) 1)), (6, .int 2), (2, .long (mixd (mixd 2011 ((rf v) 0)) (nI (rn v)))), (5, .int 8), (4, .ref q4), (1, .ref q4), (0, .ref (gg 0))]) C dX1_digest_103 (by decide) rfl ?_
  refine z_lload_n C 2 dX1_digest_105 rfl rfl ?_
  refine z_ldc2 C wd1 dX1_digest_106 ?_
  refine z_lmul C dX1_digest_109 ?_
  refine z_iload C 0 dX1_digest_110 rfl ?_
  refine z_i2l (v := ((rf v) 1).toInt64) C dX1_digest_112 rfl ?_
  refine z_ladd C dX1_digest_113 ?_
  refine z_topl (y := mixd (mixd (mixd 2011 ((rf v) 0)) (nI (rn v))) ((rf v) 1)) rfl ?_
  refine z_lstore_n (L' := [(2, .long (mixd (mixd (mixd 2011 ((rf v) 0)) (nI (rn v))) ((rf v) 1))), (7, .int ((rf v) 1)), (6, .int 2), (5, .int 8), (4, .ref q4), (1, .ref q4), (0, .ref (gg 0))]) C dX1_digest_114 rfl (by decide) rfl ?_
  refine z_iinc (v := 3) (L' := [(6, .int 3), (2, .long (mixd (mixd (mixd 2011 ((rf v) 0)) (nI (rn v))) ((rf v) 1))), (7, .int ((rf v) 1)), (5, .int 8), (4, .ref q4), (1, .ref q4), (0, .ref (gg 0))]) C 2 dX1_digest_115 rfl (by decide) (by decide) rfl ?_
  refine z_goto (tgt := 91) C dX1_digest_118 (by decide) ?_
  refine z_iload C 0 dX1_digest_91 rfl ?_
  refine z_iload C 3 dX1_digest_93 rfl ?_
  refine z_icmp_ge (tgt := 121) C dX1_digest_95 (by decide) (fun h9 => absurd h9 (by decide)) (fun _ => ?_)
  refine z_aload C 4 dX1_digest_98 rfl ?_
  refine z_iload C 0 dX1_digest_100 rfl ?_
  refine z_iald (f := upd (upd (upd (upd (upd (upd (upd (upd (fun _ => 0) 0 ((rf v) 0)) 1 (nI (rn v))) 2 ((rf v) 1)) 3 ((rf v) 3)) 4 (rfltN (rf v) k)) 5 ((rf v) 2)) 6 (rbN (rf v) (rn v))) 7 (rowS (rf v) 1 (rn v))) C 3 0 rfl rfl 3 rfl (by omega) (by decide) dX1_digest_102 ?_
  refine z_top (y := (rf v) 3) rfl ?_
  refine z_istore (L' := [(7, .int ((rf v) 3)), (6, .int 3), (2, .long (mixd (mixd (mixd 2011 ((rf v) 0)) (nI (rn v))) ((rf v) 1))), (5, .int 8), (4, .ref q4), (1, .ref q4), (0, .ref (gg 0))]) C dX1_digest_103 (by decide) rfl ?_
  refine z_lload_n C 2 dX1_digest_105 rfl rfl ?_
  refine z_ldc2 C wd1 dX1_digest_106 ?_
  refine z_lmul C dX1_digest_109 ?_
  refine z_iload C 0 dX1_digest_110 rfl ?_
  refine z_i2l (v := ((rf v) 3).toInt64) C dX1_digest_112 rfl ?_
  refine z_ladd C dX1_digest_113 ?_
  refine z_topl (y := mixd (mixd (mixd (mixd 2011 ((rf v) 0)) (nI (rn v))) ((rf v) 1)) ((rf v) 3)) rfl ?_
  refine z_lstore_n (L' := [(2, .long (mixd (mixd (mixd (mixd 2011 ((rf v) 0)) (nI (rn v))) ((rf v) 1)) ((rf v) 3))), (7, .int ((rf v) 3)), (6, .int 3), (5, .int 8), (4, .ref q4), (1, .ref q4), (0, .ref (gg 0))]) C dX1_digest_114 rfl (by decide) rfl ?_
  refine z_iinc (v := 4) (L' := [(6, .int 4), (2, .long (mixd (mixd (mixd (mixd 2011 ((rf v) 0)) (nI (rn v))) ((rf v) 1)) ((rf v) 3))), (7, .int ((rf v) 3)), (5, .int 8), (4, .ref q4), (1, .ref q4), (0, .ref (gg 0))]) C 2 dX1_digest_115 rfl (by decide) (by decide) rfl ?_
  refine z_goto (tgt := 91) C dX1_digest_118 (by decide) ?_
  refine z_iload C 0 dX1_digest_91 rfl ?_
  refine z_iload C 3 dX1_digest_93 rfl ?_
  refine z_icmp_ge (tgt := 121) C dX1_digest_95 (by decide) (fun h9 => absurd h9 (by decide)) (fun _ => ?_)
  refine z_aload C 4 dX1_digest_98 rfl ?_
  refine z_iload C 0 dX1_digest_100 rfl ?_
  refine z_iald (f := upd (upd (upd (upd (upd (upd (upd (upd (fun _ => 0) 0 ((rf v) 0)) 1 (nI (rn v))) 2 ((rf v) 1)) 3 ((rf v) 3)) 4 (rfltN (rf v) k)) 5 ((rf v) 2)) 6 (rbN (rf v) (rn v))) 7 (rowS (rf v) 1 (rn v))) C 3 0 rfl rfl 4 rfl (by omega) (by decide) dX1_digest_102 ?_
  refine z_top (y := rfltN (rf v) k) rfl ?_
  refine z_istore (L' := [(7, .int (rfltN (rf v) k)), (6, .int 4), (2, .long (mixd (mixd (mixd (mixd 2011 ((rf v) 0)) (nI (rn v))) ((rf v) 1)) ((rf v) 3))), (5, .int 8), (4, .ref q4), (1, .ref q4), (0, .ref (gg 0))]) C dX1_digest_103 (by decide) rfl ?_
  refine z_lload_n C 2 dX1_digest_105 rfl rfl ?_
  refine z_ldc2 C wd1 dX1_digest_106 ?_
  refine z_lmul C dX1_digest_109 ?_
  refine z_iload C 0 dX1_digest_110 rfl ?_
  refine z_i2l (v := (rfltN (rf v) k).toInt64) C dX1_digest_112 rfl ?_
  refine z_ladd C dX1_digest_113 ?_
  refine z_topl (y := mixd (mixd (mixd (mixd (mixd 2011 ((rf v) 0)) (nI (rn v))) ((rf v) 1)) ((rf v) 3)) (rfltN (rf v) k)) rfl ?_
  refine z_lstore_n (L' := [(2, .long (mixd (mixd (mixd (mixd (mixd 2011 ((rf v) 0)) (nI (rn v))) ((rf v) 1)) ((rf v) 3)) (rfltN (rf v) k))), (7, .int (rfltN (rf v) k)), (6, .int 4), (5, .int 8), (4, .ref q4), (1, .ref q4), (0, .ref (gg 0))]) C dX1_digest_114 rfl (by decide) rfl ?_
  refine z_iinc (v := 5) (L' := [(6, .int 5), (2, .long (mixd (mixd (mixd (mixd (mixd 2011 ((rf v) 0)) (nI (rn v))) ((rf v) 1)) ((rf v) 3)) (rfltN (rf v) k))), (7, .int (rfltN (rf v) k)), (5, .int 8), (4, .ref q4), (1, .ref q4), (0, .ref (gg 0))]) C 2 dX1_digest_115 rfl (by decide) (by decide) rfl ?_
  refine z_goto (tgt := 91) C dX1_digest_118 (by decide) ?_
  refine z_iload C 0 dX1_digest_91 rfl ?_
  refine z_iload C 3 dX1_digest_93 rfl ?_
  refine z_icmp_ge (tgt := 121) C dX1_digest_95 (by decide) (fun h9 => absurd h9 (by decide)) (fun _ => ?_)
  refine z_aload C 4 dX1_digest_98 rfl ?_
  refine z_iload C 0 dX1_digest_100 rfl ?_
  refine z_iald (f := upd (upd (upd (upd (upd (upd (upd (upd (fun _ => 0) 0 ((rf v) 0)) 1 (nI (rn v))) 2 ((rf v) 1)) 3 ((rf v) 3)) 4 (rfltN (rf v) k)) 5 ((rf v) 2)) 6 (rbN (rf v) (rn v))) 7 (rowS (rf v) 1 (rn v))) C 3 0 rfl rfl 5 rfl (by omega) (by decide) dX1_digest_102 ?_
  refine z_top (y := (rf v) 2) rfl ?_
  refine z_istore (L' := [(7, .int ((rf v) 2)), (6, .int 5), (2, .long (mixd (mixd (mixd (mixd (mixd 2011 ((rf v) 0)) (nI (rn v))) ((rf v) 1)) ((rf v) 3)) (rfltN (rf v) k))), (5, .int 8), (4, .ref q4), (1, .ref q4), (0, .ref (gg 0))]) C dX1_digest_103 (by decide) rfl ?_
  refine z_lload_n C 2 dX1_digest_105 rfl rfl ?_
  refine z_ldc2 C wd1 dX1_digest_106 ?_
  refine z_lmul C dX1_digest_109 ?_
  refine z_iload C 0 dX1_digest_110 rfl ?_
  refine z_i2l (v := ((rf v) 2).toInt64) C dX1_digest_112 rfl ?_
  refine z_ladd C dX1_digest_113 ?_
  refine z_topl (y := mixd (mixd (mixd (mixd (mixd (mixd 2011 ((rf v) 0)) (nI (rn v))) ((rf v) 1)) ((rf v) 3)) (rfltN (rf v) k)) ((rf v) 2)) rfl ?_
  refine z_lstore_n (L' := [(2, .long (mixd (mixd (mixd (mixd (mixd (mixd 2011 ((rf v) 0)) (nI (rn v))) ((rf v) 1)) ((rf v) 3)) (rfltN (rf v) k)) ((rf v) 2))), (7, .int ((rf v) 2)), (6, .int 5), (5, .int 8), (4, .ref q4), (1, .ref q4), (0, .ref (gg 0))]) C dX1_digest_114 rfl (by decide) rfl ?_
  refine z_iinc (v := 6) (L' := [(6, .int 6), (2, .long (mixd (mixd (mixd (mixd (mixd (mixd 2011 ((rf v) 0)) (nI (rn v))) ((rf v) 1)) ((rf v) 3)) (rfltN (rf v) k)) ((rf v) 2))), (7, .int ((rf v) 2)), (5, .int 8), (4, .ref q4), (1, .ref q4), (0, .ref (gg 0))]) C 2 dX1_digest_115 rfl (by decide) (by decide) rfl ?_
  refine z_goto (tgt := 91) C dX1_digest_118 (by decide) ?_
  refine z_iload C 0 dX1_digest_91 rfl ?_
  refine z_iload C 3 dX1_digest_93 rfl ?_
  refine z_icmp_ge (tgt := 121) C dX1_digest_95 (by decide) (fun h9 => absurd h9 (by decide)) (fun _ => ?_)
  refine z_aload C 4 dX1_digest_98 rfl ?_
  refine z_iload C 0 dX1_digest_100 rfl ?_
  refine z_iald (f := upd (upd (upd (upd (upd (upd (upd (upd (fun _ => 0) 0 ((rf v) 0)) 1 (nI (rn v))) 2 ((rf v) 1)) 3 ((rf v) 3)) 4 (rfltN (rf v) k)) 5 ((rf v) 2)) 6 (rbN (rf v) (rn v))) 7 (rowS (rf v) 1 (rn v))) C 3 0 rfl rfl 6 rfl (by omega) (by decide) dX1_digest_102 ?_
  refine z_top (y := rbN (rf v) (rn v)) rfl ?_
  refine z_istore (L' := [(7, .int (rbN (rf v) (rn v))), (6, .int 6), (2, .long (mixd (mixd (mixd (mixd (mixd (mixd 2011 ((rf v) 0)) (nI (rn v))) ((rf v) 1)) ((rf v) 3)) (rfltN (rf v) k)) ((rf v) 2))), (5, .int 8), (4, .ref q4), (1, .ref q4), (0, .ref (gg 0))]) C dX1_digest_103 (by decide) rfl ?_
  refine z_lload_n C 2 dX1_digest_105 rfl rfl ?_
  refine z_ldc2 C wd1 dX1_digest_106 ?_
  refine z_lmul C dX1_digest_109 ?_
  refine z_iload C 0 dX1_digest_110 rfl ?_
  refine z_i2l (v := (rbN (rf v) (rn v)).toInt64) C dX1_digest_112 rfl ?_
  refine z_ladd C dX1_digest_113 ?_
  refine z_topl (y := mixd (mixd (mixd (mixd (mixd (mixd (mixd 2011 ((rf v) 0)) (nI (rn v))) ((rf v) 1)) ((rf v) 3)) (rfltN (rf v) k)) ((rf v) 2)) (rbN (rf v) (rn v))) rfl ?_
  refine z_lstore_n (L' := [(2, .long (mixd (mixd (mixd (mixd (mixd (mixd (mixd 2011 ((rf v) 0)) (nI (rn v))) ((rf v) 1)) ((rf v) 3)) (rfltN (rf v) k)) ((rf v) 2)) (rbN (rf v) (rn v)))), (7, .int (rbN (rf v) (rn v))), (6, .int 6), (5, .int 8), (4, .ref q4), (1, .ref q4), (0, .ref (gg 0))]) C dX1_digest_114 rfl (by decide) rfl ?_
  refine z_iinc (v := 7) (L' := [(6, .int 7), (2, .long (mixd (mixd (mixd (mixd (mixd (mixd (mixd 2011 ((rf v) 0)) (nI (rn v))) ((rf v) 1)) ((rf v) 3)) (rfltN (rf v) k)) ((rf v) 2)) (rbN (rf v) (rn v)))), (7, .int (rbN (rf v) (rn v))), (5, .int 8), (4, .ref q4), (1, .ref q4), (0, .ref (gg 0))]) C 2 dX1_digest_115 rfl (by decide) (by decide) rfl ?_
  refine z_goto (tgt := 91) C dX1_digest_118 (by decide) ?_
  refine z_iload C 0 dX1_digest_91 rfl ?_
  refine z_iload C 3 dX1_digest_93 rfl ?_
  refine z_icmp_ge (tgt := 121) C dX1_digest_95 (by decide) (fun h9 => absurd h9 (by decide)) (fun _ => ?_)
  refine z_aload C 4 dX1_digest_98 rfl ?_
  refine z_iload C 0 dX1_digest_100 rfl ?_
  refine z_iald (f := upd (upd (upd (upd (upd (upd (upd (upd (fun _ => 0) 0 ((rf v) 0)) 1 (nI (rn v))) 2 ((rf v) 1)) 3 ((rf v) 3)) 4 (rfltN (rf v) k)) 5 ((rf v) 2)) 6 (rbN (rf v) (rn v))) 7 (rowS (rf v) 1 (rn v))) C 3 0 rfl rfl 7 rfl (by omega) (by decide) dX1_digest_102 ?_
  refine z_top (y := rowS (rf v) 1 (rn v)) rfl ?_
  refine z_istore (L' := [(7, .int (rowS (rf v) 1 (rn v))), (6, .int 7), (2, .long (mixd (mixd (mixd (mixd (mixd (mixd (mixd 2011 ((rf v) 0)) (nI (rn v))) ((rf v) 1)) ((rf v) 3)) (rfltN (rf v) k)) ((rf v) 2)) (rbN (rf v) (rn v)))), (5, .int 8), (4, .ref q4), (1, .ref q4), (0, .ref (gg 0))]) C dX1_digest_103 (by decide) rfl ?_
  refine z_lload_n C 2 dX1_digest_105 rfl rfl ?_
  refine z_ldc2 C wd1 dX1_digest_106 ?_
  refine z_lmul C dX1_digest_109 ?_
  refine z_iload C 0 dX1_digest_110 rfl ?_
  refine z_i2l (v := (rowS (rf v) 1 (rn v)).toInt64) C dX1_digest_112 rfl ?_
  refine z_ladd C dX1_digest_113 ?_
  refine z_topl (y := mixd (mixd (mixd (mixd (mixd (mixd (mixd (mixd 2011 ((rf v) 0)) (nI (rn v))) ((rf v) 1)) ((rf v) 3)) (rfltN (rf v) k)) ((rf v) 2)) (rbN (rf v) (rn v))) (rowS (rf v) 1 (rn v))) rfl ?_
  refine z_lstore_n (L' := [(2, .long (mixd (mixd (mixd (mixd (mixd (mixd (mixd (mixd 2011 ((rf v) 0)) (nI (rn v))) ((rf v) 1)) ((rf v) 3)) (rfltN (rf v) k)) ((rf v) 2)) (rbN (rf v) (rn v))) (rowS (rf v) 1 (rn v)))), (7, .int (rowS (rf v) 1 (rn v))), (6, .int 7), (5, .int 8), (4, .ref q4), (1, .ref q4), (0, .ref (gg 0))]) C dX1_digest_114 rfl (by decide) rfl ?_
  refine z_iinc (v := 8) (L' := [(6, .int 8), (2, .long (mixd (mixd (mixd (mixd (mixd (mixd (mixd (mixd 2011 ((rf v) 0)) (nI (rn v))) ((rf v) 1)) ((rf v) 3)) (rfltN (rf v) k)) ((rf v) 2)) (rbN (rf v) (rn v))) (rowS (rf v) 1 (rn v)))), (7, .int (rowS (rf v) 1 (rn v))), (5, .int 8), (4, .ref q4), (1, .ref q4), (0, .ref (gg 0))]) C 2 dX1_digest_115 rfl (by decide) (by decide) rfl ?_
  refine z_goto (tgt := 91) C dX1_digest_118 (by decide) ?_
  refine z_iload C 0 dX1_digest_91 rfl ?_
  refine z_iload C 3 dX1_digest_93 rfl ?_
  refine z_icmp_ge (tgt := 121) C dX1_digest_95 (by decide) (fun _ => ?_) (fun h9 => absurd (by decide) h9)
  refine z_iconst (v := 0) C dX1_digest_121 (by decide) ?_
  refine z_istore (L' := [(4, .int 0), (6, .int 8), (2, .long (mixd (mixd (mixd (mixd (mixd (mixd (mixd (mixd 2011 ((rf v) 0)) (nI (rn v))) ((rf v) 1)) ((rf v) 3)) (rfltN (rf v) k)) ((rf v) 2)) (rbN (rf v) (rn v))) (rowS (rf v) 1 (rn v)))), (7, .int (rowS (rf v) 1 (rn v))), (5, .int 8), (1, .ref q4), (0, .ref (gg 0))]) C dX1_digest_122 (by decide) rfl ?_
  refine z_sub (L' := [(0, .ref (gg 0)), (2, .long (mixd (mixd (mixd (mixd (mixd (mixd (mixd (mixd 2011 ((rf v) 0)) (nI (rn v))) ((rf v) 1)) ((rf v) 3)) (rfltN (rf v) k)) ((rf v) 2)) (rbN (rf v) (rn v))) (rowS (rf v) 1 (rn v)))), (4, .int 0)]) [6, 2, 0] rfl ?_
  refine z_part (ws' := (wX1 gg cI (0, rn v, rf v, rk v))) [0, 1, 2] rfl rfl rfl ?_
  exact lp124 (rn v) 0 (by omega)
