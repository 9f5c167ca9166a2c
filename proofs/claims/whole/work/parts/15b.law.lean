set_option maxHeartbeats 4000000 in
set_option maxRecDepth 100000 in
theorem s_law_spill {p : Program} {l : Launch} {e : Env} {s : State} {m : MethodId} {below : List Frame} {meth : Method} {c : Code} {b : Nat} {D : va_G} {hh gg : Nat → Nat} {cI cZ cJ : ClassId} {o N : Nat} {xs : Nat → Int32} {cells slots t : Nat} {Q : State → Prop} {v v2 : S0} {u u2 : S1} {f f2 : Nat → Int64} {r k : Int32} {fr lo mc ms : Nat} (K : lC p s m c b D cI cZ cJ N xs) (ht : 4 * t + 4 ≤ N) (hfr : fr + 1 ≤ 12) (hlo : lo ≤ 400) (hc : cells + 1 ≤ 601024) (hs : slots + 6 ≤ 7293034) (hmc : mc ≤ 1) (hms : ms ≤ 6) (hA : zMT l yL_spill wsL_spill 8 140 mc ms [.ref (hh 0), .int (xs (4 * t + 1)), .int (xs (4 * t + 2)), .ref o] (tyL cI cZ cJ) D (wX0 hh cI cZ v ++ wO o cJ f) (wX0 hh cI cZ v2 ++ wO o cJ f2) (some (.int k))) (hB : zM l yX1_spill wsX1_spill fr lo 0 0 [.ref (gg 0), .int (xs (4 * t + 1)), .int (xs (4 * t + 2))] [(cI, .int)] D (wX1 gg cI u) (wX1 gg cI u2) (some (.int r))) (hk : rt u2 = k) (hr : k = 0 → f2 0 = r.toInt64) (kk : zG p l e room_1 s m #[.ref b] below meth c D 9 (aN s) (cells + 1) (slots + 6) Q 1557 [(0, .ref b), (1, .ref (hh 0)), (2, .ref (gg 0)), (3, .ref o), (4, .int (nI (4 * t)))] [] (wL hh gg cI cZ cJ o v2 f2 u2)) : zG p l e room_1 s m #[.ref b] below meth c D 9 (aN s) cells slots Q 228 [(0, .ref b), (1, .ref (hh 0)), (2, .ref (gg 0)), (3, .ref o), (4, .int (nI (4 * t)))] [] (wL hh gg cI cZ cJ o v f u) := by
  obtain ⟨C, ⟨hT, hN⟩, hX, hbl, hN2⟩ := K
  have hbA : ¬ aN s b := Nat.not_le.mpr hbl
  refine z_aload_n C 1 dL_law_228 rfl rfl ?_
  refine z_aload_n C 0 dL_law_229 rfl rfl ?_
  refine z_iload C 4 dL_law_230 rfl ?_
  refine z_iconst (v := 1) C dL_law_232 (by decide) ?_
  refine z_iadd C dL_law_233 ?_
  refine z_sld C hX hbl hbA (4 * t + 1) (nI_add (4 * t) 1) (by omega) (by omega) dL_law_234 ?_
  refine z_aload_n C 0 dL_law_235 rfl rfl ?_
  refine z_iload C 4 dL_law_236 rfl ?_
  refine z_iconst (v := 2) C dL_law_238 (by decide) ?_
  refine z_iadd C dL_law_239 ?_
  refine z_sld C hX hbl hbA (4 * t + 2) (nI_add (4 * t) 2) (by omega) (by omega) dL_law_240 ?_
  refine z_aload_n C 3 dL_law_241 rfl rfl ?_
  refine z_callT (w := (wX0 hh cI cZ v ++ wO o cJ f)) (w' := (wX0 hh cI cZ v2 ++ wO o cJ f2)) (w1 := ([] : va_W)) (w2 := wX1 gg cI u) (ws' := wL hh gg cI cZ cJ o v2 f2 u) (As := [.ref (hh 0), .int (xs (4 * t + 1)), .int (xs (4 * t + 2)), .ref o]) (rest := []) (st' := [.int k]) (rv := some (.int k)) C hT hN hA (vx_cwSW 4 C.words gL_law_L_spill rfl rfl rfl (by decide +kernel) ⟨(Nat.le_of_ble_eq_true rfl), (Nat.le_of_ble_eq_true rfl)⟩) [0, 1, 2] rfl rfl (Nat.le_of_ble_eq_true rfl) ⟨by show _ ≤ 601024; omega, by show _ ≤ 7293034; omega⟩ rfl rfl rfl rfl rfl dL_law_242 ?_
  refine z_istore (L' := [(5, .int k), (0, .ref b), (1, .ref (hh 0)), (2, .ref (gg 0)), (3, .ref o), (4, .int (nI (4 * t)))]) C dL_law_245 (by decide) rfl ?_
  refine z_aload_n C 3 dL_law_247 rfl rfl ?_
  refine z_aload_n C 1 dL_law_248 rfl rfl ?_
  refine z_iload C 5 dL_law_249 rfl ?_
  refine z_iconst (v := 1) C dL_law_251 (by decide) ?_
  refine z_iadd C dL_law_252 ?_
  refine z_sld C hX hbl hbA (4 * t + 1) (nI_add (4 * t) 1) (by omega) (by omega) dL_law_253 ?_
  refine z_aload_n C 1 dL_law_254 rfl rfl ?_
  refine z_iload C 5 dL_law_255 rfl ?_
  refine z_iconst (v := 2) C dL_law_257 (by decide) ?_
  refine z_iadd C dL_law_258 ?_
  refine z_sld C hX hbl hbA (4 * t + 2) (nI_add (4 * t) 2) (by omega) (by omega) dL_law_259 ?_
  refine z_callV (w := wX1 gg cI u) (w' := wX1 gg cI u2) (w1 := (wX0 hh cI cZ v2 ++ wO o cJ f2)) (w2 := ([] : va_W)) (ws' := wL hh gg cI cZ cJ o v2 f2 u2) (As := [.int (xs (4 * t + 1)), .int (xs (4 * t + 2))]) (rest := []) (st' := [.int r]) (rv := some (.int r)) C hB (cwV 2 C.words gL_law_X1_spill rfl rfl rfl (by decide +kernel) ⟨hfr, by show 8 + (_ + 11) + lo ≤ 440; omega⟩) (q0 := 0) (ci := 1) rfl rfl rfl [0] rfl rfl (Nat.le_of_ble_eq_true rfl) ⟨by show _ ≤ 601024; omega, by show _ ≤ 7293034; omega⟩ rfl rfl rfl rfl rfl dL_law_260 ?_
  refine z_istore (L' := [(6, .int r), (5, .int k), (0, .ref b), (1, .ref (hh 0)), (2, .ref (gg 0)), (3, .ref o), (4, .int (nI (4 * t)))]) C dL_law_263 (by decide) rfl ?_
  refine z_aload_n C 4 dL_law_265 rfl rfl ?_
  refine z_callV (w := wX1 gg cI u2) (w' := wX1 gg cI u2) (w1 := (wX0 hh cI cZ v2 ++ wO o cJ f2)) (w2 := ([] : va_W)) (ws' := wL hh gg cI cZ cJ o v2 f2 u2) (As := []) (rest := []) (st' := [.int (rt u2)]) (rv := some (.int (rt u2))) C (c_X1_thrown l D gg cI u2) (cwV 0 C.words gL_law_X1_thrown rfl rfl rfl (by decide +kernel) ⟨(Nat.le_of_ble_eq_true rfl), (Nat.le_of_ble_eq_true rfl)⟩) (q0 := 0) (ci := 1) rfl rfl rfl [0] rfl rfl (Nat.le_of_ble_eq_true rfl) ⟨by show _ ≤ 601024; omega, by show _ ≤ 7293034; omega⟩ rfl rfl rfl rfl rfl dL_law_266 ?_
  refine z_iload C 1 dL_law_269 rfl ?_
  refine z_icmp_eq (tgt := 276) C dL_law_271 (by decide) (fun _ => ?_) (fun q => absurd hk q)
  refine z_iload C 1 dL_law_276 rfl ?_
  have jend : zG p l e room_1 s m #[.ref b] below meth c D 9 (aN s) (cells + mc + 0 + 0) (slots + ms + 0 + 0) Q 293 [(6, .int r), (5, .int k), (0, .ref b), (1, .ref (hh 0)), (2, .ref (gg 0)), (3, .ref o), (4, .int (nI (4 * t)))] [] (wL hh gg cI cZ cJ o v2 f2 u2) := z_goto (tgt := 1557) C dL_law_293 (by decide) (z_sub (L' := [(0, .ref b), (1, .ref (hh 0)), (2, .ref (gg 0)), (3, .ref o), (4, .int (nI (4 * t)))]) [2, 3, 4, 5, 6] rfl (z_more (by omega) (by omega) kk))
  refine z_if_ne (tgt := 293) C dL_law_278 (by decide) (fun _ => jend) (fun hk0 => ?_)
  refine z_aload_n C 5 dL_law_281 rfl rfl ?_
  refine z_iconst (v := 0) C dL_law_282 (by decide) ?_
  refine z_lald (f := f2) C 8 2 rfl rfl 0 rfl (by decide) (by decide) dL_law_283 ?_
  refine z_iload C 0 dL_law_284 rfl ?_
  refine z_i2l (v := r.toInt64) C dL_law_286 rfl ?_
  refine z_lcmp C dL_law_287 ?_
  refine z_if_eq (tgt := 293) C dL_law_288 (by decide) (fun _ => jend) (fun q => absurd (by rw [hr hk0]; exact lg_self _) q)
set_option maxHeartbeats 4000000 in
set_option maxRecDepth 100000 in
theorem s_law_throwSalt {p : Program} {l : Launch} {e : Env} {s : State} {m : MethodId} {below : List Frame} {meth : Method} {c : Code} {b : Nat} {D : va_G} {hh gg : Nat → Nat} {cI cZ cJ : ClassId} {o N : Nat} {xs : Nat → Int32} {cells slots t : Nat} {Q : State → Prop} {v v2 : S0} {u u2 : S1} {f f2 : Nat → Int64} {r k : Int32} {fr lo mc ms : Nat} (K : lC p s m c b D cI cZ cJ N xs) (ht : 4 * t + 4 ≤ N) (hfr : fr + 1 ≤ 12) (hlo : lo ≤ 400) (hc : cells + 1 ≤ 601024) (hs : slots + 6 ≤ 7293034) (hmc : mc ≤ 1) (hms : ms ≤ 6) (hA : zMT l yL_throwSalt wsL_throwSalt 8 140 mc ms [.ref (hh 0), .int (xs (4 * t + 1)), .int (xs (4 * t + 2)), .int (xs (4 * t + 3)), .ref o] (tyL cI cZ cJ) D (wX0 hh cI cZ v ++ wO o cJ f) (wX0 hh cI cZ v2 ++ wO o cJ f2) (some (.int k))) (hB : zM l yX1_throwSalt wsX1_throwSalt fr lo 0 0 [.ref (gg 0), .int (xs (4 * t + 1)), .int (xs (4 * t + 2)), .int (xs (4 * t + 3))] [(cI, .int)] D (wX1 gg cI u) (wX1 gg cI u2) (some (.int r))) (hk : rt u2 = k) (hr : k = 0 → f2 0 = r.toInt64) (kk : zG p l e room_1 s m #[.ref b] below meth c D 9 (aN s) (cells + 1) (slots + 6) Q 1557 [(0, .ref b), (1, .ref (hh 0)), (2, .ref (gg 0)), (3, .ref o), (4, .int (nI (4 * t)))] [] (wL hh gg cI cZ cJ o v2 f2 u2)) : zG p l e room_1 s m #[.ref b] below meth c D 9 (aN s) cells slots Q 296 [(0, .ref b), (1, .ref (hh 0)), (2, .ref (gg 0)), (3, .ref o), (4, .int (nI (4 * t)))] [] (wL hh gg cI cZ cJ o v f u) := by
  obtain ⟨C, ⟨hT, hN⟩, hX, hbl, hN2⟩ := K
  have hbA : ¬ aN s b := Nat.not_le.mpr hbl
  refine z_aload_n C 1 dL_law_296 rfl rfl ?_
  refine z_aload_n C 0 dL_law_297 rfl rfl ?_
  refine z_iload C 4 dL_law_298 rfl ?_
  refine z_iconst (v := 1) C dL_law_300 (by decide) ?_
  refine z_iadd C dL_law_301 ?_
  refine z_sld C hX hbl hbA (4 * t + 1) (nI_add (4 * t) 1) (by omega) (by omega) dL_law_302 ?_
  refine z_aload_n C 0 dL_law_303 rfl rfl ?_
  refine z_iload C 4 dL_law_304 rfl ?_
  refine z_iconst (v := 2) C dL_law_306 (by decide) ?_
  refine z_iadd C dL_law_307 ?_
  refine z_sld C hX hbl hbA (4 * t + 2) (nI_add (4 * t) 2) (by omega) (by omega) dL_law_308 ?_
  refine z_aload_n C 0 dL_law_309 rfl rfl ?_
  refine z_iload C 4 dL_law_310 rfl ?_
  refine z_iconst (v := 3) C dL_law_312 (by decide) ?_
  refine z_iadd C dL_law_313 ?_
  refine z_sld C hX hbl hbA (4 * t + 3) (nI_add (4 * t) 3) (by omega) (by omega) dL_law_314 ?_
  refine z_aload_n C 3 dL_law_315 rfl rfl ?_
  refine z_callT (w := (wX0 hh cI cZ v ++ wO o cJ f)) (w' := (wX0 hh cI cZ v2 ++ wO o cJ f2)) (w1 := ([] : va_W)) (w2 := wX1 gg cI u) (ws' := wL hh gg cI cZ cJ o v2 f2 u) (As := [.ref (hh 0), .int (xs (4 * t + 1)), .int (xs (4 * t + 2)), .int (xs (4 * t + 3)), .ref o]) (rest := []) (st' := [.int k]) (rv := some (.int k)) C hT hN hA (vx_cwSW 5 C.words gL_law_L_throwSalt rfl rfl rfl (by decide +kernel) ⟨(Nat.le_of_ble_eq_true rfl), (Nat.le_of_ble_eq_true rfl)⟩) [0, 1, 2] rfl rfl (Nat.le_of_ble_eq_true rfl) ⟨by show _ ≤ 601024; omega, by show _ ≤ 7293034; omega⟩ rfl rfl rfl rfl rfl dL_law_316 ?_
  refine z_istore (L' := [(5, .int k), (0, .ref b), (1, .ref (hh 0)), (2, .ref (gg 0)), (3, .ref o), (4, .int (nI (4 * t)))]) C dL_law_319 (by decide) rfl ?_
  refine z_aload_n C 3 dL_law_321 rfl rfl ?_
  refine z_aload_n C 1 dL_law_322 rfl rfl ?_
  refine z_iload C 5 dL_law_323 rfl ?_
  refine z_iconst (v := 1) C dL_law_325 (by decide) ?_
  refine z_iadd C dL_law_326 ?_
  refine z_sld C hX hbl hbA (4 * t + 1) (nI_add (4 * t) 1) (by omega) (by omega) dL_law_327 ?_
  refine z_aload_n C 1 dL_law_328 rfl rfl ?_
  refine z_iload C 5 dL_law_329 rfl ?_
  refine z_iconst (v := 2) C dL_law_331 (by decide) ?_
  refine z_iadd C dL_law_332 ?_
  refine z_sld C hX hbl hbA (4 * t + 2) (nI_add (4 * t) 2) (by omega) (by omega) dL_law_333 ?_
  refine z_aload_n C 1 dL_law_334 rfl rfl ?_
  refine z_iload C 5 dL_law_335 rfl ?_
  refine z_iconst (v := 3) C dL_law_337 (by decide) ?_
  refine z_iadd C dL_law_338 ?_
  refine z_sld C hX hbl hbA (4 * t + 3) (nI_add (4 * t) 3) (by omega) (by omega) dL_law_339 ?_
  refine z_callV (w := wX1 gg cI u) (w' := wX1 gg cI u2) (w1 := (wX0 hh cI cZ v2 ++ wO o cJ f2)) (w2 := ([] : va_W)) (ws' := wL hh gg cI cZ cJ o v2 f2 u2) (As := [.int (xs (4 * t + 1)), .int (xs (4 * t + 2)), .int (xs (4 * t + 3))]) (rest := []) (st' := [.int r]) (rv := some (.int r)) C hB (cwV 3 C.words gL_law_X1_throwSalt rfl rfl rfl (by decide +kernel) ⟨hfr, by show 8 + (_ + 11) + lo ≤ 440; omega⟩) (q0 := 0) (ci := 1) rfl rfl rfl [0] rfl rfl (Nat.le_of_ble_eq_true rfl) ⟨by show _ ≤ 601024; omega, by show _ ≤ 7293034; omega⟩ rfl rfl rfl rfl rfl dL_law_340 ?_
  refine z_istore (L' := [(6, .int r), (5, .int k), (0, .ref b), (1, .ref (hh 0)), (2, .ref (gg 0)), (3, .ref o), (4, .int (nI (4 * t)))]) C dL_law_343 (by decide) rfl ?_
  refine z_aload_n C 4 dL_law_345 rfl rfl ?_
  refine z_callV (w := wX1 gg cI u2) (w' := wX1 gg cI u2) (w1 := (wX0 hh cI cZ v2 ++ wO o cJ f2)) (w2 := ([] : va_W)) (ws' := wL hh gg cI cZ cJ o v2 f2 u2) (As := []) (rest := []) (st' := [.int (rt u2)]) (rv := some (.int (rt u2))) C (c_X1_thrown l D gg cI u2) (cwV 0 C.words gL_law_X1_thrown rfl rfl rfl (by decide +kernel) ⟨(Nat.le_of_ble_eq_true rfl), (Nat.le_of_ble_eq_true rfl)⟩) (q0 := 0) (ci := 1) rfl rfl rfl [0] rfl rfl (Nat.le_of_ble_eq_true rfl) ⟨by show _ ≤ 601024; omega, by show _ ≤ 7293034; omega⟩ rfl rfl rfl rfl rfl dL_law_346 ?_
  refine z_iload C 1 dL_law_349 rfl ?_
  refine z_icmp_eq (tgt := 356) C dL_law_351 (by decide) (fun _ => ?_) (fun q => absurd hk q)
  refine z_iload C 1 dL_law_356 rfl ?_
  have jend : zG p l e room_1 s m #[.ref b] below meth c D 9 (aN s) (cells + mc + 0 + 0) (slots + ms + 0 + 0) Q 373 [(6, .int r), (5, .int k), (0, .ref b), (1, .ref (hh 0)), (2, .ref (gg 0)), (3, .ref o), (4, .int (nI (4 * t)))] [] (wL hh gg cI cZ cJ o v2 f2 u2) := z_goto (tgt := 1557) C dL_law_373 (by decide) (z_sub (L' := [(0, .ref b), (1, .ref (hh 0)), (2, .ref (gg 0)), (3, .ref o), (4, .int (nI (4 * t)))]) [2, 3, 4, 5, 6] rfl (z_more (by omega) (by omega) kk))
  refine z_if_ne (tgt := 373) C dL_law_358 (by decide) (fun _ => jend) (fun hk0 => ?_)
  refine z_aload_n C 5 dL_law_361 rfl rfl ?_
  refine z_iconst (v := 0) C dL_law_362 (by decide) ?_
  refine z_lald (f := f2) C 8 2 rfl rfl 0 rfl (by decide) (by decide) dL_law_363 ?_
  refine z_iload C 0 dL_law_364 rfl ?_
  refine z_i2l (v := r.toInt64) C dL_law_366 rfl ?_
  refine z_lcmp C dL_law_367 ?_
  refine z_if_eq (tgt := 373) C dL_law_368 (by decide) (fun _ => jend) (fun q => absurd (by rw [hr hk0]; exact lg_self _) q)
set_option maxHeartbeats 4000000 in
set_option maxRecDepth 100000 in
theorem s_law_doPenance {p : Program} {l : Launch} {e : Env} {s : State} {m : MethodId} {below : List Frame} {meth : Method} {c : Code} {b : Nat} {D : va_G} {hh gg : Nat → Nat} {cI cZ cJ : ClassId} {o N : Nat} {xs : Nat → Int32} {cells slots t : Nat} {Q : State → Prop} {v v2 : S0} {u u2 : S1} {f f2 : Nat → Int64} {r k : Int32} {fr lo mc ms : Nat} (K : lC p s m c b D cI cZ cJ N xs) (ht : 4 * t + 4 ≤ N) (hfr : fr + 1 ≤ 12) (hlo : lo ≤ 400) (hc : cells + 1 ≤ 601024) (hs : slots + 6 ≤ 7293034) (hmc : mc ≤ 1) (hms : ms ≤ 6) (hA : zMT l yL_doPenance wsL_doPenance 8 140 mc ms [.ref (hh 0), .int (xs (4 * t + 1)), .int (xs (4 * t + 2)), .ref o] (tyL cI cZ cJ) D (wX0 hh cI cZ v ++ wO o cJ f) (wX0 hh cI cZ v2 ++ wO o cJ f2) (some (.int k))) (hB : zM l yX1_doPenance wsX1_doPenance fr lo 0 0 [.ref (gg 0), .int (xs (4 * t + 1)), .int (xs (4 * t + 2))] [(cI, .int)] D (wX1 gg cI u) (wX1 gg cI u2) (some (.int r))) (hk : rt u2 = k) (hr : k = 0 → f2 0 = r.toInt64) (kk : zG p l e room_1 s m #[.ref b] below meth c D 9 (aN s) (cells + 1) (slots + 6) Q 1557 [(0, .ref b), (1, .ref (hh 0)), (2, .ref (gg 0)), (3, .ref o), (4, .int (nI (4 * t)))] [] (wL hh gg cI cZ cJ o v2 f2 u2)) : zG p l e room_1 s m #[.ref b] below meth c D 9 (aN s) cells slots Q 376 [(0, .ref b), (1, .ref (hh 0)), (2, .ref (gg 0)), (3, .ref o), (4, .int (nI (4 * t)))] [] (wL hh gg cI cZ cJ o v f u) := by
  obtain ⟨C, ⟨hT, hN⟩, hX, hbl, hN2⟩ := K
  have hbA : ¬ aN s b := Nat.not_le.mpr hbl
  refine z_aload_n C 1 dL_law_376 rfl rfl ?_
  refine z_aload_n C 0 dL_law_377 rfl rfl ?_
  refine z_iload C 4 dL_law_378 rfl ?_
  refine z_iconst (v := 1) C dL_law_380 (by decide) ?_
  refine z_iadd C dL_law_381 ?_
  refine z_sld C hX hbl hbA (4 * t + 1) (nI_add (4 * t) 1) (by omega) (by omega) dL_law_382 ?_
  refine z_aload_n C 0 dL_law_383 rfl rfl ?_
  refine z_iload C 4 dL_law_384 rfl ?_
  refine z_iconst (v := 2) C dL_law_386 (by decide) ?_
  refine z_iadd C dL_law_387 ?_
  refine z_sld C hX hbl hbA (4 * t + 2) (nI_add (4 * t) 2) (by omega) (by omega) dL_law_388 ?_
  refine z_aload_n C 3 dL_law_389 rfl rfl ?_
  refine z_callT (w := (wX0 hh cI cZ v ++ wO o cJ f)) (w' := (wX0 hh cI cZ v2 ++ wO o cJ f2)) (w1 := ([] : va_W)) (w2 := wX1 gg cI u) (ws' := wL hh gg cI cZ cJ o v2 f2 u) (As := [.ref (hh 0), .int (xs (4 * t + 1)), .int (xs (4 * t + 2)), .ref o]) (rest := []) (st' := [.int k]) (rv := some (.int k)) C hT hN hA (vx_cwSW 4 C.words gL_law_L_doPenance rfl rfl rfl (by decide +kernel) ⟨(Nat.le_of_ble_eq_true rfl), (Nat.le_of_ble_eq_true rfl)⟩) [0, 1, 2] rfl rfl (Nat.le_of_ble_eq_true rfl) ⟨by show _ ≤ 601024; omega, by show _ ≤ 7293034; omega⟩ rfl rfl rfl rfl rfl dL_law_390 ?_
  refine z_istore (L' := [(5, .int k), (0, .ref b), (1, .ref (hh 0)), (2, .ref (gg 0)), (3, .ref o), (4, .int (nI (4 * t)))]) C dL_law_393 (by decide) rfl ?_
  refine z_aload_n C 3 dL_law_395 rfl rfl ?_
  refine z_aload_n C 1 dL_law_396 rfl rfl ?_
  refine z_iload C 5 dL_law_397 rfl ?_
  refine z_iconst (v := 1) C dL_law_399 (by decide) ?_
  refine z_iadd C dL_law_400 ?_
  refine z_sld C hX hbl hbA (4 * t + 1) (nI_add (4 * t) 1) (by omega) (by omega) dL_law_401 ?_
  refine z_aload_n C 1 dL_law_402 rfl rfl ?_
  refine z_iload C 5 dL_law_403 rfl ?_
  refine z_iconst (v := 2) C dL_law_405 (by decide) ?_
  refine z_iadd C dL_law_406 ?_
  refine z_sld C hX hbl hbA (4 * t + 2) (nI_add (4 * t) 2) (by omega) (by omega) dL_law_407 ?_
  refine z_callV (w := wX1 gg cI u) (w' := wX1 gg cI u2) (w1 := (wX0 hh cI cZ v2 ++ wO o cJ f2)) (w2 := ([] : va_W)) (ws' := wL hh gg cI cZ cJ o v2 f2 u2) (As := [.int (xs (4 * t + 1)), .int (xs (4 * t + 2))]) (rest := []) (st' := [.int r]) (rv := some (.int r)) C hB (cwV 2 C.words gL_law_X1_doPenance rfl rfl rfl (by decide +kernel) ⟨hfr, by show 8 + (_ + 11) + lo ≤ 440; omega⟩) (q0 := 0) (ci := 1) rfl rfl rfl [0] rfl rfl (Nat.le_of_ble_eq_true rfl) ⟨by show _ ≤ 601024; omega, by show _ ≤ 7293034; omega⟩ rfl rfl rfl rfl rfl dL_law_408 ?_
  refine z_istore (L' := [(6, .int r), (5, .int k), (0, .ref b), (1, .ref (hh 0)), (2, .ref (gg 0)), (3, .ref o), (4, .int (nI (4 * t)))]) C dL_law_411 (by decide) rfl ?_
  refine z_aload_n C 4 dL_law_413 rfl rfl ?_
  refine z_callV (w := wX1 gg cI u2) (w' := wX1 gg cI u2) (w1 := (wX0 hh cI cZ v2 ++ wO o cJ f2)) (w2 := ([] : va_W)) (ws' := wL hh gg cI cZ cJ o v2 f2 u2) (As := []) (rest := []) (st' := [.int (rt u2)]) (rv := some (.int (rt u2))) C (c_X1_thrown l D gg cI u2) (cwV 0 C.words gL_law_X1_thrown rfl rfl rfl (by decide +kernel) ⟨(Nat.le_of_ble_eq_true rfl), (Nat.le_of_ble_eq_true rfl)⟩) (q0 := 0) (ci := 1) rfl rfl rfl [0] rfl rfl (Nat.le_of_ble_eq_true rfl) ⟨by show _ ≤ 601024; omega, by show _ ≤ 7293034; omega⟩ rfl rfl rfl rfl rfl dL_law_414 ?_
  refine z_iload C 1 dL_law_417 rfl ?_
  refine z_icmp_eq (tgt := 424) C dL_law_419 (by decide) (fun _ => ?_) (fun q => absurd hk q)
  refine z_iload C 1 dL_law_424 rfl ?_
  have jend : zG p l e room_1 s m #[.ref b] below meth c D 9 (aN s) (cells + mc + 0 + 0) (slots + ms + 0 + 0) Q 441 [(6, .int r), (5, .int k), (0, .ref b), (1, .ref (hh 0)), (2, .ref (gg 0)), (3, .ref o), (4, .int (nI (4 * t)))] [] (wL hh gg cI cZ cJ o v2 f2 u2) := z_goto (tgt := 1557) C dL_law_441 (by decide) (z_sub (L' := [(0, .ref b), (1, .ref (hh 0)), (2, .ref (gg 0)), (3, .ref o), (4, .int (nI (4 * t)))]) [2, 3, 4, 5, 6] rfl (z_more (by omega) (by omega) kk))
  refine z_if_ne (tgt := 441) C dL_law_426 (by decide) (fun _ => jend) (fun hk0 => ?_)
  refine z_aload_n C 5 dL_law_429 rfl rfl ?_
  refine z_iconst (v := 0) C dL_law_430 (by decide) ?_
  refine z_lald (f := f2) C 8 2 rfl rfl 0 rfl (by decide) (by decide) dL_law_431 ?_
  refine z_iload C 0 dL_law_432 rfl ?_
  refine z_i2l (v := r.toInt64) C dL_law_434 rfl ?_
  refine z_lcmp C dL_law_435 ?_
  refine z_if_eq (tgt := 441) C dL_law_436 (by decide) (fun _ => jend) (fun q => absurd (by rw [hr hk0]; exact lg_self _) q)
set_option maxHeartbeats 4000000 in
set_option maxRecDepth 100000 in
theorem s_law_bringSalt {p : Program} {l : Launch} {e : Env} {s : State} {m : MethodId} {below : List Frame} {meth : Method} {c : Code} {b : Nat} {D : va_G} {hh gg : Nat → Nat} {cI cZ cJ : ClassId} {o N : Nat} {xs : Nat → Int32} {cells slots t : Nat} {Q : State → Prop} {v v2 : S0} {u u2 : S1} {f f2 : Nat → Int64} {r k : Int32} {fr lo mc ms : Nat} (K : lC p s m c b D cI cZ cJ N xs) (ht : 4 * t + 4 ≤ N) (hfr : fr + 1 ≤ 12) (hlo : lo ≤ 400) (hc : cells + 1 ≤ 601024) (hs : slots + 6 ≤ 7293034) (hmc : mc ≤ 1) (hms : ms ≤ 6) (hA : zMT l yL_bringSalt wsL_bringSalt 8 140 mc ms [.ref (hh 0), .int (xs (4 * t + 1)), .ref o] (tyL cI cZ cJ) D (wX0 hh cI cZ v ++ wO o cJ f) (wX0 hh cI cZ v2 ++ wO o cJ f2) (some (.int k))) (hB : zM l yX1_bringSalt wsX1_bringSalt fr lo 0 0 [.ref (gg 0), .int (xs (4 * t + 1))] [(cI, .int)] D (wX1 gg cI u) (wX1 gg cI u2) (some (.int r))) (hk : rt u2 = k) (hr : k = 0 → f2 0 = r.toInt64) (kk : zG p l e room_1 s m #[.ref b] below meth c D 9 (aN s) (cells + 1) (slots + 6) Q 1557 [(0, .ref b), (1, .ref (hh 0)), (2, .ref (gg 0)), (3, .ref o), (4, .int (nI (4 * t)))] [] (wL hh gg cI cZ cJ o v2 f2 u2)) : zG p l e room_1 s m #[.ref b] below meth c D 9 (aN s) cells slots Q 444 [(0, .ref b), (1, .ref (hh 0)), (2, .ref (gg 0)), (3, .ref o), (4, .int (nI (4 * t)))] [] (wL hh gg cI cZ cJ o v f u) := by
  obtain ⟨C, ⟨hT, hN⟩, hX, hbl, hN2⟩ := K
  have hbA : ¬ aN s b := Nat.not_le.mpr hbl
  refine z_aload_n C 1 dL_law_444 rfl rfl ?_
  refine z_aload_n C 0 dL_law_445 rfl rfl ?_
  refine z_iload C 4 dL_law_446 rfl ?_
  refine z_iconst (v := 1) C dL_law_448 (by decide) ?_
  refine z_iadd C dL_law_449 ?_
  refine z_sld C hX hbl hbA (4 * t + 1) (nI_add (4 * t) 1) (by omega) (by omega) dL_law_450 ?_
  refine z_aload_n C 3 dL_law_451 rfl rfl ?_
  refine z_callT (w := (wX0 hh cI cZ v ++ wO o cJ f)) (w' := (wX0 hh cI cZ v2 ++ wO o cJ f2)) (w1 := ([] : va_W)) (w2 := wX1 gg cI u) (ws' := wL hh gg cI cZ cJ o v2 f2 u) (As := [.ref (hh 0), .int (xs (4 * t + 1)), .ref o]) (rest := []) (st' := [.int k]) (rv := some (.int k)) C hT hN hA (vx_cwSW 3 C.words gL_law_L_bringSalt rfl rfl rfl (by decide +kernel) ⟨(Nat.le_of_ble_eq_true rfl), (Nat.le_of_ble_eq_true rfl)⟩) [0, 1, 2] rfl rfl (Nat.le_of_ble_eq_true rfl) ⟨by show _ ≤ 601024; omega, by show _ ≤ 7293034; omega⟩ rfl rfl rfl rfl rfl dL_law_452 ?_
  refine z_istore (L' := [(5, .int k), (0, .ref b), (1, .ref (hh 0)), (2, .ref (gg 0)), (3, .ref o), (4, .int (nI (4 * t)))]) C dL_law_455 (by decide) rfl ?_
  refine z_aload_n C 3 dL_law_457 rfl rfl ?_
  refine z_aload_n C 1 dL_law_458 rfl rfl ?_
  refine z_iload C 5 dL_law_459 rfl ?_
  refine z_iconst (v := 1) C dL_law_461 (by decide) ?_
  refine z_iadd C dL_law_462 ?_
  refine z_sld C hX hbl hbA (4 * t + 1) (nI_add (4 * t) 1) (by omega) (by omega) dL_law_463 ?_
  refine z_callV (w := wX1 gg cI u) (w' := wX1 gg cI u2) (w1 := (wX0 hh cI cZ v2 ++ wO o cJ f2)) (w2 := ([] : va_W)) (ws' := wL hh gg cI cZ cJ o v2 f2 u2) (As := [.int (xs (4 * t + 1))]) (rest := []) (st' := [.int r]) (rv := some (.int r)) C hB (cwV 1 C.words gL_law_X1_bringSalt rfl rfl rfl (by decide +kernel) ⟨hfr, by show 8 + (_ + 11) + lo ≤ 440; omega⟩) (q0 := 0) (ci := 1) rfl rfl rfl [0] rfl rfl (Nat.le_of_ble_eq_true rfl) ⟨by show _ ≤ 601024; omega, by show _ ≤ 7293034; omega⟩ rfl rfl rfl rfl rfl dL_law_464 ?_
  refine z_istore (L' := [(6, .int r), (5, .int k), (0, .ref b), (1, .ref (hh 0)), (2, .ref (gg 0)), (3, .ref o), (4, .int (nI (4 * t)))]) C dL_law_467 (by decide) rfl ?_
  refine z_aload_n C 4 dL_law_469 rfl rfl ?_
  refine z_callV (w := wX1 gg cI u2) (w' := wX1 gg cI u2) (w1 := (wX0 hh cI cZ v2 ++ wO o cJ f2)) (w2 := ([] : va_W)) (ws' := wL hh gg cI cZ cJ o v2 f2 u2) (As := []) (rest := []) (st' := [.int (rt u2)]) (rv := some (.int (rt u2))) C (c_X1_thrown l D gg cI u2) (cwV 0 C.words gL_law_X1_thrown rfl rfl rfl (by decide +kernel) ⟨(Nat.le_of_ble_eq_true rfl), (Nat.le_of_ble_eq_true rfl)⟩) (q0 := 0) (ci := 1) rfl rfl rfl [0] rfl rfl (Nat.le_of_ble_eq_true rfl) ⟨by show _ ≤ 601024; omega, by show _ ≤ 7293034; omega⟩ rfl rfl rfl rfl rfl dL_law_470 ?_
  refine z_iload C 1 dL_law_473 rfl ?_
  refine z_icmp_eq (tgt := 480) C dL_law_475 (by decide) (fun _ => ?_) (fun q => absurd hk q)
  refine z_iload C 1 dL_law_480 rfl ?_
  have jend : zG p l e room_1 s m #[.ref b] below meth c D 9 (aN s) (cells + mc + 0 + 0) (slots + ms + 0 + 0) Q 497 [(6, .int r), (5, .int k), (0, .ref b), (1, .ref (hh 0)), (2, .ref (gg 0)), (3, .ref o), (4, .int (nI (4 * t)))] [] (wL hh gg cI cZ cJ o v2 f2 u2) := z_goto (tgt := 1557) C dL_law_497 (by decide) (z_sub (L' := [(0, .ref b), (1, .ref (hh 0)), (2, .ref (gg 0)), (3, .ref o), (4, .int (nI (4 * t)))]) [2, 3, 4, 5, 6] rfl (z_more (by omega) (by omega) kk))
  refine z_if_ne (tgt := 497) C dL_law_482 (by decide) (fun _ => jend) (fun hk0 => ?_)
  refine z_aload_n C 5 dL_law_485 rfl rfl ?_
  refine z_iconst (v := 0) C dL_law_486 (by decide) ?_
  refine z_lald (f := f2) C 8 2 rfl rfl 0 rfl (by decide) (by decide) dL_law_487 ?_
  refine z_iload C 0 dL_law_488 rfl ?_
  refine z_i2l (v := r.toInt64) C dL_law_490 rfl ?_
  refine z_lcmp C dL_law_491 ?_
  refine z_if_eq (tgt := 497) C dL_law_492 (by decide) (fun _ => jend) (fun q => absurd (by rw [hr hk0]; exact lg_self _) q)
set_option maxHeartbeats 4000000 in
set_option maxRecDepth 100000 in
theorem s_law_audit {p : Program} {l : Launch} {e : Env} {s : State} {m : MethodId} {below : List Frame} {meth : Method} {c : Code} {b : Nat} {D : va_G} {hh gg : Nat → Nat} {cI cZ cJ : ClassId} {o N : Nat} {xs : Nat → Int32} {cells slots t : Nat} {Q : State → Prop} {v v2 : S0} {u u2 : S1} {f : Nat → Int64} {r : Int32} {fr lo fr0 lo0 : Nat} (K : lC p s m c b D cI cZ cJ N xs) (hfr0 : fr0 + 1 ≤ 12) (hlo0 : lo0 ≤ 400) (hfr : fr + 1 ≤ 12) (hlo : lo ≤ 400) (hc : cells + 9 ≤ 601024) (hs : slots + 64 ≤ 7293034) (hA : zM l yX0_audit wsX0_audit fr0 lo0 0 0 [.ref (hh 0)] [(cI, .int), (cZ, .boolean)] D (wX0 hh cI cZ v) (wX0 hh cI cZ v2) (some (.int r))) (hB : zM l yX1_audit wsX1_audit fr lo 0 0 [.ref (gg 0)] [(cI, .int)] D (wX1 gg cI u) (wX1 gg cI u2) (some (.int r))) (kk : zG p l e room_1 s m #[.ref b] below meth c D 9 (aN s) (cells + 9) (slots + 64) Q 1557 [(0, .ref b), (1, .ref (hh 0)), (2, .ref (gg 0)), (3, .ref o), (4, .int (nI (4 * t)))] [] (wL hh gg cI cZ cJ o v2 f u2)) : zG p l e room_1 s m #[.ref b] below meth c D 9 (aN s) cells slots Q 500 [(0, .ref b), (1, .ref (hh 0)), (2, .ref (gg 0)), (3, .ref o), (4, .int (nI (4 * t)))] [] (wL hh gg cI cZ cJ o v f u) := by
  obtain ⟨C, ⟨hT, hN⟩, hX, hbl, hN2⟩ := K
  refine z_aload_n C 1 dL_law_500 rfl rfl ?_
  refine z_callV (w := wX0 hh cI cZ v) (w' := wX0 hh cI cZ v2) (w1 := ([] : va_W)) (w2 := (wO o cJ f ++ wX1 gg cI u)) (ws' := wL hh gg cI cZ cJ o v2 f u) (As := []) (rest := []) (st' := [.int r]) (rv := some (.int r)) C hA (cwV 0 C.words gL_law_X0_audit rfl rfl rfl (by decide +kernel) ⟨hfr0, by show 8 + (_ + 11) + lo0 ≤ 440; omega⟩) (q0 := 0) (ci := 0) rfl rfl rfl [0, 1] rfl rfl (Nat.le_of_ble_eq_true rfl) ⟨by show _ ≤ 601024; omega, by show _ ≤ 7293034; omega⟩ rfl rfl rfl rfl rfl dL_law_501 ?_
  refine z_aload_n C 2 dL_law_504 rfl rfl ?_
  refine z_callV (w := wX1 gg cI u) (w' := wX1 gg cI u2) (w1 := (wX0 hh cI cZ v2 ++ wO o cJ f)) (w2 := ([] : va_W)) (ws' := wL hh gg cI cZ cJ o v2 f u2) (As := []) (rest := [.int r]) (st' := .int r :: [.int r]) (rv := some (.int r)) C hB (cwV 0 C.words gL_law_X1_audit rfl rfl rfl (by decide +kernel) ⟨hfr, by show 8 + (_ + 11) + lo ≤ 440; omega⟩) (q0 := 0) (ci := 1) rfl rfl rfl [0] rfl rfl (Nat.le_of_ble_eq_true rfl) ⟨by show _ ≤ 601024; omega, by show _ ≤ 7293034; omega⟩ rfl rfl rfl rfl rfl dL_law_505 ?_
  exact z_icmp_eq (tgt := 1557) C dL_law_508 (by decide) (fun _ => z_more (by omega) (by omega) kk) (fun q => absurd rfl q)
set_option maxHeartbeats 4000000 in
set_option maxRecDepth 100000 in
theorem s_law_pass {p : Program} {l : Launch} {e : Env} {s : State} {m : MethodId} {below : List Frame} {meth : Method} {c : Code} {b : Nat} {D : va_G} {hh gg : Nat → Nat} {cI cZ cJ : ClassId} {o N : Nat} {xs : Nat → Int32} {cells slots t : Nat} {Q : State → Prop} {v v2 : S0} {u u2 : S1} {f f2 : Nat → Int64} {r k : Int32} {fr lo mc ms : Nat} (K : lC p s m c b D cI cZ cJ N xs) (ht : 4 * t + 4 ≤ N) (hfr : fr + 1 ≤ 12) (hlo : lo ≤ 400) (hc : cells + 1 ≤ 601024) (hs : slots + 6 ≤ 7293034) (hmc : mc ≤ 1) (hms : ms ≤ 6) (hA : zMT l yL_pass wsL_pass 8 140 mc ms [.ref (hh 0), .int (xs (4 * t + 1)), .ref o] (tyL cI cZ cJ) D (wX0 hh cI cZ v ++ wO o cJ f) (wX0 hh cI cZ v2 ++ wO o cJ f2) (some (.int k))) (hB : zM l yX1_pass wsX1_pass fr lo 0 0 [.ref (gg 0), .int (xs (4 * t + 1))] [(cI, .int)] D (wX1 gg cI u) (wX1 gg cI u2) (some (.int r))) (hk : rt u2 = k) (hr : k = 0 → f2 0 = r.toInt64) (kk : zG p l e room_1 s m #[.ref b] below meth c D 9 (aN s) (cells + 1) (slots + 6) Q 1557 [(0, .ref b), (1, .ref (hh 0)), (2, .ref (gg 0)), (3, .ref o), (4, .int (nI (4 * t)))] [] (wL hh gg cI cZ cJ o v2 f2 u2)) : zG p l e room_1 s m #[.ref b] below meth c D 9 (aN s) cells slots Q 513 [(0, .ref b), (1, .ref (hh 0)), (2, .ref (gg 0)), (3, .ref o), (4, .int (nI (4 * t)))] [] (wL hh gg cI cZ cJ o v f u) := by
  obtain ⟨C, ⟨hT, hN⟩, hX, hbl, hN2⟩ := K
  have hbA : ¬ aN s b := Nat.not_le.mpr hbl
  refine z_aload_n C 1 dL_law_513 rfl rfl ?_
  refine z_aload_n C 0 dL_law_514 rfl rfl ?_
  refine z_iload C 4 dL_law_515 rfl ?_
  refine z_iconst (v := 1) C dL_law_517 (by decide) ?_
  refine z_iadd C dL_law_518 ?_
  refine z_sld C hX hbl hbA (4 * t + 1) (nI_add (4 * t) 1) (by omega) (by omega) dL_law_519 ?_
  refine z_aload_n C 3 dL_law_520 rfl rfl ?_
  refine z_callT (w := (wX0 hh cI cZ v ++ wO o cJ f)) (w' := (wX0 hh cI cZ v2 ++ wO o cJ f2)) (w1 := ([] : va_W)) (w2 := wX1 gg cI u) (ws' := wL hh gg cI cZ cJ o v2 f2 u) (As := [.ref (hh 0), .int (xs (4 * t + 1)), .ref o]) (rest := []) (st' := [.int k]) (rv := some (.int k)) C hT hN hA (vx_cwSW 3 C.words gL_law_L_pass rfl rfl rfl (by decide +kernel) ⟨(Nat.le_of_ble_eq_true rfl), (Nat.le_of_ble_eq_true rfl)⟩) [0, 1, 2] rfl rfl (Nat.le_of_ble_eq_true rfl) ⟨by show _ ≤ 601024; omega, by show _ ≤ 7293034; omega⟩ rfl rfl rfl rfl rfl dL_law_521 ?_
  refine z_istore (L' := [(5, .int k), (0, .ref b), (1, .ref (hh 0)), (2, .ref (gg 0)), (3, .ref o), (4, .int (nI (4 * t)))]) C dL_law_524 (by decide) rfl ?_
  refine z_aload_n C 3 dL_law_526 rfl rfl ?_
  refine z_aload_n C 1 dL_law_527 rfl rfl ?_
  refine z_iload C 5 dL_law_528 rfl ?_
  refine z_iconst (v := 1) C dL_law_530 (by decide) ?_
  refine z_iadd C dL_law_531 ?_
  refine z_sld C hX hbl hbA (4 * t + 1) (nI_add (4 * t) 1) (by omega) (by omega) dL_law_532 ?_
  refine z_callV (w := wX1 gg cI u) (w' := wX1 gg cI u2) (w1 := (wX0 hh cI cZ v2 ++ wO o cJ f2)) (w2 := ([] : va_W)) (ws' := wL hh gg cI cZ cJ o v2 f2 u2) (As := [.int (xs (4 * t + 1))]) (rest := []) (st' := [.int r]) (rv := some (.int r)) C hB (cwV 1 C.words gL_law_X1_pass rfl rfl rfl (by decide +kernel) ⟨hfr, by show 8 + (_ + 11) + lo ≤ 440; omega⟩) (q0 := 0) (ci := 1) rfl rfl rfl [0] rfl rfl (Nat.le_of_ble_eq_true rfl) ⟨by show _ ≤ 601024; omega, by show _ ≤ 7293034; omega⟩ rfl rfl rfl rfl rfl dL_law_533 ?_
  refine z_istore (L' := [(6, .int r), (5, .int k), (0, .ref b), (1, .ref (hh 0)), (2, .ref (gg 0)), (3, .ref o), (4, .int (nI (4 * t)))]) C dL_law_536 (by decide) rfl ?_
  refine z_aload_n C 4 dL_law_538 rfl rfl ?_
  refine z_callV (w := wX1 gg cI u2) (w' := wX1 gg cI u2) (w1 := (wX0 hh cI cZ v2 ++ wO o cJ f2)) (w2 := ([] : va_W)) (ws' := wL hh gg cI cZ cJ o v2 f2 u2) (As := []) (rest := []) (st' := [.int (rt u2)]) (rv := some (.int (rt u2))) C (c_X1_thrown l D gg cI u2) (cwV 0 C.words gL_law_X1_thrown rfl rfl rfl (by decide +kernel) ⟨(Nat.le_of_ble_eq_true rfl), (Nat.le_of_ble_eq_true rfl)⟩) (q0 := 0) (ci := 1) rfl rfl rfl [0] rfl rfl (Nat.le_of_ble_eq_true rfl) ⟨by show _ ≤ 601024; omega, by show _ ≤ 7293034; omega⟩ rfl rfl rfl rfl rfl dL_law_539 ?_
  refine z_iload C 1 dL_law_542 rfl ?_
  refine z_icmp_eq (tgt := 549) C dL_law_544 (by decide) (fun _ => ?_) (fun q => absurd hk q)
  refine z_iload C 1 dL_law_549 rfl ?_
  have jend : zG p l e room_1 s m #[.ref b] below meth c D 9 (aN s) (cells + mc + 0 + 0) (slots + ms + 0 + 0) Q 566 [(6, .int r), (5, .int k), (0, .ref b), (1, .ref (hh 0)), (2, .ref (gg 0)), (3, .ref o), (4, .int (nI (4 * t)))] [] (wL hh gg cI cZ cJ o v2 f2 u2) := z_goto (tgt := 1557) C dL_law_566 (by decide) (z_sub (L' := [(0, .ref b), (1, .ref (hh 0)), (2, .ref (gg 0)), (3, .ref o), (4, .int (nI (4 * t)))]) [2, 3, 4, 5, 6] rfl (z_more (by omega) (by omega) kk))
  refine z_if_ne (tgt := 566) C dL_law_551 (by decide) (fun _ => jend) (fun hk0 => ?_)
  refine z_aload_n C 5 dL_law_554 rfl rfl ?_
  refine z_iconst (v := 0) C dL_law_555 (by decide) ?_
  refine z_lald (f := f2) C 8 2 rfl rfl 0 rfl (by decide) (by decide) dL_law_556 ?_
  refine z_iload C 0 dL_law_557 rfl ?_
  refine z_i2l (v := r.toInt64) C dL_law_559 rfl ?_
  refine z_lcmp C dL_law_560 ?_
  refine z_if_eq (tgt := 566) C dL_law_561 (by decide) (fun _ => jend) (fun q => absurd (by rw [hr hk0]; exact lg_self _) q)
set_option maxHeartbeats 4000000 in
set_option maxRecDepth 100000 in
theorem s_law_day {p : Program} {l : Launch} {e : Env} {s : State} {m : MethodId} {below : List Frame} {meth : Method} {c : Code} {b : Nat} {D : va_G} {hh gg : Nat → Nat} {cI cZ cJ : ClassId} {o N : Nat} {xs : Nat → Int32} {cells slots t : Nat} {Q : State → Prop} {v v2 : S0} {u u2 : S1} {f : Nat → Int64} {r : Int32} {fr lo fr0 lo0 : Nat} (K : lC p s m c b D cI cZ cJ N xs) (hfr0 : fr0 + 1 ≤ 12) (hlo0 : lo0 ≤ 400) (hfr : fr + 1 ≤ 12) (hlo : lo ≤ 400) (hc : cells + 9 ≤ 601024) (hs : slots + 64 ≤ 7293034) (hA : zM l yX0_day wsX0_day fr0 lo0 0 0 [.ref (hh 0)] [(cI, .int), (cZ, .boolean)] D (wX0 hh cI cZ v) (wX0 hh cI cZ v2) (some (.int r))) (hB : zM l yX1_day wsX1_day fr lo 0 0 [.ref (gg 0)] [(cI, .int)] D (wX1 gg cI u) (wX1 gg cI u2) (some (.int r))) (kk : zG p l e room_1 s m #[.ref b] below meth c D 9 (aN s) (cells + 9) (slots + 64) Q 1557 [(0, .ref b), (1, .ref (hh 0)), (2, .ref (gg 0)), (3, .ref o), (4, .int (nI (4 * t)))] [] (wL hh gg cI cZ cJ o v2 f u2)) : zG p l e room_1 s m #[.ref b] below meth c D 9 (aN s) cells slots Q 569 [(0, .ref b), (1, .ref (hh 0)), (2, .ref (gg 0)), (3, .ref o), (4, .int (nI (4 * t)))] [] (wL hh gg cI cZ cJ o v f u) := by
  obtain ⟨C, ⟨hT, hN⟩, hX, hbl, hN2⟩ := K
  refine z_aload_n C 1 dL_law_569 rfl rfl ?_
  refine z_callV (w := wX0 hh cI cZ v) (w' := wX0 hh cI cZ v2) (w1 := ([] : va_W)) (w2 := (wO o cJ f ++ wX1 gg cI u)) (ws' := wL hh gg cI cZ cJ o v2 f u) (As := []) (rest := []) (st' := [.int r]) (rv := some (.int r)) C hA (cwV 0 C.words gL_law_X0_day rfl rfl rfl (by decide +kernel) ⟨hfr0, by show 8 + (_ + 11) + lo0 ≤ 440; omega⟩) (q0 := 0) (ci := 0) rfl rfl rfl [0, 1] rfl rfl (Nat.le_of_ble_eq_true rfl) ⟨by show _ ≤ 601024; omega, by show _ ≤ 7293034; omega⟩ rfl rfl rfl rfl rfl dL_law_570 ?_
  refine z_aload_n C 2 dL_law_573 rfl rfl ?_
  refine z_callV (w := wX1 gg cI u) (w' := wX1 gg cI u2) (w1 := (wX0 hh cI cZ v2 ++ wO o cJ f)) (w2 := ([] : va_W)) (ws' := wL hh gg cI cZ cJ o v2 f u2) (As := []) (rest := [.int r]) (st' := .int r :: [.int r]) (rv := some (.int r)) C hB (cwV 0 C.words gL_law_X1_day rfl rfl rfl (by decide +kernel) ⟨hfr, by show 8 + (_ + 11) + lo ≤ 440; omega⟩) (q0 := 0) (ci := 1) rfl rfl rfl [0] rfl rfl (Nat.le_of_ble_eq_true rfl) ⟨by show _ ≤ 601024; omega, by show _ ≤ 7293034; omega⟩ rfl rfl rfl rfl rfl dL_law_574 ?_
  exact z_icmp_eq (tgt := 1557) C dL_law_577 (by decide) (fun _ => z_more (by omega) (by omega) kk) (fun q => absurd rfl q)
set_option maxHeartbeats 4000000 in
set_option maxRecDepth 100000 in
theorem s_law_members {p : Program} {l : Launch} {e : Env} {s : State} {m : MethodId} {below : List Frame} {meth : Method} {c : Code} {b : Nat} {D : va_G} {hh gg : Nat → Nat} {cI cZ cJ : ClassId} {o N : Nat} {xs : Nat → Int32} {cells slots t : Nat} {Q : State → Prop} {v v2 : S0} {u u2 : S1} {f : Nat → Int64} {r : Int32} {fr lo fr0 lo0 : Nat} (K : lC p s m c b D cI cZ cJ N xs) (hfr0 : fr0 + 1 ≤ 12) (hlo0 : lo0 ≤ 400) (hfr : fr + 1 ≤ 12) (hlo : lo ≤ 400) (hc : cells + 9 ≤ 601024) (hs : slots + 64 ≤ 7293034) (hA : zM l yX0_members wsX0_members fr0 lo0 0 0 [.ref (hh 0)] [(cI, .int), (cZ, .boolean)] D (wX0 hh cI cZ v) (wX0 hh cI cZ v2) (some (.int r))) (hB : zM l yX1_members wsX1_members fr lo 0 0 [.ref (gg 0)] [(cI, .int)] D (wX1 gg cI u) (wX1 gg cI u2) (some (.int r))) (kk : zG p l e room_1 s m #[.ref b] below meth c D 9 (aN s) (cells + 9) (slots + 64) Q 1557 [(0, .ref b), (1, .ref (hh 0)), (2, .ref (gg 0)), (3, .ref o), (4, .int (nI (4 * t)))] [] (wL hh gg cI cZ cJ o v2 f u2)) : zG p l e room_1 s m #[.ref b] below meth c D 9 (aN s) cells slots Q 582 [(0, .ref b), (1, .ref (hh 0)), (2, .ref (gg 0)), (3, .ref o), (4, .int (nI (4 * t)))] [] (wL hh gg cI cZ cJ o v f u) := by
  obtain ⟨C, ⟨hT, hN⟩, hX, hbl, hN2⟩ := K
  refine z_aload_n C 1 dL_law_582 rfl rfl ?_
  refine z_callV (w := wX0 hh cI cZ v) (w' := wX0 hh cI cZ v2) (w1 := ([] : va_W)) (w2 := (wO o cJ f ++ wX1 gg cI u)) (ws' := wL hh gg cI cZ cJ o v2 f u) (As := []) (rest := []) (st' := [.int r]) (rv := some (.int r)) C hA (cwV 0 C.words gL_law_X0_members rfl rfl rfl (by decide +kernel) ⟨hfr0, by show 8 + (_ + 11) + lo0 ≤ 440; omega⟩) (q0 := 0) (ci := 0) rfl rfl rfl [0, 1] rfl rfl (Nat.le_of_ble_eq_true rfl) ⟨by show _ ≤ 601024; omega, by show _ ≤ 7293034; omega⟩ rfl rfl rfl rfl rfl dL_law_583 ?_
  refine z_aload_n C 2 dL_law_586 rfl rfl ?_
  refine z_callV (w := wX1 gg cI u) (w' := wX1 gg cI u2) (w1 := (wX0 hh cI cZ v2 ++ wO o cJ f)) (w2 := ([] : va_W)) (ws' := wL hh gg cI cZ cJ o v2 f u2) (As := []) (rest := [.int r]) (st' := .int r :: [.int r]) (rv := some (.int r)) C hB (cwV 0 C.words gL_law_X1_members rfl rfl rfl (by decide +kernel) ⟨hfr, by show 8 + (_ + 11) + lo ≤ 440; omega⟩) (q0 := 0) (ci := 1) rfl rfl rfl [0] rfl rfl (Nat.le_of_ble_eq_true rfl) ⟨by show _ ≤ 601024; omega, by show _ ≤ 7293034; omega⟩ rfl rfl rfl rfl rfl dL_law_587 ?_
  exact z_icmp_eq (tgt := 1557) C dL_law_590 (by decide) (fun _ => z_more (by omega) (by omega) kk) (fun q => absurd rfl q)
set_option maxHeartbeats 4000000 in
set_option maxRecDepth 100000 in
theorem s_law_luckOf {p : Program} {l : Launch} {e : Env} {s : State} {m : MethodId} {below : List Frame} {meth : Method} {c : Code} {b : Nat} {D : va_G} {hh gg : Nat → Nat} {cI cZ cJ : ClassId} {o N : Nat} {xs : Nat → Int32} {cells slots t : Nat} {Q : State → Prop} {v v2 : S0} {u u2 : S1} {f f2 : Nat → Int64} {r k : Int32} {fr lo mc ms : Nat} (K : lC p s m c b D cI cZ cJ N xs) (ht : 4 * t + 4 ≤ N) (hfr : fr + 1 ≤ 12) (hlo : lo ≤ 400) (hc : cells + 1 ≤ 601024) (hs : slots + 6 ≤ 7293034) (hmc : mc ≤ 1) (hms : ms ≤ 6) (hA : zMT l yL_luckOf wsL_luckOf 8 140 mc ms [.ref (hh 0), .int (xs (4 * t + 1)), .ref o] (tyL cI cZ cJ) D (wX0 hh cI cZ v ++ wO o cJ f) (wX0 hh cI cZ v2 ++ wO o cJ f2) (some (.int k))) (hB : zM l yX1_luckOf wsX1_luckOf fr lo 0 0 [.ref (gg 0), .int (xs (4 * t + 1))] [(cI, .int)] D (wX1 gg cI u) (wX1 gg cI u2) (some (.int r))) (hk : rt u2 = k) (hr : k = 0 → f2 0 = r.toInt64) (kk : zG p l e room_1 s m #[.ref b] below meth c D 9 (aN s) (cells + 1) (slots + 6) Q 1557 [(0, .ref b), (1, .ref (hh 0)), (2, .ref (gg 0)), (3, .ref o), (4, .int (nI (4 * t)))] [] (wL hh gg cI cZ cJ o v2 f2 u2)) : zG p l e room_1 s m #[.ref b] below meth c D 9 (aN s) cells slots Q 595 [(0, .ref b), (1, .ref (hh 0)), (2, .ref (gg 0)), (3, .ref o), (4, .int (nI (4 * t)))] [] (wL hh gg cI cZ cJ o v f u) := by
  obtain ⟨C, ⟨hT, hN⟩, hX, hbl, hN2⟩ := K
  have hbA : ¬ aN s b := Nat.not_le.mpr hbl
  refine z_aload_n C 1 dL_law_595 rfl rfl ?_
  refine z_aload_n C 0 dL_law_596 rfl rfl ?_
  refine z_iload C 4 dL_law_597 rfl ?_
  refine z_iconst (v := 1) C dL_law_599 (by decide) ?_
  refine z_iadd C dL_law_600 ?_
  refine z_sld C hX hbl hbA (4 * t + 1) (nI_add (4 * t) 1) (by omega) (by omega) dL_law_601 ?_
  refine z_aload_n C 3 dL_law_602 rfl rfl ?_
  refine z_callT (w := (wX0 hh cI cZ v ++ wO o cJ f)) (w' := (wX0 hh cI cZ v2 ++ wO o cJ f2)) (w1 := ([] : va_W)) (w2 := wX1 gg cI u) (ws' := wL hh gg cI cZ cJ o v2 f2 u) (As := [.ref (hh 0), .int (xs (4 * t + 1)), .ref o]) (rest := []) (st' := [.int k]) (rv := some (.int k)) C hT hN hA (vx_cwSW 3 C.words gL_law_L_luckOf rfl rfl rfl (by decide +kernel) ⟨(Nat.le_of_ble_eq_true rfl), (Nat.le_of_ble_eq_true rfl)⟩) [0, 1, 2] rfl rfl (Nat.le_of_ble_eq_true rfl) ⟨by show _ ≤ 601024; omega, by show _ ≤ 7293034; omega⟩ rfl rfl rfl rfl rfl dL_law_603 ?_
  refine z_istore (L' := [(5, .int k), (0, .ref b), (1, .ref (hh 0)), (2, .ref (gg 0)), (3, .ref o), (4, .int (nI (4 * t)))]) C dL_law_606 (by decide) rfl ?_
  refine z_aload_n C 3 dL_law_608 rfl rfl ?_
  refine z_aload_n C 1 dL_law_609 rfl rfl ?_
  refine z_iload C 5 dL_law_610 rfl ?_
  refine z_iconst (v := 1) C dL_law_612 (by decide) ?_
  refine z_iadd C dL_law_613 ?_
  refine z_sld C hX hbl hbA (4 * t + 1) (nI_add (4 * t) 1) (by omega) (by omega) dL_law_614 ?_
  refine z_callV (w := wX1 gg cI u) (w' := wX1 gg cI u2) (w1 := (wX0 hh cI cZ v2 ++ wO o cJ f2)) (w2 := ([] : va_W)) (ws' := wL hh gg cI cZ cJ o v2 f2 u2) (As := [.int (xs (4 * t + 1))]) (rest := []) (st' := [.int r]) (rv := some (.int r)) C hB (cwV 1 C.words gL_law_X1_luckOf rfl rfl rfl (by decide +kernel) ⟨hfr, by show 8 + (_ + 11) + lo ≤ 440; omega⟩) (q0 := 0) (ci := 1) rfl rfl rfl [0] rfl rfl (Nat.le_of_ble_eq_true rfl) ⟨by show _ ≤ 601024; omega, by show _ ≤ 7293034; omega⟩ rfl rfl rfl rfl rfl dL_law_615 ?_
  refine z_istore (L' := [(6, .int r), (5, .int k), (0, .ref b), (1, .ref (hh 0)), (2, .ref (gg 0)), (3, .ref o), (4, .int (nI (4 * t)))]) C dL_law_618 (by decide) rfl ?_
  refine z_aload_n C 4 dL_law_620 rfl rfl ?_
  refine z_callV (w := wX1 gg cI u2) (w' := wX1 gg cI u2) (w1 := (wX0 hh cI cZ v2 ++ wO o cJ f2)) (w2 := ([] : va_W)) (ws' := wL hh gg cI cZ cJ o v2 f2 u2) (As := []) (rest := []) (st' := [.int (rt u2)]) (rv := some (.int (rt u2))) C (c_X1_thrown l D gg cI u2) (cwV 0 C.words gL_law_X1_thrown rfl rfl rfl (by decide +kernel) ⟨(Nat.le_of_ble_eq_true rfl), (Nat.le_of_ble_eq_true rfl)⟩) (q0 := 0) (ci := 1) rfl rfl rfl [0] rfl rfl (Nat.le_of_ble_eq_true rfl) ⟨by show _ ≤ 601024; omega, by show _ ≤ 7293034; omega⟩ rfl rfl rfl rfl rfl dL_law_621 ?_
  refine z_iload C 1 dL_law_624 rfl ?_
  refine z_icmp_eq (tgt := 631) C dL_law_626 (by decide) (fun _ => ?_) (fun q => absurd hk q)
  refine z_iload C 1 dL_law_631 rfl ?_
  have jend : zG p l e room_1 s m #[.ref b] below meth c D 9 (aN s) (cells + mc + 0 + 0) (slots + ms + 0 + 0) Q 648 [(6, .int r), (5, .int k), (0, .ref b), (1, .ref (hh 0)), (2, .ref (gg 0)), (3, .ref o), (4, .int (nI (4 * t)))] [] (wL hh gg cI cZ cJ o v2 f2 u2) := z_goto (tgt := 1557) C dL_law_648 (by decide) (z_sub (L' := [(0, .ref b), (1, .ref (hh 0)), (2, .ref (gg 0)), (3, .ref o), (4, .int (nI (4 * t)))]) [2, 3, 4, 5, 6] rfl (z_more (by omega) (by omega) kk))
  refine z_if_ne (tgt := 648) C dL_law_633 (by decide) (fun _ => jend) (fun hk0 => ?_)
  refine z_aload_n C 5 dL_law_636 rfl rfl ?_
  refine z_iconst (v := 0) C dL_law_637 (by decide) ?_
  refine z_lald (f := f2) C 8 2 rfl rfl 0 rfl (by decide) (by decide) dL_law_638 ?_
  refine z_iload C 0 dL_law_639 rfl ?_
  refine z_i2l (v := r.toInt64) C dL_law_641 rfl ?_
  refine z_lcmp C dL_law_642 ?_
  refine z_if_eq (tgt := 648) C dL_law_643 (by decide) (fun _ => jend) (fun q => absurd (by rw [hr hk0]; exact lg_self _) q)
set_option maxHeartbeats 4000000 in
set_option maxRecDepth 100000 in
theorem s_law_arrearsOf {p : Program} {l : Launch} {e : Env} {s : State} {m : MethodId} {below : List Frame} {meth : Method} {c : Code} {b : Nat} {D : va_G} {hh gg : Nat → Nat} {cI cZ cJ : ClassId} {o N : Nat} {xs : Nat → Int32} {cells slots t : Nat} {Q : State → Prop} {v v2 : S0} {u u2 : S1} {f f2 : Nat → Int64} {r k : Int32} {fr lo mc ms : Nat} (K : lC p s m c b D cI cZ cJ N xs) (ht : 4 * t + 4 ≤ N) (hfr : fr + 1 ≤ 12) (hlo : lo ≤ 400) (hc : cells + 1 ≤ 601024) (hs : slots + 6 ≤ 7293034) (hmc : mc ≤ 1) (hms : ms ≤ 6) (hA : zMT l yL_arrearsOf wsL_arrearsOf 8 140 mc ms [.ref (hh 0), .int (xs (4 * t + 1)), .ref o] (tyL cI cZ cJ) D (wX0 hh cI cZ v ++ wO o cJ f) (wX0 hh cI cZ v2 ++ wO o cJ f2) (some (.int k))) (hB : zM l yX1_arrearsOf wsX1_arrearsOf fr lo 0 0 [.ref (gg 0), .int (xs (4 * t + 1))] [(cI, .int)] D (wX1 gg cI u) (wX1 gg cI u2) (some (.int r))) (hk : rt u2 = k) (hr : k = 0 → f2 0 = r.toInt64) (kk : zG p l e room_1 s m #[.ref b] below meth c D 9 (aN s) (cells + 1) (slots + 6) Q 1557 [(0, .ref b), (1, .ref (hh 0)), (2, .ref (gg 0)), (3, .ref o), (4, .int (nI (4 * t)))] [] (wL hh gg cI cZ cJ o v2 f2 u2)) : zG p l e room_1 s m #[.ref b] below meth c D 9 (aN s) cells slots Q 651 [(0, .ref b), (1, .ref (hh 0)), (2, .ref (gg 0)), (3, .ref o), (4, .int (nI (4 * t)))] [] (wL hh gg cI cZ cJ o v f u) := by
  obtain ⟨C, ⟨hT, hN⟩, hX, hbl, hN2⟩ := K
  have hbA : ¬ aN s b := Nat.not_le.mpr hbl
  refine z_aload_n C 1 dL_law_651 rfl rfl ?_
  refine z_aload_n C 0 dL_law_652 rfl rfl ?_
  refine z_iload C 4 dL_law_653 rfl ?_
  refine z_iconst (v := 1) C dL_law_655 (by decide) ?_
  refine z_iadd C dL_law_656 ?_
  refine z_sld C hX hbl hbA (4 * t + 1) (nI_add (4 * t) 1) (by omega) (by omega) dL_law_657 ?_
  refine z_aload_n C 3 dL_law_658 rfl rfl ?_
  refine z_callT (w := (wX0 hh cI cZ v ++ wO o cJ f)) (w' := (wX0 hh cI cZ v2 ++ wO o cJ f2)) (w1 := ([] : va_W)) (w2 := wX1 gg cI u) (ws' := wL hh gg cI cZ cJ o v2 f2 u) (As := [.ref (hh 0), .int (xs (4 * t + 1)), .ref o]) (rest := []) (st' := [.int k]) (rv := some (.int k)) C hT hN hA (vx_cwSW 3 C.words gL_law_L_arrearsOf rfl rfl rfl (by decide +kernel) ⟨(Nat.le_of_ble_eq_true rfl), (Nat.le_of_ble_eq_true rfl)⟩) [0, 1, 2] rfl rfl (Nat.le_of_ble_eq_true rfl) ⟨by show _ ≤ 601024; omega, by show _ ≤ 7293034; omega⟩ rfl rfl rfl rfl rfl dL_law_659 ?_
  refine z_istore (L' := [(5, .int k), (0, .ref b), (1, .ref (hh 0)), (2, .ref (gg 0)), (3, .ref o), (4, .int (nI (4 * t)))]) C dL_law_662 (by decide) rfl ?_
  refine z_aload_n C 3 dL_law_664 rfl rfl ?_
  refine z_aload_n C 1 dL_law_665 rfl rfl ?_
  refine z_iload C 5 dL_law_666 rfl ?_
  refine z_iconst (v := 1) C dL_law_668 (by decide) ?_
  refine z_iadd C dL_law_669 ?_
  refine z_sld C hX hbl hbA (4 * t + 1) (nI_add (4 * t) 1) (by omega) (by omega) dL_law_670 ?_
  refine z_callV (w := wX1 gg cI u) (w' := wX1 gg cI u2) (w1 := (wX0 hh cI cZ v2 ++ wO o cJ f2)) (w2 := ([] : va_W)) (ws' := wL hh gg cI cZ cJ o v2 f2 u2) (As := [.int (xs (4 * t + 1))]) (rest := []) (st' := [.int r]) (rv := some (.int r)) C hB (cwV 1 C.words gL_law_X1_arrearsOf rfl rfl rfl (by decide +kernel) ⟨hfr, by show 8 + (_ + 11) + lo ≤ 440; omega⟩) (q0 := 0) (ci := 1) rfl rfl rfl [0] rfl rfl (Nat.le_of_ble_eq_true rfl) ⟨by show _ ≤ 601024; omega, by show _ ≤ 7293034; omega⟩ rfl rfl rfl rfl rfl dL_law_671 ?_
  refine z_istore (L' := [(6, .int r), (5, .int k), (0, .ref b), (1, .ref (hh 0)), (2, .ref (gg 0)), (3, .ref o), (4, .int (nI (4 * t)))]) C dL_law_674 (by decide) rfl ?_
  refine z_aload_n C 4 dL_law_676 rfl rfl ?_
  refine z_callV (w := wX1 gg cI u2) (w' := wX1 gg cI u2) (w1 := (wX0 hh cI cZ v2 ++ wO o cJ f2)) (w2 := ([] : va_W)) (ws' := wL hh gg cI cZ cJ o v2 f2 u2) (As := []) (rest := []) (st' := [.int (rt u2)]) (rv := some (.int (rt u2))) C (c_X1_thrown l D gg cI u2) (cwV 0 C.words gL_law_X1_thrown rfl rfl rfl (by decide +kernel) ⟨(Nat.le_of_ble_eq_true rfl), (Nat.le_of_ble_eq_true rfl)⟩) (q0 := 0) (ci := 1) rfl rfl rfl [0] rfl rfl (Nat.le_of_ble_eq_true rfl) ⟨by show _ ≤ 601024; omega, by show _ ≤ 7293034; omega⟩ rfl rfl rfl rfl rfl dL_law_677 ?_
  refine z_iload C 1 dL_law_680 rfl ?_
  refine z_icmp_eq (tgt := 687) C dL_law_682 (by decide) (fun _ => ?_) (fun q => absurd hk q)
  refine z_iload C 1 dL_law_687 rfl ?_
  have jend : zG p l e room_1 s m #[.ref b] below meth c D 9 (aN s) (cells + mc + 0 + 0) (slots + ms + 0 + 0) Q 704 [(6, .int r), (5, .int k), (0, .ref b), (1, .ref (hh 0)), (2, .ref (gg 0)), (3, .ref o), (4, .int (nI (4 * t)))] [] (wL hh gg cI cZ cJ o v2 f2 u2) := z_goto (tgt := 1557) C dL_law_704 (by decide) (z_sub (L' := [(0, .ref b), (1, .ref (hh 0)), (2, .ref (gg 0)), (3, .ref o), (4, .int (nI (4 * t)))]) [2, 3, 4, 5, 6] rfl (z_more (by omega) (by omega) kk))
  refine z_if_ne (tgt := 704) C dL_law_689 (by decide) (fun _ => jend) (fun hk0 => ?_)
  refine z_aload_n C 5 dL_law_692 rfl rfl ?_
  refine z_iconst (v := 0) C dL_law_693 (by decide) ?_
  refine z_lald (f := f2) C 8 2 rfl rfl 0 rfl (by decide) (by decide) dL_law_694 ?_
  refine z_iload C 0 dL_law_695 rfl ?_
  refine z_i2l (v := r.toInt64) C dL_law_697 rfl ?_
  refine z_lcmp C dL_law_698 ?_
  refine z_if_eq (tgt := 704) C dL_law_699 (by decide) (fun _ => jend) (fun q => absurd (by rw [hr hk0]; exact lg_self _) q)
set_option maxHeartbeats 4000000 in
set_option maxRecDepth 100000 in
theorem s_law_lumpsOf {p : Program} {l : Launch} {e : Env} {s : State} {m : MethodId} {below : List Frame} {meth : Method} {c : Code} {b : Nat} {D : va_G} {hh gg : Nat → Nat} {cI cZ cJ : ClassId} {o N : Nat} {xs : Nat → Int32} {cells slots t : Nat} {Q : State → Prop} {v v2 : S0} {u u2 : S1} {f f2 : Nat → Int64} {r k : Int32} {fr lo mc ms : Nat} (K : lC p s m c b D cI cZ cJ N xs) (ht : 4 * t + 4 ≤ N) (hfr : fr + 1 ≤ 12) (hlo : lo ≤ 400) (hc : cells + 1 ≤ 601024) (hs : slots + 6 ≤ 7293034) (hmc : mc ≤ 1) (hms : ms ≤ 6) (hA : zMT l yL_lumpsOf wsL_lumpsOf 8 140 mc ms [.ref (hh 0), .int (xs (4 * t + 1)), .ref o] (tyL cI cZ cJ) D (wX0 hh cI cZ v ++ wO o cJ f) (wX0 hh cI cZ v2 ++ wO o cJ f2) (some (.int k))) (hB : zM l yX1_lumpsOf wsX1_lumpsOf fr lo 0 0 [.ref (gg 0), .int (xs (4 * t + 1))] [(cI, .int)] D (wX1 gg cI u) (wX1 gg cI u2) (some (.int r))) (hk : rt u2 = k) (hr : k = 0 → f2 0 = r.toInt64) (kk : zG p l e room_1 s m #[.ref b] below meth c D 9 (aN s) (cells + 1) (slots + 6) Q 1557 [(0, .ref b), (1, .ref (hh 0)), (2, .ref (gg 0)), (3, .ref o), (4, .int (nI (4 * t)))] [] (wL hh gg cI cZ cJ o v2 f2 u2)) : zG p l e room_1 s m #[.ref b] below meth c D 9 (aN s) cells slots Q 707 [(0, .ref b), (1, .ref (hh 0)), (2, .ref (gg 0)), (3, .ref o), (4, .int (nI (4 * t)))] [] (wL hh gg cI cZ cJ o v f u) := by
  obtain ⟨C, ⟨hT, hN⟩, hX, hbl, hN2⟩ := K
  have hbA : ¬ aN s b := Nat.not_le.mpr hbl
  refine z_aload_n C 1 dL_law_707 rfl rfl ?_
  refine z_aload_n C 0 dL_law_708 rfl rfl ?_
  refine z_iload C 4 dL_law_709 rfl ?_
  refine z_iconst (v := 1) C dL_law_711 (by decide) ?_
  refine z_iadd C dL_law_712 ?_
  refine z_sld C hX hbl hbA (4 * t + 1) (nI_add (4 * t) 1) (by omega) (by omega) dL_law_713 ?_
  refine z_aload_n C 3 dL_law_714 rfl rfl ?_
  refine z_callT (w := (wX0 hh cI cZ v ++ wO o cJ f)) (w' := (wX0 hh cI cZ v2 ++ wO o cJ f2)) (w1 := ([] : va_W)) (w2 := wX1 gg cI u) (ws' := wL hh gg cI cZ cJ o v2 f2 u) (As := [.ref (hh 0), .int (xs (4 * t + 1)), .ref o]) (rest := []) (st' := [.int k]) (rv := some (.int k)) C hT hN hA (vx_cwSW 3 C.words gL_law_L_lumpsOf rfl rfl rfl (by decide +kernel) ⟨(Nat.le_of_ble_eq_true rfl), (Nat.le_of_ble_eq_true rfl)⟩) [0, 1, 2] rfl rfl (Nat.le_of_ble_eq_true rfl) ⟨by show _ ≤ 601024; omega, by show _ ≤ 7293034; omega⟩ rfl rfl rfl rfl rfl dL_law_715 ?_
  refine z_istore (L' := [(5, .int k), (0, .ref b), (1, .ref (hh 0)), (2, .ref (gg 0)), (3, .ref o), (4, .int (nI (4 * t)))]) C dL_law_718 (by decide) rfl ?_
  refine z_aload_n C 3 dL_law_720 rfl rfl ?_
  refine z_aload_n C 1 dL_law_721 rfl rfl ?_
  refine z_iload C 5 dL_law_722 rfl ?_
  refine z_iconst (v := 1) C dL_law_724 (by decide) ?_
  refine z_iadd C dL_law_725 ?_
  refine z_sld C hX hbl hbA (4 * t + 1) (nI_add (4 * t) 1) (by omega) (by omega) dL_law_726 ?_
  refine z_callV (w := wX1 gg cI u) (w' := wX1 gg cI u2) (w1 := (wX0 hh cI cZ v2 ++ wO o cJ f2)) (w2 := ([] : va_W)) (ws' := wL hh gg cI cZ cJ o v2 f2 u2) (As := [.int (xs (4 * t + 1))]) (rest := []) (st' := [.int r]) (rv := some (.int r)) C hB (cwV 1 C.words gL_law_X1_lumpsOf rfl rfl rfl (by decide +kernel) ⟨hfr, by show 8 + (_ + 11) + lo ≤ 440; omega⟩) (q0 := 0) (ci := 1) rfl rfl rfl [0] rfl rfl (Nat.le_of_ble_eq_true rfl) ⟨by show _ ≤ 601024; omega, by show _ ≤ 7293034; omega⟩ rfl rfl rfl rfl rfl dL_law_727 ?_
  refine z_istore (L' := [(6, .int r), (5, .int k), (0, .ref b), (1, .ref (hh 0)), (2, .ref (gg 0)), (3, .ref o), (4, .int (nI (4 * t)))]) C dL_law_730 (by decide) rfl ?_
  refine z_aload_n C 4 dL_law_732 rfl rfl ?_
  refine z_callV (w := wX1 gg cI u2) (w' := wX1 gg cI u2) (w1 := (wX0 hh cI cZ v2 ++ wO o cJ f2)) (w2 := ([] : va_W)) (ws' := wL hh gg cI cZ cJ o v2 f2 u2) (As := []) (rest := []) (st' := [.int (rt u2)]) (rv := some (.int (rt u2))) C (c_X1_thrown l D gg cI u2) (cwV 0 C.words gL_law_X1_thrown rfl rfl rfl (by decide +kernel) ⟨(Nat.le_of_ble_eq_true rfl), (Nat.le_of_ble_eq_true rfl)⟩) (q0 := 0) (ci := 1) rfl rfl rfl [0] rfl rfl (Nat.le_of_ble_eq_true rfl) ⟨by show _ ≤ 601024; omega, by show _ ≤ 7293034; omega⟩ rfl rfl rfl rfl rfl dL_law_733 ?_
  refine z_iload C 1 dL_law_736 rfl ?_
  refine z_icmp_eq (tgt := 743) C dL_law_738 (by decide) (fun _ => ?_) (fun q => absurd hk q)
  refine z_iload C 1 dL_law_743 rfl ?_
  have jend : zG p l e room_1 s m #[.ref b] below meth c D 9 (aN s) (cells + mc + 0 + 0) (slots + ms + 0 + 0) Q 760 [(6, .int r), (5, .int k), (0, .ref b), (1, .ref (hh 0)), (2, .ref (gg 0)), (3, .ref o), (4, .int (nI (4 * t)))] [] (wL hh gg cI cZ cJ o v2 f2 u2) := z_goto (tgt := 1557) C dL_law_760 (by decide) (z_sub (L' := [(0, .ref b), (1, .ref (hh 0)), (2, .ref (gg 0)), (3, .ref o), (4, .int (nI (4 * t)))]) [2, 3, 4, 5, 6] rfl (z_more (by omega) (by omega) kk))
  refine z_if_ne (tgt := 760) C dL_law_745 (by decide) (fun _ => jend) (fun hk0 => ?_)
  refine z_aload_n C 5 dL_law_748 rfl rfl ?_
  refine z_iconst (v := 0) C dL_law_749 (by decide) ?_
  refine z_lald (f := f2) C 8 2 rfl rfl 0 rfl (by decide) (by decide) dL_law_750 ?_
  refine z_iload C 0 dL_law_751 rfl ?_
  refine z_i2l (v := r.toInt64) C dL_law_753 rfl ?_
  refine z_lcmp C dL_law_754 ?_
  refine z_if_eq (tgt := 760) C dL_law_755 (by decide) (fun _ => jend) (fun q => absurd (by rw [hr hk0]; exact lg_self _) q)
set_option maxHeartbeats 4000000 in
set_option maxRecDepth 100000 in
theorem s_law_dailyLoss {p : Program} {l : Launch} {e : Env} {s : State} {m : MethodId} {below : List Frame} {meth : Method} {c : Code} {b : Nat} {D : va_G} {hh gg : Nat → Nat} {cI cZ cJ : ClassId} {o N : Nat} {xs : Nat → Int32} {cells slots t : Nat} {Q : State → Prop} {v v2 : S0} {u u2 : S1} {f f2 : Nat → Int64} {r k : Int32} {fr lo mc ms : Nat} (K : lC p s m c b D cI cZ cJ N xs) (ht : 4 * t + 4 ≤ N) (hfr : fr + 1 ≤ 12) (hlo : lo ≤ 400) (hc : cells + 1 ≤ 601024) (hs : slots + 6 ≤ 7293034) (hmc : mc ≤ 1) (hms : ms ≤ 6) (hA : zMT l yL_dailyLoss wsL_dailyLoss 8 140 mc ms [.ref (hh 0), .int (xs (4 * t + 1)), .ref o] (tyL cI cZ cJ) D (wX0 hh cI cZ v ++ wO o cJ f) (wX0 hh cI cZ v2 ++ wO o cJ f2) (some (.int k))) (hB : zM l yX1_dailyLoss wsX1_dailyLoss fr lo 0 0 [.ref (gg 0), .int (xs (4 * t + 1))] [(cI, .int)] D (wX1 gg cI u) (wX1 gg cI u2) (some (.int r))) (hk : rt u2 = k) (hr : k = 0 → f2 0 = r.toInt64) (kk : zG p l e room_1 s m #[.ref b] below meth c D 9 (aN s) (cells + 1) (slots + 6) Q 1557 [(0, .ref b), (1, .ref (hh 0)), (2, .ref (gg 0)), (3, .ref o), (4, .int (nI (4 * t)))] [] (wL hh gg cI cZ cJ o v2 f2 u2)) : zG p l e room_1 s m #[.ref b] below meth c D 9 (aN s) cells slots Q 763 [(0, .ref b), (1, .ref (hh 0)), (2, .ref (gg 0)), (3, .ref o), (4, .int (nI (4 * t)))] [] (wL hh gg cI cZ cJ o v f u) := by
  obtain ⟨C, ⟨hT, hN⟩, hX, hbl, hN2⟩ := K
  have hbA : ¬ aN s b := Nat.not_le.mpr hbl
  refine z_aload_n C 1 dL_law_763 rfl rfl ?_
  refine z_aload_n C 0 dL_law_764 rfl rfl ?_
  refine z_iload C 4 dL_law_765 rfl ?_
  refine z_iconst (v := 1) C dL_law_767 (by decide) ?_
  refine z_iadd C dL_law_768 ?_
  refine z_sld C hX hbl hbA (4 * t + 1) (nI_add (4 * t) 1) (by omega) (by omega) dL_law_769 ?_
  refine z_aload_n C 3 dL_law_770 rfl rfl ?_
  refine z_callT (w := (wX0 hh cI cZ v ++ wO o cJ f)) (w' := (wX0 hh cI cZ v2 ++ wO o cJ f2)) (w1 := ([] : va_W)) (w2 := wX1 gg cI u) (ws' := wL hh gg cI cZ cJ o v2 f2 u) (As := [.ref (hh 0), .int (xs (4 * t + 1)), .ref o]) (rest := []) (st' := [.int k]) (rv := some (.int k)) C hT hN hA (vx_cwSW 3 C.words gL_law_L_dailyLoss rfl rfl rfl (by decide +kernel) ⟨(Nat.le_of_ble_eq_true rfl), (Nat.le_of_ble_eq_true rfl)⟩) [0, 1, 2] rfl rfl (Nat.le_of_ble_eq_true rfl) ⟨by show _ ≤ 601024; omega, by show _ ≤ 7293034; omega⟩ rfl rfl rfl rfl rfl dL_law_771 ?_
  refine z_istore (L' := [(5, .int k), (0, .ref b), (1, .ref (hh 0)), (2, .ref (gg 0)), (3, .ref o), (4, .int (nI (4 * t)))]) C dL_law_774 (by decide) rfl ?_
  refine z_aload_n C 3 dL_law_776 rfl rfl ?_
  refine z_aload_n C 1 dL_law_777 rfl rfl ?_
  refine z_iload C 5 dL_law_778 rfl ?_
  refine z_iconst (v := 1) C dL_law_780 (by decide) ?_
  refine z_iadd C dL_law_781 ?_
  refine z_sld C hX hbl hbA (4 * t + 1) (nI_add (4 * t) 1) (by omega) (by omega) dL_law_782 ?_
  refine z_callV (w := wX1 gg cI u) (w' := wX1 gg cI u2) (w1 := (wX0 hh cI cZ v2 ++ wO o cJ f2)) (w2 := ([] : va_W)) (ws' := wL hh gg cI cZ cJ o v2 f2 u2) (As := [.int (xs (4 * t + 1))]) (rest := []) (st' := [.int r]) (rv := some (.int r)) C hB (cwV 1 C.words gL_law_X1_dailyLoss rfl rfl rfl (by decide +kernel) ⟨hfr, by show 8 + (_ + 11) + lo ≤ 440; omega⟩) (q0 := 0) (ci := 1) rfl rfl rfl [0] rfl rfl (Nat.le_of_ble_eq_true rfl) ⟨by show _ ≤ 601024; omega, by show _ ≤ 7293034; omega⟩ rfl rfl rfl rfl rfl dL_law_783 ?_
  refine z_istore (L' := [(6, .int r), (5, .int k), (0, .ref b), (1, .ref (hh 0)), (2, .ref (gg 0)), (3, .ref o), (4, .int (nI (4 * t)))]) C dL_law_786 (by decide) rfl ?_
  refine z_aload_n C 4 dL_law_788 rfl rfl ?_
  refine z_callV (w := wX1 gg cI u2) (w' := wX1 gg cI u2) (w1 := (wX0 hh cI cZ v2 ++ wO o cJ f2)) (w2 := ([] : va_W)) (ws' := wL hh gg cI cZ cJ o v2 f2 u2) (As := []) (rest := []) (st' := [.int (rt u2)]) (rv := some (.int (rt u2))) C (c_X1_thrown l D gg cI u2) (cwV 0 C.words gL_law_X1_thrown rfl rfl rfl (by decide +kernel) ⟨(Nat.le_of_ble_eq_true rfl), (Nat.le_of_ble_eq_true rfl)⟩) (q0 := 0) (ci := 1) rfl rfl rfl [0] rfl rfl (Nat.le_of_ble_eq_true rfl) ⟨by show _ ≤ 601024; omega, by show _ ≤ 7293034; omega⟩ rfl rfl rfl rfl rfl dL_law_789 ?_
  refine z_iload C 1 dL_law_792 rfl ?_
  refine z_icmp_eq (tgt := 799) C dL_law_794 (by decide) (fun _ => ?_) (fun q => absurd hk q)
  refine z_iload C 1 dL_law_799 rfl ?_
  have jend : zG p l e room_1 s m #[.ref b] below meth c D 9 (aN s) (cells + mc + 0 + 0) (slots + ms + 0 + 0) Q 816 [(6, .int r), (5, .int k), (0, .ref b), (1, .ref (hh 0)), (2, .ref (gg 0)), (3, .ref o), (4, .int (nI (4 * t)))] [] (wL hh gg cI cZ cJ o v2 f2 u2) := z_goto (tgt := 1557) C dL_law_816 (by decide) (z_sub (L' := [(0, .ref b), (1, .ref (hh 0)), (2, .ref (gg 0)), (3, .ref o), (4, .int (nI (4 * t)))]) [2, 3, 4, 5, 6] rfl (z_more (by omega) (by omega) kk))
  refine z_if_ne (tgt := 816) C dL_law_801 (by decide) (fun _ => jend) (fun hk0 => ?_)
  refine z_aload_n C 5 dL_law_804 rfl rfl ?_
  refine z_iconst (v := 0) C dL_law_805 (by decide) ?_
  refine z_lald (f := f2) C 8 2 rfl rfl 0 rfl (by decide) (by decide) dL_law_806 ?_
  refine z_iload C 0 dL_law_807 rfl ?_
  refine z_i2l (v := r.toInt64) C dL_law_809 rfl ?_
  refine z_lcmp C dL_law_810 ?_
  refine z_if_eq (tgt := 816) C dL_law_811 (by decide) (fun _ => jend) (fun q => absurd (by rw [hr hk0]; exact lg_self _) q)
set_option maxHeartbeats 4000000 in
set_option maxRecDepth 100000 in
theorem s_law_luckiest {p : Program} {l : Launch} {e : Env} {s : State} {m : MethodId} {below : List Frame} {meth : Method} {c : Code} {b : Nat} {D : va_G} {hh gg : Nat → Nat} {cI cZ cJ : ClassId} {o N : Nat} {xs : Nat → Int32} {cells slots t : Nat} {Q : State → Prop} {v v2 : S0} {u u2 : S1} {f : Nat → Int64} {r : Int32} {fr lo fr0 lo0 : Nat} (K : lC p s m c b D cI cZ cJ N xs) (hfr0 : fr0 + 1 ≤ 12) (hlo0 : lo0 ≤ 400) (hfr : fr + 1 ≤ 12) (hlo : lo ≤ 400) (hc : cells + 9 ≤ 601024) (hs : slots + 64 ≤ 7293034) (hA : zM l yX0_luckiest wsX0_luckiest fr0 lo0 0 0 [.ref (hh 0)] [(cI, .int), (cZ, .boolean)] D (wX0 hh cI cZ v) (wX0 hh cI cZ v2) (some (.int r))) (hB : zM l yX1_luckiest wsX1_luckiest fr lo 0 0 [.ref (gg 0)] [(cI, .int)] D (wX1 gg cI u) (wX1 gg cI u2) (some (.int r))) (kk : zG p l e room_1 s m #[.ref b] below meth c D 9 (aN s) (cells + 9) (slots + 64) Q 1557 [(0, .ref b), (1, .ref (hh 0)), (2, .ref (gg 0)), (3, .ref o), (4, .int (nI (4 * t)))] [] (wL hh gg cI cZ cJ o v2 f u2)) : zG p l e room_1 s m #[.ref b] below meth c D 9 (aN s) cells slots Q 819 [(0, .ref b), (1, .ref (hh 0)), (2, .ref (gg 0)), (3, .ref o), (4, .int (nI (4 * t)))] [] (wL hh gg cI cZ cJ o v f u) := by
  obtain ⟨C, ⟨hT, hN⟩, hX, hbl, hN2⟩ := K
  refine z_aload_n C 1 dL_law_819 rfl rfl ?_
  refine z_callV (w := wX0 hh cI cZ v) (w' := wX0 hh cI cZ v2) (w1 := ([] : va_W)) (w2 := (wO o cJ f ++ wX1 gg cI u)) (ws' := wL hh gg cI cZ cJ o v2 f u) (As := []) (rest := []) (st' := [.int r]) (rv := some (.int r)) C hA (cwV 0 C.words gL_law_X0_luckiest rfl rfl rfl (by decide +kernel) ⟨hfr0, by show 8 + (_ + 11) + lo0 ≤ 440; omega⟩) (q0 := 0) (ci := 0) rfl rfl rfl [0, 1] rfl rfl (Nat.le_of_ble_eq_true rfl) ⟨by show _ ≤ 601024; omega, by show _ ≤ 7293034; omega⟩ rfl rfl rfl rfl rfl dL_law_820 ?_
  refine z_aload_n C 2 dL_law_823 rfl rfl ?_
  refine z_callV (w := wX1 gg cI u) (w' := wX1 gg cI u2) (w1 := (wX0 hh cI cZ v2 ++ wO o cJ f)) (w2 := ([] : va_W)) (ws' := wL hh gg cI cZ cJ o v2 f u2) (As := []) (rest := [.int r]) (st' := .int r :: [.int r]) (rv := some (.int r)) C hB (cwV 0 C.words gL_law_X1_luckiest rfl rfl rfl (by decide +kernel) ⟨hfr, by show 8 + (_ + 11) + lo ≤ 440; omega⟩) (q0 := 0) (ci := 1) rfl rfl rfl [0] rfl rfl (Nat.le_of_ble_eq_true rfl) ⟨by show _ ≤ 601024; omega, by show _ ≤ 7293034; omega⟩ rfl rfl rfl rfl rfl dL_law_824 ?_
  exact z_icmp_eq (tgt := 1557) C dL_law_827 (by decide) (fun _ => z_more (by omega) (by omega) kk) (fun q => absurd rfl q)
set_option maxHeartbeats 4000000 in
set_option maxRecDepth 100000 in
theorem s_law_allArrears {p : Program} {l : Launch} {e : Env} {s : State} {m : MethodId} {below : List Frame} {meth : Method} {c : Code} {b : Nat} {D : va_G} {hh gg : Nat → Nat} {cI cZ cJ : ClassId} {o N : Nat} {xs : Nat → Int32} {cells slots t : Nat} {Q : State → Prop} {v v2 : S0} {u u2 : S1} {f : Nat → Int64} {r : Int32} {fr lo fr0 lo0 : Nat} (K : lC p s m c b D cI cZ cJ N xs) (hfr0 : fr0 + 1 ≤ 12) (hlo0 : lo0 ≤ 400) (hfr : fr + 1 ≤ 12) (hlo : lo ≤ 400) (hc : cells + 9 ≤ 601024) (hs : slots + 64 ≤ 7293034) (hA : zM l yX0_allArrears wsX0_allArrears fr0 lo0 0 0 [.ref (hh 0)] [(cI, .int), (cZ, .boolean)] D (wX0 hh cI cZ v) (wX0 hh cI cZ v2) (some (.int r))) (hB : zM l yX1_allArrears wsX1_allArrears fr lo 0 0 [.ref (gg 0)] [(cI, .int)] D (wX1 gg cI u) (wX1 gg cI u2) (some (.int r))) (kk : zG p l e room_1 s m #[.ref b] below meth c D 9 (aN s) (cells + 9) (slots + 64) Q 1557 [(0, .ref b), (1, .ref (hh 0)), (2, .ref (gg 0)), (3, .ref o), (4, .int (nI (4 * t)))] [] (wL hh gg cI cZ cJ o v2 f u2)) : zG p l e room_1 s m #[.ref b] below meth c D 9 (aN s) cells slots Q 832 [(0, .ref b), (1, .ref (hh 0)), (2, .ref (gg 0)), (3, .ref o), (4, .int (nI (4 * t)))] [] (wL hh gg cI cZ cJ o v f u) := by
  obtain ⟨C, ⟨hT, hN⟩, hX, hbl, hN2⟩ := K
  refine z_aload_n C 1 dL_law_832 rfl rfl ?_
  refine z_callV (w := wX0 hh cI cZ v) (w' := wX0 hh cI cZ v2) (w1 := ([] : va_W)) (w2 := (wO o cJ f ++ wX1 gg cI u)) (ws' := wL hh gg cI cZ cJ o v2 f u) (As := []) (rest := []) (st' := [.int r]) (rv := some (.int r)) C hA (cwV 0 C.words gL_law_X0_allArrears rfl rfl rfl (by decide +kernel) ⟨hfr0, by show 8 + (_ + 11) + lo0 ≤ 440; omega⟩) (q0 := 0) (ci := 0) rfl rfl rfl [0, 1] rfl rfl (Nat.le_of_ble_eq_true rfl) ⟨by show _ ≤ 601024; omega, by show _ ≤ 7293034; omega⟩ rfl rfl rfl rfl rfl dL_law_833 ?_
  refine z_aload_n C 2 dL_law_836 rfl rfl ?_
  refine z_callV (w := wX1 gg cI u) (w' := wX1 gg cI u2) (w1 := (wX0 hh cI cZ v2 ++ wO o cJ f)) (w2 := ([] : va_W)) (ws' := wL hh gg cI cZ cJ o v2 f u2) (As := []) (rest := [.int r]) (st' := .int r :: [.int r]) (rv := some (.int r)) C hB (cwV 0 C.words gL_law_X1_allArrears rfl rfl rfl (by decide +kernel) ⟨hfr, by show 8 + (_ + 11) + lo ≤ 440; omega⟩) (q0 := 0) (ci := 1) rfl rfl rfl [0] rfl rfl (Nat.le_of_ble_eq_true rfl) ⟨by show _ ≤ 601024; omega, by show _ ≤ 7293034; omega⟩ rfl rfl rfl rfl rfl dL_law_837 ?_
  exact z_icmp_eq (tgt := 1557) C dL_law_840 (by decide) (fun _ => z_more (by omega) (by omega) kk) (fun q => absurd rfl q)
set_option maxHeartbeats 4000000 in
set_option maxRecDepth 100000 in
theorem s_law_clearMembers {p : Program} {l : Launch} {e : Env} {s : State} {m : MethodId} {below : List Frame} {meth : Method} {c : Code} {b : Nat} {D : va_G} {hh gg : Nat → Nat} {cI cZ cJ : ClassId} {o N : Nat} {xs : Nat → Int32} {cells slots t : Nat} {Q : State → Prop} {v v2 : S0} {u u2 : S1} {f : Nat → Int64} {r : Int32} {fr lo fr0 lo0 : Nat} (K : lC p s m c b D cI cZ cJ N xs) (hfr0 : fr0 + 1 ≤ 12) (hlo0 : lo0 ≤ 400) (hfr : fr + 1 ≤ 12) (hlo : lo ≤ 400) (hc : cells + 9 ≤ 601024) (hs : slots + 64 ≤ 7293034) (hA : zM l yX0_clearMembers wsX0_clearMembers fr0 lo0 0 0 [.ref (hh 0)] [(cI, .int), (cZ, .boolean)] D (wX0 hh cI cZ v) (wX0 hh cI cZ v2) (some (.int r))) (hB : zM l yX1_clearMembers wsX1_clearMembers fr lo 0 0 [.ref (gg 0)] [(cI, .int)] D (wX1 gg cI u) (wX1 gg cI u2) (some (.int r))) (kk : zG p l e room_1 s m #[.ref b] below meth c D 9 (aN s) (cells + 9) (slots + 64) Q 1557 [(0, .ref b), (1, .ref (hh 0)), (2, .ref (gg 0)), (3, .ref o), (4, .int (nI (4 * t)))] [] (wL hh gg cI cZ cJ o v2 f u2)) : zG p l e room_1 s m #[.ref b] below meth c D 9 (aN s) cells slots Q 845 [(0, .ref b), (1, .ref (hh 0)), (2, .ref (gg 0)), (3, .ref o), (4, .int (nI (4 * t)))] [] (wL hh gg cI cZ cJ o v f u) := by
  obtain ⟨C, ⟨hT, hN⟩, hX, hbl, hN2⟩ := K
  refine z_aload_n C 1 dL_law_845 rfl rfl ?_
  refine z_callV (w := wX0 hh cI cZ v) (w' := wX0 hh cI cZ v2) (w1 := ([] : va_W)) (w2 := (wO o cJ f ++ wX1 gg cI u)) (ws' := wL hh gg cI cZ cJ o v2 f u) (As := []) (rest := []) (st' := [.int r]) (rv := some (.int r)) C hA (cwV 0 C.words gL_law_X0_clearMembers rfl rfl rfl (by decide +kernel) ⟨hfr0, by show 8 + (_ + 11) + lo0 ≤ 440; omega⟩) (q0 := 0) (ci := 0) rfl rfl rfl [0, 1] rfl rfl (Nat.le_of_ble_eq_true rfl) ⟨by show _ ≤ 601024; omega, by show _ ≤ 7293034; omega⟩ rfl rfl rfl rfl rfl dL_law_846 ?_
  refine z_aload_n C 2 dL_law_849 rfl rfl ?_
  refine z_callV (w := wX1 gg cI u) (w' := wX1 gg cI u2) (w1 := (wX0 hh cI cZ v2 ++ wO o cJ f)) (w2 := ([] : va_W)) (ws' := wL hh gg cI cZ cJ o v2 f u2) (As := []) (rest := [.int r]) (st' := .int r :: [.int r]) (rv := some (.int r)) C hB (cwV 0 C.words gL_law_X1_clearMembers rfl rfl rfl (by decide +kernel) ⟨hfr, by show 8 + (_ + 11) + lo ≤ 440; omega⟩) (q0 := 0) (ci := 1) rfl rfl rfl [0] rfl rfl (Nat.le_of_ble_eq_true rfl) ⟨by show _ ≤ 601024; omega, by show _ ≤ 7293034; omega⟩ rfl rfl rfl rfl rfl dL_law_850 ?_
  exact z_icmp_eq (tgt := 1557) C dL_law_853 (by decide) (fun _ => z_more (by omega) (by omega) kk) (fun q => absurd rfl q)
set_option maxHeartbeats 4000000 in
set_option maxRecDepth 100000 in
theorem s_law_salt {p : Program} {l : Launch} {e : Env} {s : State} {m : MethodId} {below : List Frame} {meth : Method} {c : Code} {b : Nat} {D : va_G} {hh gg : Nat → Nat} {cI cZ cJ : ClassId} {o N : Nat} {xs : Nat → Int32} {cells slots t : Nat} {Q : State → Prop} {v v2 : S0} {u u2 : S1} {f : Nat → Int64} {r : Int32} {fr lo fr0 lo0 : Nat} (K : lC p s m c b D cI cZ cJ N xs) (hfr0 : fr0 + 1 ≤ 12) (hlo0 : lo0 ≤ 400) (hfr : fr + 1 ≤ 12) (hlo : lo ≤ 400) (hc : cells + 9 ≤ 601024) (hs : slots + 64 ≤ 7293034) (hA : zM l yX0_salt wsX0_salt fr0 lo0 0 0 [.ref (hh 0)] [(cI, .int), (cZ, .boolean)] D (wX0 hh cI cZ v) (wX0 hh cI cZ v2) (some (.int r))) (hB : zM l yX1_salt wsX1_salt fr lo 0 0 [.ref (gg 0)] [(cI, .int)] D (wX1 gg cI u) (wX1 gg cI u2) (some (.int r))) (kk : zG p l e room_1 s m #[.ref b] below meth c D 9 (aN s) (cells + 9) (slots + 64) Q 1557 [(0, .ref b), (1, .ref (hh 0)), (2, .ref (gg 0)), (3, .ref o), (4, .int (nI (4 * t)))] [] (wL hh gg cI cZ cJ o v2 f u2)) : zG p l e room_1 s m #[.ref b] below meth c D 9 (aN s) cells slots Q 858 [(0, .ref b), (1, .ref (hh 0)), (2, .ref (gg 0)), (3, .ref o), (4, .int (nI (4 * t)))] [] (wL hh gg cI cZ cJ o v f u) := by
  obtain ⟨C, ⟨hT, hN⟩, hX, hbl, hN2⟩ := K
  refine z_aload_n C 1 dL_law_858 rfl rfl ?_
  refine z_callV (w := wX0 hh cI cZ v) (w' := wX0 hh cI cZ v2) (w1 := ([] : va_W)) (w2 := (wO o cJ f ++ wX1 gg cI u)) (ws' := wL hh gg cI cZ cJ o v2 f u) (As := []) (rest := []) (st' := [.int r]) (rv := some (.int r)) C hA (cwV 0 C.words gL_law_X0_salt rfl rfl rfl (by decide +kernel) ⟨hfr0, by show 8 + (_ + 11) + lo0 ≤ 440; omega⟩) (q0 := 0) (ci := 0) rfl rfl rfl [0, 1] rfl rfl (Nat.le_of_ble_eq_true rfl) ⟨by show _ ≤ 601024; omega, by show _ ≤ 7293034; omega⟩ rfl rfl rfl rfl rfl dL_law_859 ?_
  refine z_aload_n C 2 dL_law_862 rfl rfl ?_
  refine z_callV (w := wX1 gg cI u) (w' := wX1 gg cI u2) (w1 := (wX0 hh cI cZ v2 ++ wO o cJ f)) (w2 := ([] : va_W)) (ws' := wL hh gg cI cZ cJ o v2 f u2) (As := []) (rest := [.int r]) (st' := .int r :: [.int r]) (rv := some (.int r)) C hB (cwV 0 C.words gL_law_X1_salt rfl rfl rfl (by decide +kernel) ⟨hfr, by show 8 + (_ + 11) + lo ≤ 440; omega⟩) (q0 := 0) (ci := 1) rfl rfl rfl [0] rfl rfl (Nat.le_of_ble_eq_true rfl) ⟨by show _ ≤ 601024; omega, by show _ ≤ 7293034; omega⟩ rfl rfl rfl rfl rfl dL_law_863 ?_
  exact z_icmp_eq (tgt := 1557) C dL_law_866 (by decide) (fun _ => z_more (by omega) (by omega) kk) (fun q => absurd rfl q)
