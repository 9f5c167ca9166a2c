set_option maxHeartbeats 8000000 in
set_option maxRecDepth 100000 in
theorem c_X1_isSame (l : Launch) (D : va_G) (hh : Nat → Nat) (cI cZ cP : ClassId) (G : AG) (B : Nat) (v : S0) (hI : Inv B v) (hB : B < 2 ^ 20) : zMX l yX1_isSame wsX1_isSame 2 44 0 0 [.ref (gO G), .ref (hh 0)] [(cI, .int), (cZ, .boolean), (cP, .array .int)] D (wX0 hh cI cZ v ++ wS G cI cP v) zAA (fun _ : Unit => True) (fun _ => some (.int 1)) (fun _ => wX0 hh cI cZ v ++ wS G cI cP v) := by
  refine z_metX (cc := cX1_isSame) (maxL := 9) (ret := (some .boolean)) (by decide) rfl (Nat.le_of_ble_eq_true rfl) ?_
  intro p e s m args below meth c A hAw hAA C hr hlocks
  have hn8 := hI.n8
  have hk30 := hI.k30
  obtain ⟨d, hd, hdB⟩ := hI.day
  have ins : ∀ w ∈ u_ws RX1 TX1 5, w ∈ wsX1_isSame := by decide +kernel
  have wd0 : Cond.fieldLink RX1 29 "SaltOrderLaw$Sim" "day" "I" ∈ wsX1_isSame := by decide +kernel
  have wd1 : Cond.fieldLink RX1 15 "SaltOrderLaw$Sim" "members" "[[I" ∈ wsX1_isSame := by decide +kernel
  have wd2 : Cond.fieldLink RX1 19 "SaltOrderLaw$Sim" "ledger" "[[I" ∈ wsX1_isSame := by decide +kernel
  have wd3 : Cond.fieldLink RX1 7 "SaltOrderLaw$Sim" "salt" "I" ∈ wsX1_isSame := by decide +kernel
  have wd4 : Cond.fieldLink RX1 26 "SaltOrderLaw$Sim" "found" "I" ∈ wsX1_isSame := by decide +kernel
  refine z_sub (L' := [(0, .ref (gO G)), (1, .ref (hh 0))]) [0, 1] rfl ?_
  have lp358 : ∀ (dd i : Nat), i + dd = (6 - d % 7) → zG p l e ({ frames := 2, cells := 0, slots := 0, locals := 44 } : Room) s m args below meth c D 9 A 0 0 (MQ below (zQX (fun _ : Unit => True) (fun _ => some (.int 1)) (fun _ => wX0 hh cI cZ v ++ wS G cI cP v) D A) args s 0 0 A) 358 [(0, .ref (gO G)), (1, .ref (hh 0)), (2, .int (nI (xn v))), (3, .int ((lukN (xl v) (xn v)).1)), (4, .int (sumI (xa v) (xn v))), (5, .int (clrI (xa v) (xn v))), (6, .int (sumI (xl v) (xn v))), (7, .int (nI i))] [] ((wX0 hh cI cZ v) ++ (wS G cI cP v)) := by
    intro dd
    induction dd with
    | zero =>
      intro i hi
      have hi : i = (6 - d % 7) := by omega
      subst hi
      refine z_aload_n C 0 dX1_isSame_358 rfl rfl ?_
      refine z_sget (v := .int (xd v)) C ins 0 (by decide) rfl wd0 dX1_isSame_359 ?_
      refine z_iload C 7 dX1_isSame_362 rfl ?_
      refine z_iadd C dX1_isSame_364 ?_
      refine z_bipush (v := 7) C dX1_isSame_365 (by decide) ?_
      refine z_irem C dX1_isSame_367 (by decide) ?_
      refine z_bipush (v := 6) C dX1_isSame_368 (by decide) ?_
      refine z_icmp_eq (tgt := 379) C dX1_isSame_370 (by decide) (fun _ => ?_) (fun h9 => absurd (left_T hd (by omega)) h9)
      refine z_aload_n C 1 dX1_isSame_379 rfl rfl ?_
      refine z_callV (w := (wX0 hh cI cZ v)) (w' := (wX0 hh cI cZ v)) (w1 := ([] : va_W)) (w2 := (([] : va_W) ++ (wS G cI cP v))) (ws' := ((wX0 hh cI cZ v) ++ (wS G cI cP v))) (As := []) (rest := []) (st' := [.int ((lukN (xl v) (xn v)).1)]) (rv := some (.int ((lukN (xl v) (xn v)).1))) C (c_X0_luckiest l D hh cI cZ v (by omega)) (cwV 0 C.words gX1_isSame_X0_luckiest rfl rfl rfl (by decide +kernel) ⟨(Nat.le_of_ble_eq_true rfl), (Nat.le_of_ble_eq_true rfl)⟩) (q0 := 0) (ci := 0) rfl rfl rfl [0, 1] rfl rfl (Nat.le_of_ble_eq_true rfl) ⟨(Nat.le_of_ble_eq_true rfl), (Nat.le_of_ble_eq_true rfl)⟩ rfl rfl rfl rfl rfl dX1_isSame_380 ?_
      refine z_iload_n C 3 dX1_isSame_383 rfl rfl ?_
      refine z_icmp_ne (tgt := 440) C dX1_isSame_384 (by decide) (fun h9 => absurd h9 ((fun q => q rfl))) (fun _ => ?_)
      refine z_aload_n C 1 dX1_isSame_387 rfl rfl ?_
      refine z_callV (w := (wX0 hh cI cZ v)) (w' := (wX0 hh cI cZ v)) (w1 := ([] : va_W)) (w2 := (([] : va_W) ++ (wS G cI cP v))) (ws' := ((wX0 hh cI cZ v) ++ (wS G cI cP v))) (As := []) (rest := []) (st' := [.int (sumI (xa v) (xn v))]) (rv := some (.int (sumI (xa v) (xn v)))) C (c_X0_allArrears l D hh cI cZ v (by omega)) (cwV 0 C.words gX1_isSame_X0_allArrears rfl rfl rfl (by decide +kernel) ⟨(Nat.le_of_ble_eq_true rfl), (Nat.le_of_ble_eq_true rfl)⟩) (q0 := 0) (ci := 0) rfl rfl rfl [0, 1] rfl rfl (Nat.le_of_ble_eq_true rfl) ⟨(Nat.le_of_ble_eq_true rfl), (Nat.le_of_ble_eq_true rfl)⟩ rfl rfl rfl rfl rfl dX1_isSame_388 ?_
      refine z_iload C 4 dX1_isSame_391 rfl ?_
      refine z_icmp_ne (tgt := 440) C dX1_isSame_393 (by decide) (fun h9 => absurd h9 ((fun q => q rfl))) (fun _ => ?_)
      refine z_aload_n C 1 dX1_isSame_396 rfl rfl ?_
      refine z_callV (w := (wX0 hh cI cZ v)) (w' := (wX0 hh cI cZ v)) (w1 := ([] : va_W)) (w2 := (([] : va_W) ++ (wS G cI cP v))) (ws' := ((wX0 hh cI cZ v) ++ (wS G cI cP v))) (As := []) (rest := []) (st' := [.int (clrI (xa v) (xn v))]) (rv := some (.int (clrI (xa v) (xn v)))) C (c_X0_clearMembers l D hh cI cZ v (by omega)) (cwV 0 C.words gX1_isSame_X0_clearMembers rfl rfl rfl (by decide +kernel) ⟨(Nat.le_of_ble_eq_true rfl), (Nat.le_of_ble_eq_true rfl)⟩) (q0 := 0) (ci := 0) rfl rfl rfl [0, 1] rfl rfl (Nat.le_of_ble_eq_true rfl) ⟨(Nat.le_of_ble_eq_true rfl), (Nat.le_of_ble_eq_true rfl)⟩ rfl rfl rfl rfl rfl dX1_isSame_397 ?_
      refine z_iload C 5 dX1_isSame_400 rfl ?_
      refine z_icmp_ne (tgt := 440) C dX1_isSame_402 (by decide) (fun h9 => absurd h9 ((fun q => q rfl))) (fun _ => ?_)
      refine z_aload_n C 1 dX1_isSame_405 rfl rfl ?_
      refine z_callV (w := (wX0 hh cI cZ v)) (w' := (wX0 hh cI cZ v)) (w1 := ([] : va_W)) (w2 := (([] : va_W) ++ (wS G cI cP v))) (ws' := ((wX0 hh cI cZ v) ++ (wS G cI cP v))) (As := []) (rest := []) (st' := [.int (6 - (xd v - xd v / 7 * 7))]) (rv := some (.int (6 - (xd v - xd v / 7 * 7)))) C (c_X0_daysUntilAudit l D hh cI cZ v) (cwV 0 C.words gX1_isSame_X0_daysUntilAudit rfl rfl rfl (by decide +kernel) ⟨(Nat.le_of_ble_eq_true rfl), (Nat.le_of_ble_eq_true rfl)⟩) (q0 := 0) (ci := 0) rfl rfl rfl [0, 1] rfl rfl (Nat.le_of_ble_eq_true rfl) ⟨(Nat.le_of_ble_eq_true rfl), (Nat.le_of_ble_eq_true rfl)⟩ rfl rfl rfl rfl rfl dX1_isSame_406 ?_
      refine z_iload C 7 dX1_isSame_409 rfl ?_
      refine z_icmp_ne (tgt := 440) C dX1_isSame_411 (by decide) (fun h9 => absurd h9 ((fun q => q (left_eq hd (by omega))))) (fun _ => ?_)
      refine z_aload_n C 1 dX1_isSame_414 rfl rfl ?_
      refine z_callV (w := (wX0 hh cI cZ v)) (w' := (wX0 hh cI cZ v)) (w1 := ([] : va_W)) (w2 := (([] : va_W) ++ (wS G cI cP v))) (ws' := ((wX0 hh cI cZ v) ++ (wS G cI cP v))) (As := []) (rest := []) (st' := [.double (xmean v)]) (rv := some (.double (xmean v))) C (c_X0_meanLuck l D hh cI cZ v (by omega) (fun h0 => hI.nan h0)) (cwV 0 C.words gX1_isSame_X0_meanLuck rfl rfl rfl (by decide +kernel) ⟨(Nat.le_of_ble_eq_true rfl), (Nat.le_of_ble_eq_true rfl)⟩) (q0 := 0) (ci := 0) rfl rfl rfl [0, 1] rfl rfl (Nat.le_of_ble_eq_true rfl) ⟨(Nat.le_of_ble_eq_true rfl), (Nat.le_of_ble_eq_true rfl)⟩ rfl rfl rfl rfl rfl dX1_isSame_415 ?_
      refine z_iload_n C 2 dX1_isSame_418 rfl rfl ?_
      refine z_if_ne (tgt := 426) C dX1_isSame_419 (by decide) (fun c419 => ?_) (fun c419 => ?_)
      · skip
        refine z_iload C 6 dX1_isSame_426 rfl ?_
        refine z_i2d C dX1_isSame_428 ?_
        refine z_iload_n C 2 dX1_isSame_429 rfl rfl ?_
        refine z_i2d C dX1_isSame_430 ?_
        refine z_ddiv C dX1_isSame_431 (hI.nan c419) ?_
        refine z_dcmp C dX1_isSame_432 ?_
        refine z_if_ne (tgt := 440) C dX1_isSame_433 (by decide) (fun h9 => absurd h9 ((fun q => q (hI.cmpA c419)))) (fun _ => ?_)
        refine z_iconst (v := 1) C dX1_isSame_436 (by decide) ?_
        refine z_goto (tgt := 441) C dX1_isSame_437 (by decide) ?_
        exact z_zretX C () (by exact trivial) hr hlocks (Nat.le_of_ble_eq_true rfl) (Nat.le_of_ble_eq_true rfl) (by first | exact Or.inl rfl | exact Or.inr rfl) dX1_isSame_441 (by rfl) (by rfl)
      · skip
        refine z_dconst0 C dX1_isSame_422 ?_
        refine z_goto (tgt := 432) C dX1_isSame_423 (by decide) ?_
        refine z_dcmp C dX1_isSame_432 ?_
        refine z_if_ne (tgt := 440) C dX1_isSame_433 (by decide) (fun h9 => absurd h9 ((fun q => q (cmpB c419)))) (fun _ => ?_)
        refine z_iconst (v := 1) C dX1_isSame_436 (by decide) ?_
        refine z_goto (tgt := 441) C dX1_isSame_437 (by decide) ?_
        exact z_zretX C () (by exact trivial) hr hlocks (Nat.le_of_ble_eq_true rfl) (Nat.le_of_ble_eq_true rfl) (by first | exact Or.inl rfl | exact Or.inr rfl) dX1_isSame_441 (by rfl) (by rfl)
    | succ dd ih =>
      intro i hi
      refine z_aload_n C 0 dX1_isSame_358 rfl rfl ?_
      refine z_sget (v := .int (xd v)) C ins 0 (by decide) rfl wd0 dX1_isSame_359 ?_
      refine z_iload C 7 dX1_isSame_362 rfl ?_
      refine z_iadd C dX1_isSame_364 ?_
      refine z_bipush (v := 7) C dX1_isSame_365 (by decide) ?_
      refine z_irem C dX1_isSame_367 (by decide) ?_
      refine z_bipush (v := 6) C dX1_isSame_368 (by decide) ?_
      refine z_icmp_eq (tgt := 379) C dX1_isSame_370 (by decide) (fun h9 => absurd h9 (left_F hd (by omega) (by omega))) (fun _ => ?_)
      refine z_iinc (v := nI (i + 1)) (L' := [(7, .int (nI (i + 1))), (0, .ref (gO G)), (1, .ref (hh 0)), (2, .int (nI (xn v))), (3, .int ((lukN (xl v) (xn v)).1)), (4, .int (sumI (xa v) (xn v))), (5, .int (clrI (xa v) (xn v))), (6, .int (sumI (xl v) (xn v)))]) C 7 dX1_isSame_373 rfl (z_inc _) (by decide) rfl ?_
      refine z_goto (tgt := 358) C dX1_isSame_376 (by decide) ?_
      refine z_sub (L' := [(0, .ref (gO G)), (1, .ref (hh 0)), (2, .int (nI (xn v))), (3, .int ((lukN (xl v) (xn v)).1)), (4, .int (sumI (xa v) (xn v))), (5, .int (clrI (xa v) (xn v))), (6, .int (sumI (xl v) (xn v))), (7, .int (nI (i + 1)))]) [1, 2, 3, 4, 5, 6, 7, 0] rfl ?_
      exact ih (i + 1) (by omega)
  have lp178 : ∀ (dd i : Nat), i + dd = xn v → zG p l e ({ frames := 2, cells := 0, slots := 0, locals := 44 } : Room) s m args below meth c D 9 A 0 0 (MQ below (zQX (fun _ : Unit => True) (fun _ => some (.int 1)) (fun _ => wX0 hh cI cZ v ++ wS G cI cP v) D A) args s 0 0 A) 178 [(0, .ref (gO G)), (1, .ref (hh 0)), (2, .int (nI (xn v))), (3, .int ((lukN (xl v) i).1)), (4, .int (sumI (xa v) i)), (5, .int (clrI (xa v) i)), (6, .int (sumI (xl v) i)), (7, .int (nI i))] [] ((wX0 hh cI cZ v) ++ (wS G cI cP v)) := by
    intro dd
    induction dd with
    | zero =>
      intro i hi
      have hi : i = xn v := by omega
      subst hi
      refine z_iload C 7 dX1_isSame_178 rfl ?_
      refine z_iload_n C 2 dX1_isSame_180 rfl rfl ?_
      refine z_icmp_ge (tgt := 355) C dX1_isSame_181 (by decide) (fun _ => ?_) (fun h9 => absurd (nI_le (by omega) (by omega)) h9)
      refine z_iconst (v := 0) C dX1_isSame_355 (by decide) ?_
      refine z_istore (L' := [(7, .int 0), (0, .ref (gO G)), (1, .ref (hh 0)), (2, .int (nI (xn v))), (3, .int ((lukN (xl v) (xn v)).1)), (4, .int (sumI (xa v) (xn v))), (5, .int (clrI (xa v) (xn v))), (6, .int (sumI (xl v) (xn v)))]) C dX1_isSame_356 (by decide) rfl ?_
      refine z_sub (L' := [(0, .ref (gO G)), (1, .ref (hh 0)), (2, .int (nI (xn v))), (3, .int ((lukN (xl v) (xn v)).1)), (4, .int (sumI (xa v) (xn v))), (5, .int (clrI (xa v) (xn v))), (6, .int (sumI (xl v) (xn v))), (7, .int 0)]) [1, 2, 3, 4, 5, 6, 7, 0] rfl ?_
      exact lp358 (6 - d % 7) 0 (by omega)
    | succ dd ih =>
      intro i hi
      obtain ⟨l0, a, e0, h1, h2, h3, h4, h5, h6⟩ := hI.row (m := i) (by omega)
      refine z_iload C 7 dX1_isSame_178 rfl ?_
      refine z_iload_n C 2 dX1_isSame_180 rfl rfl ?_
      refine z_icmp_ge (tgt := 355) C dX1_isSame_181 (by decide) (fun h9 => absurd h9 (nI_ge (by omega) (by omega))) (fun _ => ?_)
      refine z_aload_n C 0 dX1_isSame_184 rfl rfl ?_
      refine z_sget (v := .ref (gA G)) C ins 3 (by decide) rfl wd1 dX1_isSame_185 ?_
      refine z_iload C 7 dX1_isSame_188 rfl ?_
      refine z_mrow C 2 rfl i rfl (show i < xn v from by omega) hn8 dX1_isSame_190 ?_
      refine z_astore (L' := [(8, .ref (gM G i)), (0, .ref (gO G)), (1, .ref (hh 0)), (2, .int (nI (xn v))), (3, .int ((lukN (xl v) i).1)), (4, .int (sumI (xa v) i)), (5, .int (clrI (xa v) i)), (6, .int (sumI (xl v) i)), (7, .int (nI i))]) C dX1_isSame_191 (by decide) rfl ?_
      refine z_aload_n C 2 dX1_isSame_193 rfl rfl ?_
      refine z_iload C 8 dX1_isSame_194 rfl ?_
      refine z_callV (w := (wX0 hh cI cZ v)) (w' := (wX0 hh cI cZ v)) (w1 := ([] : va_W)) (w2 := (([] : va_W) ++ (wS G cI cP v))) (ws' := ((wX0 hh cI cZ v) ++ (wS G cI cP v))) (As := [.int (nI i)]) (rest := []) (st' := [.int (xl v i)]) (rv := some (.int (xl v i))) C (c_X0_luckOf l D hh cI cZ v i (by omega) (by omega)) (cwV 1 C.words gX1_isSame_X0_luckOf rfl rfl rfl (by decide +kernel) ⟨(Nat.le_of_ble_eq_true rfl), (Nat.le_of_ble_eq_true rfl)⟩) (q0 := 0) (ci := 0) rfl rfl rfl [0, 1] rfl rfl (Nat.le_of_ble_eq_true rfl) ⟨(Nat.le_of_ble_eq_true rfl), (Nat.le_of_ble_eq_true rfl)⟩ rfl rfl rfl rfl rfl dX1_isSame_196 ?_
      refine z_aload C 0 dX1_isSame_199 rfl ?_
      refine z_iconst (v := 0) C dX1_isSame_201 (by decide) ?_
      refine z_mget (x := (xl v) i) C 0 rfl 0 rfl (by decide) (show i < xn v from by omega) rfl dX1_isSame_202 ?_
      refine z_icmp_ne (tgt := 290) C dX1_isSame_203 (by decide) (fun h9 => absurd h9 ((fun q => q rfl))) (fun _ => ?_)
      refine z_aload_n C 2 dX1_isSame_206 rfl rfl ?_
      refine z_iload C 8 dX1_isSame_207 rfl ?_
      refine z_callV (w := (wX0 hh cI cZ v)) (w' := (wX0 hh cI cZ v)) (w1 := ([] : va_W)) (w2 := (([] : va_W) ++ (wS G cI cP v))) (ws' := ((wX0 hh cI cZ v) ++ (wS G cI cP v))) (As := [.int (nI i)]) (rest := []) (st' := [.int (xa v i)]) (rv := some (.int (xa v i))) C (c_X0_arrearsOf l D hh cI cZ v i (by omega) (by omega)) (cwV 1 C.words gX1_isSame_X0_arrearsOf rfl rfl rfl (by decide +kernel) ⟨(Nat.le_of_ble_eq_true rfl), (Nat.le_of_ble_eq_true rfl)⟩) (q0 := 0) (ci := 0) rfl rfl rfl [0, 1] rfl rfl (Nat.le_of_ble_eq_true rfl) ⟨(Nat.le_of_ble_eq_true rfl), (Nat.le_of_ble_eq_true rfl)⟩ rfl rfl rfl rfl rfl dX1_isSame_209 ?_
      refine z_aload C 0 dX1_isSame_212 rfl ?_
      refine z_iconst (v := 1) C dX1_isSame_214 (by decide) ?_
      refine z_mget (x := (xa v) i) C 0 rfl 1 rfl (by decide) (show i < xn v from by omega) rfl dX1_isSame_215 ?_
      refine z_icmp_ne (tgt := 290) C dX1_isSame_216 (by decide) (fun h9 => absurd h9 ((fun q => q rfl))) (fun _ => ?_)
      refine z_aload_n C 2 dX1_isSame_219 rfl rfl ?_
      refine z_iload C 8 dX1_isSame_220 rfl ?_
      refine z_callV (w := (wX0 hh cI cZ v)) (w' := (wX0 hh cI cZ v)) (w1 := ([] : va_W)) (w2 := (([] : va_W) ++ (wS G cI cP v))) (ws' := ((wX0 hh cI cZ v) ++ (wS G cI cP v))) (As := [.int (nI i)]) (rest := []) (st' := [.int (xe v i)]) (rv := some (.int (xe v i))) C (c_X0_lumpsOf l D hh cI cZ v i (by omega) (by omega)) (cwV 1 C.words gX1_isSame_X0_lumpsOf rfl rfl rfl (by decide +kernel) ⟨(Nat.le_of_ble_eq_true rfl), (Nat.le_of_ble_eq_true rfl)⟩) (q0 := 0) (ci := 0) rfl rfl rfl [0, 1] rfl rfl (Nat.le_of_ble_eq_true rfl) ⟨(Nat.le_of_ble_eq_true rfl), (Nat.le_of_ble_eq_true rfl)⟩ rfl rfl rfl rfl rfl dX1_isSame_222 ?_
      refine z_aload C 0 dX1_isSame_225 rfl ?_
      refine z_iconst (v := 2) C dX1_isSame_227 (by decide) ?_
      refine z_mget (x := (xe v) i) C 0 rfl 2 rfl (by decide) (show i < xn v from by omega) rfl dX1_isSame_228 ?_
      refine z_icmp_ne (tgt := 290) C dX1_isSame_229 (by decide) (fun h9 => absurd h9 ((fun q => q rfl))) (fun _ => ?_)
      refine z_aload_n C 2 dX1_isSame_232 rfl rfl ?_
      refine z_iload C 8 dX1_isSame_233 rfl ?_
      refine z_callV (w := (wX0 hh cI cZ v)) (w' := (wX0 hh cI cZ v)) (w1 := ([] : va_W)) (w2 := (([] : va_W) ++ (wS G cI cP v))) (ws' := ((wX0 hh cI cZ v) ++ (wS G cI cP v))) (As := [.int (nI i)]) (rest := []) (st' := [.int (xloss v i)]) (rv := some (.int (xloss v i))) C (c_X0_dailyLoss l D hh cI cZ v i (by omega) (by omega)) (cwV 1 C.words gX1_isSame_X0_dailyLoss rfl rfl rfl (by decide +kernel) ⟨(Nat.le_of_ble_eq_true rfl), (Nat.le_of_ble_eq_true rfl)⟩) (q0 := 0) (ci := 0) rfl rfl rfl [0, 1] rfl rfl (Nat.le_of_ble_eq_true rfl) ⟨(Nat.le_of_ble_eq_true rfl), (Nat.le_of_ble_eq_true rfl)⟩ rfl rfl rfl rfl rfl dX1_isSame_235 ?_
      refine z_aload C 0 dX1_isSame_238 rfl ?_
      refine z_iconst (v := 2) C dX1_isSame_240 (by decide) ?_
      refine z_mget (x := (xe v) i) C 0 rfl 2 rfl (by decide) (show i < xn v from by omega) rfl dX1_isSame_241 ?_
      refine z_if_le (tgt := 249) C dX1_isSame_242 (by decide) (fun c242 => ?_) (fun c242 => ?_)
      · skip
        refine z_aload C 0 dX1_isSame_249 rfl ?_
        refine z_iconst (v := 1) C dX1_isSame_251 (by decide) ?_
        refine z_mget (x := (xa v) i) C 0 rfl 1 rfl (by decide) (show i < xn v from by omega) rfl dX1_isSame_252 ?_
        refine z_bipush (v := 10) C dX1_isSame_253 (by decide) ?_
        refine z_idiv C dX1_isSame_255 (by decide) ?_
        refine z_aload C 0 dX1_isSame_256 rfl ?_
        refine z_iconst (v := 1) C dX1_isSame_258 (by decide) ?_
        refine z_mget (x := (xa v) i) C 0 rfl 1 rfl (by decide) (show i < xn v from by omega) rfl dX1_isSame_259 ?_
        refine z_bipush (v := 10) C dX1_isSame_260 (by decide) ?_
        refine z_irem C dX1_isSame_262 (by decide) ?_
        refine z_if_le (tgt := 270) C dX1_isSame_263 (by decide) (fun c263 => ?_) (fun c263 => ?_)
        · skip
          refine z_iconst (v := 0) C dX1_isSame_270 (by decide) ?_
          refine z_iadd C dX1_isSame_271 ?_
          refine z_icmp_ne (tgt := 290) C dX1_isSame_272 (by decide) (fun h9 => absurd h9 ((fun q => q (s_loss1 h3 h4 c242 c263)))) (fun _ => ?_)
          refine z_aload_n C 2 dX1_isSame_275 rfl rfl ?_
          refine z_iload C 8 dX1_isSame_276 rfl ?_
          refine z_callV (w := (wX0 hh cI cZ v)) (w' := (wX0 hh cI cZ v)) (w1 := ([] : va_W)) (w2 := (([] : va_W) ++ (wS G cI cP v))) (ws' := ((wX0 hh cI cZ v) ++ (wS G cI cP v))) (As := [.int (nI i)]) (rest := []) (st' := [.int (xdebt v (nI i))]) (rv := some (.int (xdebt v (nI i)))) C (c_X0_arrearsByAudit l D hh cI cZ v i (by omega) (by omega) (by omega)) (cwV 1 C.words gX1_isSame_X0_arrearsByAudit rfl rfl rfl (by decide +kernel) ⟨(Nat.le_of_ble_eq_true rfl), (Nat.le_of_ble_eq_true rfl)⟩) (q0 := 0) (ci := 0) rfl rfl rfl [0, 1] rfl rfl (Nat.le_of_ble_eq_true rfl) ⟨(Nat.le_of_ble_eq_true rfl), (Nat.le_of_ble_eq_true rfl)⟩ rfl rfl rfl rfl rfl dX1_isSame_278 ?_
          refine z_aload_n C 1 dX1_isSame_281 rfl rfl ?_
          refine z_iload C 8 dX1_isSame_282 rfl ?_
          refine z_callVX (w := (wS G cI cP v)) (w1 := (wX0 hh cI cZ v)) (w2 := ([] : va_W)) (As := [.int (nI i)]) (rest := [.int (xdebt v (nI i))]) C (c_X1_adds l D cI cP G v (nI i) hk30) (hAA.call _) zAA.blind (cwV 1 C.words gX1_isSame_X1_adds rfl rfl rfl (by decide +kernel) ⟨(Nat.le_of_ble_eq_true rfl), (Nat.le_of_ble_eq_true rfl)⟩) (q0 := 0) (ci := 1) rfl rfl rfl [0, 2] rfl rfl (Nat.le_of_ble_eq_true rfl) ⟨(Nat.le_of_ble_eq_true rfl), (Nat.le_of_ble_eq_true rfl)⟩ (List.append_nil _).symm rfl dX1_isSame_284 (fun x9 _ => ?_)
          refine z_ws (List.append_nil _) ?_
          refine z_st (st' := [.int (xdebt v (nI i)), .int (xdebt v (nI i))]) rfl ?_
          refine z_icmp_eq (tgt := 292) C dX1_isSame_287 (by decide) (fun _ => ?_) (fun h9 => absurd (rfl) h9)
          refine z_iload_n C 4 dX1_isSame_292 rfl rfl ?_
          refine z_if_lt (tgt := 311) C dX1_isSame_293 (by decide) (fun c293 => ?_) (fun c293 => ?_)
          · skip
            refine z_iload C 8 dX1_isSame_311 rfl ?_
            refine z_istore_n (L' := [(3, .int (nI i)), (8, .ref (gM G i)), (0, .ref (gO G)), (1, .ref (hh 0)), (2, .int (nI (xn v))), (4, .int (sumI (xa v) i)), (5, .int (clrI (xa v) i)), (6, .int (sumI (xl v) i)), (7, .int (nI i))]) C dX1_isSame_313 rfl (by decide) rfl ?_
            refine z_iload C 5 dX1_isSame_314 rfl ?_
            refine z_aload C 1 dX1_isSame_316 rfl ?_
            refine z_iconst (v := 1) C dX1_isSame_318 (by decide) ?_
            refine z_mget (x := (xa v) i) C 0 rfl 1 rfl (by decide) (show i < xn v from by omega) rfl dX1_isSame_319 ?_
            refine z_iadd C dX1_isSame_320 ?_
            refine z_istore (L' := [(4, .int ((sumI (xa v) i) + ((xa v) i))), (3, .int (nI i)), (8, .ref (gM G i)), (0, .ref (gO G)), (1, .ref (hh 0)), (2, .int (nI (xn v))), (5, .int (clrI (xa v) i)), (6, .int (sumI (xl v) i)), (7, .int (nI i))]) C dX1_isSame_321 (by decide) rfl ?_
            refine z_iload C 6 dX1_isSame_323 rfl ?_
            refine z_aload C 2 dX1_isSame_325 rfl ?_
            refine z_iconst (v := 1) C dX1_isSame_327 (by decide) ?_
            refine z_mget (x := (xa v) i) C 0 rfl 1 rfl (by decide) (show i < xn v from by omega) rfl dX1_isSame_328 ?_
            refine z_if_ne (tgt := 336) C dX1_isSame_329 (by decide) (fun c329 => ?_) (fun c329 => ?_)
            · skip
              refine z_iconst (v := 0) C dX1_isSame_336 (by decide) ?_
              refine z_iadd C dX1_isSame_337 ?_
              refine z_top (y := clrI (xa v) (i + 1)) (show clrI (xa v) i + 0 = (if xa v i = 0 then clrI (xa v) i + 1 else clrI (xa v) i) from by rw [if_neg c329, Int32.add_zero]) ?_
              refine z_istore (L' := [(5, .int (clrI (xa v) (i + 1))), (4, .int ((sumI (xa v) i) + ((xa v) i))), (3, .int (nI i)), (8, .ref (gM G i)), (0, .ref (gO G)), (1, .ref (hh 0)), (2, .int (nI (xn v))), (6, .int (sumI (xl v) i)), (7, .int (nI i))]) C dX1_isSame_338 (by decide) rfl ?_
              refine z_iload C 7 dX1_isSame_340 rfl ?_
              refine z_aload C 3 dX1_isSame_342 rfl ?_
              refine z_iconst (v := 0) C dX1_isSame_344 (by decide) ?_
              refine z_mget (x := (xl v) i) C 0 rfl 0 rfl (by decide) (show i < xn v from by omega) rfl dX1_isSame_345 ?_
              refine z_iadd C dX1_isSame_346 ?_
              refine z_istore (L' := [(6, .int ((sumI (xl v) i) + ((xl v) i))), (5, .int (clrI (xa v) (i + 1))), (4, .int ((sumI (xa v) i) + ((xa v) i))), (3, .int (nI i)), (8, .ref (gM G i)), (0, .ref (gO G)), (1, .ref (hh 0)), (2, .int (nI (xn v))), (7, .int (nI i))]) C dX1_isSame_347 (by decide) rfl ?_
              refine z_iinc (v := nI (i + 1)) (L' := [(7, .int (nI (i + 1))), (6, .int ((sumI (xl v) i) + ((xl v) i))), (5, .int (clrI (xa v) (i + 1))), (4, .int ((sumI (xa v) i) + ((xa v) i))), (3, .int (nI i)), (8, .ref (gM G i)), (0, .ref (gO G)), (1, .ref (hh 0)), (2, .int (nI (xn v)))]) C 8 dX1_isSame_349 rfl (z_inc _) (by decide) rfl ?_
              refine z_goto (tgt := 178) C dX1_isSame_352 (by decide) ?_
              refine z_sub (L' := [(0, .ref (gO G)), (1, .ref (hh 0)), (2, .int (nI (xn v))), (3, .int (nI i)), (4, .int ((sumI (xa v) i) + ((xa v) i))), (5, .int (clrI (xa v) (i + 1))), (6, .int ((sumI (xl v) i) + ((xl v) i))), (7, .int (nI (i + 1)))]) [6, 7, 8, 4, 3, 2, 1, 0] rfl ?_
              exact (by have e9 := ih (i + 1) (by omega); rw [luk_lt hI (by omega) c293] at e9; exact e9)
            · skip
              refine z_iconst (v := 1) C dX1_isSame_332 (by decide) ?_
              refine z_goto (tgt := 337) C dX1_isSame_333 (by decide) ?_
              refine z_iadd C dX1_isSame_337 ?_
              refine z_top (y := clrI (xa v) (i + 1)) (show clrI (xa v) i + 1 = (if xa v i = 0 then clrI (xa v) i + 1 else clrI (xa v) i) from by rw [if_pos c329]) ?_
              refine z_istore (L' := [(5, .int (clrI (xa v) (i + 1))), (4, .int ((sumI (xa v) i) + ((xa v) i))), (3, .int (nI i)), (8, .ref (gM G i)), (0, .ref (gO G)), (1, .ref (hh 0)), (2, .int (nI (xn v))), (6, .int (sumI (xl v) i)), (7, .int (nI i))]) C dX1_isSame_338 (by decide) rfl ?_
              refine z_iload C 7 dX1_isSame_340 rfl ?_
              refine z_aload C 3 dX1_isSame_342 rfl ?_
              refine z_iconst (v := 0) C dX1_isSame_344 (by decide) ?_
              refine z_mget (x := (xl v) i) C 0 rfl 0 rfl (by decide) (show i < xn v from by omega) rfl dX1_isSame_345 ?_
              refine z_iadd C dX1_isSame_346 ?_
              refine z_istore (L' := [(6, .int ((sumI (xl v) i) + ((xl v) i))), (5, .int (clrI (xa v) (i + 1))), (4, .int ((sumI (xa v) i) + ((xa v) i))), (3, .int (nI i)), (8, .ref (gM G i)), (0, .ref (gO G)), (1, .ref (hh 0)), (2, .int (nI (xn v))), (7, .int (nI i))]) C dX1_isSame_347 (by decide) rfl ?_
              refine z_iinc (v := nI (i + 1)) (L' := [(7, .int (nI (i + 1))), (6, .int ((sumI (xl v) i) + ((xl v) i))), (5, .int (clrI (xa v) (i + 1))), (4, .int ((sumI (xa v) i) + ((xa v) i))), (3, .int (nI i)), (8, .ref (gM G i)), (0, .ref (gO G)), (1, .ref (hh 0)), (2, .int (nI (xn v)))]) C 8 dX1_isSame_349 rfl (z_inc _) (by decide) rfl ?_
              refine z_goto (tgt := 178) C dX1_isSame_352 (by decide) ?_
              refine z_sub (L' := [(0, .ref (gO G)), (1, .ref (hh 0)), (2, .int (nI (xn v))), (3, .int (nI i)), (4, .int ((sumI (xa v) i) + ((xa v) i))), (5, .int (clrI (xa v) (i + 1))), (6, .int ((sumI (xl v) i) + ((xl v) i))), (7, .int (nI (i + 1)))]) [6, 7, 8, 4, 3, 2, 1, 0] rfl ?_
              exact (by have e9 := ih (i + 1) (by omega); rw [luk_lt hI (by omega) c293] at e9; exact e9)
          · skip
            obtain ⟨b, hb1, hb2⟩ := luk_ge hI (i := i) (by omega) c293
            refine z_aload C 0 dX1_isSame_296 rfl ?_
            refine z_iconst (v := 0) C dX1_isSame_298 (by decide) ?_
            refine z_mget (x := (xl v) i) C 0 rfl 0 rfl (by decide) (show i < xn v from by omega) rfl dX1_isSame_299 ?_
            refine z_aload_n C 1 dX1_isSame_300 rfl rfl ?_
            refine z_sget (v := .ref (gA G)) C ins 3 (by decide) rfl wd1 dX1_isSame_301 ?_
            refine z_iload_n C 4 dX1_isSame_304 rfl rfl ?_
            refine z_mrow C 2 rfl b (congrArg Prod.fst hb2) (show b < xn v from by omega) hn8 dX1_isSame_305 ?_
            refine z_iconst (v := 0) C dX1_isSame_306 (by decide) ?_
            refine z_mget (x := (xl v) b) C 0 rfl 0 rfl (by decide) (show b < xn v from by omega) rfl dX1_isSame_307 ?_
            refine z_icmp_le (tgt := 314) C dX1_isSame_308 (by decide) (fun c308 => ?_) (fun c308 => ?_)
            · skip
              refine z_iload C 5 dX1_isSame_314 rfl ?_
              refine z_aload C 0 dX1_isSame_316 rfl ?_
              refine z_iconst (v := 1) C dX1_isSame_318 (by decide) ?_
              refine z_mget (x := (xa v) i) C 0 rfl 1 rfl (by decide) (show i < xn v from by omega) rfl dX1_isSame_319 ?_
              refine z_iadd C dX1_isSame_320 ?_
              refine z_istore (L' := [(4, .int ((sumI (xa v) i) + ((xa v) i))), (8, .ref (gM G i)), (0, .ref (gO G)), (1, .ref (hh 0)), (2, .int (nI (xn v))), (3, .int ((lukN (xl v) i).1)), (5, .int (clrI (xa v) i)), (6, .int (sumI (xl v) i)), (7, .int (nI i))]) C dX1_isSame_321 (by decide) rfl ?_
              refine z_iload C 6 dX1_isSame_323 rfl ?_
              refine z_aload C 1 dX1_isSame_325 rfl ?_
              refine z_iconst (v := 1) C dX1_isSame_327 (by decide) ?_
              refine z_mget (x := (xa v) i) C 0 rfl 1 rfl (by decide) (show i < xn v from by omega) rfl dX1_isSame_328 ?_
              refine z_if_ne (tgt := 336) C dX1_isSame_329 (by decide) (fun c329 => ?_) (fun c329 => ?_)
              · skip
                refine z_iconst (v := 0) C dX1_isSame_336 (by decide) ?_
                refine z_iadd C dX1_isSame_337 ?_
                refine z_top (y := clrI (xa v) (i + 1)) (show clrI (xa v) i + 0 = (if xa v i = 0 then clrI (xa v) i + 1 else clrI (xa v) i) from by rw [if_neg c329, Int32.add_zero]) ?_
                refine z_istore (L' := [(5, .int (clrI (xa v) (i + 1))), (4, .int ((sumI (xa v) i) + ((xa v) i))), (8, .ref (gM G i)), (0, .ref (gO G)), (1, .ref (hh 0)), (2, .int (nI (xn v))), (3, .int ((lukN (xl v) i).1)), (6, .int (sumI (xl v) i)), (7, .int (nI i))]) C dX1_isSame_338 (by decide) rfl ?_
                refine z_iload C 7 dX1_isSame_340 rfl ?_
                refine z_aload C 2 dX1_isSame_342 rfl ?_
                refine z_iconst (v := 0) C dX1_isSame_344 (by decide) ?_
                refine z_mget (x := (xl v) i) C 0 rfl 0 rfl (by decide) (show i < xn v from by omega) rfl dX1_isSame_345 ?_
                refine z_iadd C dX1_isSame_346 ?_
                refine z_istore (L' := [(6, .int ((sumI (xl v) i) + ((xl v) i))), (5, .int (clrI (xa v) (i + 1))), (4, .int ((sumI (xa v) i) + ((xa v) i))), (8, .ref (gM G i)), (0, .ref (gO G)), (1, .ref (hh 0)), (2, .int (nI (xn v))), (3, .int ((lukN (xl v) i).1)), (7, .int (nI i))]) C dX1_isSame_347 (by decide) rfl ?_
                refine z_iinc (v := nI (i + 1)) (L' := [(7, .int (nI (i + 1))), (6, .int ((sumI (xl v) i) + ((xl v) i))), (5, .int (clrI (xa v) (i + 1))), (4, .int ((sumI (xa v) i) + ((xa v) i))), (8, .ref (gM G i)), (0, .ref (gO G)), (1, .ref (hh 0)), (2, .int (nI (xn v))), (3, .int ((lukN (xl v) i).1))]) C 8 dX1_isSame_349 rfl (z_inc _) (by decide) rfl ?_
                refine z_goto (tgt := 178) C dX1_isSame_352 (by decide) ?_
                refine z_sub (L' := [(0, .ref (gO G)), (1, .ref (hh 0)), (2, .int (nI (xn v))), (3, .int ((lukN (xl v) i).1)), (4, .int ((sumI (xa v) i) + ((xa v) i))), (5, .int (clrI (xa v) (i + 1))), (6, .int ((sumI (xl v) i) + ((xl v) i))), (7, .int (nI (i + 1)))]) [5, 6, 7, 8, 3, 2, 1, 0] rfl ?_
                exact (by have e9 := ih (i + 1) (by omega); rw [show lukN (xl v) (i + 1) = lukN (xl v) i from if_pos (by rw [hb2]; exact c308)] at e9; exact e9)
              · skip
                refine z_iconst (v := 1) C dX1_isSame_332 (by decide) ?_
                refine z_goto (tgt := 337) C dX1_isSame_333 (by decide) ?_
                refine z_iadd C dX1_isSame_337 ?_
                refine z_top (y := clrI (xa v) (i + 1)) (show clrI (xa v) i + 1 = (if xa v i = 0 then clrI (xa v) i + 1 else clrI (xa v) i) from by rw [if_pos c329]) ?_
                refine z_istore (L' := [(5, .int (clrI (xa v) (i + 1))), (4, .int ((sumI (xa v) i) + ((xa v) i))), (8, .ref (gM G i)), (0, .ref (gO G)), (1, .ref (hh 0)), (2, .int (nI (xn v))), (3, .int ((lukN (xl v) i).1)), (6, .int (sumI (xl v) i)), (7, .int (nI i))]) C dX1_isSame_338 (by decide) rfl ?_
                refine z_iload C 7 dX1_isSame_340 rfl ?_
                refine z_aload C 2 dX1_isSame_342 rfl ?_
                refine z_iconst (v := 0) C dX1_isSame_344 (by decide) ?_
                refine z_mget (x := (xl v) i) C 0 rfl 0 rfl (by decide) (show i < xn v from by omega) rfl dX1_isSame_345 ?_
                refine z_iadd C dX1_isSame_346 ?_
                refine z_istore (L' := [(6, .int ((sumI (xl v) i) + ((xl v) i))), (5, .int (clrI (xa v) (i + 1))), (4, .int ((sumI (xa v) i) + ((xa v) i))), (8, .ref (gM G i)), (0, .ref (gO G)), (1, .ref (hh 0)), (2, .int (nI (xn v))), (3, .int ((lukN (xl v) i).1)), (7, .int (nI i))]) C dX1_isSame_347 (by decide) rfl ?_
                refine z_iinc (v := nI (i + 1)) (L' := [(7, .int (nI (i + 1))), (6, .int ((sumI (xl v) i) + ((xl v) i))), (5, .int (clrI (xa v) (i + 1))), (4, .int ((sumI (xa v) i) + ((xa v) i))), (8, .ref (gM G i)), (0, .ref (gO G)), (1, .ref (hh 0)), (2, .int (nI (xn v))), (3, .int ((lukN (xl v) i).1))]) C 8 dX1_isSame_349 rfl (z_inc _) (by decide) rfl ?_
                refine z_goto (tgt := 178) C dX1_isSame_352 (by decide) ?_
                refine z_sub (L' := [(0, .ref (gO G)), (1, .ref (hh 0)), (2, .int (nI (xn v))), (3, .int ((lukN (xl v) i).1)), (4, .int ((sumI (xa v) i) + ((xa v) i))), (5, .int (clrI (xa v) (i + 1))), (6, .int ((sumI (xl v) i) + ((xl v) i))), (7, .int (nI (i + 1)))]) [5, 6, 7, 8, 3, 2, 1, 0] rfl ?_
                exact (by have e9 := ih (i + 1) (by omega); rw [show lukN (xl v) (i + 1) = lukN (xl v) i from if_pos (by rw [hb2]; exact c308)] at e9; exact e9)
            · skip
              refine z_iload C 8 dX1_isSame_311 rfl ?_
              refine z_istore_n (L' := [(3, .int (nI i)), (8, .ref (gM G i)), (0, .ref (gO G)), (1, .ref (hh 0)), (2, .int (nI (xn v))), (4, .int (sumI (xa v) i)), (5, .int (clrI (xa v) i)), (6, .int (sumI (xl v) i)), (7, .int (nI i))]) C dX1_isSame_313 rfl (by decide) rfl ?_
              refine z_iload C 5 dX1_isSame_314 rfl ?_
              refine z_aload C 1 dX1_isSame_316 rfl ?_
              refine z_iconst (v := 1) C dX1_isSame_318 (by decide) ?_
              refine z_mget (x := (xa v) i) C 0 rfl 1 rfl (by decide) (show i < xn v from by omega) rfl dX1_isSame_319 ?_
              refine z_iadd C dX1_isSame_320 ?_
              refine z_istore (L' := [(4, .int ((sumI (xa v) i) + ((xa v) i))), (3, .int (nI i)), (8, .ref (gM G i)), (0, .ref (gO G)), (1, .ref (hh 0)), (2, .int (nI (xn v))), (5, .int (clrI (xa v) i)), (6, .int (sumI (xl v) i)), (7, .int (nI i))]) C dX1_isSame_321 (by decide) rfl ?_
              refine z_iload C 6 dX1_isSame_323 rfl ?_
              refine z_aload C 2 dX1_isSame_325 rfl ?_
              refine z_iconst (v := 1) C dX1_isSame_327 (by decide) ?_
              refine z_mget (x := (xa v) i) C 0 rfl 1 rfl (by decide) (show i < xn v from by omega) rfl dX1_isSame_328 ?_
              refine z_if_ne (tgt := 336) C dX1_isSame_329 (by decide) (fun c329 => ?_) (fun c329 => ?_)
              · skip
                refine z_iconst (v := 0) C dX1_isSame_336 (by decide) ?_
                refine z_iadd C dX1_isSame_337 ?_
                refine z_top (y := clrI (xa v) (i + 1)) (show clrI (xa v) i + 0 = (if xa v i = 0 then clrI (xa v) i + 1 else clrI (xa v) i) from by rw [if_neg c329, Int32.add_zero]) ?_
                refine z_istore (L' := [(5, .int (clrI (xa v) (i + 1))), (4, .int ((sumI (xa v) i) + ((xa v) i))), (3, .int (nI i)), (8, .ref (gM G i)), (0, .ref (gO G)), (1, .ref (hh 0)), (2, .int (nI (xn v))), (6, .int (sumI (xl v) i)), (7, .int (nI i))]) C dX1_isSame_338 (by decide) rfl ?_
                refine z_iload C 7 dX1_isSame_340 rfl ?_
                refine z_aload C 3 dX1_isSame_342 rfl ?_
                refine z_iconst (v := 0) C dX1_isSame_344 (by decide) ?_
                refine z_mget (x := (xl v) i) C 0 rfl 0 rfl (by decide) (show i < xn v from by omega) rfl dX1_isSame_345 ?_
                refine z_iadd C dX1_isSame_346 ?_
                refine z_istore (L' := [(6, .int ((sumI (xl v) i) + ((xl v) i))), (5, .int (clrI (xa v) (i + 1))), (4, .int ((sumI (xa v) i) + ((xa v) i))), (3, .int (nI i)), (8, .ref (gM G i)), (0, .ref (gO G)), (1, .ref (hh 0)), (2, .int (nI (xn v))), (7, .int (nI i))]) C dX1_isSame_347 (by decide) rfl ?_
                refine z_iinc (v := nI (i + 1)) (L' := [(7, .int (nI (i + 1))), (6, .int ((sumI (xl v) i) + ((xl v) i))), (5, .int (clrI (xa v) (i + 1))), (4, .int ((sumI (xa v) i) + ((xa v) i))), (3, .int (nI i)), (8, .ref (gM G i)), (0, .ref (gO G)), (1, .ref (hh 0)), (2, .int (nI (xn v)))]) C 8 dX1_isSame_349 rfl (z_inc _) (by decide) rfl ?_
                refine z_goto (tgt := 178) C dX1_isSame_352 (by decide) ?_
                refine z_sub (L' := [(0, .ref (gO G)), (1, .ref (hh 0)), (2, .int (nI (xn v))), (3, .int (nI i)), (4, .int ((sumI (xa v) i) + ((xa v) i))), (5, .int (clrI (xa v) (i + 1))), (6, .int ((sumI (xl v) i) + ((xl v) i))), (7, .int (nI (i + 1)))]) [6, 7, 8, 4, 3, 2, 1, 0] rfl ?_
                exact (by have e9 := ih (i + 1) (by omega); rw [show lukN (xl v) (i + 1) = (nI i, xl v i) from if_neg (by rw [hb2]; exact c308)] at e9; exact e9)
              · skip
                refine z_iconst (v := 1) C dX1_isSame_332 (by decide) ?_
                refine z_goto (tgt := 337) C dX1_isSame_333 (by decide) ?_
                refine z_iadd C dX1_isSame_337 ?_
                refine z_top (y := clrI (xa v) (i + 1)) (show clrI (xa v) i + 1 = (if xa v i = 0 then clrI (xa v) i + 1 else clrI (xa v) i) from by rw [if_pos c329]) ?_
                refine z_istore (L' := [(5, .int (clrI (xa v) (i + 1))), (4, .int ((sumI (xa v) i) + ((xa v) i))), (3, .int (nI i)), (8, .ref (gM G i)), (0, .ref (gO G)), (1, .ref (hh 0)), (2, .int (nI (xn v))), (6, .int (sumI (xl v) i)), (7, .int (nI i))]) C dX1_isSame_338 (by decide) rfl ?_
                refine z_iload C 7 dX1_isSame_340 rfl ?_
                refine z_aload C 3 dX1_isSame_342 rfl ?_
                refine z_iconst (v := 0) C dX1_isSame_344 (by decide) ?_
                refine z_mget (x := (xl v) i) C 0 rfl 0 rfl (by decide) (show i < xn v from by omega) rfl dX1_isSame_345 ?_
                refine z_iadd C dX1_isSame_346 ?_
                refine z_istore (L' := [(6, .int ((sumI (xl v) i) + ((xl v) i))), (5, .int (clrI (xa v) (i + 1))), (4, .int ((sumI (xa v) i) + ((xa v) i))), (3, .int (nI i)), (8, .ref (gM G i)), (0, .ref (gO G)), (1, .ref (hh 0)), (2, .int (nI (xn v))), (7, .int (nI i))]) C dX1_isSame_347 (by decide) rfl ?_
                refine z_iinc (v := nI (i + 1)) (L' := [(7, .int (nI (i + 1))), (6, .int ((sumI (xl v) i) + ((xl v) i))), (5, .int (clrI (xa v) (i + 1))), (4, .int ((sumI (xa v) i) + ((xa v) i))), (3, .int (nI i)), (8, .ref (gM G i)), (0, .ref (gO G)), (1, .ref (hh 0)), (2, .int (nI (xn v)))]) C 8 dX1_isSame_349 rfl (z_inc _) (by decide) rfl ?_
                refine z_goto (tgt := 178) C dX1_isSame_352 (by decide) ?_
                refine z_sub (L' := [(0, .ref (gO G)), (1, .ref (hh 0)), (2, .int (nI (xn v))), (3, .int (nI i)), (4, .int ((sumI (xa v) i) + ((xa v) i))), (5, .int (clrI (xa v) (i + 1))), (6, .int ((sumI (xl v) i) + ((xl v) i))), (7, .int (nI (i + 1)))]) [6, 7, 8, 4, 3, 2, 1, 0] rfl ?_
                exact (by have e9 := ih (i + 1) (by omega); rw [show lukN (xl v) (i + 1) = (nI i, xl v i) from if_neg (by rw [hb2]; exact c308)] at e9; exact e9)
        · skip
          refine z_iconst (v := 1) C dX1_isSame_266 (by decide) ?_
          refine z_goto (tgt := 271) C dX1_isSame_267 (by decide) ?_
          refine z_iadd C dX1_isSame_271 ?_
          refine z_icmp_ne (tgt := 290) C dX1_isSame_272 (by decide) (fun h9 => absurd h9 ((fun q => q (s_loss2 h3 h4 c242 c263)))) (fun _ => ?_)
          refine z_aload_n C 2 dX1_isSame_275 rfl rfl ?_
          refine z_iload C 8 dX1_isSame_276 rfl ?_
          refine z_callV (w := (wX0 hh cI cZ v)) (w' := (wX0 hh cI cZ v)) (w1 := ([] : va_W)) (w2 := (([] : va_W) ++ (wS G cI cP v))) (ws' := ((wX0 hh cI cZ v) ++ (wS G cI cP v))) (As := [.int (nI i)]) (rest := []) (st' := [.int (xdebt v (nI i))]) (rv := some (.int (xdebt v (nI i)))) C (c_X0_arrearsByAudit l D hh cI cZ v i (by omega) (by omega) (by omega)) (cwV 1 C.words gX1_isSame_X0_arrearsByAudit rfl rfl rfl (by decide +kernel) ⟨(Nat.le_of_ble_eq_true rfl), (Nat.le_of_ble_eq_true rfl)⟩) (q0 := 0) (ci := 0) rfl rfl rfl [0, 1] rfl rfl (Nat.le_of_ble_eq_true rfl) ⟨(Nat.le_of_ble_eq_true rfl), (Nat.le_of_ble_eq_true rfl)⟩ rfl rfl rfl rfl rfl dX1_isSame_278 ?_
          refine z_aload_n C 1 dX1_isSame_281 rfl rfl ?_
          refine z_iload C 8 dX1_isSame_282 rfl ?_
          refine z_callVX (w := (wS G cI cP v)) (w1 := (wX0 hh cI cZ v)) (w2 := ([] : va_W)) (As := [.int (nI i)]) (rest := [.int (xdebt v (nI i))]) C (c_X1_adds l D cI cP G v (nI i) hk30) (hAA.call _) zAA.blind (cwV 1 C.words gX1_isSame_X1_adds rfl rfl rfl (by decide +kernel) ⟨(Nat.le_of_ble_eq_true rfl), (Nat.le_of_ble_eq_true rfl)⟩) (q0 := 0) (ci := 1) rfl rfl rfl [0, 2] rfl rfl (Nat.le_of_ble_eq_true rfl) ⟨(Nat.le_of_ble_eq_true rfl), (Nat.le_of_ble_eq_true rfl)⟩ (List.append_nil _).symm rfl dX1_isSame_284 (fun x9 _ => ?_)
          refine z_ws (List.append_nil _) ?_
          refine z_st (st' := [.int (xdebt v (nI i)), .int (xdebt v (nI i))]) rfl ?_
          refine z_icmp_eq (tgt := 292) C dX1_isSame_287 (by decide) (fun _ => ?_) (fun h9 => absurd (rfl) h9)
          refine z_iload_n C 4 dX1_isSame_292 rfl rfl ?_
          refine z_if_lt (tgt := 311) C dX1_isSame_293 (by decide) (fun c293 => ?_) (fun c293 => ?_)
          · skip
            refine z_iload C 8 dX1_isSame_311 rfl ?_
            refine z_istore_n (L' := [(3, .int (nI i)), (8, .ref (gM G i)), (0, .ref (gO G)), (1, .ref (hh 0)), (2, .int (nI (xn v))), (4, .int (sumI (xa v) i)), (5, .int (clrI (xa v) i)), (6, .int (sumI (xl v) i)), (7, .int (nI i))]) C dX1_isSame_313 rfl (by decide) rfl ?_
            refine z_iload C 5 dX1_isSame_314 rfl ?_
            refine z_aload C 1 dX1_isSame_316 rfl ?_
            refine z_iconst (v := 1) C dX1_isSame_318 (by decide) ?_
            refine z_mget (x := (xa v) i) C 0 rfl 1 rfl (by decide) (show i < xn v from by omega) rfl dX1_isSame_319 ?_
            refine z_iadd C dX1_isSame_320 ?_
            refine z_istore (L' := [(4, .int ((sumI (xa v) i) + ((xa v) i))), (3, .int (nI i)), (8, .ref (gM G i)), (0, .ref (gO G)), (1, .ref (hh 0)), (2, .int (nI (xn v))), (5, .int (clrI (xa v) i)), (6, .int (sumI (xl v) i)), (7, .int (nI i))]) C dX1_isSame_321 (by decide) rfl ?_
            refine z_iload C 6 dX1_isSame_323 rfl ?_
            refine z_aload C 2 dX1_isSame_325 rfl ?_
            refine z_iconst (v := 1) C dX1_isSame_327 (by decide) ?_
            refine z_mget (x := (xa v) i) C 0 rfl 1 rfl (by decide) (show i < xn v from by omega) rfl dX1_isSame_328 ?_
            refine z_if_ne (tgt := 336) C dX1_isSame_329 (by decide) (fun c329 => ?_) (fun c329 => ?_)
            · skip
              refine z_iconst (v := 0) C dX1_isSame_336 (by decide) ?_
              refine z_iadd C dX1_isSame_337 ?_
              refine z_top (y := clrI (xa v) (i + 1)) (show clrI (xa v) i + 0 = (if xa v i = 0 then clrI (xa v) i + 1 else clrI (xa v) i) from by rw [if_neg c329, Int32.add_zero]) ?_
              refine z_istore (L' := [(5, .int (clrI (xa v) (i + 1))), (4, .int ((sumI (xa v) i) + ((xa v) i))), (3, .int (nI i)), (8, .ref (gM G i)), (0, .ref (gO G)), (1, .ref (hh 0)), (2, .int (nI (xn v))), (6, .int (sumI (xl v) i)), (7, .int (nI i))]) C dX1_isSame_338 (by decide) rfl ?_
              refine z_iload C 7 dX1_isSame_340 rfl ?_
              refine z_aload C 3 dX1_isSame_342 rfl ?_
              refine z_iconst (v := 0) C dX1_isSame_344 (by decide) ?_
              refine z_mget (x := (xl v) i) C 0 rfl 0 rfl (by decide) (show i < xn v from by omega) rfl dX1_isSame_345 ?_
              refine z_iadd C dX1_isSame_346 ?_
              refine z_istore (L' := [(6, .int ((sumI (xl v) i) + ((xl v) i))), (5, .int (clrI (xa v) (i + 1))), (4, .int ((sumI (xa v) i) + ((xa v) i))), (3, .int (nI i)), (8, .ref (gM G i)), (0, .ref (gO G)), (1, .ref (hh 0)), (2, .int (nI (xn v))), (7, .int (nI i))]) C dX1_isSame_347 (by decide) rfl ?_
              refine z_iinc (v := nI (i + 1)) (L' := [(7, .int (nI (i + 1))), (6, .int ((sumI (xl v) i) + ((xl v) i))), (5, .int (clrI (xa v) (i + 1))), (4, .int ((sumI (xa v) i) + ((xa v) i))), (3, .int (nI i)), (8, .ref (gM G i)), (0, .ref (gO G)), (1, .ref (hh 0)), (2, .int (nI (xn v)))]) C 8 dX1_isSame_349 rfl (z_inc _) (by decide) rfl ?_
              refine z_goto (tgt := 178) C dX1_isSame_352 (by decide) ?_
              refine z_sub (L' := [(0, .ref (gO G)), (1, .ref (hh 0)), (2, .int (nI (xn v))), (3, .int (nI i)), (4, .int ((sumI (xa v) i) + ((xa v) i))), (5, .int (clrI (xa v) (i + 1))), (6, .int ((sumI (xl v) i) + ((xl v) i))), (7, .int (nI (i + 1)))]) [6, 7, 8, 4, 3, 2, 1, 0] rfl ?_
              exact (by have e9 := ih (i + 1) (by omega); rw [luk_lt hI (by omega) c293] at e9; exact e9)
            · skip
              refine z_iconst (v := 1) C dX1_isSame_332 (by decide) ?_
              refine z_goto (tgt := 337) C dX1_isSame_333 (by decide) ?_
              refine z_iadd C dX1_isSame_337 ?_
              refine z_top (y := clrI (xa v) (i + 1)) (show clrI (xa v) i + 1 = (if xa v i = 0 then clrI (xa v) i + 1 else clrI (xa v) i) from by rw [if_pos c329]) ?_
              refine z_istore (L' := [(5, .int (clrI (xa v) (i + 1))), (4, .int ((sumI (xa v) i) + ((xa v) i))), (3, .int (nI i)), (8, .ref (gM G i)), (0, .ref (gO G)), (1, .ref (hh 0)), (2, .int (nI (xn v))), (6, .int (sumI (xl v) i)), (7, .int (nI i))]) C dX1_isSame_338 (by decide) rfl ?_
              refine z_iload C 7 dX1_isSame_340 rfl ?_
              refine z_aload C 3 dX1_isSame_342 rfl ?_
              refine z_iconst (v := 0) C dX1_isSame_344 (by decide) ?_
              refine z_mget (x := (xl v) i) C 0 rfl 0 rfl (by decide) (show i < xn v from by omega) rfl dX1_isSame_345 ?_
              refine z_iadd C dX1_isSame_346 ?_
              refine z_istore (L' := [(6, .int ((sumI (xl v) i) + ((xl v) i))), (5, .int (clrI (xa v) (i + 1))), (4, .int ((sumI (xa v) i) + ((xa v) i))), (3, .int (nI i)), (8, .ref (gM G i)), (0, .ref (gO G)), (1, .ref (hh 0)), (2, .int (nI (xn v))), (7, .int (nI i))]) C dX1_isSame_347 (by decide) rfl ?_
              refine z_iinc (v := nI (i + 1)) (L' := [(7, .int (nI (i + 1))), (6, .int ((sumI (xl v) i) + ((xl v) i))), (5, .int (clrI (xa v) (i + 1))), (4, .int ((sumI (xa v) i) + ((xa v) i))), (3, .int (nI i)), (8, .ref (gM G i)), (0, .ref (gO G)), (1, .ref (hh 0)), (2, .int (nI (xn v)))]) C 8 dX1_isSame_349 rfl (z_inc _) (by decide) rfl ?_
              refine z_goto (tgt := 178) C dX1_isSame_352 (by decide) ?_
              refine z_sub (L' := [(0, .ref (gO G)), (1, .ref (hh 0)), (2, .int (nI (xn v))), (3, .int (nI i)), (4, .int ((sumI (xa v) i) + ((xa v) i))), (5, .int (clrI (xa v) (i + 1))), (6, .int ((sumI (xl v) i) + ((xl v) i))), (7, .int (nI (i + 1)))]) [6, 7, 8, 4, 3, 2, 1, 0] rfl ?_
              exact (by have e9 := ih (i + 1) (by omega); rw [luk_lt hI (by omega) c293] at e9; exact e9)
          · skip
            obtain ⟨b, hb1, hb2⟩ := luk_ge hI (i := i) (by omega) c293
            refine z_aload C 0 dX1_isSame_296 rfl ?_
            refine z_iconst (v := 0) C dX1_isSame_298 (by decide) ?_
            refine z_mget (x := (xl v) i) C 0 rfl 0 rfl (by decide) (show i < xn v from by omega) rfl dX1_isSame_299 ?_
            refine z_aload_n C 1 dX1_isSame_300 rfl rfl ?_
            refine z_sget (v := .ref (gA G)) C ins 3 (by decide) rfl wd1 dX1_isSame_301 ?_
            refine z_iload_n C 4 dX1_isSame_304 rfl rfl ?_
            refine z_mrow C 2 rfl b (congrArg Prod.fst hb2) (show b < xn v from by omega) hn8 dX1_isSame_305 ?_
            refine z_iconst (v := 0) C dX1_isSame_306 (by decide) ?_
            refine z_mget (x := (xl v) b) C 0 rfl 0 rfl (by decide) (show b < xn v from by omega) rfl dX1_isSame_307 ?_
            refine z_icmp_le (tgt := 314) C dX1_isSame_308 (by decide) (fun c308 => ?_) (fun c308 => ?_)
            · skip
              refine z_iload C 5 dX1_isSame_314 rfl ?_
              refine z_aload C 0 dX1_isSame_316 rfl ?_
              refine z_iconst (v := 1) C dX1_isSame_318 (by decide) ?_
              refine z_mget (x := (xa v) i) C 0 rfl 1 rfl (by decide) (show i < xn v from by omega) rfl dX1_isSame_319 ?_
              refine z_iadd C dX1_isSame_320 ?_
              refine z_istore (L' := [(4, .int ((sumI (xa v) i) + ((xa v) i))), (8, .ref (gM G i)), (0, .ref (gO G)), (1, .ref (hh 0)), (2, .int (nI (xn v))), (3, .int ((lukN (xl v) i).1)), (5, .int (clrI (xa v) i)), (6, .int (sumI (xl v) i)), (7, .int (nI i))]) C dX1_isSame_321 (by decide) rfl ?_
              refine z_iload C 6 dX1_isSame_323 rfl ?_
              refine z_aload C 1 dX1_isSame_325 rfl ?_
              refine z_iconst (v := 1) C dX1_isSame_327 (by decide) ?_
              refine z_mget (x := (xa v) i) C 0 rfl 1 rfl (by decide) (show i < xn v from by omega) rfl dX1_isSame_328 ?_
              refine z_if_ne (tgt := 336) C dX1_isSame_329 (by decide) (fun c329 => ?_) (fun c329 => ?_)
              · skip
                refine z_iconst (v := 0) C dX1_isSame_336 (by decide) ?_
                refine z_iadd C dX1_isSame_337 ?_
                refine z_top (y := clrI (xa v) (i + 1)) (show clrI (xa v) i + 0 = (if xa v i = 0 then clrI (xa v) i + 1 else clrI (xa v) i) from by rw [if_neg c329, Int32.add_zero]) ?_
                refine z_istore (L' := [(5, .int (clrI (xa v) (i + 1))), (4, .int ((sumI (xa v) i) + ((xa v) i))), (8, .ref (gM G i)), (0, .ref (gO G)), (1, .ref (hh 0)), (2, .int (nI (xn v))), (3, .int ((lukN (xl v) i).1)), (6, .int (sumI (xl v) i)), (7, .int (nI i))]) C dX1_isSame_338 (by decide) rfl ?_
                refine z_iload C 7 dX1_isSame_340 rfl ?_
                refine z_aload C 2 dX1_isSame_342 rfl ?_
                refine z_iconst (v := 0) C dX1_isSame_344 (by decide) ?_
                refine z_mget (x := (xl v) i) C 0 rfl 0 rfl (by decide) (show i < xn v from by omega) rfl dX1_isSame_345 ?_
                refine z_iadd C dX1_isSame_346 ?_
                refine z_istore (L' := [(6, .int ((sumI (xl v) i) + ((xl v) i))), (5, .int (clrI (xa v) (i + 1))), (4, .int ((sumI (xa v) i) + ((xa v) i))), (8, .ref (gM G i)), (0, .ref (gO G)), (1, .ref (hh 0)), (2, .int (nI (xn v))), (3, .int ((lukN (xl v) i).1)), (7, .int (nI i))]) C dX1_isSame_347 (by decide) rfl ?_
                refine z_iinc (v := nI (i + 1)) (L' := [(7, .int (nI (i + 1))), (6, .int ((sumI (xl v) i) + ((xl v) i))), (5, .int (clrI (xa v) (i + 1))), (4, .int ((sumI (xa v) i) + ((xa v) i))), (8, .ref (gM G i)), (0, .ref (gO G)), (1, .ref (hh 0)), (2, .int (nI (xn v))), (3, .int ((lukN (xl v) i).1))]) C 8 dX1_isSame_349 rfl (z_inc _) (by decide) rfl ?_
                refine z_goto (tgt := 178) C dX1_isSame_352 (by decide) ?_
                refine z_sub (L' := [(0, .ref (gO G)), (1, .ref (hh 0)), (2, .int (nI (xn v))), (3, .int ((lukN (xl v) i).1)), (4, .int ((sumI (xa v) i) + ((xa v) i))), (5, .int (clrI (xa v) (i + 1))), (6, .int ((sumI (xl v) i) + ((xl v) i))), (7, .int (nI (i + 1)))]) [5, 6, 7, 8, 3, 2, 1, 0] rfl ?_
                exact (by have e9 := ih (i + 1) (by omega); rw [show lukN (xl v) (i + 1) = lukN (xl v) i from if_pos (by rw [hb2]; exact c308)] at e9; exact e9)
              · skip
                refine z_iconst (v := 1) C dX1_isSame_332 (by decide) ?_
                refine z_goto (tgt := 337) C dX1_isSame_333 (by decide) ?_
                refine z_iadd C dX1_isSame_337 ?_
                refine z_top (y := clrI (xa v) (i + 1)) (show clrI (xa v) i + 1 = (if xa v i = 0 then clrI (xa v) i + 1 else clrI (xa v) i) from by rw [if_pos c329]) ?_
                refine z_istore (L' := [(5, .int (clrI (xa v) (i + 1))), (4, .int ((sumI (xa v) i) + ((xa v) i))), (8, .ref (gM G i)), (0, .ref (gO G)), (1, .ref (hh 0)), (2, .int (nI (xn v))), (3, .int ((lukN (xl v) i).1)), (6, .int (sumI (xl v) i)), (7, .int (nI i))]) C dX1_isSame_338 (by decide) rfl ?_
                refine z_iload C 7 dX1_isSame_340 rfl ?_
                refine z_aload C 2 dX1_isSame_342 rfl ?_
                refine z_iconst (v := 0) C dX1_isSame_344 (by decide) ?_
                refine z_mget (x := (xl v) i) C 0 rfl 0 rfl (by decide) (show i < xn v from by omega) rfl dX1_isSame_345 ?_
                refine z_iadd C dX1_isSame_346 ?_
                refine z_istore (L' := [(6, .int ((sumI (xl v) i) + ((xl v) i))), (5, .int (clrI (xa v) (i + 1))), (4, .int ((sumI (xa v) i) + ((xa v) i))), (8, .ref (gM G i)), (0, .ref (gO G)), (1, .ref (hh 0)), (2, .int (nI (xn v))), (3, .int ((lukN (xl v) i).1)), (7, .int (nI i))]) C dX1_isSame_347 (by decide) rfl ?_
                refine z_iinc (v := nI (i + 1)) (L' := [(7, .int (nI (i + 1))), (6, .int ((sumI (xl v) i) + ((xl v) i))), (5, .int (clrI (xa v) (i + 1))), (4, .int ((sumI (xa v) i) + ((xa v) i))), (8, .ref (gM G i)), (0, .ref (gO G)), (1, .ref (hh 0)), (2, .int (nI (xn v))), (3, .int ((lukN (xl v) i).1))]) C 8 dX1_isSame_349 rfl (z_inc _) (by decide) rfl ?_
                refine z_goto (tgt := 178) C dX1_isSame_352 (by decide) ?_
                refine z_sub (L' := [(0, .ref (gO G)), (1, .ref (hh 0)), (2, .int (nI (xn v))), (3, .int ((lukN (xl v) i).1)), (4, .int ((sumI (xa v) i) + ((xa v) i))), (5, .int (clrI (xa v) (i + 1))), (6, .int ((sumI (xl v) i) + ((xl v) i))), (7, .int (nI (i + 1)))]) [5, 6, 7, 8, 3, 2, 1, 0] rfl ?_
                exact (by have e9 := ih (i + 1) (by omega); rw [show lukN (xl v) (i + 1) = lukN (xl v) i from if_pos (by rw [hb2]; exact c308)] at e9; exact e9)
            · skip
              refine z_iload C 8 dX1_isSame_311 rfl ?_
              refine z_istore_n (L' := [(3, .int (nI i)), (8, .ref (gM G i)), (0, .ref (gO G)), (1, .ref (hh 0)), (2, .int (nI (xn v))), (4, .int (sumI (xa v) i)), (5, .int (clrI (xa v) i)), (6, .int (sumI (xl v) i)), (7, .int (nI i))]) C dX1_isSame_313 rfl (by decide) rfl ?_
              refine z_iload C 5 dX1_isSame_314 rfl ?_
              refine z_aload C 1 dX1_isSame_316 rfl ?_
              refine z_iconst (v := 1) C dX1_isSame_318 (by decide) ?_
              refine z_mget (x := (xa v) i) C 0 rfl 1 rfl (by decide) (show i < xn v from by omega) rfl dX1_isSame_319 ?_
              refine z_iadd C dX1_isSame_320 ?_
              refine z_istore (L' := [(4, .int ((sumI (xa v) i) + ((xa v) i))), (3, .int (nI i)), (8, .ref (gM G i)), (0, .ref (gO G)), (1, .ref (hh 0)), (2, .int (nI (xn v))), (5, .int (clrI (xa v) i)), (6, .int (sumI (xl v) i)), (7, .int (nI i))]) C dX1_isSame_321 (by decide) rfl ?_
              refine z_iload C 6 dX1_isSame_323 rfl ?_
              refine z_aload C 2 dX1_isSame_325 rfl ?_
              refine z_iconst (v := 1) C dX1_isSame_327 (by decide) ?_
              refine z_mget (x := (xa v) i) C 0 rfl 1 rfl (by decide) (show i < xn v from by omega) rfl dX1_isSame_328 ?_
              refine z_if_ne (tgt := 336) C dX1_isSame_329 (by decide) (fun c329 => ?_) (fun c329 => ?_)
              · skip
                refine z_iconst (v := 0) C dX1_isSame_336 (by decide) ?_
                refine z_iadd C dX1_isSame_337 ?_
                refine z_top (y := clrI (xa v) (i + 1)) (show clrI (xa v) i + 0 = (if xa v i = 0 then clrI (xa v) i + 1 else clrI (xa v) i) from by rw [if_neg c329, Int32.add_zero]) ?_
                refine z_istore (L' := [(5, .int (clrI (xa v) (i + 1))), (4, .int ((sumI (xa v) i) + ((xa v) i))), (3, .int (nI i)), (8, .ref (gM G i)), (0, .ref (gO G)), (1, .ref (hh 0)), (2, .int (nI (xn v))), (6, .int (sumI (xl v) i)), (7, .int (nI i))]) C dX1_isSame_338 (by decide) rfl ?_
                refine z_iload C 7 dX1_isSame_340 rfl ?_
                refine z_aload C 3 dX1_isSame_342 rfl ?_
                refine z_iconst (v := 0) C dX1_isSame_344 (by decide) ?_
                refine z_mget (x := (xl v) i) C 0 rfl 0 rfl (by decide) (show i < xn v from by omega) rfl dX1_isSame_345 ?_
                refine z_iadd C dX1_isSame_346 ?_
                refine z_istore (L' := [(6, .int ((sumI (xl v) i) + ((xl v) i))), (5, .int (clrI (xa v) (i + 1))), (4, .int ((sumI (xa v) i) + ((xa v) i))), (3, .int (nI i)), (8, .ref (gM G i)), (0, .ref (gO G)), (1, .ref (hh 0)), (2, .int (nI (xn v))), (7, .int (nI i))]) C dX1_isSame_347 (by decide) rfl ?_
                refine z_iinc (v := nI (i + 1)) (L' := [(7, .int (nI (i + 1))), (6, .int ((sumI (xl v) i) + ((xl v) i))), (5, .int (clrI (xa v) (i + 1))), (4, .int ((sumI (xa v) i) + ((xa v) i))), (3, .int (nI i)), (8, .ref (gM G i)), (0, .ref (gO G)), (1, .ref (hh 0)), (2, .int (nI (xn v)))]) C 8 dX1_isSame_349 rfl (z_inc _) (by decide) rfl ?_
                refine z_goto (tgt := 178) C dX1_isSame_352 (by decide) ?_
                refine z_sub (L' := [(0, .ref (gO G)), (1, .ref (hh 0)), (2, .int (nI (xn v))), (3, .int (nI i)), (4, .int ((sumI (xa v) i) + ((xa v) i))), (5, .int (clrI (xa v) (i + 1))), (6, .int ((sumI (xl v) i) + ((xl v) i))), (7, .int (nI (i + 1)))]) [6, 7, 8, 4, 3, 2, 1, 0] rfl ?_
                exact (by have e9 := ih (i + 1) (by omega); rw [show lukN (xl v) (i + 1) = (nI i, xl v i) from if_neg (by rw [hb2]; exact c308)] at e9; exact e9)
              · skip
                refine z_iconst (v := 1) C dX1_isSame_332 (by decide) ?_
                refine z_goto (tgt := 337) C dX1_isSame_333 (by decide) ?_
                refine z_iadd C dX1_isSame_337 ?_
                refine z_top (y := clrI (xa v) (i + 1)) (show clrI (xa v) i + 1 = (if xa v i = 0 then clrI (xa v) i + 1 else clrI (xa v) i) from by rw [if_pos c329]) ?_
                refine z_istore (L' := [(5, .int (clrI (xa v) (i + 1))), (4, .int ((sumI (xa v) i) + ((xa v) i))), (3, .int (nI i)), (8, .ref (gM G i)), (0, .ref (gO G)), (1, .ref (hh 0)), (2, .int (nI (xn v))), (6, .int (sumI (xl v) i)), (7, .int (nI i))]) C dX1_isSame_338 (by decide) rfl ?_
                refine z_iload C 7 dX1_isSame_340 rfl ?_
                refine z_aload C 3 dX1_isSame_342 rfl ?_
                refine z_iconst (v := 0) C dX1_isSame_344 (by decide) ?_
                refine z_mget (x := (xl v) i) C 0 rfl 0 rfl (by decide) (show i < xn v from by omega) rfl dX1_isSame_345 ?_
                refine z_iadd C dX1_isSame_346 ?_
                refine z_istore (L' := [(6, .int ((sumI (xl v) i) + ((xl v) i))), (5, .int (clrI (xa v) (i + 1))), (4, .int ((sumI (xa v) i) + ((xa v) i))), (3, .int (nI i)), (8, .ref (gM G i)), (0, .ref (gO G)), (1, .ref (hh 0)), (2, .int (nI (xn v))), (7, .int (nI i))]) C dX1_isSame_347 (by decide) rfl ?_
                refine z_iinc (v := nI (i + 1)) (L' := [(7, .int (nI (i + 1))), (6, .int ((sumI (xl v) i) + ((xl v) i))), (5, .int (clrI (xa v) (i + 1))), (4, .int ((sumI (xa v) i) + ((xa v) i))), (3, .int (nI i)), (8, .ref (gM G i)), (0, .ref (gO G)), (1, .ref (hh 0)), (2, .int (nI (xn v)))]) C 8 dX1_isSame_349 rfl (z_inc _) (by decide) rfl ?_
                refine z_goto (tgt := 178) C dX1_isSame_352 (by decide) ?_
                refine z_sub (L' := [(0, .ref (gO G)), (1, .ref (hh 0)), (2, .int (nI (xn v))), (3, .int (nI i)), (4, .int ((sumI (xa v) i) + ((xa v) i))), (5, .int (clrI (xa v) (i + 1))), (6, .int ((sumI (xl v) i) + ((xl v) i))), (7, .int (nI (i + 1)))]) [6, 7, 8, 4, 3, 2, 1, 0] rfl ?_
                exact (by have e9 := ih (i + 1) (by omega); rw [show lukN (xl v) (i + 1) = (nI i, xl v i) from if_neg (by rw [hb2]; exact c308)] at e9; exact e9)
      · skip
        refine z_iconst (v := 0) C dX1_isSame_245 (by decide) ?_
        refine z_goto (tgt := 272) C dX1_isSame_246 (by decide) ?_
        refine z_icmp_ne (tgt := 290) C dX1_isSame_272 (by decide) (fun h9 => absurd h9 ((fun q => q (s_loss0 c242)))) (fun _ => ?_)
        refine z_aload_n C 2 dX1_isSame_275 rfl rfl ?_
        refine z_iload C 8 dX1_isSame_276 rfl ?_
        refine z_callV (w := (wX0 hh cI cZ v)) (w' := (wX0 hh cI cZ v)) (w1 := ([] : va_W)) (w2 := (([] : va_W) ++ (wS G cI cP v))) (ws' := ((wX0 hh cI cZ v) ++ (wS G cI cP v))) (As := [.int (nI i)]) (rest := []) (st' := [.int (xdebt v (nI i))]) (rv := some (.int (xdebt v (nI i)))) C (c_X0_arrearsByAudit l D hh cI cZ v i (by omega) (by omega) (by omega)) (cwV 1 C.words gX1_isSame_X0_arrearsByAudit rfl rfl rfl (by decide +kernel) ⟨(Nat.le_of_ble_eq_true rfl), (Nat.le_of_ble_eq_true rfl)⟩) (q0 := 0) (ci := 0) rfl rfl rfl [0, 1] rfl rfl (Nat.le_of_ble_eq_true rfl) ⟨(Nat.le_of_ble_eq_true rfl), (Nat.le_of_ble_eq_true rfl)⟩ rfl rfl rfl rfl rfl dX1_isSame_278 ?_
        refine z_aload_n C 1 dX1_isSame_281 rfl rfl ?_
        refine z_iload C 8 dX1_isSame_282 rfl ?_
        refine z_callVX (w := (wS G cI cP v)) (w1 := (wX0 hh cI cZ v)) (w2 := ([] : va_W)) (As := [.int (nI i)]) (rest := [.int (xdebt v (nI i))]) C (c_X1_adds l D cI cP G v (nI i) hk30) (hAA.call _) zAA.blind (cwV 1 C.words gX1_isSame_X1_adds rfl rfl rfl (by decide +kernel) ⟨(Nat.le_of_ble_eq_true rfl), (Nat.le_of_ble_eq_true rfl)⟩) (q0 := 0) (ci := 1) rfl rfl rfl [0, 2] rfl rfl (Nat.le_of_ble_eq_true rfl) ⟨(Nat.le_of_ble_eq_true rfl), (Nat.le_of_ble_eq_true rfl)⟩ (List.append_nil _).symm rfl dX1_isSame_284 (fun x9 _ => ?_)
        refine z_ws (List.append_nil _) ?_
        refine z_st (st' := [.int (xdebt v (nI i)), .int (xdebt v (nI i))]) rfl ?_
        refine z_icmp_eq (tgt := 292) C dX1_isSame_287 (by decide) (fun _ => ?_) (fun h9 => absurd (rfl) h9)
        refine z_iload_n C 4 dX1_isSame_292 rfl rfl ?_
        refine z_if_lt (tgt := 311) C dX1_isSame_293 (by decide) (fun c293 => ?_) (fun c293 => ?_)
        · skip
          refine z_iload C 8 dX1_isSame_311 rfl ?_
          refine z_istore_n (L' := [(3, .int (nI i)), (8, .ref (gM G i)), (0, .ref (gO G)), (1, .ref (hh 0)), (2, .int (nI (xn v))), (4, .int (sumI (xa v) i)), (5, .int (clrI (xa v) i)), (6, .int (sumI (xl v) i)), (7, .int (nI i))]) C dX1_isSame_313 rfl (by decide) rfl ?_
          refine z_iload C 5 dX1_isSame_314 rfl ?_
          refine z_aload C 1 dX1_isSame_316 rfl ?_
          refine z_iconst (v := 1) C dX1_isSame_318 (by decide) ?_
          refine z_mget (x := (xa v) i) C 0 rfl 1 rfl (by decide) (show i < xn v from by omega) rfl dX1_isSame_319 ?_
          refine z_iadd C dX1_isSame_320 ?_
          refine z_istore (L' := [(4, .int ((sumI (xa v) i) + ((xa v) i))), (3, .int (nI i)), (8, .ref (gM G i)), (0, .ref (gO G)), (1, .ref (hh 0)), (2, .int (nI (xn v))), (5, .int (clrI (xa v) i)), (6, .int (sumI (xl v) i)), (7, .int (nI i))]) C dX1_isSame_321 (by decide) rfl ?_
          refine z_iload C 6 dX1_isSame_323 rfl ?_
          refine z_aload C 2 dX1_isSame_325 rfl ?_
          refine z_iconst (v := 1) C dX1_isSame_327 (by decide) ?_
          refine z_mget (x := (xa v) i) C 0 rfl 1 rfl (by decide) (show i < xn v from by omega) rfl dX1_isSame_328 ?_
          refine z_if_ne (tgt := 336) C dX1_isSame_329 (by decide) (fun c329 => ?_) (fun c329 => ?_)
          · skip
            refine z_iconst (v := 0) C dX1_isSame_336 (by decide) ?_
            refine z_iadd C dX1_isSame_337 ?_
            refine z_top (y := clrI (xa v) (i + 1)) (show clrI (xa v) i + 0 = (if xa v i = 0 then clrI (xa v) i + 1 else clrI (xa v) i) from by rw [if_neg c329, Int32.add_zero]) ?_
            refine z_istore (L' := [(5, .int (clrI (xa v) (i + 1))), (4, .int ((sumI (xa v) i) + ((xa v) i))), (3, .int (nI i)), (8, .ref (gM G i)), (0, .ref (gO G)), (1, .ref (hh 0)), (2, .int (nI (xn v))), (6, .int (sumI (xl v) i)), (7, .int (nI i))]) C dX1_isSame_338 (by decide) rfl ?_
            refine z_iload C 7 dX1_isSame_340 rfl ?_
            refine z_aload C 3 dX1_isSame_342 rfl ?_
            refine z_iconst (v := 0) C dX1_isSame_344 (by decide) ?_
            refine z_mget (x := (xl v) i) C 0 rfl 0 rfl (by decide) (show i < xn v from by omega) rfl dX1_isSame_345 ?_
            refine z_iadd C dX1_isSame_346 ?_
            refine z_istore (L' := [(6, .int ((sumI (xl v) i) + ((xl v) i))), (5, .int (clrI (xa v) (i + 1))), (4, .int ((sumI (xa v) i) + ((xa v) i))), (3, .int (nI i)), (8, .ref (gM G i)), (0, .ref (gO G)), (1, .ref (hh 0)), (2, .int (nI (xn v))), (7, .int (nI i))]) C dX1_isSame_347 (by decide) rfl ?_
            refine z_iinc (v := nI (i + 1)) (L' := [(7, .int (nI (i + 1))), (6, .int ((sumI (xl v) i) + ((xl v) i))), (5, .int (clrI (xa v) (i + 1))), (4, .int ((sumI (xa v) i) + ((xa v) i))), (3, .int (nI i)), (8, .ref (gM G i)), (0, .ref (gO G)), (1, .ref (hh 0)), (2, .int (nI (xn v)))]) C 8 dX1_isSame_349 rfl (z_inc _) (by decide) rfl ?_
            refine z_goto (tgt := 178) C dX1_isSame_352 (by decide) ?_
            refine z_sub (L' := [(0, .ref (gO G)), (1, .ref (hh 0)), (2, .int (nI (xn v))), (3, .int (nI i)), (4, .int ((sumI (xa v) i) + ((xa v) i))), (5, .int (clrI (xa v) (i + 1))), (6, .int ((sumI (xl v) i) + ((xl v) i))), (7, .int (nI (i + 1)))]) [6, 7, 8, 4, 3, 2, 1, 0] rfl ?_
            exact (by have e9 := ih (i + 1) (by omega); rw [luk_lt hI (by omega) c293] at e9; exact e9)
          · skip
            refine z_iconst (v := 1) C dX1_isSame_332 (by decide) ?_
            refine z_goto (tgt := 337) C dX1_isSame_333 (by decide) ?_
            refine z_iadd C dX1_isSame_337 ?_
            refine z_top (y := clrI (xa v) (i + 1)) (show clrI (xa v) i + 1 = (if xa v i = 0 then clrI (xa v) i + 1 else clrI (xa v) i) from by rw [if_pos c329]) ?_
            refine z_istore (L' := [(5, .int (clrI (xa v) (i + 1))), (4, .int ((sumI (xa v) i) + ((xa v) i))), (3, .int (nI i)), (8, .ref (gM G i)), (0, .ref (gO G)), (1, .ref (hh 0)), (2, .int (nI (xn v))), (6, .int (sumI (xl v) i)), (7, .int (nI i))]) C dX1_isSame_338 (by decide) rfl ?_
            refine z_iload C 7 dX1_isSame_340 rfl ?_
            refine z_aload C 3 dX1_isSame_342 rfl ?_
            refine z_iconst (v := 0) C dX1_isSame_344 (by decide) ?_
            refine z_mget (x := (xl v) i) C 0 rfl 0 rfl (by decide) (show i < xn v from by omega) rfl dX1_isSame_345 ?_
            refine z_iadd C dX1_isSame_346 ?_
            refine z_istore (L' := [(6, .int ((sumI (xl v) i) + ((xl v) i))), (5, .int (clrI (xa v) (i + 1))), (4, .int ((sumI (xa v) i) + ((xa v) i))), (3, .int (nI i)), (8, .ref (gM G i)), (0, .ref (gO G)), (1, .ref (hh 0)), (2, .int (nI (xn v))), (7, .int (nI i))]) C dX1_isSame_347 (by decide) rfl ?_
            refine z_iinc (v := nI (i + 1)) (L' := [(7, .int (nI (i + 1))), (6, .int ((sumI (xl v) i) + ((xl v) i))), (5, .int (clrI (xa v) (i + 1))), (4, .int ((sumI (xa v) i) + ((xa v) i))), (3, .int (nI i)), (8, .ref (gM G i)), (0, .ref (gO G)), (1, .ref (hh 0)), (2, .int (nI (xn v)))]) C 8 dX1_isSame_349 rfl (z_inc _) (by decide) rfl ?_
            refine z_goto (tgt := 178) C dX1_isSame_352 (by decide) ?_
            refine z_sub (L' := [(0, .ref (gO G)), (1, .ref (hh 0)), (2, .int (nI (xn v))), (3, .int (nI i)), (4, .int ((sumI (xa v) i) + ((xa v) i))), (5, .int (clrI (xa v) (i + 1))), (6, .int ((sumI (xl v) i) + ((xl v) i))), (7, .int (nI (i + 1)))]) [6, 7, 8, 4, 3, 2, 1, 0] rfl ?_
            exact (by have e9 := ih (i + 1) (by omega); rw [luk_lt hI (by omega) c293] at e9; exact e9)
        · skip
          obtain ⟨b, hb1, hb2⟩ := luk_ge hI (i := i) (by omega) c293
          refine z_aload C 0 dX1_isSame_296 rfl ?_
          refine z_iconst (v := 0) C dX1_isSame_298 (by decide) ?_
          refine z_mget (x := (xl v) i) C 0 rfl 0 rfl (by decide) (show i < xn v from by omega) rfl dX1_isSame_299 ?_
          refine z_aload_n C 1 dX1_isSame_300 rfl rfl ?_
          refine z_sget (v := .ref (gA G)) C ins 3 (by decide) rfl wd1 dX1_isSame_301 ?_
          refine z_iload_n C 4 dX1_isSame_304 rfl rfl ?_
          refine z_mrow C 2 rfl b (congrArg Prod.fst hb2) (show b < xn v from by omega) hn8 dX1_isSame_305 ?_
          refine z_iconst (v := 0) C dX1_isSame_306 (by decide) ?_
          refine z_mget (x := (xl v) b) C 0 rfl 0 rfl (by decide) (show b < xn v from by omega) rfl dX1_isSame_307 ?_
          refine z_icmp_le (tgt := 314) C dX1_isSame_308 (by decide) (fun c308 => ?_) (fun c308 => ?_)
          · skip
            refine z_iload C 5 dX1_isSame_314 rfl ?_
            refine z_aload C 0 dX1_isSame_316 rfl ?_
            refine z_iconst (v := 1) C dX1_isSame_318 (by decide) ?_
            refine z_mget (x := (xa v) i) C 0 rfl 1 rfl (by decide) (show i < xn v from by omega) rfl dX1_isSame_319 ?_
            refine z_iadd C dX1_isSame_320 ?_
            refine z_istore (L' := [(4, .int ((sumI (xa v) i) + ((xa v) i))), (8, .ref (gM G i)), (0, .ref (gO G)), (1, .ref (hh 0)), (2, .int (nI (xn v))), (3, .int ((lukN (xl v) i).1)), (5, .int (clrI (xa v) i)), (6, .int (sumI (xl v) i)), (7, .int (nI i))]) C dX1_isSame_321 (by decide) rfl ?_
            refine z_iload C 6 dX1_isSame_323 rfl ?_
            refine z_aload C 1 dX1_isSame_325 rfl ?_
            refine z_iconst (v := 1) C dX1_isSame_327 (by decide) ?_
            refine z_mget (x := (xa v) i) C 0 rfl 1 rfl (by decide) (show i < xn v from by omega) rfl dX1_isSame_328 ?_
            refine z_if_ne (tgt := 336) C dX1_isSame_329 (by decide) (fun c329 => ?_) (fun c329 => ?_)
            · skip
              refine z_iconst (v := 0) C dX1_isSame_336 (by decide) ?_
              refine z_iadd C dX1_isSame_337 ?_
              refine z_top (y := clrI (xa v) (i + 1)) (show clrI (xa v) i + 0 = (if xa v i = 0 then clrI (xa v) i + 1 else clrI (xa v) i) from by rw [if_neg c329, Int32.add_zero]) ?_
              refine z_istore (L' := [(5, .int (clrI (xa v) (i + 1))), (4, .int ((sumI (xa v) i) + ((xa v) i))), (8, .ref (gM G i)), (0, .ref (gO G)), (1, .ref (hh 0)), (2, .int (nI (xn v))), (3, .int ((lukN (xl v) i).1)), (6, .int (sumI (xl v) i)), (7, .int (nI i))]) C dX1_isSame_338 (by decide) rfl ?_
              refine z_iload C 7 dX1_isSame_340 rfl ?_
              refine z_aload C 2 dX1_isSame_342 rfl ?_
              refine z_iconst (v := 0) C dX1_isSame_344 (by decide) ?_
              refine z_mget (x := (xl v) i) C 0 rfl 0 rfl (by decide) (show i < xn v from by omega) rfl dX1_isSame_345 ?_
              refine z_iadd C dX1_isSame_346 ?_
              refine z_istore (L' := [(6, .int ((sumI (xl v) i) + ((xl v) i))), (5, .int (clrI (xa v) (i + 1))), (4, .int ((sumI (xa v) i) + ((xa v) i))), (8, .ref (gM G i)), (0, .ref (gO G)), (1, .ref (hh 0)), (2, .int (nI (xn v))), (3, .int ((lukN (xl v) i).1)), (7, .int (nI i))]) C dX1_isSame_347 (by decide) rfl ?_
              refine z_iinc (v := nI (i + 1)) (L' := [(7, .int (nI (i + 1))), (6, .int ((sumI (xl v) i) + ((xl v) i))), (5, .int (clrI (xa v) (i + 1))), (4, .int ((sumI (xa v) i) + ((xa v) i))), (8, .ref (gM G i)), (0, .ref (gO G)), (1, .ref (hh 0)), (2, .int (nI (xn v))), (3, .int ((lukN (xl v) i).1))]) C 8 dX1_isSame_349 rfl (z_inc _) (by decide) rfl ?_
              refine z_goto (tgt := 178) C dX1_isSame_352 (by decide) ?_
              refine z_sub (L' := [(0, .ref (gO G)), (1, .ref (hh 0)), (2, .int (nI (xn v))), (3, .int ((lukN (xl v) i).1)), (4, .int ((sumI (xa v) i) + ((xa v) i))), (5, .int (clrI (xa v) (i + 1))), (6, .int ((sumI (xl v) i) + ((xl v) i))), (7, .int (nI (i + 1)))]) [5, 6, 7, 8, 3, 2, 1, 0] rfl ?_
              exact (by have e9 := ih (i + 1) (by omega); rw [show lukN (xl v) (i + 1) = lukN (xl v) i from if_pos (by rw [hb2]; exact c308)] at e9; exact e9)
            · skip
              refine z_iconst (v := 1) C dX1_isSame_332 (by decide) ?_
              refine z_goto (tgt := 337) C dX1_isSame_333 (by decide) ?_
              refine z_iadd C dX1_isSame_337 ?_
              refine z_top (y := clrI (xa v) (i + 1)) (show clrI (xa v) i + 1 = (if xa v i = 0 then clrI (xa v) i + 1 else clrI (xa v) i) from by rw [if_pos c329]) ?_
              refine z_istore (L' := [(5, .int (clrI (xa v) (i + 1))), (4, .int ((sumI (xa v) i) + ((xa v) i))), (8, .ref (gM G i)), (0, .ref (gO G)), (1, .ref (hh 0)), (2, .int (nI (xn v))), (3, .int ((lukN (xl v) i).1)), (6, .int (sumI (xl v) i)), (7, .int (nI i))]) C dX1_isSame_338 (by decide) rfl ?_
              refine z_iload C 7 dX1_isSame_340 rfl ?_
              refine z_aload C 2 dX1_isSame_342 rfl ?_
              refine z_iconst (v := 0) C dX1_isSame_344 (by decide) ?_
              refine z_mget (x := (xl v) i) C 0 rfl 0 rfl (by decide) (show i < xn v from by omega) rfl dX1_isSame_345 ?_
              refine z_iadd C dX1_isSame_346 ?_
              refine z_istore (L' := [(6, .int ((sumI (xl v) i) + ((xl v) i))), (5, .int (clrI (xa v) (i + 1))), (4, .int ((sumI (xa v) i) + ((xa v) i))), (8, .ref (gM G i)), (0, .ref (gO G)), (1, .ref (hh 0)), (2, .int (nI (xn v))), (3, .int ((lukN (xl v) i).1)), (7, .int (nI i))]) C dX1_isSame_347 (by decide) rfl ?_
              refine z_iinc (v := nI (i + 1)) (L' := [(7, .int (nI (i + 1))), (6, .int ((sumI (xl v) i) + ((xl v) i))), (5, .int (clrI (xa v) (i + 1))), (4, .int ((sumI (xa v) i) + ((xa v) i))), (8, .ref (gM G i)), (0, .ref (gO G)), (1, .ref (hh 0)), (2, .int (nI (xn v))), (3, .int ((lukN (xl v) i).1))]) C 8 dX1_isSame_349 rfl (z_inc _) (by decide) rfl ?_
              refine z_goto (tgt := 178) C dX1_isSame_352 (by decide) ?_
              refine z_sub (L' := [(0, .ref (gO G)), (1, .ref (hh 0)), (2, .int (nI (xn v))), (3, .int ((lukN (xl v) i).1)), (4, .int ((sumI (xa v) i) + ((xa v) i))), (5, .int (clrI (xa v) (i + 1))), (6, .int ((sumI (xl v) i) + ((xl v) i))), (7, .int (nI (i + 1)))]) [5, 6, 7, 8, 3, 2, 1, 0] rfl ?_
              exact (by have e9 := ih (i + 1) (by omega); rw [show lukN (xl v) (i + 1) = lukN (xl v) i from if_pos (by rw [hb2]; exact c308)] at e9; exact e9)
          · skip
            refine z_iload C 8 dX1_isSame_311 rfl ?_
            refine z_istore_n (L' := [(3, .int (nI i)), (8, .ref (gM G i)), (0, .ref (gO G)), (1, .ref (hh 0)), (2, .int (nI (xn v))), (4, .int (sumI (xa v) i)), (5, .int (clrI (xa v) i)), (6, .int (sumI (xl v) i)), (7, .int (nI i))]) C dX1_isSame_313 rfl (by decide) rfl ?_
            refine z_iload C 5 dX1_isSame_314 rfl ?_
            refine z_aload C 1 dX1_isSame_316 rfl ?_
            refine z_iconst (v := 1) C dX1_isSame_318 (by decide) ?_
            refine z_mget (x := (xa v) i) C 0 rfl 1 rfl (by decide) (show i < xn v from by omega) rfl dX1_isSame_319 ?_
            refine z_iadd C dX1_isSame_320 ?_
            refine z_istore (L' := [(4, .int ((sumI (xa v) i) + ((xa v) i))), (3, .int (nI i)), (8, .ref (gM G i)), (0, .ref (gO G)), (1, .ref (hh 0)), (2, .int (nI (xn v))), (5, .int (clrI (xa v) i)), (6, .int (sumI (xl v) i)), (7, .int (nI i))]) C dX1_isSame_321 (by decide) rfl ?_
            refine z_iload C 6 dX1_isSame_323 rfl ?_
            refine z_aload C 2 dX1_isSame_325 rfl ?_
            refine z_iconst (v := 1) C dX1_isSame_327 (by decide) ?_
            refine z_mget (x := (xa v) i) C 0 rfl 1 rfl (by decide) (show i < xn v from by omega) rfl dX1_isSame_328 ?_
            refine z_if_ne (tgt := 336) C dX1_isSame_329 (by decide) (fun c329 => ?_) (fun c329 => ?_)
            · skip
              refine z_iconst (v := 0) C dX1_isSame_336 (by decide) ?_
              refine z_iadd C dX1_isSame_337 ?_
              refine z_top (y := clrI (xa v) (i + 1)) (show clrI (xa v) i + 0 = (if xa v i = 0 then clrI (xa v) i + 1 else clrI (xa v) i) from by rw [if_neg c329, Int32.add_zero]) ?_
              refine z_istore (L' := [(5, .int (clrI (xa v) (i + 1))), (4, .int ((sumI (xa v) i) + ((xa v) i))), (3, .int (nI i)), (8, .ref (gM G i)), (0, .ref (gO G)), (1, .ref (hh 0)), (2, .int (nI (xn v))), (6, .int (sumI (xl v) i)), (7, .int (nI i))]) C dX1_isSame_338 (by decide) rfl ?_
              refine z_iload C 7 dX1_isSame_340 rfl ?_
              refine z_aload C 3 dX1_isSame_342 rfl ?_
              refine z_iconst (v := 0) C dX1_isSame_344 (by decide) ?_
              refine z_mget (x := (xl v) i) C 0 rfl 0 rfl (by decide) (show i < xn v from by omega) rfl dX1_isSame_345 ?_
              refine z_iadd C dX1_isSame_346 ?_
              refine z_istore (L' := [(6, .int ((sumI (xl v) i) + ((xl v) i))), (5, .int (clrI (xa v) (i + 1))), (4, .int ((sumI (xa v) i) + ((xa v) i))), (3, .int (nI i)), (8, .ref (gM G i)), (0, .ref (gO G)), (1, .ref (hh 0)), (2, .int (nI (xn v))), (7, .int (nI i))]) C dX1_isSame_347 (by decide) rfl ?_
              refine z_iinc (v := nI (i + 1)) (L' := [(7, .int (nI (i + 1))), (6, .int ((sumI (xl v) i) + ((xl v) i))), (5, .int (clrI (xa v) (i + 1))), (4, .int ((sumI (xa v) i) + ((xa v) i))), (3, .int (nI i)), (8, .ref (gM G i)), (0, .ref (gO G)), (1, .ref (hh 0)), (2, .int (nI (xn v)))]) C 8 dX1_isSame_349 rfl (z_inc _) (by decide) rfl ?_
              refine z_goto (tgt := 178) C dX1_isSame_352 (by decide) ?_
              refine z_sub (L' := [(0, .ref (gO G)), (1, .ref (hh 0)), (2, .int (nI (xn v))), (3, .int (nI i)), (4, .int ((sumI (xa v) i) + ((xa v) i))), (5, .int (clrI (xa v) (i + 1))), (6, .int ((sumI (xl v) i) + ((xl v) i))), (7, .int (nI (i + 1)))]) [6, 7, 8, 4, 3, 2, 1, 0] rfl ?_
              exact (by have e9 := ih (i + 1) (by omega); rw [show lukN (xl v) (i + 1) = (nI i, xl v i) from if_neg (by rw [hb2]; exact c308)] at e9; exact e9)
            · skip
              refine z_iconst (v := 1) C dX1_isSame_332 (by decide) ?_
              refine z_goto (tgt := 337) C dX1_isSame_333 (by decide) ?_
              refine z_iadd C dX1_isSame_337 ?_
              refine z_top (y := clrI (xa v) (i + 1)) (show clrI (xa v) i + 1 = (if xa v i = 0 then clrI (xa v) i + 1 else clrI (xa v) i) from by rw [if_pos c329]) ?_
              refine z_istore (L' := [(5, .int (clrI (xa v) (i + 1))), (4, .int ((sumI (xa v) i) + ((xa v) i))), (3, .int (nI i)), (8, .ref (gM G i)), (0, .ref (gO G)), (1, .ref (hh 0)), (2, .int (nI (xn v))), (6, .int (sumI (xl v) i)), (7, .int (nI i))]) C dX1_isSame_338 (by decide) rfl ?_
              refine z_iload C 7 dX1_isSame_340 rfl ?_
              refine z_aload C 3 dX1_isSame_342 rfl ?_
              refine z_iconst (v := 0) C dX1_isSame_344 (by decide) ?_
              refine z_mget (x := (xl v) i) C 0 rfl 0 rfl (by decide) (show i < xn v from by omega) rfl dX1_isSame_345 ?_
              refine z_iadd C dX1_isSame_346 ?_
              refine z_istore (L' := [(6, .int ((sumI (xl v) i) + ((xl v) i))), (5, .int (clrI (xa v) (i + 1))), (4, .int ((sumI (xa v) i) + ((xa v) i))), (3, .int (nI i)), (8, .ref (gM G i)), (0, .ref (gO G)), (1, .ref (hh 0)), (2, .int (nI (xn v))), (7, .int (nI i))]) C dX1_isSame_347 (by decide) rfl ?_
              refine z_iinc (v := nI (i + 1)) (L' := [(7, .int (nI (i + 1))), (6, .int ((sumI (xl v) i) + ((xl v) i))), (5, .int (clrI (xa v) (i + 1))), (4, .int ((sumI (xa v) i) + ((xa v) i))), (3, .int (nI i)), (8, .ref (gM G i)), (0, .ref (gO G)), (1, .ref (hh 0)), (2, .int (nI (xn v)))]) C 8 dX1_isSame_349 rfl (z_inc _) (by decide) rfl ?_
              refine z_goto (tgt := 178) C dX1_isSame_352 (by decide) ?_
              refine z_sub (L' := [(0, .ref (gO G)), (1, .ref (hh 0)), (2, .int (nI (xn v))), (3, .int (nI i)), (4, .int ((sumI (xa v) i) + ((xa v) i))), (5, .int (clrI (xa v) (i + 1))), (6, .int ((sumI (xl v) i) + ((xl v) i))), (7, .int (nI (i + 1)))]) [6, 7, 8, 4, 3, 2, 1, 0] rfl ?_
              exact (by have e9 := ih (i + 1) (by omega); rw [show lukN (xl v) (i + 1) = (nI i, xl v i) from if_neg (by rw [hb2]; exact c308)] at e9; exact e9)
  have lp74 : ∀ (dd i : Nat), i + dd = xk v → zG p l e ({ frames := 2, cells := 0, slots := 0, locals := 44 } : Room) s m args below meth c D 9 A 0 0 (MQ below (zQX (fun _ : Unit => True) (fun _ => some (.int 1)) (fun _ => wX0 hh cI cZ v ++ wS G cI cP v) D A) args s 0 0 A) 74 [(0, .ref (gO G)), (1, .ref (hh 0)), (2, .int (nI (xn v))), (3, .int (nI i))] [] ((wX0 hh cI cZ v) ++ (wS G cI cP v)) := by
    intro dd
    induction dd with
    | zero =>
      intro i hi
      have hi : i = xk v := by omega
      subst hi
      refine z_iload_n C 3 dX1_isSame_74 rfl rfl ?_
      refine z_aload_n C 0 dX1_isSame_75 rfl rfl ?_
      refine z_sget (v := .ref (gB G)) C ins 4 (by decide) rfl wd2 dX1_isSame_76 ?_
      refine z_alenB C 2 rfl dX1_isSame_79 ?_
      refine z_icmp_ge (tgt := 164) C dX1_isSame_80 (by decide) (fun _ => ?_) (fun h9 => absurd (nI_le (by omega) (by omega)) h9)
      refine z_iconst (v := -1) C dX1_isSame_164 (by decide) ?_
      refine z_istore_n (L' := [(3, .int (-1)), (0, .ref (gO G)), (1, .ref (hh 0)), (2, .int (nI (xn v)))]) C dX1_isSame_165 rfl (by decide) rfl ?_
      refine z_iconst (v := 0) C dX1_isSame_166 (by decide) ?_
      refine z_istore (L' := [(4, .int 0), (3, .int (-1)), (0, .ref (gO G)), (1, .ref (hh 0)), (2, .int (nI (xn v)))]) C dX1_isSame_167 (by decide) rfl ?_
      refine z_iconst (v := 0) C dX1_isSame_169 (by decide) ?_
      refine z_istore (L' := [(5, .int 0), (4, .int 0), (3, .int (-1)), (0, .ref (gO G)), (1, .ref (hh 0)), (2, .int (nI (xn v)))]) C dX1_isSame_170 (by decide) rfl ?_
      refine z_iconst (v := 0) C dX1_isSame_172 (by decide) ?_
      refine z_istore (L' := [(6, .int 0), (5, .int 0), (4, .int 0), (3, .int (-1)), (0, .ref (gO G)), (1, .ref (hh 0)), (2, .int (nI (xn v)))]) C dX1_isSame_173 (by decide) rfl ?_
      refine z_iconst (v := 0) C dX1_isSame_175 (by decide) ?_
      refine z_istore (L' := [(7, .int 0), (6, .int 0), (5, .int 0), (4, .int 0), (3, .int (-1)), (0, .ref (gO G)), (1, .ref (hh 0)), (2, .int (nI (xn v)))]) C dX1_isSame_176 (by decide) rfl ?_
      refine z_sub (L' := [(0, .ref (gO G)), (1, .ref (hh 0)), (2, .int (nI (xn v))), (3, .int (-1)), (4, .int 0), (5, .int 0), (6, .int 0), (7, .int 0)]) [5, 6, 7, 4, 3, 2, 1, 0] rfl ?_
      exact lp178 (xn v) 0 (by omega)
    | succ dd ih =>
      intro i hi
      obtain ⟨j0, g0, x0, w1, w2, w3, w4, w5, w6, w7, hf, w9⟩ := hI.led i (by omega)
      refine z_iload_n C 3 dX1_isSame_74 rfl rfl ?_
      refine z_aload_n C 0 dX1_isSame_75 rfl rfl ?_
      refine z_sget (v := .ref (gB G)) C ins 4 (by decide) rfl wd2 dX1_isSame_76 ?_
      refine z_alenB C 2 rfl dX1_isSame_79 ?_
      refine z_icmp_ge (tgt := 164) C dX1_isSame_80 (by decide) (fun h9 => absurd h9 (nI_ge (by omega) (by omega))) (fun _ => ?_)
      refine z_aload_n C 1 dX1_isSame_83 rfl rfl ?_
      refine z_iload_n C 3 dX1_isSame_84 rfl rfl ?_
      refine z_callV (w := (wX0 hh cI cZ v)) (w' := (wX0 hh cI cZ v)) (w1 := ([] : va_W)) (w2 := (([] : va_W) ++ (wS G cI cP v))) (ws' := ((wX0 hh cI cZ v) ++ (wS G cI cP v))) (As := [.int (nI i)]) (rest := []) (st' := [.int (xw v i)]) (rv := some (.int (xw v i))) C (c_X0_memberOf l D hh cI cZ v i (by omega) (by omega)) (cwV 1 C.words gX1_isSame_X0_memberOf rfl rfl rfl (by decide +kernel) ⟨(Nat.le_of_ble_eq_true rfl), (Nat.le_of_ble_eq_true rfl)⟩) (q0 := 0) (ci := 0) rfl rfl rfl [0, 1] rfl rfl (Nat.le_of_ble_eq_true rfl) ⟨(Nat.le_of_ble_eq_true rfl), (Nat.le_of_ble_eq_true rfl)⟩ rfl rfl rfl rfl rfl dX1_isSame_85 ?_
      refine z_aload_n C 0 dX1_isSame_88 rfl rfl ?_
      refine z_sget (v := .ref (gB G)) C ins 4 (by decide) rfl wd2 dX1_isSame_89 ?_
      refine z_iload_n C 3 dX1_isSame_92 rfl rfl ?_
      refine z_lrow C 2 rfl i rfl (show i < xk v from by omega) hk30 dX1_isSame_93 ?_
      refine z_iconst (v := 0) C dX1_isSame_94 (by decide) ?_
      refine z_lget (x := (xw v) i) C 0 rfl 0 rfl (by decide) (show i < xk v from by omega) rfl dX1_isSame_95 ?_
      refine z_icmp_ne (tgt := 156) C dX1_isSame_96 (by decide) (fun h9 => absurd h9 ((fun q => q rfl))) (fun _ => ?_)
      refine z_aload_n C 1 dX1_isSame_99 rfl rfl ?_
      refine z_iload_n C 3 dX1_isSame_100 rfl rfl ?_
      refine z_callV (w := (wX0 hh cI cZ v)) (w' := (wX0 hh cI cZ v)) (w1 := ([] : va_W)) (w2 := (([] : va_W) ++ (wS G cI cP v))) (ws' := ((wX0 hh cI cZ v) ++ (wS G cI cP v))) (As := [.int (nI i)]) (rest := []) (st' := [.int (xf v i)]) (rv := some (.int (xf v i))) C (c_X0_isLeft l D hh cI cZ v i (by omega) (by omega) hf) (cwV 1 C.words gX1_isSame_X0_isLeft rfl rfl rfl (by decide +kernel) ⟨(Nat.le_of_ble_eq_true rfl), (Nat.le_of_ble_eq_true rfl)⟩) (q0 := 0) (ci := 0) rfl rfl rfl [0, 1] rfl rfl (Nat.le_of_ble_eq_true rfl) ⟨(Nat.le_of_ble_eq_true rfl), (Nat.le_of_ble_eq_true rfl)⟩ rfl rfl rfl rfl rfl dX1_isSame_101 ?_
      refine z_aload_n C 0 dX1_isSame_104 rfl rfl ?_
      refine z_sget (v := .ref (gB G)) C ins 4 (by decide) rfl wd2 dX1_isSame_105 ?_
      refine z_iload_n C 3 dX1_isSame_108 rfl rfl ?_
      refine z_lrow C 2 rfl i rfl (show i < xk v from by omega) hk30 dX1_isSame_109 ?_
      refine z_iconst (v := 1) C dX1_isSame_110 (by decide) ?_
      refine z_lget (x := (xf v) i) C 0 rfl 1 rfl (by decide) (show i < xk v from by omega) rfl dX1_isSame_111 ?_
      refine z_iconst (v := 1) C dX1_isSame_112 (by decide) ?_
      refine z_icmp_ne (tgt := 120) C dX1_isSame_113 (by decide) (fun c113 => ?_) (fun c113 => ?_)
      · skip
        refine z_iconst (v := 0) C dX1_isSame_120 (by decide) ?_
        refine z_icmp_ne (tgt := 156) C dX1_isSame_121 (by decide) (fun h9 => absurd h9 ((fun q => q (hf.resolve_right c113)))) (fun _ => ?_)
        refine z_aload_n C 1 dX1_isSame_124 rfl rfl ?_
        refine z_iload_n C 3 dX1_isSame_125 rfl rfl ?_
        refine z_callV (w := (wX0 hh cI cZ v)) (w' := (wX0 hh cI cZ v)) (w1 := ([] : va_W)) (w2 := (([] : va_W) ++ (wS G cI cP v))) (ws' := ((wX0 hh cI cZ v) ++ (wS G cI cP v))) (As := [.int (nI i)]) (rest := []) (st' := [.int (xg v i)]) (rv := some (.int (xg v i))) C (c_X0_grainsOf l D hh cI cZ v i (by omega) (by omega)) (cwV 1 C.words gX1_isSame_X0_grainsOf rfl rfl rfl (by decide +kernel) ⟨(Nat.le_of_ble_eq_true rfl), (Nat.le_of_ble_eq_true rfl)⟩) (q0 := 0) (ci := 0) rfl rfl rfl [0, 1] rfl rfl (Nat.le_of_ble_eq_true rfl) ⟨(Nat.le_of_ble_eq_true rfl), (Nat.le_of_ble_eq_true rfl)⟩ rfl rfl rfl rfl rfl dX1_isSame_126 ?_
        refine z_aload_n C 0 dX1_isSame_129 rfl rfl ?_
        refine z_sget (v := .ref (gB G)) C ins 4 (by decide) rfl wd2 dX1_isSame_130 ?_
        refine z_iload_n C 3 dX1_isSame_133 rfl rfl ?_
        refine z_lrow C 2 rfl i rfl (show i < xk v from by omega) hk30 dX1_isSame_134 ?_
        refine z_iconst (v := 2) C dX1_isSame_135 (by decide) ?_
        refine z_lget (x := (xg v) i) C 0 rfl 2 rfl (by decide) (show i < xk v from by omega) rfl dX1_isSame_136 ?_
        refine z_icmp_ne (tgt := 156) C dX1_isSame_137 (by decide) (fun h9 => absurd h9 ((fun q => q rfl))) (fun _ => ?_)
        refine z_aload_n C 1 dX1_isSame_140 rfl rfl ?_
        refine z_iload_n C 3 dX1_isSame_141 rfl rfl ?_
        refine z_callV (w := (wX0 hh cI cZ v)) (w' := (wX0 hh cI cZ v)) (w1 := ([] : va_W)) (w2 := (([] : va_W) ++ (wS G cI cP v))) (ws' := ((wX0 hh cI cZ v) ++ (wS G cI cP v))) (As := [.int (nI i)]) (rest := []) (st' := [.int (xx v i)]) (rv := some (.int (xx v i))) C (c_X0_excessOf l D hh cI cZ v i (by omega) (by omega)) (cwV 1 C.words gX1_isSame_X0_excessOf rfl rfl rfl (by decide +kernel) ⟨(Nat.le_of_ble_eq_true rfl), (Nat.le_of_ble_eq_true rfl)⟩) (q0 := 0) (ci := 0) rfl rfl rfl [0, 1] rfl rfl (Nat.le_of_ble_eq_true rfl) ⟨(Nat.le_of_ble_eq_true rfl), (Nat.le_of_ble_eq_true rfl)⟩ rfl rfl rfl rfl rfl dX1_isSame_142 ?_
        refine z_aload_n C 0 dX1_isSame_145 rfl rfl ?_
        refine z_sget (v := .ref (gB G)) C ins 4 (by decide) rfl wd2 dX1_isSame_146 ?_
        refine z_iload_n C 3 dX1_isSame_149 rfl rfl ?_
        refine z_lrow C 2 rfl i rfl (show i < xk v from by omega) hk30 dX1_isSame_150 ?_
        refine z_iconst (v := 3) C dX1_isSame_151 (by decide) ?_
        refine z_lget (x := (xx v) i) C 0 rfl 3 rfl (by decide) (show i < xk v from by omega) rfl dX1_isSame_152 ?_
        refine z_icmp_eq (tgt := 158) C dX1_isSame_153 (by decide) (fun _ => ?_) (fun h9 => absurd (rfl) h9)
        refine z_iinc (v := nI (i + 1)) (L' := [(3, .int (nI (i + 1))), (0, .ref (gO G)), (1, .ref (hh 0)), (2, .int (nI (xn v)))]) C 3 dX1_isSame_158 rfl (z_inc _) (by decide) rfl ?_
        refine z_goto (tgt := 74) C dX1_isSame_161 (by decide) ?_
        refine z_sub (L' := [(0, .ref (gO G)), (1, .ref (hh 0)), (2, .int (nI (xn v))), (3, .int (nI (i + 1)))]) [1, 2, 3, 0] rfl ?_
        exact ih (i + 1) (by omega)
      · skip
        refine z_iconst (v := 1) C dX1_isSame_116 (by decide) ?_
        refine z_goto (tgt := 121) C dX1_isSame_117 (by decide) ?_
        refine z_icmp_ne (tgt := 156) C dX1_isSame_121 (by decide) (fun h9 => absurd h9 ((fun q => q c113))) (fun _ => ?_)
        refine z_aload_n C 1 dX1_isSame_124 rfl rfl ?_
        refine z_iload_n C 3 dX1_isSame_125 rfl rfl ?_
        refine z_callV (w := (wX0 hh cI cZ v)) (w' := (wX0 hh cI cZ v)) (w1 := ([] : va_W)) (w2 := (([] : va_W) ++ (wS G cI cP v))) (ws' := ((wX0 hh cI cZ v) ++ (wS G cI cP v))) (As := [.int (nI i)]) (rest := []) (st' := [.int (xg v i)]) (rv := some (.int (xg v i))) C (c_X0_grainsOf l D hh cI cZ v i (by omega) (by omega)) (cwV 1 C.words gX1_isSame_X0_grainsOf rfl rfl rfl (by decide +kernel) ⟨(Nat.le_of_ble_eq_true rfl), (Nat.le_of_ble_eq_true rfl)⟩) (q0 := 0) (ci := 0) rfl rfl rfl [0, 1] rfl rfl (Nat.le_of_ble_eq_true rfl) ⟨(Nat.le_of_ble_eq_true rfl), (Nat.le_of_ble_eq_true rfl)⟩ rfl rfl rfl rfl rfl dX1_isSame_126 ?_
        refine z_aload_n C 0 dX1_isSame_129 rfl rfl ?_
        refine z_sget (v := .ref (gB G)) C ins 4 (by decide) rfl wd2 dX1_isSame_130 ?_
        refine z_iload_n C 3 dX1_isSame_133 rfl rfl ?_
        refine z_lrow C 2 rfl i rfl (show i < xk v from by omega) hk30 dX1_isSame_134 ?_
        refine z_iconst (v := 2) C dX1_isSame_135 (by decide) ?_
        refine z_lget (x := (xg v) i) C 0 rfl 2 rfl (by decide) (show i < xk v from by omega) rfl dX1_isSame_136 ?_
        refine z_icmp_ne (tgt := 156) C dX1_isSame_137 (by decide) (fun h9 => absurd h9 ((fun q => q rfl))) (fun _ => ?_)
        refine z_aload_n C 1 dX1_isSame_140 rfl rfl ?_
        refine z_iload_n C 3 dX1_isSame_141 rfl rfl ?_
        refine z_callV (w := (wX0 hh cI cZ v)) (w' := (wX0 hh cI cZ v)) (w1 := ([] : va_W)) (w2 := (([] : va_W) ++ (wS G cI cP v))) (ws' := ((wX0 hh cI cZ v) ++ (wS G cI cP v))) (As := [.int (nI i)]) (rest := []) (st' := [.int (xx v i)]) (rv := some (.int (xx v i))) C (c_X0_excessOf l D hh cI cZ v i (by omega) (by omega)) (cwV 1 C.words gX1_isSame_X0_excessOf rfl rfl rfl (by decide +kernel) ⟨(Nat.le_of_ble_eq_true rfl), (Nat.le_of_ble_eq_true rfl)⟩) (q0 := 0) (ci := 0) rfl rfl rfl [0, 1] rfl rfl (Nat.le_of_ble_eq_true rfl) ⟨(Nat.le_of_ble_eq_true rfl), (Nat.le_of_ble_eq_true rfl)⟩ rfl rfl rfl rfl rfl dX1_isSame_142 ?_
        refine z_aload_n C 0 dX1_isSame_145 rfl rfl ?_
        refine z_sget (v := .ref (gB G)) C ins 4 (by decide) rfl wd2 dX1_isSame_146 ?_
        refine z_iload_n C 3 dX1_isSame_149 rfl rfl ?_
        refine z_lrow C 2 rfl i rfl (show i < xk v from by omega) hk30 dX1_isSame_150 ?_
        refine z_iconst (v := 3) C dX1_isSame_151 (by decide) ?_
        refine z_lget (x := (xx v) i) C 0 rfl 3 rfl (by decide) (show i < xk v from by omega) rfl dX1_isSame_152 ?_
        refine z_icmp_eq (tgt := 158) C dX1_isSame_153 (by decide) (fun _ => ?_) (fun h9 => absurd (rfl) h9)
        refine z_iinc (v := nI (i + 1)) (L' := [(3, .int (nI (i + 1))), (0, .ref (gO G)), (1, .ref (hh 0)), (2, .int (nI (xn v)))]) C 3 dX1_isSame_158 rfl (z_inc _) (by decide) rfl ?_
        refine z_goto (tgt := 74) C dX1_isSame_161 (by decide) ?_
        refine z_sub (L' := [(0, .ref (gO G)), (1, .ref (hh 0)), (2, .int (nI (xn v))), (3, .int (nI (i + 1)))]) [1, 2, 3, 0] rfl ?_
        exact ih (i + 1) (by omega)
  refine z_aload_n C 0 dX1_isSame_0 rfl rfl ?_
  refine z_sget (v := .ref (gA G)) C ins 3 (by decide) rfl wd1 dX1_isSame_1 ?_
  refine z_alenA C 2 rfl dX1_isSame_4 ?_
  refine z_istore_n (L' := [(2, .int (nI (xn v))), (0, .ref (gO G)), (1, .ref (hh 0))]) C dX1_isSame_5 rfl (by decide) rfl ?_
  refine z_aload_n C 2 dX1_isSame_6 rfl rfl ?_
  refine z_callV (w := (wX0 hh cI cZ v)) (w' := (wX0 hh cI cZ v)) (w1 := ([] : va_W)) (w2 := (([] : va_W) ++ (wS G cI cP v))) (ws' := ((wX0 hh cI cZ v) ++ (wS G cI cP v))) (As := []) (rest := []) (st' := [.int (xd v)]) (rv := some (.int (xd v))) C (c_X0_day l D hh cI cZ v) (cwV 0 C.words gX1_isSame_X0_day rfl rfl rfl (by decide +kernel) ⟨(Nat.le_of_ble_eq_true rfl), (Nat.le_of_ble_eq_true rfl)⟩) (q0 := 0) (ci := 0) rfl rfl rfl [0, 1] rfl rfl (Nat.le_of_ble_eq_true rfl) ⟨(Nat.le_of_ble_eq_true rfl), (Nat.le_of_ble_eq_true rfl)⟩ rfl rfl rfl rfl rfl dX1_isSame_7 ?_
  refine z_aload_n C 1 dX1_isSame_10 rfl rfl ?_
  refine z_sget (v := .int (xd v)) C ins 0 (by decide) rfl wd0 dX1_isSame_11 ?_
  refine z_icmp_ne (tgt := 70) C dX1_isSame_14 (by decide) (fun h9 => absurd h9 ((fun q => q rfl))) (fun _ => ?_)
  refine z_aload_n C 2 dX1_isSame_17 rfl rfl ?_
  refine z_callV (w := (wX0 hh cI cZ v)) (w' := (wX0 hh cI cZ v)) (w1 := ([] : va_W)) (w2 := (([] : va_W) ++ (wS G cI cP v))) (ws' := ((wX0 hh cI cZ v) ++ (wS G cI cP v))) (As := []) (rest := []) (st' := [.int (nI (xn v))]) (rv := some (.int (nI (xn v)))) C (c_X0_members l D hh cI cZ v) (cwV 0 C.words gX1_isSame_X0_members rfl rfl rfl (by decide +kernel) ⟨(Nat.le_of_ble_eq_true rfl), (Nat.le_of_ble_eq_true rfl)⟩) (q0 := 0) (ci := 0) rfl rfl rfl [0, 1] rfl rfl (Nat.le_of_ble_eq_true rfl) ⟨(Nat.le_of_ble_eq_true rfl), (Nat.le_of_ble_eq_true rfl)⟩ rfl rfl rfl rfl rfl dX1_isSame_18 ?_
  refine z_iload_n C 0 dX1_isSame_21 rfl rfl ?_
  refine z_icmp_ne (tgt := 70) C dX1_isSame_22 (by decide) (fun h9 => absurd h9 ((fun q => q rfl))) (fun _ => ?_)
  refine z_aload_n C 2 dX1_isSame_25 rfl rfl ?_
  refine z_callV (w := (wX0 hh cI cZ v)) (w' := (wX0 hh cI cZ v)) (w1 := ([] : va_W)) (w2 := (([] : va_W) ++ (wS G cI cP v))) (ws' := ((wX0 hh cI cZ v) ++ (wS G cI cP v))) (As := []) (rest := []) (st' := [.int (nI (xc v))]) (rv := some (.int (nI (xc v)))) C (c_X0_salt l D hh cI cZ v) (cwV 0 C.words gX1_isSame_X0_salt rfl rfl rfl (by decide +kernel) ⟨(Nat.le_of_ble_eq_true rfl), (Nat.le_of_ble_eq_true rfl)⟩) (q0 := 0) (ci := 0) rfl rfl rfl [0, 1] rfl rfl (Nat.le_of_ble_eq_true rfl) ⟨(Nat.le_of_ble_eq_true rfl), (Nat.le_of_ble_eq_true rfl)⟩ rfl rfl rfl rfl rfl dX1_isSame_26 ?_
  refine z_aload_n C 1 dX1_isSame_29 rfl rfl ?_
  refine z_sget (v := .int (nI (xc v))) C ins 1 (by decide) rfl wd3 dX1_isSame_30 ?_
  refine z_icmp_ne (tgt := 70) C dX1_isSame_33 (by decide) (fun h9 => absurd h9 ((fun q => q rfl))) (fun _ => ?_)
  refine z_aload_n C 2 dX1_isSame_36 rfl rfl ?_
  refine z_callV (w := (wX0 hh cI cZ v)) (w' := (wX0 hh cI cZ v)) (w1 := ([] : va_W)) (w2 := (([] : va_W) ++ (wS G cI cP v))) (ws' := ((wX0 hh cI cZ v) ++ (wS G cI cP v))) (As := []) (rest := []) (st' := [.int (nI (xk v))]) (rv := some (.int (nI (xk v)))) C (c_X0_ledger l D hh cI cZ v) (cwV 0 C.words gX1_isSame_X0_ledger rfl rfl rfl (by decide +kernel) ⟨(Nat.le_of_ble_eq_true rfl), (Nat.le_of_ble_eq_true rfl)⟩) (q0 := 0) (ci := 0) rfl rfl rfl [0, 1] rfl rfl (Nat.le_of_ble_eq_true rfl) ⟨(Nat.le_of_ble_eq_true rfl), (Nat.le_of_ble_eq_true rfl)⟩ rfl rfl rfl rfl rfl dX1_isSame_37 ?_
  refine z_aload_n C 1 dX1_isSame_40 rfl rfl ?_
  refine z_sget (v := .ref (gB G)) C ins 4 (by decide) rfl wd2 dX1_isSame_41 ?_
  refine z_alenB C 2 rfl dX1_isSame_44 ?_
  refine z_icmp_ne (tgt := 70) C dX1_isSame_45 (by decide) (fun h9 => absurd h9 ((fun q => q rfl))) (fun _ => ?_)
  refine z_aload_n C 2 dX1_isSame_48 rfl rfl ?_
  refine z_callV (w := (wX0 hh cI cZ v)) (w' := (wX0 hh cI cZ v)) (w1 := ([] : va_W)) (w2 := (([] : va_W) ++ (wS G cI cP v))) (ws' := ((wX0 hh cI cZ v) ++ (wS G cI cP v))) (As := []) (rest := []) (st' := [.int (xflt v)]) (rv := some (.int (xflt v))) C (c_X0_faults l D hh cI cZ v (by omega)) (cwV 0 C.words gX1_isSame_X0_faults rfl rfl rfl (by decide +kernel) ⟨(Nat.le_of_ble_eq_true rfl), (Nat.le_of_ble_eq_true rfl)⟩) (q0 := 0) (ci := 0) rfl rfl rfl [0, 1] rfl rfl (Nat.le_of_ble_eq_true rfl) ⟨(Nat.le_of_ble_eq_true rfl), (Nat.le_of_ble_eq_true rfl)⟩ rfl rfl rfl rfl rfl dX1_isSame_49 ?_
  refine z_aload_n C 1 dX1_isSame_52 rfl rfl ?_
  refine z_callVX (w := (wS G cI cP v)) (w1 := (wX0 hh cI cZ v)) (w2 := ([] : va_W)) (As := []) (rest := [.int (xflt v)]) C (c_X1_faults l D cI cP G v hk30) (hAA.call _) zAA.blind (cwV 0 C.words gX1_isSame_X1_faults rfl rfl rfl (by decide +kernel) ⟨(Nat.le_of_ble_eq_true rfl), (Nat.le_of_ble_eq_true rfl)⟩) (q0 := 0) (ci := 1) rfl rfl rfl [0, 2] rfl rfl (Nat.le_of_ble_eq_true rfl) ⟨(Nat.le_of_ble_eq_true rfl), (Nat.le_of_ble_eq_true rfl)⟩ (List.append_nil _).symm rfl dX1_isSame_53 (fun x9 _ => ?_)
  refine z_ws (List.append_nil _) ?_
  refine z_st (st' := [.int (xflt v), .int (xflt v)]) rfl ?_
  refine z_icmp_ne (tgt := 70) C dX1_isSame_56 (by decide) (fun h9 => absurd h9 ((fun q => q rfl))) (fun _ => ?_)
  refine z_aload_n C 2 dX1_isSame_59 rfl rfl ?_
  refine z_callV (w := (wX0 hh cI cZ v)) (w' := (wX0 hh cI cZ v)) (w1 := ([] : va_W)) (w2 := (([] : va_W) ++ (wS G cI cP v))) (ws' := ((wX0 hh cI cZ v) ++ (wS G cI cP v))) (As := []) (rest := []) (st' := [.int (xo v)]) (rv := some (.int (xo v))) C (c_X0_faultsFound l D hh cI cZ v) (cwV 0 C.words gX1_isSame_X0_faultsFound rfl rfl rfl (by decide +kernel) ⟨(Nat.le_of_ble_eq_true rfl), (Nat.le_of_ble_eq_true rfl)⟩) (q0 := 0) (ci := 0) rfl rfl rfl [0, 1] rfl rfl (Nat.le_of_ble_eq_true rfl) ⟨(Nat.le_of_ble_eq_true rfl), (Nat.le_of_ble_eq_true rfl)⟩ rfl rfl rfl rfl rfl dX1_isSame_60 ?_
  refine z_aload_n C 1 dX1_isSame_63 rfl rfl ?_
  refine z_sget (v := .int (xo v)) C ins 2 (by decide) rfl wd4 dX1_isSame_64 ?_
  refine z_icmp_eq (tgt := 72) C dX1_isSame_67 (by decide) (fun _ => ?_) (fun h9 => absurd (rfl) h9)
  refine z_iconst (v := 0) C dX1_isSame_72 (by decide) ?_
  refine z_istore_n (L' := [(3, .int 0), (2, .int (nI (xn v))), (0, .ref (gO G)), (1, .ref (hh 0))]) C dX1_isSame_73 rfl (by decide) rfl ?_
  refine z_sub (L' := [(0, .ref (gO G)), (1, .ref (hh 0)), (2, .int (nI (xn v))), (3, .int 0)]) [2, 3, 1, 0] rfl ?_
  exact lp74 (xk v) 0 (by omega)
