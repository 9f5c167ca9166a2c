set_option maxHeartbeats 8000000 in
set_option maxRecDepth 100000 in
theorem c_X1_faults (l : Launch) (D : va_G) (cI cP : ClassId) (G : AG) (u : S0) (hk30 : xk u ≤ 30) : zMX l yX1_faults wsX1_faults 0 0 0 0 [.ref (gO G)] [(cI, .int), (cP, .array .int)] D (wS G cI cP u) zAA (fun _ : Unit => True) (fun _ => some (.int (xflt u))) (fun _ => wS G cI cP u) := by
  refine z_metX (cc := cX1_faults) (maxL := 6) (ret := (some .int)) (by decide) rfl (Nat.le_of_ble_eq_true rfl) ?_
  intro p e s m args below meth c A hAw hAA C hr hlocks
  have ins : ∀ w ∈ u_ws RX1 TX1 5, w ∈ wsX1_faults := by decide +kernel
  have wd0 : Cond.fieldLink RX1 19 "SaltOrderLaw$Sim" "ledger" "[[I" ∈ wsX1_faults := by decide +kernel
  refine z_sub (L' := [(0, .ref (gO G))]) [0] rfl ?_
  refine z_ws (ws' := (([] : va_W) ++ wS G cI cP u)) rfl ?_
  have lp13 : ∀ (dd i : Nat), i + dd = xk u → zG p l e ({ frames := 0, cells := 0, slots := 0, locals := 0 } : Room) s m args below meth c D 6 A 0 0 (MQ below (zQX (fun _ : Unit => True) (fun _ => some (.int (xflt u))) (fun _ => wS G cI cP u) D A) args s 0 0 A) 13 [(0, .ref (gO G)), (1, .int (xfltN (xx u) i)), (2, .ref (gB G)), (3, .int (nI (xk u))), (4, .int (nI i))] [] (([] : va_W) ++ (wS G cI cP u)) := by
    intro dd
    induction dd with
    | zero =>
      intro i hi
      have hi : i = xk u := by omega
      subst hi
      refine z_iload C 4 dX1_faults_13 rfl ?_
      refine z_iload_n C 3 dX1_faults_15 rfl rfl ?_
      refine z_icmp_ge (tgt := 46) C dX1_faults_16 (by decide) (fun _ => ?_) (fun h9 => absurd (nI_le (by omega) (by omega)) h9)
      refine z_iload_n C 1 dX1_faults_46 rfl rfl ?_
      exact z_iretX C () (by exact trivial) hr hlocks (Nat.le_of_ble_eq_true rfl) (Nat.le_of_ble_eq_true rfl) dX1_faults_47 (by rfl) (by rfl)
    | succ dd ih =>
      intro i hi
      refine z_iload C 4 dX1_faults_13 rfl ?_
      refine z_iload_n C 3 dX1_faults_15 rfl rfl ?_
      refine z_icmp_ge (tgt := 46) C dX1_faults_16 (by decide) (fun h9 => absurd h9 (nI_ge (by omega) (by omega))) (fun _ => ?_)
      refine z_aload_n C 2 dX1_faults_19 rfl rfl ?_
      refine z_iload C 4 dX1_faults_20 rfl ?_
      refine z_lrow C 1 rfl i rfl (show i < xk u from by omega) hk30 dX1_faults_22 ?_
      refine z_astore (L' := [(5, .ref (gL G i)), (0, .ref (gO G)), (1, .int (xfltN (xx u) i)), (2, .ref (gB G)), (3, .int (nI (xk u))), (4, .int (nI i))]) C dX1_faults_23 (by decide) rfl ?_
      refine z_iload_n C 2 dX1_faults_25 rfl rfl ?_
      refine z_aload C 0 dX1_faults_26 rfl ?_
      refine z_iconst (v := 3) C dX1_faults_28 (by decide) ?_
      refine z_lget (x := (xx u) i) C 0 rfl 3 rfl (by decide) (show i < xk u from by omega) rfl dX1_faults_29 ?_
      refine z_if_le (tgt := 37) C dX1_faults_30 (by decide) (fun c30 => ?_) (fun c30 => ?_)
      · skip
        refine z_iconst (v := 0) C dX1_faults_37 (by decide) ?_
        refine z_iadd C dX1_faults_38 ?_
        refine z_top (y := xfltN (xx u) (i + 1)) (show xfltN (xx u) i + 0 = (if xx u i ≤ 0 then xfltN (xx u) i else xfltN (xx u) i + 1) from by rw [if_pos c30, Int32.add_zero]) ?_
        refine z_istore_n (L' := [(1, .int (xfltN (xx u) (i + 1))), (5, .ref (gL G i)), (0, .ref (gO G)), (2, .ref (gB G)), (3, .int (nI (xk u))), (4, .int (nI i))]) C dX1_faults_39 rfl (by decide) rfl ?_
        refine z_iinc (v := nI (i + 1)) (L' := [(4, .int (nI (i + 1))), (1, .int (xfltN (xx u) (i + 1))), (5, .ref (gL G i)), (0, .ref (gO G)), (2, .ref (gB G)), (3, .int (nI (xk u)))]) C 5 dX1_faults_40 rfl (z_inc _) (by decide) rfl ?_
        refine z_goto (tgt := 13) C dX1_faults_43 (by decide) ?_
        refine z_sub (L' := [(0, .ref (gO G)), (1, .int (xfltN (xx u) (i + 1))), (2, .ref (gB G)), (3, .int (nI (xk u))), (4, .int (nI (i + 1)))]) [3, 1, 4, 5, 0] rfl ?_
        exact ih (i + 1) (by omega)
      · skip
        refine z_iconst (v := 1) C dX1_faults_33 (by decide) ?_
        refine z_goto (tgt := 38) C dX1_faults_34 (by decide) ?_
        refine z_iadd C dX1_faults_38 ?_
        refine z_top (y := xfltN (xx u) (i + 1)) (show xfltN (xx u) i + 1 = (if xx u i ≤ 0 then xfltN (xx u) i else xfltN (xx u) i + 1) from by rw [if_neg c30]) ?_
        refine z_istore_n (L' := [(1, .int (xfltN (xx u) (i + 1))), (5, .ref (gL G i)), (0, .ref (gO G)), (2, .ref (gB G)), (3, .int (nI (xk u))), (4, .int (nI i))]) C dX1_faults_39 rfl (by decide) rfl ?_
        refine z_iinc (v := nI (i + 1)) (L' := [(4, .int (nI (i + 1))), (1, .int (xfltN (xx u) (i + 1))), (5, .ref (gL G i)), (0, .ref (gO G)), (2, .ref (gB G)), (3, .int (nI (xk u)))]) C 5 dX1_faults_40 rfl (z_inc _) (by decide) rfl ?_
        refine z_goto (tgt := 13) C dX1_faults_43 (by decide) ?_
        refine z_sub (L' := [(0, .ref (gO G)), (1, .int (xfltN (xx u) (i + 1))), (2, .ref (gB G)), (3, .int (nI (xk u))), (4, .int (nI (i + 1)))]) [3, 1, 4, 5, 0] rfl ?_
        exact ih (i + 1) (by omega)
  refine z_iconst (v := 0) C dX1_faults_0 (by decide) ?_
  refine z_istore_n (L' := [(1, .int 0), (0, .ref (gO G))]) C dX1_faults_1 rfl (by decide) rfl ?_
  refine z_aload_n C 1 dX1_faults_2 rfl rfl ?_
  refine z_sget (v := .ref (gB G)) C ins 4 (by decide) rfl wd0 dX1_faults_3 ?_
  refine z_astore_n (L' := [(2, .ref (gB G)), (1, .int 0), (0, .ref (gO G))]) C dX1_faults_6 rfl (by decide) rfl ?_
  refine z_aload_n C 0 dX1_faults_7 rfl rfl ?_
  refine z_alenB C 1 rfl dX1_faults_8 ?_
  refine z_istore_n (L' := [(3, .int (nI (xk u))), (2, .ref (gB G)), (1, .int 0), (0, .ref (gO G))]) C dX1_faults_9 rfl (by decide) rfl ?_
  refine z_iconst (v := 0) C dX1_faults_10 (by decide) ?_
  refine z_istore (L' := [(4, .int 0), (3, .int (nI (xk u))), (2, .ref (gB G)), (1, .int 0), (0, .ref (gO G))]) C dX1_faults_11 (by decide) rfl ?_
  refine z_sub (L' := [(0, .ref (gO G)), (1, .int 0), (2, .ref (gB G)), (3, .int (nI (xk u))), (4, .int 0)]) [4, 3, 2, 1, 0] rfl ?_
  exact lp13 (xk u) 0 (by omega)
set_option maxHeartbeats 8000000 in
set_option maxRecDepth 100000 in
theorem c_X1_adds (l : Launch) (D : va_G) (cI cP : ClassId) (G : AG) (u : S0) (x : Int32) (hk30 : xk u ≤ 30) : zMX l yX1_adds wsX1_adds 0 0 0 0 [.ref (gO G), .int x] [(cI, .int), (cP, .array .int)] D (wS G cI cP u) zAA (fun _ : Unit => True) (fun _ => some (.int (xdebt u x))) (fun _ => wS G cI cP u) := by
  refine z_metX (cc := cX1_adds) (maxL := 7) (ret := (some .int)) (by decide) rfl (Nat.le_of_ble_eq_true rfl) ?_
  intro p e s m args below meth c A hAw hAA C hr hlocks
  have ins : ∀ w ∈ u_ws RX1 TX1 5, w ∈ wsX1_adds := by decide +kernel
  have wd0 : Cond.fieldLink RX1 19 "SaltOrderLaw$Sim" "ledger" "[[I" ∈ wsX1_adds := by decide +kernel
  refine z_sub (L' := [(0, .ref (gO G)), (1, .int x)]) [0, 1] rfl ?_
  refine z_ws (ws' := (([] : va_W) ++ wS G cI cP u)) rfl ?_
  have lp14 : ∀ (dd i : Nat), i + dd = xk u → zG p l e ({ frames := 0, cells := 0, slots := 0, locals := 0 } : Room) s m args below meth c D 7 A 0 0 (MQ below (zQX (fun _ : Unit => True) (fun _ => some (.int (xdebt u x))) (fun _ => wS G cI cP u) D A) args s 0 0 A) 14 [(0, .ref (gO G)), (1, .int x), (2, .int (xdebtN (xw u) (xx u) x i)), (3, .ref (gB G)), (4, .int (nI (xk u))), (5, .int (nI i))] [] (([] : va_W) ++ (wS G cI cP u)) := by
    intro dd
    induction dd with
    | zero =>
      intro i hi
      have hi : i = xk u := by omega
      subst hi
      refine z_iload C 5 dX1_adds_14 rfl ?_
      refine z_iload C 4 dX1_adds_16 rfl ?_
      refine z_icmp_ge (tgt := 53) C dX1_adds_18 (by decide) (fun _ => ?_) (fun h9 => absurd (nI_le (by omega) (by omega)) h9)
      refine z_iload_n C 2 dX1_adds_53 rfl rfl ?_
      exact z_iretX C () (by exact trivial) hr hlocks (Nat.le_of_ble_eq_true rfl) (Nat.le_of_ble_eq_true rfl) dX1_adds_54 (by rfl) (by rfl)
    | succ dd ih =>
      intro i hi
      refine z_iload C 5 dX1_adds_14 rfl ?_
      refine z_iload C 4 dX1_adds_16 rfl ?_
      refine z_icmp_ge (tgt := 53) C dX1_adds_18 (by decide) (fun h9 => absurd h9 (nI_ge (by omega) (by omega))) (fun _ => ?_)
      refine z_aload_n C 3 dX1_adds_21 rfl rfl ?_
      refine z_iload C 5 dX1_adds_22 rfl ?_
      refine z_lrow C 1 rfl i rfl (show i < xk u from by omega) hk30 dX1_adds_24 ?_
      refine z_astore (L' := [(6, .ref (gL G i)), (0, .ref (gO G)), (1, .int x), (2, .int (xdebtN (xw u) (xx u) x i)), (3, .ref (gB G)), (4, .int (nI (xk u))), (5, .int (nI i))]) C dX1_adds_25 (by decide) rfl ?_
      refine z_aload C 0 dX1_adds_27 rfl ?_
      refine z_iconst (v := 0) C dX1_adds_29 (by decide) ?_
      refine z_lget (x := (xw u) i) C 0 rfl 0 rfl (by decide) (show i < xk u from by omega) rfl dX1_adds_30 ?_
      refine z_iload_n C 2 dX1_adds_31 rfl rfl ?_
      refine z_icmp_ne (tgt := 47) C dX1_adds_32 (by decide) (fun c32 => ?_) (fun c32 => ?_)
      · skip
        refine z_iinc (v := nI (i + 1)) (L' := [(5, .int (nI (i + 1))), (6, .ref (gL G i)), (0, .ref (gO G)), (1, .int x), (2, .int (xdebtN (xw u) (xx u) x i)), (3, .ref (gB G)), (4, .int (nI (xk u)))]) C 6 dX1_adds_47 rfl (z_inc _) (by decide) rfl ?_
        refine z_goto (tgt := 14) C dX1_adds_50 (by decide) ?_
        refine z_sub (L' := [(0, .ref (gO G)), (1, .int x), (2, .int (xdebtN (xw u) (xx u) x i)), (3, .ref (gB G)), (4, .int (nI (xk u))), (5, .int (nI (i + 1)))]) [2, 3, 4, 5, 6, 0] rfl ?_
        exact (by have e9 := ih (i + 1) (by omega); rw [show xdebtN (xw u) (xx u) x (i + 1) = xdebtN (xw u) (xx u) x i from if_neg c32] at e9; exact e9)
      · skip
        have c32 : ¬ ¬ xw u i = x := fun q => q c32
        refine z_iload_n C 3 dX1_adds_35 rfl rfl ?_
        refine z_aload C 0 dX1_adds_36 rfl ?_
        refine z_iconst (v := 3) C dX1_adds_38 (by decide) ?_
        refine z_lget (x := (xx u) i) C 0 rfl 3 rfl (by decide) (show i < xk u from by omega) rfl dX1_adds_39 ?_
        refine z_aload C 0 dX1_adds_40 rfl ?_
        refine z_iconst (v := 3) C dX1_adds_42 (by decide) ?_
        refine z_lget (x := (xx u) i) C 0 rfl 3 rfl (by decide) (show i < xk u from by omega) rfl dX1_adds_43 ?_
        refine z_iadd C dX1_adds_44 ?_
        refine z_iadd C dX1_adds_45 ?_
        refine z_top (y := xdebtN (xw u) (xx u) x (i + 1)) (show xdebtN (xw u) (xx u) x i + (xx u i + xx u i) = (if xw u i = x then xdebtN (xw u) (xx u) x i + 2 * xx u i else xdebtN (xw u) (xx u) x i) from by rw [if_pos (Decidable.not_not.mp c32), i_2]) ?_
        refine z_istore_n (L' := [(2, .int (xdebtN (xw u) (xx u) x (i + 1))), (6, .ref (gL G i)), (0, .ref (gO G)), (1, .int x), (3, .ref (gB G)), (4, .int (nI (xk u))), (5, .int (nI i))]) C dX1_adds_46 rfl (by decide) rfl ?_
        refine z_iinc (v := nI (i + 1)) (L' := [(5, .int (nI (i + 1))), (2, .int (xdebtN (xw u) (xx u) x (i + 1))), (6, .ref (gL G i)), (0, .ref (gO G)), (1, .int x), (3, .ref (gB G)), (4, .int (nI (xk u)))]) C 6 dX1_adds_47 rfl (z_inc _) (by decide) rfl ?_
        refine z_goto (tgt := 14) C dX1_adds_50 (by decide) ?_
        refine z_sub (L' := [(0, .ref (gO G)), (1, .int x), (2, .int (xdebtN (xw u) (xx u) x (i + 1))), (3, .ref (gB G)), (4, .int (nI (xk u))), (5, .int (nI (i + 1)))]) [3, 4, 1, 5, 6, 0] rfl ?_
        exact ih (i + 1) (by omega)
  refine z_iconst (v := 0) C dX1_adds_0 (by decide) ?_
  refine z_istore_n (L' := [(2, .int 0), (0, .ref (gO G)), (1, .int x)]) C dX1_adds_1 rfl (by decide) rfl ?_
  refine z_aload_n C 1 dX1_adds_2 rfl rfl ?_
  refine z_sget (v := .ref (gB G)) C ins 4 (by decide) rfl wd0 dX1_adds_3 ?_
  refine z_astore_n (L' := [(3, .ref (gB G)), (2, .int 0), (0, .ref (gO G)), (1, .int x)]) C dX1_adds_6 rfl (by decide) rfl ?_
  refine z_aload_n C 0 dX1_adds_7 rfl rfl ?_
  refine z_alenB C 1 rfl dX1_adds_8 ?_
  refine z_istore (L' := [(4, .int (nI (xk u))), (3, .ref (gB G)), (2, .int 0), (0, .ref (gO G)), (1, .int x)]) C dX1_adds_9 (by decide) rfl ?_
  refine z_iconst (v := 0) C dX1_adds_11 (by decide) ?_
  refine z_istore (L' := [(5, .int 0), (4, .int (nI (xk u))), (3, .ref (gB G)), (2, .int 0), (0, .ref (gO G)), (1, .int x)]) C dX1_adds_12 (by decide) rfl ?_
  refine z_sub (L' := [(0, .ref (gO G)), (1, .int x), (2, .int 0), (3, .ref (gB G)), (4, .int (nI (xk u))), (5, .int 0)]) [4, 5, 3, 2, 1, 0] rfl ?_
  exact lp14 (xk u) 0 (by omega)
set_option maxHeartbeats 8000000 in
set_option maxRecDepth 100000 in
theorem c_X1_audit (l : Launch) (D : va_G) (cI cP : ClassId) (G : AG) (B : Nat) (u : S0) (hI : Inv B u) : zMX l yX1_audit wsX1_audit 0 0 1 0 [.ref (gO G)] [(cI, .int), (cP, .array .int)] D (wS G cI cP u) zAA (fun G2 : AG => gO G2 = gO G) (fun _ => some (.int (xflt u))) (fun G2 => wS G2 cI cP (xaud u)) := by
  refine z_metX (cc := cX1_audit) (maxL := 7) (ret := (some .int)) (by decide) rfl (Nat.le_of_ble_eq_true rfl) ?_
  intro p e s m args below meth c A hAw hAA C hr hlocks
  have hn8 := hI.n8
  have hk30 := hI.k30
  have ins : ∀ w ∈ u_ws RX1 TX1 5, w ∈ wsX1_audit := by decide +kernel
  have wd0 : Cond.classLink RX1 13 "[I" ∈ wsX1_audit := by decide +kernel
  have wd1 : Cond.fieldLink RX1 19 "SaltOrderLaw$Sim" "ledger" "[[I" ∈ wsX1_audit := by decide +kernel
  have wd2 : Cond.fieldLink RX1 26 "SaltOrderLaw$Sim" "found" "I" ∈ wsX1_audit := by decide +kernel
  have wd3 : Cond.fieldLink RX1 15 "SaltOrderLaw$Sim" "members" "[[I" ∈ wsX1_audit := by decide +kernel
  refine z_sub (L' := [(0, .ref (gO G))]) [0] rfl ?_
  refine z_ws (ws' := (([] : va_W) ++ wS G cI cP u)) rfl ?_
  have lp13 : ∀ (dd i : Nat), i + dd = xk u → zG p l e ({ frames := 0, cells := 1, slots := 0, locals := 0 } : Room) s m args below meth c D 7 A 0 0 (MQ below (zQX (fun G2 : AG => gO G2 = gO G) (fun _ => some (.int (xflt u))) (fun G2 => wS G2 cI cP (xaud u)) D A) args s 1 0 A) 13 [(0, .ref (gO G)), (1, .int (xfltN (xx u) i)), (2, .ref (gB G)), (3, .int (nI (xk u))), (4, .int (nI i))] [] (([] : va_W) ++ (wS G cI cP (xl u, (sA u i), xe u, xn u, xw u, xf u, xg u, xx u, xk u, xc u, xd u, xo u, xy u, xb u))) := by
    intro dd
    induction dd with
    | zero =>
      intro i hi
      have hi : i = xk u := by omega
      subst hi
      refine z_iload C 4 dX1_audit_13 rfl ?_
      refine z_iload_n C 3 dX1_audit_15 rfl rfl ?_
      refine z_icmp_ge (tgt := 83) C dX1_audit_16 (by decide) (fun _ => ?_) (fun h9 => absurd (nI_le (by omega) (by omega)) h9)
      refine z_aload_n C 0 dX1_audit_83 rfl rfl ?_
      refine z_iconst (v := 0) C dX1_audit_84 (by decide) ?_
      refine z_anew (N := 0) C hAA 1 rfl wd0 (by decide) (by decide) (by decide) (by show _ ≤ 1; omega) (Nat.le_of_ble_eq_true rfl) dX1_audit_85 (fun q => ?_)
      refine z_dropM (a := wSo G (xl u, (sA u (xk u)), xe u, xn u, xw u, xf u, xg u, xx u, xk u, xc u, xd u, xo u, xy u, xb u) ++ wT (gA G) cP cI (xn u) 3 (gM G) (mrow (xl u, (sA u (xk u)), xe u, xn u, xw u, xf u, xg u, xx u, xk u, xc u, xd u, xo u, xy u, xb u))) (b := wT (gB G) cP cI (xk u) 4 (gL G) (lrow (xl u, (sA u (xk u)), xe u, xn u, xw u, xf u, xg u, xx u, xk u, xc u, xd u, xo u, xy u, xb u))) (d := [(q, .inl (cP, 0, .inr (.inr (.inr (.inr (fun _ => none))))))]) ?_
      refine z_ws (ws' := ((([] : va_W) ++ wSo G (xl u, (sA u (xk u)), xe u, xn u, xw u, xf u, xg u, xx u, xk u, xc u, xd u, xo u, xy u, xb u)) ++ (wT (gA G) cP cI (xn u) 3 (gM G) (mrow (xl u, (sA u (xk u)), xe u, xn u, xw u, xf u, xg u, xx u, xk u, xc u, xd u, xo u, xy u, xb u)) ++ [(q, .inl (cP, 0, .inr (.inr (.inr (.inr (fun _ => none))))))]))) (List.append_assoc _ _ _) ?_
      refine z_sputB (pre := []) (G := G) (u := (xl u, (sA u (xk u)), xe u, xn u, xw u, xf u, xg u, xx u, xk u, xc u, xd u, xo u, xy u, xb u)) (b := q) C ins wd1 dX1_audit_88 ?_
      refine z_ws (wS_clear G (xl u, (sA u (xk u)), xe u, xn u, xw u, xf u, xg u, xx u, xk u, xc u, xd u, xo u, xy u, xb u) q) ?_
      refine z_loc (L' := [(0, .ref (gO (gO G, gA G, q, gM G, gL G))), (1, .int (xfltN (xx u) (xk u))), (2, .ref (gB G)), (3, .int (nI (xk u))), (4, .int (nI (xk u)))]) rfl ?_
      refine z_aload_n C 0 dX1_audit_91 rfl rfl ?_
      refine z_dup C dX1_audit_92 rfl ?_
      refine z_sget (v := .int (xo u)) C ins 2 (by decide) rfl wd2 dX1_audit_93 ?_
      refine z_iload_n C 1 dX1_audit_96 rfl rfl ?_
      refine z_iadd C dX1_audit_97 ?_
      refine z_sputO C ins wd2 dX1_audit_98 ?_
      refine z_iload_n C 1 dX1_audit_101 rfl rfl ?_
      exact z_iretX C ((gO G, gA G, q, gM G, gL G) : AG) (by rfl) hr hlocks (by show _ ≤ 1; omega) (Nat.le_of_ble_eq_true rfl) dX1_audit_102 (by rfl) (by exact sA_pic hI)
    | succ dd ih =>
      intro i hi
      obtain ⟨j, g, x, h1, h2, h3, h4, h5, h6, h7, -⟩ := hI.led i (by omega)
      have hcl : (xw u i).toNatClampNeg = j := by rw [h1, nI_clamp (by omega)]
      refine z_iload C 4 dX1_audit_13 rfl ?_
      refine z_iload_n C 3 dX1_audit_15 rfl rfl ?_
      refine z_icmp_ge (tgt := 83) C dX1_audit_16 (by decide) (fun h9 => absurd h9 (nI_ge (by omega) (by omega))) (fun _ => ?_)
      refine z_aload_n C 2 dX1_audit_19 rfl rfl ?_
      refine z_iload C 4 dX1_audit_20 rfl ?_
      refine z_lrow C 1 rfl i rfl (show i < xk u from by omega) hk30 dX1_audit_22 ?_
      refine z_astore (L' := [(5, .ref (gL G i)), (0, .ref (gO G)), (1, .int (xfltN (xx u) i)), (2, .ref (gB G)), (3, .int (nI (xk u))), (4, .int (nI i))]) C dX1_audit_23 (by decide) rfl ?_
      refine z_aload C 0 dX1_audit_25 rfl ?_
      refine z_iconst (v := 3) C dX1_audit_27 (by decide) ?_
      refine z_lget (x := (xx u) i) C 0 rfl 3 rfl (by decide) (show i < xk u from by omega) rfl dX1_audit_28 ?_
      refine z_if_ne (tgt := 35) C dX1_audit_29 (by decide) (fun c29 => ?_) (fun c29 => ?_)
      · skip
        refine z_iinc (v := (xfltN (xx u) i) + 1) (L' := [(1, .int ((xfltN (xx u) i) + 1)), (5, .ref (gL G i)), (0, .ref (gO G)), (2, .ref (gB G)), (3, .int (nI (xk u))), (4, .int (nI i))]) C 2 dX1_audit_35 rfl rfl (by decide) rfl ?_
        refine z_aload_n C 2 dX1_audit_38 rfl rfl ?_
        refine z_sget (v := .ref (gA G)) C ins 3 (by decide) rfl wd3 dX1_audit_39 ?_
        refine z_aload C 1 dX1_audit_42 rfl ?_
        refine z_iconst (v := 0) C dX1_audit_44 (by decide) ?_
        refine z_lget (x := (xw u) i) C 0 rfl 0 rfl (by decide) (show i < xk u from by omega) rfl dX1_audit_45 ?_
        refine z_mrow C 1 rfl j h1 (show j < xn u from by omega) hn8 dX1_audit_46 ?_
        refine z_astore (L' := [(6, .ref (gM G j)), (1, .int ((xfltN (xx u) i) + 1)), (5, .ref (gL G i)), (0, .ref (gO G)), (2, .ref (gB G)), (3, .int (nI (xk u))), (4, .int (nI i))]) C dX1_audit_47 (by decide) rfl ?_
        refine z_aload C 0 dX1_audit_49 rfl ?_
        refine z_iconst (v := 1) C dX1_audit_51 (by decide) ?_
        refine z_dup2 C dX1_audit_52 rfl rfl ?_
        refine z_mget (x := (sA u i) j) C 0 rfl 1 rfl (by decide) (show j < xn u from by omega) rfl dX1_audit_53 ?_
        refine z_iconst (v := 2) C dX1_audit_54 (by decide) ?_
        refine z_aload C 2 dX1_audit_55 rfl ?_
        refine z_iconst (v := 3) C dX1_audit_57 (by decide) ?_
        refine z_lget (x := (xx u) i) C 0 rfl 3 rfl (by decide) (show i < xk u from by omega) rfl dX1_audit_58 ?_
        refine z_imul C dX1_audit_59 ?_
        refine z_iadd C dX1_audit_60 ?_
        refine z_mset1 C 0 rfl rfl (show j < xn u from by omega) dX1_audit_61 ?_
        refine z_aload C 0 dX1_audit_62 rfl ?_
        refine z_iconst (v := 1) C dX1_audit_64 (by decide) ?_
        refine z_mget (x := (upd (sA u i) j (((sA u i) j) + (2 * ((xx u) i)))) j) C 0 rfl 1 rfl (by decide) (show j < xn u from by omega) rfl dX1_audit_65 ?_
        refine z_top (y := sA u i j + 2 * xx u i) pk_us ?_
        refine z_bipush (v := 99) C dX1_audit_66 (by decide) ?_
        refine z_icmp_le (tgt := 77) C dX1_audit_68 (by decide) (fun c68 => ?_) (fun c68 => ?_)
        · skip
          refine z_iinc (v := nI (i + 1)) (L' := [(4, .int (nI (i + 1))), (6, .ref (gM G j)), (1, .int ((xfltN (xx u) i) + 1)), (5, .ref (gL G i)), (0, .ref (gO G)), (2, .ref (gB G)), (3, .int (nI (xk u)))]) C 6 dX1_audit_77 rfl (z_inc _) (by decide) rfl ?_
          refine z_goto (tgt := 13) C dX1_audit_80 (by decide) ?_
          refine z_sub (L' := [(0, .ref (gO G)), (1, .int ((xfltN (xx u) i) + 1)), (2, .ref (gB G)), (3, .int (nI (xk u))), (4, .int (nI (i + 1)))]) [4, 2, 5, 6, 0] rfl ?_
          exact (by have e9 := ih (i + 1) (by omega); rw [sA_1 c29 hcl c68, show xfltN (xx u) (i + 1) = xfltN (xx u) i + 1 from if_neg (fun q => c29 ((xx_0 (hI.led i (by omega))).mpr q))] at e9; exact e9)
        · skip
          refine z_aload C 0 dX1_audit_71 rfl ?_
          refine z_iconst (v := 1) C dX1_audit_73 (by decide) ?_
          refine z_bipush (v := 99) C dX1_audit_74 (by decide) ?_
          refine z_mset1 C 0 rfl rfl (show j < xn u from by omega) dX1_audit_76 ?_
          refine z_iinc (v := nI (i + 1)) (L' := [(4, .int (nI (i + 1))), (6, .ref (gM G j)), (1, .int ((xfltN (xx u) i) + 1)), (5, .ref (gL G i)), (0, .ref (gO G)), (2, .ref (gB G)), (3, .int (nI (xk u)))]) C 6 dX1_audit_77 rfl (z_inc _) (by decide) rfl ?_
          refine z_goto (tgt := 13) C dX1_audit_80 (by decide) ?_
          refine z_sub (L' := [(0, .ref (gO G)), (1, .int ((xfltN (xx u) i) + 1)), (2, .ref (gB G)), (3, .int (nI (xk u))), (4, .int (nI (i + 1)))]) [4, 2, 5, 6, 0] rfl ?_
          exact (by have e9 := ih (i + 1) (by omega); rw [sA_2 c29 hcl c68, show xfltN (xx u) (i + 1) = xfltN (xx u) i + 1 from if_neg (fun q => c29 ((xx_0 (hI.led i (by omega))).mpr q))] at e9; exact e9)
      · skip
        refine z_goto (tgt := 77) C dX1_audit_32 (by decide) ?_
        refine z_iinc (v := nI (i + 1)) (L' := [(4, .int (nI (i + 1))), (5, .ref (gL G i)), (0, .ref (gO G)), (1, .int (xfltN (xx u) i)), (2, .ref (gB G)), (3, .int (nI (xk u)))]) C 5 dX1_audit_77 rfl (z_inc _) (by decide) rfl ?_
        refine z_goto (tgt := 13) C dX1_audit_80 (by decide) ?_
        refine z_sub (L' := [(0, .ref (gO G)), (1, .int (xfltN (xx u) i)), (2, .ref (gB G)), (3, .int (nI (xk u))), (4, .int (nI (i + 1)))]) [2, 3, 4, 5, 0] rfl ?_
        exact (by have e9 := ih (i + 1) (by omega); rw [sA_0 c29, show xfltN (xx u) (i + 1) = xfltN (xx u) i from if_pos ((xx_0 (hI.led i (by omega))).mp c29)] at e9; exact e9)
  refine z_iconst (v := 0) C dX1_audit_0 (by decide) ?_
  refine z_istore_n (L' := [(1, .int 0), (0, .ref (gO G))]) C dX1_audit_1 rfl (by decide) rfl ?_
  refine z_aload_n C 1 dX1_audit_2 rfl rfl ?_
  refine z_sget (v := .ref (gB G)) C ins 4 (by decide) rfl wd1 dX1_audit_3 ?_
  refine z_astore_n (L' := [(2, .ref (gB G)), (1, .int 0), (0, .ref (gO G))]) C dX1_audit_6 rfl (by decide) rfl ?_
  refine z_aload_n C 0 dX1_audit_7 rfl rfl ?_
  refine z_alenB C 1 rfl dX1_audit_8 ?_
  refine z_istore_n (L' := [(3, .int (nI (xk u))), (2, .ref (gB G)), (1, .int 0), (0, .ref (gO G))]) C dX1_audit_9 rfl (by decide) rfl ?_
  refine z_iconst (v := 0) C dX1_audit_10 (by decide) ?_
  refine z_istore (L' := [(4, .int 0), (3, .int (nI (xk u))), (2, .ref (gB G)), (1, .int 0), (0, .ref (gO G))]) C dX1_audit_11 (by decide) rfl ?_
  refine z_sub (L' := [(0, .ref (gO G)), (1, .int 0), (2, .ref (gB G)), (3, .int (nI (xk u))), (4, .int 0)]) [4, 3, 2, 1, 0] rfl ?_
  exact lp13 (xk u) 0 (by omega)
set_option maxHeartbeats 8000000 in
set_option maxRecDepth 100000 in
theorem c_X1_pass (l : Launch) (D : va_G) (cI cP : ClassId) (G : AG) (B : Nat) (u : S0) (hI : Inv B u) (hB : B < 2 ^ 20) : zMX l yX1_pass wsX1_pass 1 26 1 0 [.ref (gO G)] [(cI, .int), (cP, .array .int)] D (wS G cI cP u) zAA (fun G2 : AG => gO G2 = gO G) (fun _ => some (.int (xdayF u))) (fun G2 => wS G2 cI cP (xday u)) := by
  refine z_metX (cc := cX1_pass) (maxL := 7) (ret := (some .int)) (by decide) rfl (Nat.le_of_ble_eq_true rfl) ?_
  intro p e s m args below meth c A hAw hAA C hr hlocks
  have hn8 := hI.n8
  have hk30 := hI.k30
  have ins : ∀ w ∈ u_ws RX1 TX1 5, w ∈ wsX1_pass := by decide +kernel
  have wd0 : Cond.fieldLink RX1 29 "SaltOrderLaw$Sim" "day" "I" ∈ wsX1_pass := by decide +kernel
  have wd1 : Cond.fieldLink RX1 15 "SaltOrderLaw$Sim" "members" "[[I" ∈ wsX1_pass := by decide +kernel
  refine z_sub (L' := [(0, .ref (gO G))]) [0] rfl ?_
  refine z_ws (ws' := (([] : va_W) ++ wS G cI cP u)) rfl ?_
  have lp30 : ∀ (dd i : Nat) (G1 : AG), i + dd = xn u → gO G1 = gO G → zG p l e ({ frames := 1, cells := 1, slots := 0, locals := 26 } : Room) s m args below meth c D 7 A 1 0 (MQ below (zQX (fun G2 : AG => gO G2 = gO G) (fun _ => some (.int (xdayF u))) (fun G2 => wS G2 cI cP (xday u)) D A) args s 1 0 A) 30 [(0, .ref (gO G1)), (1, .int (xdayF u)), (2, .ref (gA G1)), (3, .int (nI (xn u))), (4, .int (nI i))] [] (([] : va_W) ++ (wS G1 cI cP (xeatN (xday1 u) i))) := by
    intro dd
    induction dd with
    | zero =>
      intro i G1 hi hG1
      have hi : i = xn u := by omega
      subst hi
      refine z_iload C 4 dX1_pass_30 rfl ?_
      refine z_iload_n C 3 dX1_pass_32 rfl rfl ?_
      refine z_icmp_ge (tgt := 147) C dX1_pass_33 (by decide) (fun _ => ?_) (fun h9 => absurd (nI_le (by omega) (by omega)) h9)
      refine z_aload_n C 0 dX1_pass_147 rfl rfl ?_
      refine z_dup C dX1_pass_148 rfl ?_
      refine z_sget (v := .int (xd (xeatN (xday1 u) (xn u)))) C ins 0 (by decide) rfl wd0 dX1_pass_149 ?_
      refine z_iconst (v := 1) C dX1_pass_152 (by decide) ?_
      refine z_iadd C dX1_pass_153 ?_
      refine z_sputD C ins wd0 dX1_pass_154 ?_
      refine z_iload_n C 1 dX1_pass_157 rfl rfl ?_
      exact z_iretX C G1 (by exact hG1) hr hlocks (by show _ ≤ 1; omega) (Nat.le_of_ble_eq_true rfl) dX1_pass_158 (by rfl) (by rfl)
    | succ dd ih =>
      intro i G1 hi hG1
      have hnw : xn (xeatN (xday1 u) i) = xn u := (xeatN_n _ i).trans (xday1_n u)
      have hn8 : xn (xeatN (xday1 u) i) ≤ 8 := by rw [hnw]; exact hI.n8
      have hb : bT (tr0 (xeatN (xday1 u) i) i) := by rw [xeatN_row, if_neg (Nat.lt_irrefl i)]; exact hI.day1.row (by rw [xday1_n]; omega)
      have hx9 : xeatN (xday1 u) (i + 1) = xeat (xeatN (xday1 u) i) i := rfl
      generalize xeatN (xday1 u) i = w at hnw hn8 hb hx9 ⊢
      obtain ⟨l0, a, e0, h1, h2, h3, h4, h5, h6⟩ := hb
      have h1 : xl w i = nI l0 := h1
      have h3 : xa w i = nI a := h3
      refine z_iload C 4 dX1_pass_30 rfl ?_
      refine z_iload_n C 3 dX1_pass_32 rfl rfl ?_
      refine z_icmp_ge (tgt := 147) C dX1_pass_33 (by decide) (fun h9 => absurd h9 (nI_ge (by omega) (by omega))) (fun _ => ?_)
      refine z_aload_n C 2 dX1_pass_36 rfl rfl ?_
      refine z_iload C 4 dX1_pass_37 rfl ?_
      refine z_mrow C 1 rfl i rfl (show i < xn w from by omega) hn8 dX1_pass_39 ?_
      refine z_astore (L' := [(5, .ref (gM G1 i)), (0, .ref (gO G1)), (1, .int (xdayF u)), (2, .ref (gA G1)), (3, .int (nI (xn u))), (4, .int (nI i))]) C dX1_pass_40 (by decide) rfl ?_
      refine z_aload C 0 dX1_pass_42 rfl ?_
      refine z_iconst (v := 2) C dX1_pass_44 (by decide) ?_
      refine z_mget (x := (xe w) i) C 0 rfl 2 rfl (by decide) (show i < xn w from by omega) rfl dX1_pass_45 ?_
      refine z_if_le (tgt := 82) C dX1_pass_46 (by decide) (fun c46 => ?_) (fun c46 => ?_)
      · skip
        refine z_aload C 0 dX1_pass_82 rfl ?_
        refine z_iconst (v := 1) C dX1_pass_84 (by decide) ?_
        refine z_mget (x := (xa w) i) C 0 rfl 1 rfl (by decide) (show i < xn w from by omega) rfl dX1_pass_85 ?_
        refine z_if_le (tgt := 124) C dX1_pass_86 (by decide) (fun c86 => ?_) (fun c86 => ?_)
        · skip
          refine z_aload C 0 dX1_pass_124 rfl ?_
          refine z_iconst (v := 0) C dX1_pass_126 (by decide) ?_
          refine z_mget (x := (xl w) i) C 0 rfl 0 rfl (by decide) (show i < xn w from by omega) rfl dX1_pass_127 ?_
          refine z_bipush (v := 100) C dX1_pass_128 (by decide) ?_
          refine z_icmp_ge (tgt := 141) C dX1_pass_130 (by decide) (fun c130 => ?_) (fun c130 => ?_)
          · skip
            refine z_ws (ws' := (([] : va_W) ++ wS G1 cI cP (xeat w i))) (congrArg (fun z => ([] : va_W) ++ wS G1 cI cP z) (by unfold xeat; rw [if_pos c46, if_pos c86, s_win2 h1 h2 c130, upd_same] <;> rfl)) ?_
            refine z_sub (L' := [(0, .ref (gO G1)), (1, .int (xdayF u)), (2, .ref (gA G1)), (3, .int (nI (xn u))), (4, .int (nI i))]) [1, 2, 3, 4, 5] rfl ?_
            refine z_iinc (v := nI (i + 1)) (L' := [(4, .int (nI (i + 1))), (0, .ref (gO G1)), (1, .int (xdayF u)), (2, .ref (gA G1)), (3, .int (nI (xn u)))]) C 4 dX1_pass_141 rfl (z_inc _) (by decide) rfl ?_
            refine z_goto (tgt := 30) C dX1_pass_144 (by decide) ?_
            refine z_sub (L' := [(0, .ref (gO G1)), (1, .int (xdayF u)), (2, .ref (gA G1)), (3, .int (nI (xn u))), (4, .int (nI (i + 1)))]) [1, 2, 3, 4, 0] rfl ?_
            exact (by have e9 := ih (i + 1) G1 (by omega) hG1; rw [hx9] at e9; exact e9)
          · skip
            refine z_aload C 0 dX1_pass_133 rfl ?_
            refine z_iconst (v := 0) C dX1_pass_135 (by decide) ?_
            refine z_dup2 C dX1_pass_136 rfl rfl ?_
            refine z_mget (x := (xl w) i) C 0 rfl 0 rfl (by decide) (show i < xn w from by omega) rfl dX1_pass_137 ?_
            refine z_iconst (v := 1) C dX1_pass_138 (by decide) ?_
            refine z_iadd C dX1_pass_139 ?_
            refine z_mset0 C 0 rfl rfl (show i < xn w from by omega) dX1_pass_140 ?_
            refine z_ws (ws' := (([] : va_W) ++ wS G1 cI cP (xeat w i))) (congrArg (fun z => ([] : va_W) ++ wS G1 cI cP z) (by unfold xeat; rw [if_pos c46, if_pos c86, s_win1 h1 h2 c130] <;> rfl)) ?_
            refine z_sub (L' := [(0, .ref (gO G1)), (1, .int (xdayF u)), (2, .ref (gA G1)), (3, .int (nI (xn u))), (4, .int (nI i))]) [1, 2, 3, 4, 5] rfl ?_
            refine z_iinc (v := nI (i + 1)) (L' := [(4, .int (nI (i + 1))), (0, .ref (gO G1)), (1, .int (xdayF u)), (2, .ref (gA G1)), (3, .int (nI (xn u)))]) C 4 dX1_pass_141 rfl (z_inc _) (by decide) rfl ?_
            refine z_goto (tgt := 30) C dX1_pass_144 (by decide) ?_
            refine z_sub (L' := [(0, .ref (gO G1)), (1, .int (xdayF u)), (2, .ref (gA G1)), (3, .int (nI (xn u))), (4, .int (nI (i + 1)))]) [1, 2, 3, 4, 0] rfl ?_
            exact (by have e9 := ih (i + 1) G1 (by omega) hG1; rw [hx9] at e9; exact e9)
        · skip
          refine z_aload C 0 dX1_pass_89 rfl ?_
          refine z_iconst (v := 1) C dX1_pass_91 (by decide) ?_
          refine z_mget (x := (xa w) i) C 0 rfl 1 rfl (by decide) (show i < xn w from by omega) rfl dX1_pass_92 ?_
          refine z_istore (L' := [(6, .int ((xa w) i)), (5, .ref (gM G1 i)), (0, .ref (gO G1)), (1, .int (xdayF u)), (2, .ref (gA G1)), (3, .int (nI (xn u))), (4, .int (nI i))]) C dX1_pass_93 (by decide) rfl ?_
          have lq : ∀ (d : Nat) (z lk : Int32), lossE d z → (zG p l e ({ frames := 1, cells := 1, slots := 0, locals := 26 } : Room) s m args below meth c D 7 A 1 0 (MQ below (zQX (fun G2 : AG => gO G2 = gO G) (fun _ => some (.int (xdayF u))) (fun G2 => wS G2 cI cP (xday u)) D A) args s 1 0 A) 141 [(5, .ref (gM G1 i)), (0, .ref (gO G1)), (1, .int (xdayF u)), (2, .ref (gA G1)), (3, .int (nI (xn u))), (4, .int (nI i))] [] (([] : va_W) ++ (wS G1 cI cP (ul w (upd (xl w) i (lossF d z lk)))))) → zG p l e ({ frames := 1, cells := 1, slots := 0, locals := 26 } : Room) s m args below meth c D 7 A 1 0 (MQ below (zQX (fun G2 : AG => gO G2 = gO G) (fun _ => some (.int (xdayF u))) (fun G2 => wS G2 cI cP (xday u)) D A) args s 1 0 A) 95 [(6, .int z), (5, .ref (gM G1 i)), (0, .ref (gO G1)), (1, .int (xdayF u)), (2, .ref (gA G1)), (3, .int (nI (xn u))), (4, .int (nI i))] [] (([] : va_W) ++ (wS G1 cI cP (ul w (upd (xl w) i lk)))) := by
            intro d
            induction d with
            | zero =>
              intro z lk hE K
              refine z_iload C 0 dX1_pass_95 rfl ?_
              refine z_if_le (tgt := 121) C dX1_pass_97 (by decide) (fun _ => ?_) (fun q => absurd hE q)
              refine z_goto (tgt := 141) C dX1_pass_121 (by decide) ?_
              refine z_sub (L' := [(5, .ref (gM G1 i)), (0, .ref (gO G1)), (1, .int (xdayF u)), (2, .ref (gA G1)), (3, .int (nI (xn u))), (4, .int (nI i))]) [1, 2, 3, 4, 5, 6] rfl ?_
              exact K
            | succ d ih =>
              intro z lk hE K
              refine z_iload C 0 dX1_pass_95 rfl ?_
              refine z_if_le (tgt := 121) C dX1_pass_97 (by decide) (fun cz => ?_) (fun cz => ?_)
              · refine z_goto (tgt := 141) C dX1_pass_121 (by decide) ?_
                refine z_sub (L' := [(5, .ref (gM G1 i)), (0, .ref (gO G1)), (1, .int (xdayF u)), (2, .ref (gA G1)), (3, .int (nI (xn u))), (4, .int (nI i))]) [1, 2, 3, 4, 5, 6] rfl ?_
                rw [lossF_0 cz] at K
                exact K
              · have hx : mrow (ul w (upd (xl w) i lk)) i 0 = lk := pk_us
                refine z_aload C 1 dX1_pass_100 rfl ?_
                refine z_iconst (v := 0) C dX1_pass_102 (by decide) ?_
                refine z_mget (x := lk) C 0 rfl 0 rfl (by decide) (show i < xn w from by omega) hx dX1_pass_103 ?_
                have s : lossF (d + 1) z lk = lossF d (z + -10) (if lk ≤ 0 then lk else lk - 1) := if_neg cz
                refine z_if_le (tgt := 115) C dX1_pass_104 (by decide) (fun cl => ?_) (fun cl => ?_)
                · rw [s, if_pos cl] at K
                  refine z_iinc (v := z + -10) (L' := [(6, .int (z + -10)), (5, .ref (gM G1 i)), (0, .ref (gO G1)), (1, .int (xdayF u)), (2, .ref (gA G1)), (3, .int (nI (xn u))), (4, .int (nI i))]) C 0 dX1_pass_115 rfl (congrArg (z + ·) (by decide)) (by decide) rfl ?_
                  refine z_goto (tgt := 95) C dX1_pass_118 (by decide) ?_
                  exact ih (z + -10) lk (hE.resolve_left cz) K
                · rw [s, if_neg cl] at K
                  refine z_aload C 1 dX1_pass_107 rfl ?_
                  refine z_iconst (v := 0) C dX1_pass_109 (by decide) ?_
                  refine z_dup2 C dX1_pass_110 rfl rfl ?_
                  refine z_mget (x := lk) C 0 rfl 0 rfl (by decide) (show i < xn w from by omega) hx dX1_pass_111 ?_
                  refine z_iconst (v := 1) C dX1_pass_112 (by decide) ?_
                  refine z_isub C dX1_pass_113 ?_
                  refine z_mset0 C 0 rfl rfl (show i < xn w from by omega) dX1_pass_114 ?_
                  refine z_ws (ws' := (([] : va_W) ++ wS G1 cI cP (ul w (upd (xl w) i (lk - 1))))) (congrArg (fun z => ([] : va_W) ++ wS G1 cI cP z) (by show ul w (upd (upd (xl w) i lk) i (lk - 1)) = _; rw [upd_upd])) ?_
                  refine z_iinc (v := z + -10) (L' := [(6, .int (z + -10)), (5, .ref (gM G1 i)), (0, .ref (gO G1)), (1, .int (xdayF u)), (2, .ref (gA G1)), (3, .int (nI (xn u))), (4, .int (nI i))]) C 0 dX1_pass_115 rfl (congrArg (z + ·) (by decide)) (by decide) rfl ?_
                  refine z_goto (tgt := 95) C dX1_pass_118 (by decide) ?_
                  exact ih (z + -10) (lk - 1) (hE.resolve_left cz) K
          refine z_ws (ws' := (([] : va_W) ++ wS G1 cI cP (ul w (upd (xl w) i (xl w i))))) (congrArg (fun z => ([] : va_W) ++ wS G1 cI cP z) (by rw [upd_same] <;> rfl)) ?_
          refine lq 10 (xa w i) (xl w i) (by rw [h3]; exact lossE_val 10 a (by omega) h4) ?_
          refine z_ws (ws' := (([] : va_W) ++ wS G1 cI cP (xeat w i))) (congrArg (fun z => ([] : va_W) ++ wS G1 cI cP z) (by unfold xeat; rw [if_pos c46, if_neg c86, s_loss h1 h2 h3 h4 c46])) ?_
          refine z_sub (L' := [(0, .ref (gO G1)), (1, .int (xdayF u)), (2, .ref (gA G1)), (3, .int (nI (xn u))), (4, .int (nI i))]) [1, 2, 3, 4, 5] rfl ?_
          refine z_iinc (v := nI (i + 1)) (L' := [(4, .int (nI (i + 1))), (0, .ref (gO G1)), (1, .int (xdayF u)), (2, .ref (gA G1)), (3, .int (nI (xn u)))]) C 4 dX1_pass_141 rfl (z_inc _) (by decide) rfl ?_
          refine z_goto (tgt := 30) C dX1_pass_144 (by decide) ?_
          refine z_sub (L' := [(0, .ref (gO G1)), (1, .int (xdayF u)), (2, .ref (gA G1)), (3, .int (nI (xn u))), (4, .int (nI (i + 1)))]) [1, 2, 3, 4, 0] rfl ?_
          exact (by have e9 := ih (i + 1) G1 (by omega) hG1; rw [hx9] at e9; exact e9)
      · skip
        refine z_aload C 0 dX1_pass_49 rfl ?_
        refine z_iconst (v := 2) C dX1_pass_51 (by decide) ?_
        refine z_dup2 C dX1_pass_52 rfl rfl ?_
        refine z_mget (x := (xe w) i) C 0 rfl 2 rfl (by decide) (show i < xn w from by omega) rfl dX1_pass_53 ?_
        refine z_iconst (v := 1) C dX1_pass_54 (by decide) ?_
        refine z_isub C dX1_pass_55 ?_
        refine z_mset2 C 0 rfl rfl (show i < xn w from by omega) dX1_pass_56 ?_
        refine z_aload C 0 dX1_pass_57 rfl ?_
        refine z_iconst (v := 1) C dX1_pass_59 (by decide) ?_
        refine z_aload C 0 dX1_pass_60 rfl ?_
        refine z_iconst (v := 1) C dX1_pass_62 (by decide) ?_
        refine z_mget (x := (xa w) i) C 0 rfl 1 rfl (by decide) (show i < xn w from by omega) rfl dX1_pass_63 ?_
        refine z_iconst (v := 3) C dX1_pass_64 (by decide) ?_
        refine z_icmp_ge (tgt := 72) C dX1_pass_65 (by decide) (fun c65 => ?_) (fun c65 => ?_)
        · skip
          refine z_aload C 0 dX1_pass_72 rfl ?_
          refine z_iconst (v := 1) C dX1_pass_74 (by decide) ?_
          refine z_mget (x := (xa w) i) C 0 rfl 1 rfl (by decide) (show i < xn w from by omega) rfl dX1_pass_75 ?_
          refine z_iconst (v := 3) C dX1_pass_76 (by decide) ?_
          refine z_isub C dX1_pass_77 ?_
          refine z_mset1 C 0 rfl rfl (show i < xn w from by omega) dX1_pass_78 ?_
          refine z_goto (tgt := 141) C dX1_pass_79 (by decide) ?_
          refine z_ws (ws' := (([] : va_W) ++ wS G1 cI cP (xeat w i))) (congrArg (fun z => ([] : va_W) ++ wS G1 cI cP z) (by unfold xeat; rw [if_neg c46]; show _ = ua (ue w (upd (xe w) i (xe w i - 1))) (upd (xa w) i (imax 0 (xa w i - 3))); rw [s_eat2 h3 h4 c65] <;> rfl)) ?_
          refine z_sub (L' := [(0, .ref (gO G1)), (1, .int (xdayF u)), (2, .ref (gA G1)), (3, .int (nI (xn u))), (4, .int (nI i))]) [1, 2, 3, 4, 5] rfl ?_
          refine z_iinc (v := nI (i + 1)) (L' := [(4, .int (nI (i + 1))), (0, .ref (gO G1)), (1, .int (xdayF u)), (2, .ref (gA G1)), (3, .int (nI (xn u)))]) C 4 dX1_pass_141 rfl (z_inc _) (by decide) rfl ?_
          refine z_goto (tgt := 30) C dX1_pass_144 (by decide) ?_
          refine z_sub (L' := [(0, .ref (gO G1)), (1, .int (xdayF u)), (2, .ref (gA G1)), (3, .int (nI (xn u))), (4, .int (nI (i + 1)))]) [1, 2, 3, 4, 0] rfl ?_
          exact (by have e9 := ih (i + 1) G1 (by omega) hG1; rw [hx9] at e9; exact e9)
        · skip
          refine z_iconst (v := 0) C dX1_pass_68 (by decide) ?_
          refine z_goto (tgt := 78) C dX1_pass_69 (by decide) ?_
          refine z_mset1 C 0 rfl rfl (show i < xn w from by omega) dX1_pass_78 ?_
          refine z_goto (tgt := 141) C dX1_pass_79 (by decide) ?_
          refine z_ws (ws' := (([] : va_W) ++ wS G1 cI cP (xeat w i))) (congrArg (fun z => ([] : va_W) ++ wS G1 cI cP z) (by unfold xeat; rw [if_neg c46]; show _ = ua (ue w (upd (xe w) i (xe w i - 1))) (upd (xa w) i (imax 0 (xa w i - 3))); rw [s_eat1 h3 h4 c65] <;> rfl)) ?_
          refine z_sub (L' := [(0, .ref (gO G1)), (1, .int (xdayF u)), (2, .ref (gA G1)), (3, .int (nI (xn u))), (4, .int (nI i))]) [1, 2, 3, 4, 5] rfl ?_
          refine z_iinc (v := nI (i + 1)) (L' := [(4, .int (nI (i + 1))), (0, .ref (gO G1)), (1, .int (xdayF u)), (2, .ref (gA G1)), (3, .int (nI (xn u)))]) C 4 dX1_pass_141 rfl (z_inc _) (by decide) rfl ?_
          refine z_goto (tgt := 30) C dX1_pass_144 (by decide) ?_
          refine z_sub (L' := [(0, .ref (gO G1)), (1, .int (xdayF u)), (2, .ref (gA G1)), (3, .int (nI (xn u))), (4, .int (nI (i + 1)))]) [1, 2, 3, 4, 0] rfl ?_
          exact (by have e9 := ih (i + 1) G1 (by omega) hG1; rw [hx9] at e9; exact e9)
  have k19 : ∀ (G1 : AG), gO G1 = gO G → zG p l e ({ frames := 1, cells := 1, slots := 0, locals := 26 } : Room) s m args below meth c D 7 A 1 0 (MQ below (zQX (fun G2 : AG => gO G2 = gO G) (fun _ => some (.int (xdayF u))) (fun G2 => wS G2 cI cP (xday u)) D A) args s 1 0 A) 19 [(0, .ref (gO G1)), (1, .int (xdayF u))] [] (([] : va_W) ++ (wS G1 cI cP (xday1 u))) := by
    intro G1 hG1
    have hnd : xn (xday1 u) = xn u := xday1_n u
    refine z_aload_n C 0 dX1_pass_19 rfl rfl ?_
    refine z_sget (v := .ref (gA G1)) C ins 3 (by decide) rfl wd1 dX1_pass_20 ?_
    refine z_astore_n (L' := [(2, .ref (gA G1)), (0, .ref (gO G1)), (1, .int (xdayF u))]) C dX1_pass_23 rfl (by decide) rfl ?_
    refine z_aload_n C 0 dX1_pass_24 rfl rfl ?_
    refine z_alenA C 1 rfl dX1_pass_25 ?_
    refine z_top (y := nI (xn u)) (by rw [hnd]) ?_
    refine z_istore_n (L' := [(3, .int (nI (xn u))), (2, .ref (gA G1)), (0, .ref (gO G1)), (1, .int (xdayF u))]) C dX1_pass_26 rfl (by decide) rfl ?_
    refine z_iconst (v := 0) C dX1_pass_27 (by decide) ?_
    refine z_istore (L' := [(4, .int 0), (3, .int (nI (xn u))), (2, .ref (gA G1)), (0, .ref (gO G1)), (1, .int (xdayF u))]) C dX1_pass_28 (by decide) rfl ?_
    refine z_sub (L' := [(0, .ref (gO G1)), (1, .int (xdayF u)), (2, .ref (gA G1)), (3, .int (nI (xn u))), (4, .int 0)]) [3, 4, 2, 1, 0] rfl ?_
    exact lp30 (xn u) 0 G1 (by omega) hG1
  refine z_iconst (v := 0) C dX1_pass_0 (by decide) ?_
  refine z_istore_n (L' := [(1, .int 0), (0, .ref (gO G))]) C dX1_pass_1 rfl (by decide) rfl ?_
  refine z_aload_n C 1 dX1_pass_2 rfl rfl ?_
  refine z_sget (v := .int (xd u)) C ins 0 (by decide) rfl wd0 dX1_pass_3 ?_
  refine z_iconst (v := 1) C dX1_pass_6 (by decide) ?_
  refine z_iadd C dX1_pass_7 ?_
  refine z_bipush (v := 7) C dX1_pass_8 (by decide) ?_
  refine z_irem C dX1_pass_10 (by decide) ?_
  refine z_if_ne (tgt := 19) C dX1_pass_11 (by decide) (fun c11 => ?_) (fun c11 => ?_)
  · skip
    refine z_sub (L' := [(0, .ref (gO G)), (1, .int 0)]) [1, 0] rfl ?_
    refine z_more (cells' := 1) (slots' := 0) (by omega) (by omega) ?_
    exact z_loc (L' := [(0, .ref (gO G)), (1, .int (xdayF u))]) (by rw [show xdayF u = 0 from if_pos (day7 hI hB c11)]) (z_ws (ws' := (([] : va_W) ++ wS G cI cP (xday1 u))) (by rw [show xday1 u = u from if_pos (day7 hI hB c11)]) (k19 G rfl))
  · skip
    refine z_aload_n C 1 dX1_pass_14 rfl rfl ?_
    refine z_callVX (w := (wS G cI cP u)) (w1 := ([] : va_W)) (w2 := ([] : va_W)) (As := []) (rest := []) C (c_X1_audit l D cI cP G B u hI) (hAA.call _) zAA.blind (cwV 0 C.words gX1_pass_X1_audit rfl rfl rfl (by decide +kernel) ⟨(Nat.le_of_ble_eq_true rfl), (Nat.le_of_ble_eq_true rfl)⟩) (q0 := 0) (ci := 1) rfl rfl rfl [0, 1] rfl rfl (Nat.le_of_ble_eq_true rfl) ⟨(by show _ ≤ 1; omega), (Nat.le_of_ble_eq_true rfl)⟩ (List.append_nil _).symm rfl dX1_pass_15 (fun G1 hG1 => ?_)
    refine z_ws (List.append_nil _) ?_
    refine z_st (st' := [.int (xflt u)]) rfl ?_
    refine z_loc (L' := [(1, .int 0), (0, .ref (gO G1))]) (by rw [hG1]) ?_
    refine z_istore_n (L' := [(1, .int (xflt u)), (0, .ref (gO G1))]) C dX1_pass_18 rfl (by decide) rfl ?_
    refine z_sub (L' := [(0, .ref (gO G1)), (1, .int (xflt u))]) [1, 0] rfl ?_
    refine z_more (cells' := 1) (slots' := 0) (by omega) (by omega) ?_
    exact z_loc (L' := [(0, .ref (gO G1)), (1, .int (xdayF u))]) (by rw [show xdayF u = xflt u from if_neg (day7b hI hB c11)]) (z_ws (ws' := (([] : va_W) ++ wS G1 cI cP (xday1 u))) (by rw [show xday1 u = xaud u from if_neg (day7b hI hB c11)]) (k19 G1 hG1))
set_option maxHeartbeats 8000000 in
set_option maxRecDepth 100000 in
theorem c_X1_behind (l : Launch) (D : va_G) (cI cP : ClassId) (G : AG) (B : Nat) (u : S0) (d : Nat) (hI : Inv B u) (hd : d ≤ 60) (hB : B + 60 < 2 ^ 20) : zMX l yX1_behind wsX1_behind 2 52 60 0 [.ref (gO G), .int (nI d)] [(cI, .int), (cP, .array .int)] D (wS G cI cP u) zAA (fun G2 : AG => gO G2 = gO G) (fun _ => some (.int (xpassF u d))) (fun G2 => wS G2 cI cP (xpass u d)) := by
  refine z_metX (cc := cX1_behind) (maxL := 4) (ret := (some .int)) (by decide) rfl (Nat.le_of_ble_eq_true rfl) ?_
  intro p e s m args below meth c A hAw hAA C hr hlocks
  have ins : ∀ w ∈ u_ws RX1 TX1 5, w ∈ wsX1_behind := by decide +kernel
  refine z_sub (L' := [(0, .ref (gO G)), (1, .int (nI d))]) [0, 1] rfl ?_
  refine z_ws (ws' := (([] : va_W) ++ wS G cI cP u)) rfl ?_
  have lp4 : ∀ (dd i : Nat) (G1 : AG), i + dd = d → gO G1 = gO G → zG p l e ({ frames := 2, cells := 60, slots := 0, locals := 52 } : Room) s m args below meth c D 4 A i 0 (MQ below (zQX (fun G2 : AG => gO G2 = gO G) (fun _ => some (.int (xpassF u d))) (fun G2 => wS G2 cI cP (xpass u d)) D A) args s 60 0 A) 4 [(0, .ref (gO G1)), (1, .int (nI d)), (2, .int (xpassF u i)), (3, .int (nI i))] [] (([] : va_W) ++ (wS G1 cI cP (xpass u i))) := by
    intro dd
    induction dd with
    | zero =>
      intro i G1 hi hG1
      obtain rfl : d = i := by omega
      refine z_iload_n C 3 dX1_behind_4 rfl rfl ?_
      refine z_iload_n C 1 dX1_behind_5 rfl rfl ?_
      refine z_icmp_ge (tgt := 22) C dX1_behind_6 (by decide) (fun _ => ?_) (fun h9 => absurd (nI_le (by omega) (by omega)) h9)
      refine z_iload_n C 2 dX1_behind_22 rfl rfl ?_
      exact z_iretX C G1 (by exact hG1) hr hlocks (by show _ ≤ 60; omega) (Nat.le_of_ble_eq_true rfl) dX1_behind_23 (by rfl) (by rfl)
    | succ dd ih =>
      intro i G1 hi hG1
      refine z_iload_n C 3 dX1_behind_4 rfl rfl ?_
      refine z_iload_n C 1 dX1_behind_5 rfl rfl ?_
      refine z_icmp_ge (tgt := 22) C dX1_behind_6 (by decide) (fun h9 => absurd h9 (nI_ge (by omega) (by omega))) (fun _ => ?_)
      refine z_iload_n C 2 dX1_behind_9 rfl rfl ?_
      refine z_aload_n C 0 dX1_behind_10 rfl rfl ?_
      refine z_callVX (w := (wS G1 cI cP (xpass u i))) (w1 := ([] : va_W)) (w2 := ([] : va_W)) (As := []) (rest := [.int (xpassF u i)]) C (c_X1_pass l D cI cP G1 (B + i) (xpass u i) (hI.pass i) (by omega)) (hAA.call _) zAA.blind (cwV 0 C.words gX1_behind_X1_pass rfl rfl rfl (by decide +kernel) ⟨(Nat.le_of_ble_eq_true rfl), (Nat.le_of_ble_eq_true rfl)⟩) (q0 := 0) (ci := 1) rfl rfl rfl [0, 1] rfl rfl (Nat.le_of_ble_eq_true rfl) ⟨(by show _ ≤ 60; omega), (Nat.le_of_ble_eq_true rfl)⟩ (List.append_nil _).symm rfl dX1_behind_11 (fun G2 hG2 => ?_)
      refine z_ws (List.append_nil _) ?_
      refine z_st (st' := [.int (xdayF (xpass u i)), .int (xpassF u i)]) rfl ?_
      refine z_loc (L' := [(0, .ref (gO G2)), (1, .int (nI d)), (2, .int (xpassF u i)), (3, .int (nI i))]) (by rw [hG2]) ?_
      refine z_iadd C dX1_behind_14 ?_
      refine z_istore_n (L' := [(2, .int ((xpassF u i) + (xdayF (xpass u i)))), (0, .ref (gO G2)), (1, .int (nI d)), (3, .int (nI i))]) C dX1_behind_15 rfl (by decide) rfl ?_
      refine z_iinc (v := nI (i + 1)) (L' := [(3, .int (nI (i + 1))), (2, .int ((xpassF u i) + (xdayF (xpass u i)))), (0, .ref (gO G2)), (1, .int (nI d))]) C 3 dX1_behind_16 rfl (z_inc _) (by decide) rfl ?_
      refine z_goto (tgt := 4) C dX1_behind_19 (by decide) ?_
      refine z_sub (L' := [(0, .ref (gO G2)), (1, .int (nI d)), (2, .int ((xpassF u i) + (xdayF (xpass u i)))), (3, .int (nI (i + 1)))]) [2, 3, 1, 0] rfl ?_
      refine z_more (cells' := i + 1) (slots' := 0) (by omega) (by omega) ?_
      exact ih (i + 1) G2 (by omega) (hG2.trans hG1)
  refine z_iconst (v := 0) C dX1_behind_0 (by decide) ?_
  refine z_istore_n (L' := [(2, .int 0), (0, .ref (gO G)), (1, .int (nI d))]) C dX1_behind_1 rfl (by decide) rfl ?_
  refine z_iconst (v := 0) C dX1_behind_2 (by decide) ?_
  refine z_istore_n (L' := [(3, .int 0), (2, .int 0), (0, .ref (gO G)), (1, .int (nI d))]) C dX1_behind_3 rfl (by decide) rfl ?_
  refine z_sub (L' := [(0, .ref (gO G)), (1, .int (nI d)), (2, .int 0), (3, .int 0)]) [2, 3, 1, 0] rfl ?_
  exact lp4 d 0 G (by omega) rfl
set_option maxHeartbeats 8000000 in
set_option maxRecDepth 100000 in
theorem c_X1_cast (l : Launch) (D : va_G) (cI cP : ClassId) (G : AG) (B : Nat) (u : S0) (j g : Nat) (b : Int32) (hI : Inv B u) (hj : j < xn u) (hb : b = 0 ∨ b = 1) (h9 : g ≤ 9) (hc : g ≤ xc u) (hk : xk u < 30) : zMX l yX1_cast wsX1_cast 1 23 2 45 [.ref (gO G), .int (nI j), .int b, .int (nI g)] [(cI, .int), (cP, .array .int)] D (wS G cI cP u) zAA (fun G2 : AG => gO G2 = gO G) (fun _ => some (.int (xthrowR u j b g))) (fun G2 => wS G2 cI cP (xthrow u j b g)) := by
  refine z_metX (cc := cX1_cast) (maxL := 6) (ret := (some .int)) (by decide) rfl (Nat.le_of_ble_eq_true rfl) ?_
  intro p e s m args below meth c A hAw hAA C hr hlocks
  have hn8 := hI.n8
  have hk30 := hI.k30
  obtain ⟨l0, a, e0, h1, h2, h3, h4, h5, h6⟩ := hI.row hj
  have ins : ∀ w ∈ u_ws RX1 TX1 5, w ∈ wsX1_cast := by decide +kernel
  have wd0 : Cond.fieldLink RX1 7 "SaltOrderLaw$Sim" "salt" "I" ∈ wsX1_cast := by decide +kernel
  have wd1 : Cond.fieldLink RX1 19 "SaltOrderLaw$Sim" "ledger" "[[I" ∈ wsX1_cast := by decide +kernel
  have wd2 : Cond.arrayClass .int ∈ wsX1_cast := by decide +kernel
  have wd3 : Cond.fieldLink RX1 15 "SaltOrderLaw$Sim" "members" "[[I" ∈ wsX1_cast := by decide +kernel
  refine z_sub (L' := [(0, .ref (gO G)), (1, .int (nI j)), (2, .int b), (3, .int (nI g))]) [0, 1, 2, 3] rfl ?_
  refine z_ws (ws' := (([] : va_W) ++ wS G cI cP u)) rfl ?_
  have k57 : ∀ (E : Int32) (u1 : S0), xn u1 = xn u → xk u1 = xk u → xc u1 = xc u → xwrite (uc u1 (xc u1 - g)) (nI j) (1 - b) (nI g) E = xthrow u j b g → E = xthrowR u j b g → zG p l e ({ frames := 1, cells := 2, slots := 45, locals := 23 } : Room) s m args below meth c D 6 A 0 0 (MQ below (zQX (fun G2 : AG => gO G2 = gO G) (fun _ => some (.int (xthrowR u j b g))) (fun G2 => wS G2 cI cP (xthrow u j b g)) D A) args s 2 45 A) 57 [(0, .ref (gO G)), (1, .int (nI j)), (2, .int b), (3, .int (nI g)), (4, .ref (gM G j)), (5, .int E)] [] (([] : va_W) ++ (wS G cI cP u1)) := by
    intro E u1 q1 q2 q3 hf hfE
    refine z_aload_n C 0 dX1_cast_57 rfl rfl ?_
    refine z_dup C dX1_cast_58 rfl ?_
    refine z_sget (v := .int (nI (xc u1))) C ins 1 (by decide) rfl wd0 dX1_cast_59 ?_
    refine z_iload_n C 3 dX1_cast_62 rfl rfl ?_
    refine z_isub C dX1_cast_63 ?_
    refine z_top (y := nI (xc u1 - g)) (pk_sub (by omega)) ?_
    refine z_sputC (n := (xc u1 - g)) C ins rfl wd0 dX1_cast_64 ?_
    refine z_aload_n C 0 dX1_cast_67 rfl rfl ?_
    refine z_aload_n C 0 dX1_cast_68 rfl rfl ?_
    refine z_sget (v := .ref (gB G)) C ins 4 (by decide) rfl wd1 dX1_cast_69 ?_
    refine z_iconst (v := 4) C dX1_cast_72 (by decide) ?_
    refine z_newi (N := 4) C 0 rfl wd2 (by decide) (by decide) (by decide) (by show _ ≤ 2; omega) (by show _ ≤ 45; omega) dX1_cast_73 (fun q => ?_)
    refine z_dup C dX1_cast_75 rfl ?_
    refine z_iconst (v := 0) C dX1_cast_76 (by decide) ?_
    refine z_iload_n C 1 dX1_cast_77 rfl rfl ?_
    refine z_qset C 0 rfl 0 rfl (by decide) (by decide) dX1_cast_78 ?_
    refine z_dup C dX1_cast_79 rfl ?_
    refine z_iconst (v := 1) C dX1_cast_80 (by decide) ?_
    refine z_iconst (v := 1) C dX1_cast_81 (by decide) ?_
    refine z_iload_n C 2 dX1_cast_82 rfl rfl ?_
    refine z_isub C dX1_cast_83 ?_
    refine z_qset C 0 rfl 1 rfl (by decide) (by decide) dX1_cast_84 ?_
    refine z_dup C dX1_cast_85 rfl ?_
    refine z_iconst (v := 2) C dX1_cast_86 (by decide) ?_
    refine z_iload_n C 3 dX1_cast_87 rfl rfl ?_
    refine z_qset C 0 rfl 2 rfl (by decide) (by decide) dX1_cast_88 ?_
    refine z_dup C dX1_cast_89 rfl ?_
    refine z_iconst (v := 3) C dX1_cast_90 (by decide) ?_
    refine z_iload C 5 dX1_cast_91 rfl ?_
    refine z_qset C 0 rfl 3 rfl (by decide) (by decide) dX1_cast_93 ?_
    refine z_callSX (w := wT (gB G) cP cI (xk (xl u1, xa u1, xe u1, xn u1, xw u1, xf u1, xg u1, xx u1, xk u1, (xc u1 - g), xd u1, xo u1, xy u1, xb u1)) 4 (gL G) (lrow (xl u1, xa u1, xe u1, xn u1, xw u1, xf u1, xg u1, xx u1, xk u1, (xc u1 - g), xd u1, xo u1, xy u1, xb u1)) ++ [(q, .inl (cI, 4, .inl (upd (upd (upd (upd (fun _ => 0) 0 (nI j)) 1 (1 - b)) 2 (nI g)) 3 E)))]) (w1 := wSo G (xl u1, xa u1, xe u1, xn u1, xw u1, xf u1, xg u1, xx u1, xk u1, (xc u1 - g), xd u1, xo u1, xy u1, xb u1) ++ wT (gA G) cP cI (xn (xl u1, xa u1, xe u1, xn u1, xw u1, xf u1, xg u1, xx u1, xk u1, (xc u1 - g), xd u1, xo u1, xy u1, xb u1)) 3 (gM G) (mrow (xl u1, xa u1, xe u1, xn u1, xw u1, xf u1, xg u1, xx u1, xk u1, (xc u1 - g), xd u1, xo u1, xy u1, xb u1))) (w2 := ([] : va_W)) (As := [.ref (gB G), .ref q]) (rest := [.ref (gO G)]) C (c_X1_with l D cI cP (g := gL G) (r := lrow (xl u1, xa u1, xe u1, xn u1, xw u1, xf u1, xg u1, xx u1, xk u1, (xc u1 - g), xd u1, xo u1, xy u1, xb u1)) (by show xk u1 ≤ 40; omega)) (hAA.call _) zAA.blind (va_cwS 2 C.words gX1_cast_X1_with rfl rfl rfl (by decide +kernel) ⟨(Nat.le_of_ble_eq_true rfl), (Nat.le_of_ble_eq_true rfl)⟩) [0, 1] rfl rfl (Nat.le_of_ble_eq_true rfl) ⟨(by show _ ≤ 2; omega), (by show _ ≤ 45; omega)⟩ (wS_last G (xl u1, xa u1, xe u1, xn u1, xw u1, xf u1, xg u1, xx u1, xk u1, (xc u1 - g), xd u1, xo u1, xy u1, xb u1) q 4 (upd (upd (upd (upd (fun _ => 0) 0 (nI j)) 1 (1 - b)) 2 (nI g)) 3 E)) rfl dX1_cast_94 (fun bb _ => ?_)
    refine z_ws (ws' := ((([] : va_W) ++ wSo G (xl u1, xa u1, xe u1, xn u1, xw u1, xf u1, xg u1, xx u1, xk u1, (xc u1 - g), xd u1, xo u1, xy u1, xb u1)) ++ (wT (gA G) cP cI (xn (xl u1, xa u1, xe u1, xn u1, xw u1, xf u1, xg u1, xx u1, xk u1, (xc u1 - g), xd u1, xo u1, xy u1, xb u1)) 3 (gM G) (mrow (xl u1, xa u1, xe u1, xn u1, xw u1, xf u1, xg u1, xx u1, xk u1, (xc u1 - g), xd u1, xo u1, xy u1, xb u1)) ++ wT bb cP cI (xk (xl u1, xa u1, xe u1, xn u1, xw u1, xf u1, xg u1, xx u1, xk u1, (xc u1 - g), xd u1, xo u1, xy u1, xb u1) + 1) 4 (snoc (xk (xl u1, xa u1, xe u1, xn u1, xw u1, xf u1, xg u1, xx u1, xk u1, (xc u1 - g), xd u1, xo u1, xy u1, xb u1)) (gL G) q) (snoc (xk (xl u1, xa u1, xe u1, xn u1, xw u1, xf u1, xg u1, xx u1, xk u1, (xc u1 - g), xd u1, xo u1, xy u1, xb u1)) (lrow (xl u1, xa u1, xe u1, xn u1, xw u1, xf u1, xg u1, xx u1, xk u1, (xc u1 - g), xd u1, xo u1, xy u1, xb u1)) (upd (upd (upd (upd (fun _ => 0) 0 (nI j)) 1 (1 - b)) 2 (nI g)) 3 E))))) (by rw [List.append_nil]; exact List.append_assoc _ _ _) ?_
    refine z_st (st' := [.ref bb, .ref (gO G)]) rfl ?_
    refine z_sputB (pre := []) (G := G) (u := (xl u1, xa u1, xe u1, xn u1, xw u1, xf u1, xg u1, xx u1, xk u1, (xc u1 - g), xd u1, xo u1, xy u1, xb u1)) (b := bb) C ins wd1 dX1_cast_97 ?_
    refine z_iload C 5 dX1_cast_100 rfl ?_
    exact z_iretX C ((gO G, gA G, bb, gM G, snoc (xk u1) (gL G) q) : AG) (by rfl) hr hlocks (by show _ ≤ 2; omega) (by show _ ≤ 45; omega) dX1_cast_102 (by rw [hfE]) (by rw [← hf]; exact wS_push rfl rfl rfl rfl rfl (fun _ _ => rfl) (fun t ht => lrow_eq (pk_un (Nat.ne_of_lt ht)).symm (pk_un (Nat.ne_of_lt ht)).symm (pk_un (Nat.ne_of_lt ht)).symm (pk_un (Nat.ne_of_lt ht)).symm) (row4 pk_us pk_us pk_us pk_us))
  refine z_aload_n C 0 dX1_cast_0 rfl rfl ?_
  refine z_sget (v := .ref (gA G)) C ins 3 (by decide) rfl wd3 dX1_cast_1 ?_
  refine z_iload_n C 1 dX1_cast_4 rfl rfl ?_
  refine z_mrow C 1 rfl j rfl hj hn8 dX1_cast_5 ?_
  refine z_astore (L' := [(4, .ref (gM G j)), (0, .ref (gO G)), (1, .int (nI j)), (2, .int b), (3, .int (nI g))]) C dX1_cast_6 (by decide) rfl ?_
  refine z_iload_n C 4 dX1_cast_8 rfl rfl ?_
  refine z_istore (L' := [(5, .int (nI g)), (4, .ref (gM G j)), (0, .ref (gO G)), (1, .int (nI j)), (2, .int b), (3, .int (nI g))]) C dX1_cast_9 (by decide) rfl ?_
  refine z_iload_n C 4 dX1_cast_11 rfl rfl ?_
  refine z_if_ne (tgt := 57) C dX1_cast_12 (by decide) (fun c12 => ?_) (fun c12 => ?_)
  · skip
    refine z_sub (L' := [(0, .ref (gO G)), (1, .int (nI j)), (2, .int b), (3, .int (nI g)), (4, .ref (gM G j)), (5, .int (nI g))]) [2, 3, 4, 5, 1, 0] rfl ?_
    exact k57 (nI g) u rfl rfl rfl (s_th1 hb c12) (s_th2 c12)
  · skip
    refine z_iload_n C 5 dX1_cast_15 rfl rfl ?_
    refine z_aload C 1 dX1_cast_16 rfl ?_
    refine z_iconst (v := 1) C dX1_cast_18 (by decide) ?_
    refine z_mget (x := (xa u) j) C 0 rfl 1 rfl (by decide) (show j < xn u from by omega) rfl dX1_cast_19 ?_
    refine z_icmp_le (tgt := 32) C dX1_cast_20 (by decide) (fun c20 => ?_) (fun c20 => ?_)
    · skip
      refine z_iconst (v := 0) C dX1_cast_32 (by decide) ?_
      refine z_top (y := xlexc u j (nI g)) (s_ex1 h3 h4 h9 c20) ?_
      refine z_istore (L' := [(5, .int (xlexc u j (nI g))), (4, .ref (gM G j)), (0, .ref (gO G)), (1, .int (nI j)), (2, .int b), (3, .int (nI g))]) C dX1_cast_33 (by decide) rfl ?_
      refine z_aload C 1 dX1_cast_35 rfl ?_
      refine z_iconst (v := 1) C dX1_cast_37 (by decide) ?_
      refine z_aload C 1 dX1_cast_38 rfl ?_
      refine z_iconst (v := 1) C dX1_cast_40 (by decide) ?_
      refine z_mget (x := (xa u) j) C 0 rfl 1 rfl (by decide) (show j < xn u from by omega) rfl dX1_cast_41 ?_
      refine z_iload_n C 5 dX1_cast_42 rfl rfl ?_
      refine z_icmp_le (tgt := 55) C dX1_cast_43 (by decide) (fun c43 => ?_) (fun c43 => ?_)
      · skip
        refine z_iconst (v := 0) C dX1_cast_55 (by decide) ?_
        refine z_top (y := imax 0 (xa u j - nI g)) (s_le1 h3 h4 h9 c43) ?_
        refine z_mset1 C 0 rfl rfl hj dX1_cast_56 ?_
        refine z_sub (L' := [(0, .ref (gO G)), (1, .int (nI j)), (2, .int b), (3, .int (nI g)), (4, .ref (gM G j)), (5, .int (xlexc u j (nI g)))]) [2, 3, 4, 5, 1, 0] rfl ?_
        exact k57 (xlexc u j (nI g)) (xless u j (nI g)) rfl rfl rfl (s_th3 c12) (s_th4 c12)
      · skip
        refine z_aload C 1 dX1_cast_46 rfl ?_
        refine z_iconst (v := 1) C dX1_cast_48 (by decide) ?_
        refine z_mget (x := (xa u) j) C 0 rfl 1 rfl (by decide) (show j < xn u from by omega) rfl dX1_cast_49 ?_
        refine z_iload_n C 5 dX1_cast_50 rfl rfl ?_
        refine z_isub C dX1_cast_51 ?_
        refine z_goto (tgt := 56) C dX1_cast_52 (by decide) ?_
        refine z_top (y := imax 0 (xa u j - nI g)) (s_le2 h3 h4 h9 c43) ?_
        refine z_mset1 C 0 rfl rfl hj dX1_cast_56 ?_
        refine z_sub (L' := [(0, .ref (gO G)), (1, .int (nI j)), (2, .int b), (3, .int (nI g)), (4, .ref (gM G j)), (5, .int (xlexc u j (nI g)))]) [2, 3, 4, 5, 1, 0] rfl ?_
        exact k57 (xlexc u j (nI g)) (xless u j (nI g)) rfl rfl rfl (s_th3 c12) (s_th4 c12)
    · skip
      refine z_iload_n C 5 dX1_cast_23 rfl rfl ?_
      refine z_aload C 1 dX1_cast_24 rfl ?_
      refine z_iconst (v := 1) C dX1_cast_26 (by decide) ?_
      refine z_mget (x := (xa u) j) C 0 rfl 1 rfl (by decide) (show j < xn u from by omega) rfl dX1_cast_27 ?_
      refine z_isub C dX1_cast_28 ?_
      refine z_goto (tgt := 33) C dX1_cast_29 (by decide) ?_
      refine z_top (y := xlexc u j (nI g)) (s_ex2 h3 h4 h9 c20) ?_
      refine z_istore (L' := [(5, .int (xlexc u j (nI g))), (4, .ref (gM G j)), (0, .ref (gO G)), (1, .int (nI j)), (2, .int b), (3, .int (nI g))]) C dX1_cast_33 (by decide) rfl ?_
      refine z_aload C 1 dX1_cast_35 rfl ?_
      refine z_iconst (v := 1) C dX1_cast_37 (by decide) ?_
      refine z_aload C 1 dX1_cast_38 rfl ?_
      refine z_iconst (v := 1) C dX1_cast_40 (by decide) ?_
      refine z_mget (x := (xa u) j) C 0 rfl 1 rfl (by decide) (show j < xn u from by omega) rfl dX1_cast_41 ?_
      refine z_iload_n C 5 dX1_cast_42 rfl rfl ?_
      refine z_icmp_le (tgt := 55) C dX1_cast_43 (by decide) (fun c43 => ?_) (fun c43 => ?_)
      · skip
        refine z_iconst (v := 0) C dX1_cast_55 (by decide) ?_
        refine z_top (y := imax 0 (xa u j - nI g)) (s_le1 h3 h4 h9 c43) ?_
        refine z_mset1 C 0 rfl rfl hj dX1_cast_56 ?_
        refine z_sub (L' := [(0, .ref (gO G)), (1, .int (nI j)), (2, .int b), (3, .int (nI g)), (4, .ref (gM G j)), (5, .int (xlexc u j (nI g)))]) [2, 3, 4, 5, 1, 0] rfl ?_
        exact k57 (xlexc u j (nI g)) (xless u j (nI g)) rfl rfl rfl (s_th3 c12) (s_th4 c12)
      · skip
        refine z_aload C 1 dX1_cast_46 rfl ?_
        refine z_iconst (v := 1) C dX1_cast_48 (by decide) ?_
        refine z_mget (x := (xa u) j) C 0 rfl 1 rfl (by decide) (show j < xn u from by omega) rfl dX1_cast_49 ?_
        refine z_iload_n C 5 dX1_cast_50 rfl rfl ?_
        refine z_isub C dX1_cast_51 ?_
        refine z_goto (tgt := 56) C dX1_cast_52 (by decide) ?_
        refine z_top (y := imax 0 (xa u j - nI g)) (s_le2 h3 h4 h9 c43) ?_
        refine z_mset1 C 0 rfl rfl hj dX1_cast_56 ?_
        refine z_sub (L' := [(0, .ref (gO G)), (1, .int (nI j)), (2, .int b), (3, .int (nI g)), (4, .ref (gM G j)), (5, .int (xlexc u j (nI g)))]) [2, 3, 4, 5, 1, 0] rfl ?_
        exact k57 (xlexc u j (nI g)) (xless u j (nI g)) rfl rfl rfl (s_th3 c12) (s_th4 c12)
