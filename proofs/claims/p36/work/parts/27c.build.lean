set_option maxHeartbeats 8000000 in
set_option maxRecDepth 100000 in
theorem c_L_build (l : Launch) (D : va_G) (hh : Nat → Nat) (cI cZ cP : ClassId) {b N : Nat} {xs : Nat → Int32} (hN : N ≤ 260) (hbw : ∀ (k : Nat) (q : Nat × va_E), (wX0 hh cI cZ x00)[k]? = some q → q.1 ≠ b) : zMX l yL_build wsL_build 6 135 3600 2800 [.ref (hh 0), .ref b] [(cI, .int), (cZ, .boolean), (cP, .array .int)] D (wX0 hh cI cZ x00) (zEB b N xs) (fun z : S0 × AG => Inv 3540 z.1) (fun z => some (.ref (gO z.2))) (fun z => wX0 hh cI cZ z.1 ++ wS z.2 cI cP z.1) := by
  refine z_metX (cc := cL_build) (maxL := 5) (ret := (some (.object "SaltOrderLaw$Sim"))) (by decide) rfl (Nat.le_of_ble_eq_true rfl) ?_
  intro p e s m args below meth c A hAw ⟨hAA, hNw, hX, hbl⟩ C hr hlocks
  have hbA : ¬ A b := fun q => by
    rw [hAw] at q
    rcases q with ⟨j, e, h⟩ | h
    · exact hbw j _ h rfl
    · omega
  have ins : ∀ w ∈ u_ws RX1 TX1 5, w ∈ wsL_build := by decide +kernel
  refine z_sub (L' := [(0, .ref (hh 0)), (1, .ref b)]) [0, 1] rfl ?_
  have lp25 : ∀ r : Nat, r < 50 → ∀ (dd i : Nat) (v1 : S0) (G1 : AG), i + dd = (10 + r) → Inv (60 * i) v1 → zG p l e ({ frames := 6, cells := 3600, slots := 2800, locals := 135 } : Room) s m args below meth c D 5 A (3 + 60 * i) (5 + 45 * i) (MQ below (zQX (fun z : S0 × AG => Inv 3540 z.1) (fun z => some (.ref (gO z.2))) (fun z => wX0 hh cI cZ z.1 ++ wS z.2 cI cP z.1) D A) args s 3600 2800 A) 25 [(0, .ref (hh 0)), (1, .ref b), (2, .ref (gO G1)), (3, .int (nI (10 + r))), (4, .int (nI i))] [] ((wX0 hh cI cZ v1) ++ (wS G1 cI cP v1)) := by
    intro r hr5
    intro dd
    induction dd with
    | zero =>
      intro i v1 G1 hi hIv
      have hi : i = (10 + r) := by omega
      subst hi
      refine z_iload C 4 dL_build_25 rfl ?_
      refine z_iload_n C 3 dL_build_27 rfl rfl ?_
      refine z_icmp_ge (tgt := 71) C dL_build_28 (by decide) (fun _ => ?_) (fun h9 => absurd (nI_le (by omega) (by omega)) h9)
      refine z_aload_n C 2 dL_build_71 rfl rfl ?_
      exact z_aretX C ((v1, G1) : S0 × AG) (by exact (hIv.le (by omega))) hr (Or.inl ⟨_, rfl⟩) hlocks (by show _ ≤ 3600; omega) (by show _ ≤ 2800; omega) dL_build_72 (by rfl) (by rfl)
    | succ dd ih =>
      intro i v1 G1 hi hIv
      refine z_iload C 4 dL_build_25 rfl ?_
      refine z_iload_n C 3 dL_build_27 rfl rfl ?_
      refine z_icmp_ge (tgt := 71) C dL_build_28 (by decide) (fun h9 => absurd h9 (nI_ge (by omega) (by omega))) (fun _ => ?_)
      refine z_aload_n C 0 dL_build_31 rfl rfl ?_
      refine z_aload_n C 2 dL_build_32 rfl rfl ?_
      refine z_aload_n C 1 dL_build_33 rfl rfl ?_
      refine z_iload C 4 dL_build_34 rfl ?_
      refine z_bipush (v := 16) C dL_build_36 (by decide) ?_
      refine z_irem C dL_build_38 (by decide) ?_
      refine z_top (y := nI (i % 16)) (pk_rem (d := 16) (by omega) (by omega) (by omega)) ?_
      refine z_callSX (w := ([] : va_W)) (w1 := ((wX0 hh cI cZ v1) ++ (wS G1 cI cP v1))) (w2 := ([] : va_W)) (As := [.ref b, .int (nI (i % 16))]) (rest := [.ref (gO G1), .ref (hh 0)]) C (c_L_cell l D (k := (i % 16)) (by omega) (by omega)) (zES.call hX hbl hbA) zES.blind (va_cwS 2 C.words gL_build_L_cell rfl rfl rfl (by decide +kernel) ⟨(Nat.le_of_ble_eq_true rfl), (Nat.le_of_ble_eq_true rfl)⟩) [] rfl rfl (Nat.le_of_ble_eq_true rfl) ⟨(by show _ ≤ 3600; omega), (by show _ ≤ 2800; omega)⟩ (by rw [List.append_nil, List.append_nil]) rfl dL_build_39 (fun y1 _ => ?_)
      refine z_ws (ws' := ((wX0 hh cI cZ v1) ++ (wS G1 cI cP v1))) (by rw [List.append_nil, List.append_nil]) ?_
      refine z_st (st' := [.int y1, .ref (gO G1), .ref (hh 0)]) rfl ?_
      refine z_iload C 4 dL_build_42 rfl ?_
      refine z_bipush (v := 16) C dL_build_44 (by decide) ?_
      refine z_idiv C dL_build_46 (by decide) ?_
      refine z_iconst (v := 3) C dL_build_47 (by decide) ?_
      refine z_imul C dL_build_48 ?_
      refine z_ishr C dL_build_49 ?_
      refine z_sipush (v := 613) C dL_build_50 (by decide) ?_
      refine z_iload C 4 dL_build_53 rfl ?_
      refine z_imul C dL_build_55 ?_
      refine z_iadd C dL_build_56 ?_
      refine z_callSX (w := ((wX0 hh cI cZ v1) ++ (wS G1 cI cP v1))) (w1 := ([] : va_W)) (w2 := ([] : va_W)) (As := [.ref (hh 0), .ref (gO G1), .int ((y1 >>> ((((nI i) / 16) * 3) &&& 31)) + (613 * (nI i)))]) (rest := []) C (c_L_act l D hh cI cZ cP G1 (60 * i) v1 ((y1 >>> ((((nI i) / 16) * 3) &&& 31)) + (613 * (nI i))) hIv (by omega)) (hAA.call _) zAA.blind (va_cwS 3 C.words gL_build_L_act rfl rfl rfl (by decide +kernel) ⟨(Nat.le_of_ble_eq_true rfl), (Nat.le_of_ble_eq_true rfl)⟩) [0, 1, 2] rfl rfl (Nat.le_of_ble_eq_true rfl) ⟨(by show _ ≤ 3600; omega), (by show _ ≤ 2800; omega)⟩ (List.append_nil _).symm rfl dL_build_57 (fun z9 hz9 => ?_)
      obtain ⟨v2, G2⟩ := z9
      obtain ⟨hI2, hG2, hn1⟩ := hz9
      refine z_ws (ws' := ((wX0 hh cI cZ v2) ++ (wS G2 cI cP v2))) (List.append_nil _) ?_
      refine z_st (st' := [.int 1]) rfl ?_
      refine z_loc (L' := [(0, .ref (hh 0)), (1, .ref b), (2, .ref (gO G2)), (3, .int (nI (10 + r))), (4, .int (nI i))]) (by rw [show gO G2 = gO G1 from hG2]) ?_
      refine z_if_ne (tgt := 65) C dL_build_60 (by decide) (fun _ => ?_) (fun h9 => absurd h9 (by decide))
      refine z_iinc (v := nI (i + 1)) (L' := [(4, .int (nI (i + 1))), (0, .ref (hh 0)), (1, .ref b), (2, .ref (gO G2)), (3, .int (nI (10 + r)))]) C 4 dL_build_65 rfl (z_inc _) (by decide) rfl ?_
      refine z_goto (tgt := 25) C dL_build_68 (by decide) ?_
      refine z_sub (L' := [(0, .ref (hh 0)), (1, .ref b), (2, .ref (gO G2)), (3, .int (nI (10 + r))), (4, .int (nI (i + 1)))]) [1, 2, 3, 4, 0] rfl ?_
      refine z_more (cells' := 3 + 60 * (i + 1)) (slots' := 5 + 45 * (i + 1)) (by omega) (by omega) ?_
      exact ih (i + 1) v2 G2 (by omega) (hI2.le (by omega))
  refine z_new1 C ins (by decide +kernel) (by decide +kernel) (by decide +kernel) (by show _ ≤ 3600; omega) (by show _ ≤ 2800; omega) dL_build_0 (fun b0 => ?_)
  refine z_dup C dL_build_3 rfl ?_
  refine z_callNX (w := [(b0, .inr (1, [.int 0, .int 0, .int 0, .null, .null]))]) (w1 := wX0 hh cI cZ x00) (w2 := ([] : va_W)) (rest := [.ref b0]) C (c_X1_init l D cI cP b0) (hAA.call _) zAA.blind ⟨va_cnB 0 C.words gL_build_X1_init_n70 rfl rfl rfl hNw (C.words (.initialized RX1) (by decide +kernel)) (by decide +kernel) ⟨(Nat.le_of_ble_eq_true rfl), (Nat.le_of_ble_eq_true rfl)⟩, rfl, C.words (.instanceMethod yX1_init) (by decide +kernel)⟩ [0, 2] rfl (Nat.le_of_ble_eq_true rfl) ⟨(by show _ ≤ 3600; omega), (by show _ ≤ 2800; omega)⟩ (List.append_nil _).symm rfl dL_build_4 (fun G0 hG0 => ?_)
  refine z_ws (ws' := wX0 hh cI cZ x00 ++ wS G0 cI cP x00) (List.append_nil _) ?_
  refine z_st (st' := [.ref (gO G0)]) (by rw [hG0]; rfl) ?_
  refine z_astore_n (L' := [(2, .ref (gO G0)), (0, .ref (hh 0)), (1, .ref b)]) C dL_build_7 rfl (by decide) rfl ?_
  refine z_bipush (v := 10) C dL_build_8 (by decide) ?_
  refine z_aload_n C 2 dL_build_10 rfl rfl ?_
  refine z_iconst (v := 0) C dL_build_11 (by decide) ?_
  refine z_callSX (w := ([] : va_W)) (w1 := ((wX0 hh cI cZ x00) ++ (wS G0 cI cP x00))) (w2 := ([] : va_W)) (As := [.ref b, .int (nI 0)]) (rest := [.int 10]) C (c_L_cell l D (k := 0) (by omega) (by omega)) (zES.call hX hbl hbA) zES.blind (va_cwS 2 C.words gL_build_L_cell rfl rfl rfl (by decide +kernel) ⟨(Nat.le_of_ble_eq_true rfl), (Nat.le_of_ble_eq_true rfl)⟩) [] rfl rfl (Nat.le_of_ble_eq_true rfl) ⟨(by show _ ≤ 3600; omega), (by show _ ≤ 2800; omega)⟩ (by rw [List.append_nil, List.append_nil]) rfl dL_build_12 (fun y0 _ => ?_)
  refine z_ws (ws' := ((wX0 hh cI cZ x00) ++ (wS G0 cI cP x00))) (by rw [List.append_nil, List.append_nil]) ?_
  refine z_st (st' := [.int y0, .int 10]) rfl ?_
  refine z_bipush (v := 50) C dL_build_15 (by decide) ?_
  obtain ⟨r, hr5, er⟩ := bel_ex y0 (m := 50) (by omega) (by omega)
  refine z_callS (w := ([] : va_W)) (w' := ([] : va_W)) (w1 := ([] : va_W)) (w2 := ((wX0 hh cI cZ x00) ++ (wS G0 cI cP x00))) (ws' := ((wX0 hh cI cZ x00) ++ (wS G0 cI cP x00))) (As := [.int y0, .int 50]) (rest := [.int 10]) (st' := [.int (bel y0 50), .int 10]) (rv := some (.int (bel y0 50))) C (c_L_below l D y0 50 (by decide)) (va_cwS 2 C.words gL_build_L_below rfl rfl rfl (by decide +kernel) ⟨(Nat.le_of_ble_eq_true rfl), (Nat.le_of_ble_eq_true rfl)⟩) [] rfl rfl (Nat.le_of_ble_eq_true rfl) ⟨(Nat.le_of_ble_eq_true rfl), (Nat.le_of_ble_eq_true rfl)⟩ rfl rfl rfl rfl rfl dL_build_17 ?_
  refine z_top (y := nI r) er ?_
  refine z_iadd C dL_build_20 ?_
  refine z_top (y := nI (10 + r)) (nI_add 10 r) ?_
  refine z_istore_n (L' := [(3, .int (nI (10 + r))), (2, .ref (gO G0)), (0, .ref (hh 0)), (1, .ref b)]) C dL_build_21 rfl (by decide) rfl ?_
  refine z_iconst (v := 0) C dL_build_22 (by decide) ?_
  refine z_istore (L' := [(4, .int 0), (3, .int (nI (10 + r))), (2, .ref (gO G0)), (0, .ref (hh 0)), (1, .ref b)]) C dL_build_23 (by decide) rfl ?_
  refine z_sub (L' := [(0, .ref (hh 0)), (1, .ref b), (2, .ref (gO G0)), (3, .int (nI (10 + r))), (4, .int 0)]) [3, 4, 2, 1, 0] rfl ?_
  exact lp25 r hr5 (10 + r) 0 x00 G0 (by omega) (by exact Inv.x00)
