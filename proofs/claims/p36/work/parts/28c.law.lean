set_option maxHeartbeats 8000000 in
set_option maxRecDepth 100000 in
theorem k_law {p : Program} {l : Launch} {e : Env} {s : State} {m : MethodId} {args : Array Value} {below : List Frame} {meth : Method} {c : Code} {D : va_G} {A : Nat → Prop} {Q : State → Prop} {cI cZ cP : ClassId} {b N : Nat} {xs : Nat → Int32} (C : zC p s m args c cL_law 24 RL wsL_law D [(cI, .int), (cZ, .boolean), (cP, .array .int)] A) (hAA : zAA s) (hNw : va_Nw (.methodLinkNest RL 70 yX1_init RL) s) (hX : va_X b N xs s s.heap) (hbl : b < s.heap.size) (hbA : ¬ A b) (hN : N ≤ 260) (kx : ∀ (cells slots : Nat) (Lx : List (Nat × Value)) (ws : va_W), cells ≤ 600130 → slots ≤ 7301080 → zG p l e room_1 s m args below meth c D 24 A cells slots Q 882 Lx [.int 1] ws) : zG p l e room_1 s m args below meth c D 24 A 0 0 Q 0 [(0, .ref b)] [] ([] : va_W) := by
  have ins : ∀ w ∈ u_ws RX1 TX1 5, w ∈ wsL_law := by decide +kernel
  have inl0 : ∀ w ∈ u_ws RX0 TX0 14, w ∈ wsL_law := by decide +kernel
  have lp22 : ∀ hh : Nat → Nat, ∀ (dd i : Nat) (v1 : S0) (G1 : AG), i + dd = 40 → Inv (3540 + 61 * i) v1 → zG p l e room_1 s m args below meth c D 24 A (4000 + 71 * i) (4000 + 110 * i) Q 22 [(0, .ref b), (1, .ref (hh 0)), (2, .ref (gO G1)), (3, .int (nI i))] [] ((wX0 hh cI cZ v1) ++ (wS G1 cI cP v1)) := by
    intro hh
    intro dd
    induction dd with
    | zero =>
      intro i v1 G1 hi hIv
      obtain rfl : 40 = i := by omega
      refine z_iload_n C 3 dL_law_22 rfl rfl ?_
      refine z_bipush (v := 40) C dL_law_23 (by decide) ?_
      refine z_icmp_ge (tgt := 877) C dL_law_25 (by decide) (fun _ => ?_) (fun h9 => absurd (by decide) h9)
      refine z_aload_n C 2 dL_law_877 rfl rfl ?_
      refine z_aload_n C 1 dL_law_878 rfl rfl ?_
      refine z_callVX (w := wX0 hh cI cZ v1 ++ wS G1 cI cP v1) (w1 := ([] : va_W)) (w2 := ([] : va_W)) (As := [.ref (hh 0)]) (rest := []) C (c_X1_isSame l D hh cI cZ cP G1 _ v1 hIv (by omega)) (hAA.call _) zAA.blind (cwV 1 C.words gL_law_X1_isSame rfl rfl rfl (by decide +kernel) ⟨(Nat.le_of_ble_eq_true rfl), (Nat.le_of_ble_eq_true rfl)⟩) (q0 := 8) (ci := 1) rfl rfl rfl [0, 1, 2] rfl rfl (Nat.le_of_ble_eq_true rfl) ⟨by show _ ≤ 600130; omega, by show _ ≤ 7301080; omega⟩ (List.append_nil _).symm rfl dL_law_879 (fun x9 _ => ?_)
      exact kx _ _ _ _ (by omega) (by omega)
    | succ dd ih =>
      intro i v1 G1 hi hIv
      refine z_iload_n C 3 dL_law_22 rfl rfl ?_
      refine z_bipush (v := 40) C dL_law_23 (by decide) ?_
      refine z_icmp_ge (tgt := 877) C dL_law_25 (by decide) (fun h9 => absurd h9 (nI_ge (a := i) (b := 40) (by omega) (by omega))) (fun _ => ?_)
      refine z_aload_n C 0 dL_law_28 rfl rfl ?_
      refine z_iload_n C 3 dL_law_29 rfl rfl ?_
      refine z_bipush (v := 16) C dL_law_30 (by decide) ?_
      refine z_irem C dL_law_32 (by decide) ?_
      refine z_top (y := nI (i % 16)) (pk_rem (d := 16) (by omega) (by omega) (by omega)) ?_
      refine z_callSX (w := ([] : va_W)) (w1 := ((wX0 hh cI cZ v1) ++ (wS G1 cI cP v1))) (w2 := ([] : va_W)) (As := [.ref b, .int (nI (i % 16))]) (rest := []) C (c_L_cell l D (k := (i % 16)) (by omega) (by omega)) (zES.call hX hbl hbA) zES.blind (va_cwS 2 C.words gL_law_L_cell rfl rfl rfl (by decide +kernel) ⟨(Nat.le_of_ble_eq_true rfl), (Nat.le_of_ble_eq_true rfl)⟩) [] rfl rfl (Nat.le_of_ble_eq_true rfl) ⟨(by show _ ≤ 600130; omega), (by show _ ≤ 7301080; omega)⟩ (by rw [List.append_nil, List.append_nil]) rfl dL_law_33 (fun y1 _ => ?_)
      refine z_ws (ws' := ((wX0 hh cI cZ v1) ++ (wS G1 cI cP v1))) (by rw [List.append_nil, List.append_nil]) ?_
      refine z_st (st' := [.int y1]) rfl ?_
      refine z_iload_n C 3 dL_law_36 rfl rfl ?_
      refine z_bipush (v := 16) C dL_law_37 (by decide) ?_
      refine z_idiv C dL_law_39 (by decide) ?_
      refine z_iconst (v := 3) C dL_law_40 (by decide) ?_
      refine z_imul C dL_law_41 ?_
      refine z_ishr C dL_law_42 ?_
      refine z_sipush (v := 613) C dL_law_43 (by decide) ?_
      refine z_iload_n C 3 dL_law_46 rfl rfl ?_
      refine z_imul C dL_law_47 ?_
      refine z_iadd C dL_law_48 ?_
      refine z_istore (L' := [(4, .int ((y1 >>> ((((nI i) / 16) * 3) &&& 31)) + (613 * (nI i)))), (0, .ref b), (1, .ref (hh 0)), (2, .ref (gO G1)), (3, .int (nI i))]) C dL_law_49 (by decide) rfl ?_
      refine z_aload_n C 2 dL_law_51 rfl rfl ?_
      refine z_aload_n C 3 dL_law_52 rfl rfl ?_
      refine z_iload C 0 dL_law_53 rfl ?_
      refine z_callSX (w := ((wX0 hh cI cZ v1) ++ (wS G1 cI cP v1))) (w1 := ([] : va_W)) (w2 := ([] : va_W)) (As := [.ref (hh 0), .ref (gO G1), .int ((y1 >>> ((((nI i) / 16) * 3) &&& 31)) + (613 * (nI i)))]) (rest := []) C (c_L_act l D hh cI cZ cP G1 (3540 + 61 * i) v1 ((y1 >>> ((((nI i) / 16) * 3) &&& 31)) + (613 * (nI i))) hIv (by omega)) (hAA.call _) zAA.blind (va_cwS 3 C.words gL_law_L_act rfl rfl rfl (by decide +kernel) ⟨(Nat.le_of_ble_eq_true rfl), (Nat.le_of_ble_eq_true rfl)⟩) [0, 1, 2] rfl rfl (Nat.le_of_ble_eq_true rfl) ⟨(by show _ ≤ 600130; omega), (by show _ ≤ 7301080; omega)⟩ (List.append_nil _).symm rfl dL_law_55 (fun z9 hz9 => ?_)
      obtain ⟨v2, G2⟩ := z9
      obtain ⟨hI2, hG2, hn1⟩ := hz9
      refine z_ws (ws' := ((wX0 hh cI cZ v2) ++ (wS G2 cI cP v2))) (List.append_nil _) ?_
      refine z_st (st' := [.int 1]) rfl ?_
      refine z_loc (L' := [(4, .int ((y1 >>> ((((nI i) / 16) * 3) &&& 31)) + (613 * (nI i)))), (0, .ref b), (1, .ref (hh 0)), (2, .ref (gO G2)), (3, .int (nI i))]) (by rw [show gO G2 = gO G1 from hG2]) ?_
      refine z_if_ne (tgt := 63) C dL_law_58 (by decide) (fun _ => ?_) (fun h9 => absurd h9 (by decide))
      refine z_sub (L' := [(0, .ref b), (1, .ref (hh 0)), (2, .ref (gO G2)), (3, .int (nI i))]) [1, 2, 3, 4] rfl ?_
      refine k_law63 (G := G2) (v := v2) C hAA hNw hX hbl hbA hI2 (by omega) hn1 (by omega) (by omega) (fun G3 cells2 slots2 hG3 h3 h4 => ?_)
      refine z_more (cells' := 4000 + 71 * (i + 1)) (slots' := 4000 + 110 * (i + 1)) (by omega) (by omega) ?_
      exact ih (i + 1) (xday v2) G3 (by omega) (hI2.dayS.le (by omega))
  refine z_new0 C inl0 (by decide +kernel) (by decide +kernel) (by decide +kernel) (Nat.le_of_ble_eq_true rfl) (Nat.le_of_ble_eq_true rfl) dL_law_0 (fun q0 => ?_)
  refine z_dup C dL_law_3 rfl ?_
  refine z_callI (w := [(q0, .inr (0, [.null, .null, .null, .int 0, .null, .null, .null, .null, .int 0, .int 0, .int 0, .int 0, .int 0, .int 0]))]) (wr := ([] : va_W)) (rest := [.ref q0]) C (c_X0_init l D cI cZ q0) (cwI 0 C.words gL_law_X0_init rfl rfl rfl (C.words (.initialized RX0) (by decide +kernel)) (C.words (.methodLink RL 79 yX0_init) (by decide +kernel)) (C.words (.instanceMethod yX0_init) (by decide +kernel)) rfl (by decide +kernel) ⟨(Nat.le_of_ble_eq_true rfl), (Nat.le_of_ble_eq_true rfl)⟩) [0, 1] rfl (Nat.le_of_ble_eq_true rfl) ⟨(Nat.le_of_ble_eq_true rfl), (Nat.le_of_ble_eq_true rfl)⟩ [0] [] rfl rfl rfl (by decide) (by decide) (by decide) rfl dL_law_4 (fun hh e0 => ?_)
  subst e0
  refine z_ws (ws' := wX0 hh cI cZ x00) rfl ?_
  refine z_astore_n (L' := [(1, .ref (hh 0)), (0, .ref b)]) C dL_law_7 rfl (by decide) rfl ?_
  refine z_aload_n C 0 dL_law_8 rfl rfl ?_
  refine z_aload_n C 1 dL_law_9 rfl rfl ?_
  refine z_at (fun hat => ?_)
  refine z_callSX (w := wX0 hh cI cZ x00) (w1 := ([] : va_W)) (w2 := ([] : va_W)) (As := [.ref (hh 0), .ref b]) (rest := []) C (c_L_build l D hh cI cZ cP hN (fun k q h e => hbA (e ▸ hat k q h))) (zEB.call hAA hNw hX hbl hbA) zEB.blind (va_cwS 2 C.words gL_law_L_build rfl rfl rfl (by decide +kernel) ⟨(Nat.le_of_ble_eq_true rfl), (Nat.le_of_ble_eq_true rfl)⟩) [0, 1, 2] rfl rfl (Nat.le_of_ble_eq_true rfl) ⟨(Nat.le_of_ble_eq_true rfl), (Nat.le_of_ble_eq_true rfl)⟩ (List.append_nil _).symm rfl dL_law_10 (fun z9 hz9 => ?_)
  obtain ⟨v0, G0⟩ := z9
  have hI0 : Inv 3540 v0 := hz9
  refine z_ws (ws' := ((wX0 hh cI cZ v0) ++ (wS G0 cI cP v0))) (List.append_nil _) ?_
  refine z_st (st' := [.ref (gO G0)]) rfl ?_
  refine z_astore_n (L' := [(2, .ref (gO G0)), (1, .ref (hh 0)), (0, .ref b)]) C dL_law_13 rfl (by decide) rfl ?_
  refine z_aload_n C 0 dL_law_14 rfl rfl ?_
  refine z_nonnull (tgt := 20) C dL_law_15 (by decide) ?_
  refine z_iconst (v := 0) C dL_law_20 (by decide) ?_
  refine z_istore_n (L' := [(3, .int 0), (2, .ref (gO G0)), (1, .ref (hh 0)), (0, .ref b)]) C dL_law_21 rfl (by decide) rfl ?_
  refine z_sub (L' := [(0, .ref b), (1, .ref (hh 0)), (2, .ref (gO G0)), (3, .int 0)]) [3, 2, 1, 0] rfl ?_
  refine z_more (cells' := 4000 + 71 * 0) (slots' := 4000 + 110 * 0) (by omega) (by omega) ?_
  exact lp22 hh 40 0 v0 G0 (by omega) (hI0.le (by omega))
