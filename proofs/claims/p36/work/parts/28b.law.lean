set_option maxHeartbeats 8000000 in
set_option maxRecDepth 100000 in
theorem k_law63 {p : Program} {l : Launch} {e : Env} {s : State} {m : MethodId} {args : Array Value} {below : List Frame} {meth : Method} {c : Code} {D : va_G} {A : Nat → Prop} {Q : State → Prop} {cI cZ cP : ClassId} {b N : Nat} {xs : Nat → Int32} {hh : Nat → Nat} {G : AG} {B tm cells slots : Nat} {v : S0} (C : zC p s m args c cL_law 24 RL wsL_law D [(cI, .int), (cZ, .boolean), (cP, .array .int)] A) (hAA : zAA s) (hNw : va_Nw (.methodLinkNest RL 70 yX1_init RL) s) (hX : va_X b N xs s s.heap) (hbl : b < s.heap.size) (hbA : ¬ A b) (hI : Inv B v) (hB : B < 2 ^ 20) (hn1 : 1 ≤ xn v) (hc : cells + 10 ≤ 600130) (hs : slots + 60 ≤ 7301080) (kx : ∀ (G2 : AG) (cells2 slots2 : Nat), gO G2 = gO G → cells2 ≤ cells + 10 → slots2 ≤ slots + 60 → zG p l e room_1 s m args below meth c D 24 A cells2 slots2 Q 22 [(0, .ref b), (1, .ref (hh 0)), (2, .ref (gO G2)), (3, .int (nI (tm + 1)))] [] ((wX0 hh cI cZ (xday v)) ++ (wS G2 cI cP (xday v)))) : zG p l e room_1 s m args below meth c D 24 A cells slots Q 63 [(0, .ref b), (1, .ref (hh 0)), (2, .ref (gO G)), (3, .int (nI tm))] [] ((wX0 hh cI cZ v) ++ (wS G cI cP v)) := by
  have hn8 := hI.n8
  have hk30 := hI.k30
  have hc5 := hI.c5
  have hn0 := nI_nz1 hn1 (by omega)
  have ins : ∀ w ∈ u_ws RX1 TX1 5, w ∈ wsL_law := by decide +kernel
  obtain ⟨bb, hb1, hb2, hb3⟩ := luk_all hI hn1
  have wd0 : Cond.methodLink RL 145 Lib.Math.max.name ∈ wsL_law := by decide +kernel
  have wd1 : Cond.static Lib.Math.max.name ∈ wsL_law := by decide +kernel
  have wd2 : Cond.initialized "java/lang/Math" ∈ wsL_law := by decide +kernel
  have wd3 : Cond.code Lib.Math.max.name Lib.Math.max.code 2 (some .int) ∈ wsL_law := by decide +kernel
  have wd4 : Cond.methodLink RL 35 Lib.Math.min.name ∈ wsL_law := by decide +kernel
  have wd5 : Cond.static Lib.Math.min.name ∈ wsL_law := by decide +kernel
  have wd6 : Cond.code Lib.Math.min.name Lib.Math.min.code 2 (some .int) ∈ wsL_law := by decide +kernel
  have wd7 : Cond.arrayClass .int ∈ wsL_law := by decide +kernel
  have lp690 : ∀ (G2 : AG) (q7 q11 q12 q13 : Nat) (w14 : Int32) (cells3 slots3 : Nat), gO G2 = gO G → ((w14 = 0 → isA (xd v) = 0) ∧ (¬ w14 = 0 → ¬ isA (xd v) = 0)) → cells3 ≤ cells + 10 → slots3 ≤ slots + 60 → ∀ (dd i : Nat), i + dd = xn v → zG p l e room_1 s m args below meth c D 24 A cells3 slots3 Q 690 [(0, .ref b), (1, .ref (hh 0)), (2, .ref (gO G2)), (3, .int (nI tm)), (5, .int (nI (xn v))), (7, .ref q7), (11, .ref q11), (12, .ref q12), (13, .ref q13), (14, .int w14), (19, .int (nI i))] [] ((wX0 hh cI cZ (xday v)) ++ [(q7, .inl (cI, (xn v), .inl (adF v (xk v))))] ++ [(q11, .inl (cI, (xn v), .inl (fl (xl v) (xn v))))] ++ [(q12, .inl (cI, (xn v), .inl (fl (xa v) (xn v))))] ++ [(q13, .inl (cI, (xn v), .inl (fl (xe v) (xn v))))] ++ (wS G2 cI cP (xday v))) := by
    intro G2 q7 q11 q12 q13 w14 cells3 slots3 hG2 hw hc3 hs3
    intro dd
    induction dd with
    | zero =>
      intro i hi
      have hi : i = xn v := by omega
      subst hi
      refine z_iload C 10 dL_law_690 rfl ?_
      refine z_iload C 4 dL_law_692 rfl ?_
      refine z_icmp_ge (tgt := 871) C dL_law_694 (by decide) (fun _ => ?_) (fun h9 => absurd (nI_le (by omega) (by omega)) h9)
      refine z_iinc (v := nI (tm + 1)) (L' := [(3, .int (nI (tm + 1))), (0, .ref b), (1, .ref (hh 0)), (2, .ref (gO G2)), (5, .int (nI (xn v))), (7, .ref q7), (11, .ref q11), (12, .ref q12), (13, .ref q13), (14, .int w14), (19, .int (nI (xn v)))]) C 3 dL_law_871 rfl (z_inc _) (by decide) rfl ?_
      refine z_goto (tgt := 22) C dL_law_874 (by decide) ?_
      refine z_sub (L' := [(0, .ref b), (1, .ref (hh 0)), (2, .ref (gO G2)), (3, .int (nI (tm + 1)))]) [1, 2, 3, 0] rfl ?_
      refine z_dropM ?_
      refine z_dropM ?_
      refine z_dropM ?_
      refine z_dropM ?_
      exact kx G2 _ _ hG2 (by omega) (by omega)
    | succ dd ih =>
      intro i hi
      refine z_iload C 10 dL_law_690 rfl ?_
      refine z_iload C 4 dL_law_692 rfl ?_
      refine z_icmp_ge (tgt := 871) C dL_law_694 (by decide) (fun h9 => absurd h9 (nI_ge (by omega) (by omega))) (fun _ => ?_)
      refine z_iload C 9 dL_law_697 rfl ?_
      refine z_if_eq (tgt := 721) C dL_law_699 (by decide) (fun c699 => ?_) (fun c699 => ?_)
      · skip
        refine z_aload C 7 dL_law_721 rfl ?_
        refine z_iload C 10 dL_law_723 rfl ?_
        refine z_iald (f := fl (xa v) (xn v)) C 10 0 rfl rfl i rfl (by omega) (by omega) dL_law_725 ?_
        refine z_top (y := xa v i) (fl_at (by omega)) ?_
        refine z_istore (L' := [(20, .int (xa v i)), (0, .ref b), (1, .ref (hh 0)), (2, .ref (gO G2)), (3, .int (nI tm)), (5, .int (nI (xn v))), (7, .ref q7), (11, .ref q11), (12, .ref q12), (13, .ref q13), (14, .int w14), (19, .int (nI i))]) C dL_law_726 (by decide) rfl ?_
        refine z_aload C 9 dL_law_728 rfl ?_
        refine z_iload C 11 dL_law_730 rfl ?_
        refine z_iald (f := fl (xe v) (xn v)) C 11 0 rfl rfl i rfl (by omega) (by omega) dL_law_732 ?_
        refine z_top (y := xe v i) (fl_at (by omega)) ?_
        refine z_if_le (tgt := 740) C dL_law_733 (by decide) (fun c733 => ?_) (fun c733 => ?_)
        · skip
          refine z_iconst (v := 0) C dL_law_740 (by decide) ?_
          refine z_istore (L' := [(21, .int 0), (20, .int (xa v i)), (0, .ref b), (1, .ref (hh 0)), (2, .ref (gO G2)), (3, .int (nI tm)), (5, .int (nI (xn v))), (7, .ref q7), (11, .ref q11), (12, .ref q12), (13, .ref q13), (14, .int w14), (19, .int (nI i))]) C dL_law_741 (by decide) rfl ?_
          refine z_iload C 0 dL_law_743 rfl ?_
          refine z_if_eq (tgt := 759) C dL_law_745 (by decide) (fun _ => ?_) (fun h9 => absurd (by decide) h9)
          refine z_iload C 1 dL_law_759 rfl ?_
          refine z_istore (L' := [(22, .int (xa v i)), (21, .int 0), (20, .int (xa v i)), (0, .ref b), (1, .ref (hh 0)), (2, .ref (gO G2)), (3, .int (nI tm)), (5, .int (nI (xn v))), (7, .ref q7), (11, .ref q11), (12, .ref q12), (13, .ref q13), (14, .int w14), (19, .int (nI i))]) C dL_law_761 (by decide) rfl ?_
          refine z_iload C 1 dL_law_763 rfl ?_
          refine z_if_eq (tgt := 776) C dL_law_765 (by decide) (fun _ => ?_) (fun h9 => absurd (by decide) h9)
          refine z_iload C 2 dL_law_776 rfl ?_
          refine z_if_ne (tgt := 796) C dL_law_778 (by decide) (fun c778 => ?_) (fun c778 => ?_)
          · skip
            refine z_iconst (v := 0) C dL_law_796 (by decide) ?_
            refine z_aload C 9 dL_law_797 rfl ?_
            refine z_iload C 13 dL_law_799 rfl ?_
            refine z_iald (f := fl (xl v) (xn v)) C 9 0 rfl rfl i rfl (by omega) (by omega) dL_law_801 ?_
            refine z_top (y := xl v i) (fl_at (by omega)) ?_
            refine z_iload C 2 dL_law_802 rfl ?_
            refine z_bipush (v := 9) C dL_law_804 (by decide) ?_
            refine z_iadd C dL_law_806 ?_
            refine z_bipush (v := 10) C dL_law_807 (by decide) ?_
            refine z_idiv C dL_law_809 (by decide) ?_
            refine z_isub C dL_law_810 ?_
            refine z_mmax C wd0 wd1 wd2 wd3 (Nat.le_of_ble_eq_true rfl) (Nat.le_of_ble_eq_true rfl) (by show _ ≤ 600130; omega) (by show _ ≤ 7301080; omega) dL_law_811 ?_
            refine z_istore (L' := [(23, .int (imax 0 ((xl v i) - (((xa v i) + 9) / 10)))), (22, .int (xa v i)), (21, .int 0), (20, .int (xa v i)), (0, .ref b), (1, .ref (hh 0)), (2, .ref (gO G2)), (3, .int (nI tm)), (5, .int (nI (xn v))), (7, .ref q7), (11, .ref q11), (12, .ref q12), (13, .ref q13), (14, .int w14), (19, .int (nI i))]) C dL_law_814 (by decide) rfl ?_
            refine z_aload_n C 5 dL_law_816 rfl rfl ?_
            refine z_iload C 14 dL_law_817 rfl ?_
            refine z_callV (w := (wX0 hh cI cZ (xday v))) (w' := (wX0 hh cI cZ (xday v))) (w1 := ([] : va_W)) (w2 := ([(q7, .inl (cI, (xn v), .inl (adF v (xk v))))] ++ [(q11, .inl (cI, (xn v), .inl (fl (xl v) (xn v))))] ++ [(q12, .inl (cI, (xn v), .inl (fl (xa v) (xn v))))] ++ [(q13, .inl (cI, (xn v), .inl (fl (xe v) (xn v))))] ++ (wS G2 cI cP (xday v)))) (ws' := ((wX0 hh cI cZ (xday v)) ++ [(q7, .inl (cI, (xn v), .inl (adF v (xk v))))] ++ [(q11, .inl (cI, (xn v), .inl (fl (xl v) (xn v))))] ++ [(q12, .inl (cI, (xn v), .inl (fl (xa v) (xn v))))] ++ [(q13, .inl (cI, (xn v), .inl (fl (xe v) (xn v))))] ++ (wS G2 cI cP (xday v)))) (As := [.int (nI i)]) (rest := []) (st' := [.int (xa (xday v) i)]) (rv := some (.int (xa (xday v) i))) C (c_X0_arrearsOf l D hh cI cZ (xday v) i (by rw [xday_n]; omega) (by rw [xday_n]; omega)) (cwV 1 C.words gL_law_X0_arrearsOf rfl rfl rfl (by decide +kernel) ⟨(Nat.le_of_ble_eq_true rfl), (Nat.le_of_ble_eq_true rfl)⟩) (q0 := 0) (ci := 0) rfl rfl rfl [0, 1] rfl rfl (Nat.le_of_ble_eq_true rfl) ⟨(by show _ ≤ 600130; omega), (by show _ ≤ 7301080; omega)⟩ rfl rfl rfl rfl rfl dL_law_819 ?_
            refine z_iload C 1 dL_law_822 rfl ?_
            refine z_icmp_ne (tgt := 863) C dL_law_824 (by decide) (fun h9 => absurd h9 ((fun q => q (E_a2 (by omega) (T_b (hw.1 c699)) c733)))) (fun _ => ?_)
            refine z_aload_n C 5 dL_law_827 rfl rfl ?_
            refine z_iload C 14 dL_law_828 rfl ?_
            refine z_callV (w := (wX0 hh cI cZ (xday v))) (w' := (wX0 hh cI cZ (xday v))) (w1 := ([] : va_W)) (w2 := ([(q7, .inl (cI, (xn v), .inl (adF v (xk v))))] ++ [(q11, .inl (cI, (xn v), .inl (fl (xl v) (xn v))))] ++ [(q12, .inl (cI, (xn v), .inl (fl (xa v) (xn v))))] ++ [(q13, .inl (cI, (xn v), .inl (fl (xe v) (xn v))))] ++ (wS G2 cI cP (xday v)))) (ws' := ((wX0 hh cI cZ (xday v)) ++ [(q7, .inl (cI, (xn v), .inl (adF v (xk v))))] ++ [(q11, .inl (cI, (xn v), .inl (fl (xl v) (xn v))))] ++ [(q12, .inl (cI, (xn v), .inl (fl (xa v) (xn v))))] ++ [(q13, .inl (cI, (xn v), .inl (fl (xe v) (xn v))))] ++ (wS G2 cI cP (xday v)))) (As := [.int (nI i)]) (rest := []) (st' := [.int (xl (xday v) i)]) (rv := some (.int (xl (xday v) i))) C (c_X0_luckOf l D hh cI cZ (xday v) i (by rw [xday_n]; omega) (by rw [xday_n]; omega)) (cwV 1 C.words gL_law_X0_luckOf rfl rfl rfl (by decide +kernel) ⟨(Nat.le_of_ble_eq_true rfl), (Nat.le_of_ble_eq_true rfl)⟩) (q0 := 0) (ci := 0) rfl rfl rfl [0, 1] rfl rfl (Nat.le_of_ble_eq_true rfl) ⟨(by show _ ≤ 600130; omega), (by show _ ≤ 7301080; omega)⟩ rfl rfl rfl rfl rfl dL_law_830 ?_
            refine z_iload C 0 dL_law_833 rfl ?_
            refine z_icmp_ne (tgt := 863) C dL_law_835 (by decide) (fun h9 => absurd h9 ((fun q => q (E_l3 hI (by omega) (T_b (hw.1 c699)) c733 c778)))) (fun _ => ?_)
            refine z_aload_n C 5 dL_law_838 rfl rfl ?_
            refine z_iload C 14 dL_law_839 rfl ?_
            refine z_callV (w := (wX0 hh cI cZ (xday v))) (w' := (wX0 hh cI cZ (xday v))) (w1 := ([] : va_W)) (w2 := ([(q7, .inl (cI, (xn v), .inl (adF v (xk v))))] ++ [(q11, .inl (cI, (xn v), .inl (fl (xl v) (xn v))))] ++ [(q12, .inl (cI, (xn v), .inl (fl (xa v) (xn v))))] ++ [(q13, .inl (cI, (xn v), .inl (fl (xe v) (xn v))))] ++ (wS G2 cI cP (xday v)))) (ws' := ((wX0 hh cI cZ (xday v)) ++ [(q7, .inl (cI, (xn v), .inl (adF v (xk v))))] ++ [(q11, .inl (cI, (xn v), .inl (fl (xl v) (xn v))))] ++ [(q12, .inl (cI, (xn v), .inl (fl (xa v) (xn v))))] ++ [(q13, .inl (cI, (xn v), .inl (fl (xe v) (xn v))))] ++ (wS G2 cI cP (xday v)))) (As := [.int (nI i)]) (rest := []) (st' := [.int (xe (xday v) i)]) (rv := some (.int (xe (xday v) i))) C (c_X0_lumpsOf l D hh cI cZ (xday v) i (by rw [xday_n]; omega) (by rw [xday_n]; omega)) (cwV 1 C.words gL_law_X0_lumpsOf rfl rfl rfl (by decide +kernel) ⟨(Nat.le_of_ble_eq_true rfl), (Nat.le_of_ble_eq_true rfl)⟩) (q0 := 0) (ci := 0) rfl rfl rfl [0, 1] rfl rfl (Nat.le_of_ble_eq_true rfl) ⟨(by show _ ≤ 600130; omega), (by show _ ≤ 7301080; omega)⟩ rfl rfl rfl rfl rfl dL_law_841 ?_
            refine z_iload C 2 dL_law_844 rfl ?_
            refine z_if_eq (tgt := 859) C dL_law_846 (by decide) (fun _ => ?_) (fun h9 => absurd (by decide) h9)
            refine z_iconst (v := 0) C dL_law_859 (by decide) ?_
            refine z_icmp_eq (tgt := 865) C dL_law_860 (by decide) (fun _ => ?_) (fun h9 => absurd ((E_e2 hI (by omega) c733)) h9)
            refine z_iinc (v := nI (i + 1)) (L' := [(19, .int (nI (i + 1))), (23, .int (imax 0 ((xl v i) - (((xa v i) + 9) / 10)))), (22, .int (xa v i)), (21, .int 0), (20, .int (xa v i)), (0, .ref b), (1, .ref (hh 0)), (2, .ref (gO G2)), (3, .int (nI tm)), (5, .int (nI (xn v))), (7, .ref q7), (11, .ref q11), (12, .ref q12), (13, .ref q13), (14, .int w14)]) C 14 dL_law_865 rfl (z_inc _) (by decide) rfl ?_
            refine z_goto (tgt := 690) C dL_law_868 (by decide) ?_
            refine z_sub (L' := [(0, .ref b), (1, .ref (hh 0)), (2, .ref (gO G2)), (3, .int (nI tm)), (5, .int (nI (xn v))), (7, .ref q7), (11, .ref q11), (12, .ref q12), (13, .ref q13), (14, .int w14), (19, .int (nI (i + 1)))]) [5, 6, 7, 8, 9, 10, 11, 12, 13, 14, 0] rfl ?_
            exact ih (i + 1) (by omega)
          · skip
            refine z_bipush (v := 100) C dL_law_781 (by decide) ?_
            refine z_aload C 9 dL_law_783 rfl ?_
            refine z_iload C 13 dL_law_785 rfl ?_
            refine z_iald (f := fl (xl v) (xn v)) C 9 0 rfl rfl i rfl (by omega) (by omega) dL_law_787 ?_
            refine z_top (y := xl v i) (fl_at (by omega)) ?_
            refine z_iconst (v := 1) C dL_law_788 (by decide) ?_
            refine z_iadd C dL_law_789 ?_
            refine z_mmin C wd4 wd5 wd2 wd6 (Nat.le_of_ble_eq_true rfl) (Nat.le_of_ble_eq_true rfl) (by show _ ≤ 600130; omega) (by show _ ≤ 7301080; omega) dL_law_790 ?_
            refine z_goto (tgt := 814) C dL_law_793 (by decide) ?_
            refine z_istore (L' := [(23, .int (imin 100 ((xl v i) + 1))), (22, .int (xa v i)), (21, .int 0), (20, .int (xa v i)), (0, .ref b), (1, .ref (hh 0)), (2, .ref (gO G2)), (3, .int (nI tm)), (5, .int (nI (xn v))), (7, .ref q7), (11, .ref q11), (12, .ref q12), (13, .ref q13), (14, .int w14), (19, .int (nI i))]) C dL_law_814 (by decide) rfl ?_
            refine z_aload_n C 5 dL_law_816 rfl rfl ?_
            refine z_iload C 14 dL_law_817 rfl ?_
            refine z_callV (w := (wX0 hh cI cZ (xday v))) (w' := (wX0 hh cI cZ (xday v))) (w1 := ([] : va_W)) (w2 := ([(q7, .inl (cI, (xn v), .inl (adF v (xk v))))] ++ [(q11, .inl (cI, (xn v), .inl (fl (xl v) (xn v))))] ++ [(q12, .inl (cI, (xn v), .inl (fl (xa v) (xn v))))] ++ [(q13, .inl (cI, (xn v), .inl (fl (xe v) (xn v))))] ++ (wS G2 cI cP (xday v)))) (ws' := ((wX0 hh cI cZ (xday v)) ++ [(q7, .inl (cI, (xn v), .inl (adF v (xk v))))] ++ [(q11, .inl (cI, (xn v), .inl (fl (xl v) (xn v))))] ++ [(q12, .inl (cI, (xn v), .inl (fl (xa v) (xn v))))] ++ [(q13, .inl (cI, (xn v), .inl (fl (xe v) (xn v))))] ++ (wS G2 cI cP (xday v)))) (As := [.int (nI i)]) (rest := []) (st' := [.int (xa (xday v) i)]) (rv := some (.int (xa (xday v) i))) C (c_X0_arrearsOf l D hh cI cZ (xday v) i (by rw [xday_n]; omega) (by rw [xday_n]; omega)) (cwV 1 C.words gL_law_X0_arrearsOf rfl rfl rfl (by decide +kernel) ⟨(Nat.le_of_ble_eq_true rfl), (Nat.le_of_ble_eq_true rfl)⟩) (q0 := 0) (ci := 0) rfl rfl rfl [0, 1] rfl rfl (Nat.le_of_ble_eq_true rfl) ⟨(by show _ ≤ 600130; omega), (by show _ ≤ 7301080; omega)⟩ rfl rfl rfl rfl rfl dL_law_819 ?_
            refine z_iload C 1 dL_law_822 rfl ?_
            refine z_icmp_ne (tgt := 863) C dL_law_824 (by decide) (fun h9 => absurd h9 ((fun q => q (E_a2 (by omega) (T_b (hw.1 c699)) c733)))) (fun _ => ?_)
            refine z_aload_n C 5 dL_law_827 rfl rfl ?_
            refine z_iload C 14 dL_law_828 rfl ?_
            refine z_callV (w := (wX0 hh cI cZ (xday v))) (w' := (wX0 hh cI cZ (xday v))) (w1 := ([] : va_W)) (w2 := ([(q7, .inl (cI, (xn v), .inl (adF v (xk v))))] ++ [(q11, .inl (cI, (xn v), .inl (fl (xl v) (xn v))))] ++ [(q12, .inl (cI, (xn v), .inl (fl (xa v) (xn v))))] ++ [(q13, .inl (cI, (xn v), .inl (fl (xe v) (xn v))))] ++ (wS G2 cI cP (xday v)))) (ws' := ((wX0 hh cI cZ (xday v)) ++ [(q7, .inl (cI, (xn v), .inl (adF v (xk v))))] ++ [(q11, .inl (cI, (xn v), .inl (fl (xl v) (xn v))))] ++ [(q12, .inl (cI, (xn v), .inl (fl (xa v) (xn v))))] ++ [(q13, .inl (cI, (xn v), .inl (fl (xe v) (xn v))))] ++ (wS G2 cI cP (xday v)))) (As := [.int (nI i)]) (rest := []) (st' := [.int (xl (xday v) i)]) (rv := some (.int (xl (xday v) i))) C (c_X0_luckOf l D hh cI cZ (xday v) i (by rw [xday_n]; omega) (by rw [xday_n]; omega)) (cwV 1 C.words gL_law_X0_luckOf rfl rfl rfl (by decide +kernel) ⟨(Nat.le_of_ble_eq_true rfl), (Nat.le_of_ble_eq_true rfl)⟩) (q0 := 0) (ci := 0) rfl rfl rfl [0, 1] rfl rfl (Nat.le_of_ble_eq_true rfl) ⟨(by show _ ≤ 600130; omega), (by show _ ≤ 7301080; omega)⟩ rfl rfl rfl rfl rfl dL_law_830 ?_
            refine z_iload C 0 dL_law_833 rfl ?_
            refine z_icmp_ne (tgt := 863) C dL_law_835 (by decide) (fun h9 => absurd h9 ((fun q => q (E_l2 (by omega) (T_b (hw.1 c699)) c733 c778)))) (fun _ => ?_)
            refine z_aload_n C 5 dL_law_838 rfl rfl ?_
            refine z_iload C 14 dL_law_839 rfl ?_
            refine z_callV (w := (wX0 hh cI cZ (xday v))) (w' := (wX0 hh cI cZ (xday v))) (w1 := ([] : va_W)) (w2 := ([(q7, .inl (cI, (xn v), .inl (adF v (xk v))))] ++ [(q11, .inl (cI, (xn v), .inl (fl (xl v) (xn v))))] ++ [(q12, .inl (cI, (xn v), .inl (fl (xa v) (xn v))))] ++ [(q13, .inl (cI, (xn v), .inl (fl (xe v) (xn v))))] ++ (wS G2 cI cP (xday v)))) (ws' := ((wX0 hh cI cZ (xday v)) ++ [(q7, .inl (cI, (xn v), .inl (adF v (xk v))))] ++ [(q11, .inl (cI, (xn v), .inl (fl (xl v) (xn v))))] ++ [(q12, .inl (cI, (xn v), .inl (fl (xa v) (xn v))))] ++ [(q13, .inl (cI, (xn v), .inl (fl (xe v) (xn v))))] ++ (wS G2 cI cP (xday v)))) (As := [.int (nI i)]) (rest := []) (st' := [.int (xe (xday v) i)]) (rv := some (.int (xe (xday v) i))) C (c_X0_lumpsOf l D hh cI cZ (xday v) i (by rw [xday_n]; omega) (by rw [xday_n]; omega)) (cwV 1 C.words gL_law_X0_lumpsOf rfl rfl rfl (by decide +kernel) ⟨(Nat.le_of_ble_eq_true rfl), (Nat.le_of_ble_eq_true rfl)⟩) (q0 := 0) (ci := 0) rfl rfl rfl [0, 1] rfl rfl (Nat.le_of_ble_eq_true rfl) ⟨(by show _ ≤ 600130; omega), (by show _ ≤ 7301080; omega)⟩ rfl rfl rfl rfl rfl dL_law_841 ?_
            refine z_iload C 2 dL_law_844 rfl ?_
            refine z_if_eq (tgt := 859) C dL_law_846 (by decide) (fun _ => ?_) (fun h9 => absurd (by decide) h9)
            refine z_iconst (v := 0) C dL_law_859 (by decide) ?_
            refine z_icmp_eq (tgt := 865) C dL_law_860 (by decide) (fun _ => ?_) (fun h9 => absurd ((E_e2 hI (by omega) c733)) h9)
            refine z_iinc (v := nI (i + 1)) (L' := [(19, .int (nI (i + 1))), (23, .int (imin 100 ((xl v i) + 1))), (22, .int (xa v i)), (21, .int 0), (20, .int (xa v i)), (0, .ref b), (1, .ref (hh 0)), (2, .ref (gO G2)), (3, .int (nI tm)), (5, .int (nI (xn v))), (7, .ref q7), (11, .ref q11), (12, .ref q12), (13, .ref q13), (14, .int w14)]) C 14 dL_law_865 rfl (z_inc _) (by decide) rfl ?_
            refine z_goto (tgt := 690) C dL_law_868 (by decide) ?_
            refine z_sub (L' := [(0, .ref b), (1, .ref (hh 0)), (2, .ref (gO G2)), (3, .int (nI tm)), (5, .int (nI (xn v))), (7, .ref q7), (11, .ref q11), (12, .ref q12), (13, .ref q13), (14, .int w14), (19, .int (nI (i + 1)))]) [5, 6, 7, 8, 9, 10, 11, 12, 13, 14, 0] rfl ?_
            exact ih (i + 1) (by omega)
        · skip
          refine z_iconst (v := 1) C dL_law_736 (by decide) ?_
          refine z_goto (tgt := 741) C dL_law_737 (by decide) ?_
          refine z_istore (L' := [(21, .int 1), (20, .int (xa v i)), (0, .ref b), (1, .ref (hh 0)), (2, .ref (gO G2)), (3, .int (nI tm)), (5, .int (nI (xn v))), (7, .ref q7), (11, .ref q11), (12, .ref q12), (13, .ref q13), (14, .int w14), (19, .int (nI i))]) C dL_law_741 (by decide) rfl ?_
          refine z_iload C 0 dL_law_743 rfl ?_
          refine z_if_eq (tgt := 759) C dL_law_745 (by decide) (fun h9 => absurd h9 (by decide)) (fun _ => ?_)
          refine z_iconst (v := 0) C dL_law_748 (by decide) ?_
          refine z_iload C 1 dL_law_749 rfl ?_
          refine z_iconst (v := 3) C dL_law_751 (by decide) ?_
          refine z_isub C dL_law_752 ?_
          refine z_mmax C wd0 wd1 wd2 wd3 (Nat.le_of_ble_eq_true rfl) (Nat.le_of_ble_eq_true rfl) (by show _ ≤ 600130; omega) (by show _ ≤ 7301080; omega) dL_law_753 ?_
          refine z_goto (tgt := 761) C dL_law_756 (by decide) ?_
          refine z_istore (L' := [(22, .int (imax 0 ((xa v i) - 3))), (21, .int 1), (20, .int (xa v i)), (0, .ref b), (1, .ref (hh 0)), (2, .ref (gO G2)), (3, .int (nI tm)), (5, .int (nI (xn v))), (7, .ref q7), (11, .ref q11), (12, .ref q12), (13, .ref q13), (14, .int w14), (19, .int (nI i))]) C dL_law_761 (by decide) rfl ?_
          refine z_iload C 1 dL_law_763 rfl ?_
          refine z_if_eq (tgt := 776) C dL_law_765 (by decide) (fun h9 => absurd h9 (by decide)) (fun _ => ?_)
          refine z_aload C 9 dL_law_768 rfl ?_
          refine z_iload C 13 dL_law_770 rfl ?_
          refine z_iald (f := fl (xl v) (xn v)) C 9 0 rfl rfl i rfl (by omega) (by omega) dL_law_772 ?_
          refine z_top (y := xl v i) (fl_at (by omega)) ?_
          refine z_goto (tgt := 814) C dL_law_773 (by decide) ?_
          refine z_istore (L' := [(23, .int (xl v i)), (22, .int (imax 0 ((xa v i) - 3))), (21, .int 1), (20, .int (xa v i)), (0, .ref b), (1, .ref (hh 0)), (2, .ref (gO G2)), (3, .int (nI tm)), (5, .int (nI (xn v))), (7, .ref q7), (11, .ref q11), (12, .ref q12), (13, .ref q13), (14, .int w14), (19, .int (nI i))]) C dL_law_814 (by decide) rfl ?_
          refine z_aload_n C 5 dL_law_816 rfl rfl ?_
          refine z_iload C 14 dL_law_817 rfl ?_
          refine z_callV (w := (wX0 hh cI cZ (xday v))) (w' := (wX0 hh cI cZ (xday v))) (w1 := ([] : va_W)) (w2 := ([(q7, .inl (cI, (xn v), .inl (adF v (xk v))))] ++ [(q11, .inl (cI, (xn v), .inl (fl (xl v) (xn v))))] ++ [(q12, .inl (cI, (xn v), .inl (fl (xa v) (xn v))))] ++ [(q13, .inl (cI, (xn v), .inl (fl (xe v) (xn v))))] ++ (wS G2 cI cP (xday v)))) (ws' := ((wX0 hh cI cZ (xday v)) ++ [(q7, .inl (cI, (xn v), .inl (adF v (xk v))))] ++ [(q11, .inl (cI, (xn v), .inl (fl (xl v) (xn v))))] ++ [(q12, .inl (cI, (xn v), .inl (fl (xa v) (xn v))))] ++ [(q13, .inl (cI, (xn v), .inl (fl (xe v) (xn v))))] ++ (wS G2 cI cP (xday v)))) (As := [.int (nI i)]) (rest := []) (st' := [.int (xa (xday v) i)]) (rv := some (.int (xa (xday v) i))) C (c_X0_arrearsOf l D hh cI cZ (xday v) i (by rw [xday_n]; omega) (by rw [xday_n]; omega)) (cwV 1 C.words gL_law_X0_arrearsOf rfl rfl rfl (by decide +kernel) ⟨(Nat.le_of_ble_eq_true rfl), (Nat.le_of_ble_eq_true rfl)⟩) (q0 := 0) (ci := 0) rfl rfl rfl [0, 1] rfl rfl (Nat.le_of_ble_eq_true rfl) ⟨(by show _ ≤ 600130; omega), (by show _ ≤ 7301080; omega)⟩ rfl rfl rfl rfl rfl dL_law_819 ?_
          refine z_iload C 1 dL_law_822 rfl ?_
          refine z_icmp_ne (tgt := 863) C dL_law_824 (by decide) (fun h9 => absurd h9 ((fun q => q (E_a1 (by omega) (T_b (hw.1 c699)) c733)))) (fun _ => ?_)
          refine z_aload_n C 5 dL_law_827 rfl rfl ?_
          refine z_iload C 14 dL_law_828 rfl ?_
          refine z_callV (w := (wX0 hh cI cZ (xday v))) (w' := (wX0 hh cI cZ (xday v))) (w1 := ([] : va_W)) (w2 := ([(q7, .inl (cI, (xn v), .inl (adF v (xk v))))] ++ [(q11, .inl (cI, (xn v), .inl (fl (xl v) (xn v))))] ++ [(q12, .inl (cI, (xn v), .inl (fl (xa v) (xn v))))] ++ [(q13, .inl (cI, (xn v), .inl (fl (xe v) (xn v))))] ++ (wS G2 cI cP (xday v)))) (ws' := ((wX0 hh cI cZ (xday v)) ++ [(q7, .inl (cI, (xn v), .inl (adF v (xk v))))] ++ [(q11, .inl (cI, (xn v), .inl (fl (xl v) (xn v))))] ++ [(q12, .inl (cI, (xn v), .inl (fl (xa v) (xn v))))] ++ [(q13, .inl (cI, (xn v), .inl (fl (xe v) (xn v))))] ++ (wS G2 cI cP (xday v)))) (As := [.int (nI i)]) (rest := []) (st' := [.int (xl (xday v) i)]) (rv := some (.int (xl (xday v) i))) C (c_X0_luckOf l D hh cI cZ (xday v) i (by rw [xday_n]; omega) (by rw [xday_n]; omega)) (cwV 1 C.words gL_law_X0_luckOf rfl rfl rfl (by decide +kernel) ⟨(Nat.le_of_ble_eq_true rfl), (Nat.le_of_ble_eq_true rfl)⟩) (q0 := 0) (ci := 0) rfl rfl rfl [0, 1] rfl rfl (Nat.le_of_ble_eq_true rfl) ⟨(by show _ ≤ 600130; omega), (by show _ ≤ 7301080; omega)⟩ rfl rfl rfl rfl rfl dL_law_830 ?_
          refine z_iload C 0 dL_law_833 rfl ?_
          refine z_icmp_ne (tgt := 863) C dL_law_835 (by decide) (fun h9 => absurd h9 ((fun q => q (E_l1 (by omega) c733)))) (fun _ => ?_)
          refine z_aload_n C 5 dL_law_838 rfl rfl ?_
          refine z_iload C 14 dL_law_839 rfl ?_
          refine z_callV (w := (wX0 hh cI cZ (xday v))) (w' := (wX0 hh cI cZ (xday v))) (w1 := ([] : va_W)) (w2 := ([(q7, .inl (cI, (xn v), .inl (adF v (xk v))))] ++ [(q11, .inl (cI, (xn v), .inl (fl (xl v) (xn v))))] ++ [(q12, .inl (cI, (xn v), .inl (fl (xa v) (xn v))))] ++ [(q13, .inl (cI, (xn v), .inl (fl (xe v) (xn v))))] ++ (wS G2 cI cP (xday v)))) (ws' := ((wX0 hh cI cZ (xday v)) ++ [(q7, .inl (cI, (xn v), .inl (adF v (xk v))))] ++ [(q11, .inl (cI, (xn v), .inl (fl (xl v) (xn v))))] ++ [(q12, .inl (cI, (xn v), .inl (fl (xa v) (xn v))))] ++ [(q13, .inl (cI, (xn v), .inl (fl (xe v) (xn v))))] ++ (wS G2 cI cP (xday v)))) (As := [.int (nI i)]) (rest := []) (st' := [.int (xe (xday v) i)]) (rv := some (.int (xe (xday v) i))) C (c_X0_lumpsOf l D hh cI cZ (xday v) i (by rw [xday_n]; omega) (by rw [xday_n]; omega)) (cwV 1 C.words gL_law_X0_lumpsOf rfl rfl rfl (by decide +kernel) ⟨(Nat.le_of_ble_eq_true rfl), (Nat.le_of_ble_eq_true rfl)⟩) (q0 := 0) (ci := 0) rfl rfl rfl [0, 1] rfl rfl (Nat.le_of_ble_eq_true rfl) ⟨(by show _ ≤ 600130; omega), (by show _ ≤ 7301080; omega)⟩ rfl rfl rfl rfl rfl dL_law_841 ?_
          refine z_iload C 2 dL_law_844 rfl ?_
          refine z_if_eq (tgt := 859) C dL_law_846 (by decide) (fun h9 => absurd h9 (by decide)) (fun _ => ?_)
          refine z_aload C 12 dL_law_849 rfl ?_
          refine z_iload C 14 dL_law_851 rfl ?_
          refine z_iald (f := fl (xe v) (xn v)) C 11 0 rfl rfl i rfl (by omega) (by omega) dL_law_853 ?_
          refine z_top (y := xe v i) (fl_at (by omega)) ?_
          refine z_iconst (v := 1) C dL_law_854 (by decide) ?_
          refine z_isub C dL_law_855 ?_
          refine z_goto (tgt := 860) C dL_law_856 (by decide) ?_
          refine z_icmp_eq (tgt := 865) C dL_law_860 (by decide) (fun _ => ?_) (fun h9 => absurd ((E_e1 (by omega) c733)) h9)
          refine z_iinc (v := nI (i + 1)) (L' := [(19, .int (nI (i + 1))), (23, .int (xl v i)), (22, .int (imax 0 ((xa v i) - 3))), (21, .int 1), (20, .int (xa v i)), (0, .ref b), (1, .ref (hh 0)), (2, .ref (gO G2)), (3, .int (nI tm)), (5, .int (nI (xn v))), (7, .ref q7), (11, .ref q11), (12, .ref q12), (13, .ref q13), (14, .int w14)]) C 14 dL_law_865 rfl (z_inc _) (by decide) rfl ?_
          refine z_goto (tgt := 690) C dL_law_868 (by decide) ?_
          refine z_sub (L' := [(0, .ref b), (1, .ref (hh 0)), (2, .ref (gO G2)), (3, .int (nI tm)), (5, .int (nI (xn v))), (7, .ref q7), (11, .ref q11), (12, .ref q12), (13, .ref q13), (14, .int w14), (19, .int (nI (i + 1)))]) [5, 6, 7, 8, 9, 10, 11, 12, 13, 14, 0] rfl ?_
          exact ih (i + 1) (by omega)
      · skip
        refine z_bipush (v := 99) C dL_law_702 (by decide) ?_
        refine z_aload C 7 dL_law_704 rfl ?_
        refine z_iload C 10 dL_law_706 rfl ?_
        refine z_iald (f := fl (xa v) (xn v)) C 10 0 rfl rfl i rfl (by omega) (by omega) dL_law_708 ?_
        refine z_top (y := xa v i) (fl_at (by omega)) ?_
        refine z_aload C 5 dL_law_709 rfl ?_
        refine z_iload C 10 dL_law_711 rfl ?_
        refine z_iald (f := adF v (xk v)) C 8 0 rfl rfl i rfl (by omega) (by omega) dL_law_713 ?_
        refine z_top (y := xdebt v (nI i)) (adF_at (by omega)) ?_
        refine z_iadd C dL_law_714 ?_
        refine z_mmin C wd4 wd5 wd2 wd6 (Nat.le_of_ble_eq_true rfl) (Nat.le_of_ble_eq_true rfl) (by show _ ≤ 600130; omega) (by show _ ≤ 7301080; omega) dL_law_715 ?_
        refine z_goto (tgt := 726) C dL_law_718 (by decide) ?_
        refine z_istore (L' := [(20, .int (imin 99 ((xa v i) + (xdebt v (nI i))))), (0, .ref b), (1, .ref (hh 0)), (2, .ref (gO G2)), (3, .int (nI tm)), (5, .int (nI (xn v))), (7, .ref q7), (11, .ref q11), (12, .ref q12), (13, .ref q13), (14, .int w14), (19, .int (nI i))]) C dL_law_726 (by decide) rfl ?_
        refine z_aload C 9 dL_law_728 rfl ?_
        refine z_iload C 11 dL_law_730 rfl ?_
        refine z_iald (f := fl (xe v) (xn v)) C 11 0 rfl rfl i rfl (by omega) (by omega) dL_law_732 ?_
        refine z_top (y := xe v i) (fl_at (by omega)) ?_
        refine z_if_le (tgt := 740) C dL_law_733 (by decide) (fun c733 => ?_) (fun c733 => ?_)
        · skip
          refine z_iconst (v := 0) C dL_law_740 (by decide) ?_
          refine z_istore (L' := [(21, .int 0), (20, .int (imin 99 ((xa v i) + (xdebt v (nI i))))), (0, .ref b), (1, .ref (hh 0)), (2, .ref (gO G2)), (3, .int (nI tm)), (5, .int (nI (xn v))), (7, .ref q7), (11, .ref q11), (12, .ref q12), (13, .ref q13), (14, .int w14), (19, .int (nI i))]) C dL_law_741 (by decide) rfl ?_
          refine z_iload C 0 dL_law_743 rfl ?_
          refine z_if_eq (tgt := 759) C dL_law_745 (by decide) (fun _ => ?_) (fun h9 => absurd (by decide) h9)
          refine z_iload C 1 dL_law_759 rfl ?_
          refine z_istore (L' := [(22, .int (imin 99 ((xa v i) + (xdebt v (nI i))))), (21, .int 0), (20, .int (imin 99 ((xa v i) + (xdebt v (nI i))))), (0, .ref b), (1, .ref (hh 0)), (2, .ref (gO G2)), (3, .int (nI tm)), (5, .int (nI (xn v))), (7, .ref q7), (11, .ref q11), (12, .ref q12), (13, .ref q13), (14, .int w14), (19, .int (nI i))]) C dL_law_761 (by decide) rfl ?_
          refine z_iload C 1 dL_law_763 rfl ?_
          refine z_if_eq (tgt := 776) C dL_law_765 (by decide) (fun _ => ?_) (fun h9 => absurd (by decide) h9)
          refine z_iload C 2 dL_law_776 rfl ?_
          refine z_if_ne (tgt := 796) C dL_law_778 (by decide) (fun c778 => ?_) (fun c778 => ?_)
          · skip
            refine z_iconst (v := 0) C dL_law_796 (by decide) ?_
            refine z_aload C 9 dL_law_797 rfl ?_
            refine z_iload C 13 dL_law_799 rfl ?_
            refine z_iald (f := fl (xl v) (xn v)) C 9 0 rfl rfl i rfl (by omega) (by omega) dL_law_801 ?_
            refine z_top (y := xl v i) (fl_at (by omega)) ?_
            refine z_iload C 2 dL_law_802 rfl ?_
            refine z_bipush (v := 9) C dL_law_804 (by decide) ?_
            refine z_iadd C dL_law_806 ?_
            refine z_bipush (v := 10) C dL_law_807 (by decide) ?_
            refine z_idiv C dL_law_809 (by decide) ?_
            refine z_isub C dL_law_810 ?_
            refine z_mmax C wd0 wd1 wd2 wd3 (Nat.le_of_ble_eq_true rfl) (Nat.le_of_ble_eq_true rfl) (by show _ ≤ 600130; omega) (by show _ ≤ 7301080; omega) dL_law_811 ?_
            refine z_istore (L' := [(23, .int (imax 0 ((xl v i) - (((imin 99 ((xa v i) + (xdebt v (nI i)))) + 9) / 10)))), (22, .int (imin 99 ((xa v i) + (xdebt v (nI i))))), (21, .int 0), (20, .int (imin 99 ((xa v i) + (xdebt v (nI i))))), (0, .ref b), (1, .ref (hh 0)), (2, .ref (gO G2)), (3, .int (nI tm)), (5, .int (nI (xn v))), (7, .ref q7), (11, .ref q11), (12, .ref q12), (13, .ref q13), (14, .int w14), (19, .int (nI i))]) C dL_law_814 (by decide) rfl ?_
            refine z_aload_n C 5 dL_law_816 rfl rfl ?_
            refine z_iload C 14 dL_law_817 rfl ?_
            refine z_callV (w := (wX0 hh cI cZ (xday v))) (w' := (wX0 hh cI cZ (xday v))) (w1 := ([] : va_W)) (w2 := ([(q7, .inl (cI, (xn v), .inl (adF v (xk v))))] ++ [(q11, .inl (cI, (xn v), .inl (fl (xl v) (xn v))))] ++ [(q12, .inl (cI, (xn v), .inl (fl (xa v) (xn v))))] ++ [(q13, .inl (cI, (xn v), .inl (fl (xe v) (xn v))))] ++ (wS G2 cI cP (xday v)))) (ws' := ((wX0 hh cI cZ (xday v)) ++ [(q7, .inl (cI, (xn v), .inl (adF v (xk v))))] ++ [(q11, .inl (cI, (xn v), .inl (fl (xl v) (xn v))))] ++ [(q12, .inl (cI, (xn v), .inl (fl (xa v) (xn v))))] ++ [(q13, .inl (cI, (xn v), .inl (fl (xe v) (xn v))))] ++ (wS G2 cI cP (xday v)))) (As := [.int (nI i)]) (rest := []) (st' := [.int (xa (xday v) i)]) (rv := some (.int (xa (xday v) i))) C (c_X0_arrearsOf l D hh cI cZ (xday v) i (by rw [xday_n]; omega) (by rw [xday_n]; omega)) (cwV 1 C.words gL_law_X0_arrearsOf rfl rfl rfl (by decide +kernel) ⟨(Nat.le_of_ble_eq_true rfl), (Nat.le_of_ble_eq_true rfl)⟩) (q0 := 0) (ci := 0) rfl rfl rfl [0, 1] rfl rfl (Nat.le_of_ble_eq_true rfl) ⟨(by show _ ≤ 600130; omega), (by show _ ≤ 7301080; omega)⟩ rfl rfl rfl rfl rfl dL_law_819 ?_
            refine z_iload C 1 dL_law_822 rfl ?_
            refine z_icmp_ne (tgt := 863) C dL_law_824 (by decide) (fun h9 => absurd h9 ((fun q => q (E_a2 (by omega) (T_a (hw.2 c699)) c733)))) (fun _ => ?_)
            refine z_aload_n C 5 dL_law_827 rfl rfl ?_
            refine z_iload C 14 dL_law_828 rfl ?_
            refine z_callV (w := (wX0 hh cI cZ (xday v))) (w' := (wX0 hh cI cZ (xday v))) (w1 := ([] : va_W)) (w2 := ([(q7, .inl (cI, (xn v), .inl (adF v (xk v))))] ++ [(q11, .inl (cI, (xn v), .inl (fl (xl v) (xn v))))] ++ [(q12, .inl (cI, (xn v), .inl (fl (xa v) (xn v))))] ++ [(q13, .inl (cI, (xn v), .inl (fl (xe v) (xn v))))] ++ (wS G2 cI cP (xday v)))) (ws' := ((wX0 hh cI cZ (xday v)) ++ [(q7, .inl (cI, (xn v), .inl (adF v (xk v))))] ++ [(q11, .inl (cI, (xn v), .inl (fl (xl v) (xn v))))] ++ [(q12, .inl (cI, (xn v), .inl (fl (xa v) (xn v))))] ++ [(q13, .inl (cI, (xn v), .inl (fl (xe v) (xn v))))] ++ (wS G2 cI cP (xday v)))) (As := [.int (nI i)]) (rest := []) (st' := [.int (xl (xday v) i)]) (rv := some (.int (xl (xday v) i))) C (c_X0_luckOf l D hh cI cZ (xday v) i (by rw [xday_n]; omega) (by rw [xday_n]; omega)) (cwV 1 C.words gL_law_X0_luckOf rfl rfl rfl (by decide +kernel) ⟨(Nat.le_of_ble_eq_true rfl), (Nat.le_of_ble_eq_true rfl)⟩) (q0 := 0) (ci := 0) rfl rfl rfl [0, 1] rfl rfl (Nat.le_of_ble_eq_true rfl) ⟨(by show _ ≤ 600130; omega), (by show _ ≤ 7301080; omega)⟩ rfl rfl rfl rfl rfl dL_law_830 ?_
            refine z_iload C 0 dL_law_833 rfl ?_
            refine z_icmp_ne (tgt := 863) C dL_law_835 (by decide) (fun h9 => absurd h9 ((fun q => q (E_l3 hI (by omega) (T_a (hw.2 c699)) c733 c778)))) (fun _ => ?_)
            refine z_aload_n C 5 dL_law_838 rfl rfl ?_
            refine z_iload C 14 dL_law_839 rfl ?_
            refine z_callV (w := (wX0 hh cI cZ (xday v))) (w' := (wX0 hh cI cZ (xday v))) (w1 := ([] : va_W)) (w2 := ([(q7, .inl (cI, (xn v), .inl (adF v (xk v))))] ++ [(q11, .inl (cI, (xn v), .inl (fl (xl v) (xn v))))] ++ [(q12, .inl (cI, (xn v), .inl (fl (xa v) (xn v))))] ++ [(q13, .inl (cI, (xn v), .inl (fl (xe v) (xn v))))] ++ (wS G2 cI cP (xday v)))) (ws' := ((wX0 hh cI cZ (xday v)) ++ [(q7, .inl (cI, (xn v), .inl (adF v (xk v))))] ++ [(q11, .inl (cI, (xn v), .inl (fl (xl v) (xn v))))] ++ [(q12, .inl (cI, (xn v), .inl (fl (xa v) (xn v))))] ++ [(q13, .inl (cI, (xn v), .inl (fl (xe v) (xn v))))] ++ (wS G2 cI cP (xday v)))) (As := [.int (nI i)]) (rest := []) (st' := [.int (xe (xday v) i)]) (rv := some (.int (xe (xday v) i))) C (c_X0_lumpsOf l D hh cI cZ (xday v) i (by rw [xday_n]; omega) (by rw [xday_n]; omega)) (cwV 1 C.words gL_law_X0_lumpsOf rfl rfl rfl (by decide +kernel) ⟨(Nat.le_of_ble_eq_true rfl), (Nat.le_of_ble_eq_true rfl)⟩) (q0 := 0) (ci := 0) rfl rfl rfl [0, 1] rfl rfl (Nat.le_of_ble_eq_true rfl) ⟨(by show _ ≤ 600130; omega), (by show _ ≤ 7301080; omega)⟩ rfl rfl rfl rfl rfl dL_law_841 ?_
            refine z_iload C 2 dL_law_844 rfl ?_
            refine z_if_eq (tgt := 859) C dL_law_846 (by decide) (fun _ => ?_) (fun h9 => absurd (by decide) h9)
            refine z_iconst (v := 0) C dL_law_859 (by decide) ?_
            refine z_icmp_eq (tgt := 865) C dL_law_860 (by decide) (fun _ => ?_) (fun h9 => absurd ((E_e2 hI (by omega) c733)) h9)
            refine z_iinc (v := nI (i + 1)) (L' := [(19, .int (nI (i + 1))), (23, .int (imax 0 ((xl v i) - (((imin 99 ((xa v i) + (xdebt v (nI i)))) + 9) / 10)))), (22, .int (imin 99 ((xa v i) + (xdebt v (nI i))))), (21, .int 0), (20, .int (imin 99 ((xa v i) + (xdebt v (nI i))))), (0, .ref b), (1, .ref (hh 0)), (2, .ref (gO G2)), (3, .int (nI tm)), (5, .int (nI (xn v))), (7, .ref q7), (11, .ref q11), (12, .ref q12), (13, .ref q13), (14, .int w14)]) C 14 dL_law_865 rfl (z_inc _) (by decide) rfl ?_
            refine z_goto (tgt := 690) C dL_law_868 (by decide) ?_
            refine z_sub (L' := [(0, .ref b), (1, .ref (hh 0)), (2, .ref (gO G2)), (3, .int (nI tm)), (5, .int (nI (xn v))), (7, .ref q7), (11, .ref q11), (12, .ref q12), (13, .ref q13), (14, .int w14), (19, .int (nI (i + 1)))]) [5, 6, 7, 8, 9, 10, 11, 12, 13, 14, 0] rfl ?_
            exact ih (i + 1) (by omega)
          · skip
            refine z_bipush (v := 100) C dL_law_781 (by decide) ?_
            refine z_aload C 9 dL_law_783 rfl ?_
            refine z_iload C 13 dL_law_785 rfl ?_
            refine z_iald (f := fl (xl v) (xn v)) C 9 0 rfl rfl i rfl (by omega) (by omega) dL_law_787 ?_
            refine z_top (y := xl v i) (fl_at (by omega)) ?_
            refine z_iconst (v := 1) C dL_law_788 (by decide) ?_
            refine z_iadd C dL_law_789 ?_
            refine z_mmin C wd4 wd5 wd2 wd6 (Nat.le_of_ble_eq_true rfl) (Nat.le_of_ble_eq_true rfl) (by show _ ≤ 600130; omega) (by show _ ≤ 7301080; omega) dL_law_790 ?_
            refine z_goto (tgt := 814) C dL_law_793 (by decide) ?_
            refine z_istore (L' := [(23, .int (imin 100 ((xl v i) + 1))), (22, .int (imin 99 ((xa v i) + (xdebt v (nI i))))), (21, .int 0), (20, .int (imin 99 ((xa v i) + (xdebt v (nI i))))), (0, .ref b), (1, .ref (hh 0)), (2, .ref (gO G2)), (3, .int (nI tm)), (5, .int (nI (xn v))), (7, .ref q7), (11, .ref q11), (12, .ref q12), (13, .ref q13), (14, .int w14), (19, .int (nI i))]) C dL_law_814 (by decide) rfl ?_
            refine z_aload_n C 5 dL_law_816 rfl rfl ?_
            refine z_iload C 14 dL_law_817 rfl ?_
            refine z_callV (w := (wX0 hh cI cZ (xday v))) (w' := (wX0 hh cI cZ (xday v))) (w1 := ([] : va_W)) (w2 := ([(q7, .inl (cI, (xn v), .inl (adF v (xk v))))] ++ [(q11, .inl (cI, (xn v), .inl (fl (xl v) (xn v))))] ++ [(q12, .inl (cI, (xn v), .inl (fl (xa v) (xn v))))] ++ [(q13, .inl (cI, (xn v), .inl (fl (xe v) (xn v))))] ++ (wS G2 cI cP (xday v)))) (ws' := ((wX0 hh cI cZ (xday v)) ++ [(q7, .inl (cI, (xn v), .inl (adF v (xk v))))] ++ [(q11, .inl (cI, (xn v), .inl (fl (xl v) (xn v))))] ++ [(q12, .inl (cI, (xn v), .inl (fl (xa v) (xn v))))] ++ [(q13, .inl (cI, (xn v), .inl (fl (xe v) (xn v))))] ++ (wS G2 cI cP (xday v)))) (As := [.int (nI i)]) (rest := []) (st' := [.int (xa (xday v) i)]) (rv := some (.int (xa (xday v) i))) C (c_X0_arrearsOf l D hh cI cZ (xday v) i (by rw [xday_n]; omega) (by rw [xday_n]; omega)) (cwV 1 C.words gL_law_X0_arrearsOf rfl rfl rfl (by decide +kernel) ⟨(Nat.le_of_ble_eq_true rfl), (Nat.le_of_ble_eq_true rfl)⟩) (q0 := 0) (ci := 0) rfl rfl rfl [0, 1] rfl rfl (Nat.le_of_ble_eq_true rfl) ⟨(by show _ ≤ 600130; omega), (by show _ ≤ 7301080; omega)⟩ rfl rfl rfl rfl rfl dL_law_819 ?_
            refine z_iload C 1 dL_law_822 rfl ?_
            refine z_icmp_ne (tgt := 863) C dL_law_824 (by decide) (fun h9 => absurd h9 ((fun q => q (E_a2 (by omega) (T_a (hw.2 c699)) c733)))) (fun _ => ?_)
            refine z_aload_n C 5 dL_law_827 rfl rfl ?_
            refine z_iload C 14 dL_law_828 rfl ?_
            refine z_callV (w := (wX0 hh cI cZ (xday v))) (w' := (wX0 hh cI cZ (xday v))) (w1 := ([] : va_W)) (w2 := ([(q7, .inl (cI, (xn v), .inl (adF v (xk v))))] ++ [(q11, .inl (cI, (xn v), .inl (fl (xl v) (xn v))))] ++ [(q12, .inl (cI, (xn v), .inl (fl (xa v) (xn v))))] ++ [(q13, .inl (cI, (xn v), .inl (fl (xe v) (xn v))))] ++ (wS G2 cI cP (xday v)))) (ws' := ((wX0 hh cI cZ (xday v)) ++ [(q7, .inl (cI, (xn v), .inl (adF v (xk v))))] ++ [(q11, .inl (cI, (xn v), .inl (fl (xl v) (xn v))))] ++ [(q12, .inl (cI, (xn v), .inl (fl (xa v) (xn v))))] ++ [(q13, .inl (cI, (xn v), .inl (fl (xe v) (xn v))))] ++ (wS G2 cI cP (xday v)))) (As := [.int (nI i)]) (rest := []) (st' := [.int (xl (xday v) i)]) (rv := some (.int (xl (xday v) i))) C (c_X0_luckOf l D hh cI cZ (xday v) i (by rw [xday_n]; omega) (by rw [xday_n]; omega)) (cwV 1 C.words gL_law_X0_luckOf rfl rfl rfl (by decide +kernel) ⟨(Nat.le_of_ble_eq_true rfl), (Nat.le_of_ble_eq_true rfl)⟩) (q0 := 0) (ci := 0) rfl rfl rfl [0, 1] rfl rfl (Nat.le_of_ble_eq_true rfl) ⟨(by show _ ≤ 600130; omega), (by show _ ≤ 7301080; omega)⟩ rfl rfl rfl rfl rfl dL_law_830 ?_
            refine z_iload C 0 dL_law_833 rfl ?_
            refine z_icmp_ne (tgt := 863) C dL_law_835 (by decide) (fun h9 => absurd h9 ((fun q => q (E_l2 (by omega) (T_a (hw.2 c699)) c733 c778)))) (fun _ => ?_)
            refine z_aload_n C 5 dL_law_838 rfl rfl ?_
            refine z_iload C 14 dL_law_839 rfl ?_
            refine z_callV (w := (wX0 hh cI cZ (xday v))) (w' := (wX0 hh cI cZ (xday v))) (w1 := ([] : va_W)) (w2 := ([(q7, .inl (cI, (xn v), .inl (adF v (xk v))))] ++ [(q11, .inl (cI, (xn v), .inl (fl (xl v) (xn v))))] ++ [(q12, .inl (cI, (xn v), .inl (fl (xa v) (xn v))))] ++ [(q13, .inl (cI, (xn v), .inl (fl (xe v) (xn v))))] ++ (wS G2 cI cP (xday v)))) (ws' := ((wX0 hh cI cZ (xday v)) ++ [(q7, .inl (cI, (xn v), .inl (adF v (xk v))))] ++ [(q11, .inl (cI, (xn v), .inl (fl (xl v) (xn v))))] ++ [(q12, .inl (cI, (xn v), .inl (fl (xa v) (xn v))))] ++ [(q13, .inl (cI, (xn v), .inl (fl (xe v) (xn v))))] ++ (wS G2 cI cP (xday v)))) (As := [.int (nI i)]) (rest := []) (st' := [.int (xe (xday v) i)]) (rv := some (.int (xe (xday v) i))) C (c_X0_lumpsOf l D hh cI cZ (xday v) i (by rw [xday_n]; omega) (by rw [xday_n]; omega)) (cwV 1 C.words gL_law_X0_lumpsOf rfl rfl rfl (by decide +kernel) ⟨(Nat.le_of_ble_eq_true rfl), (Nat.le_of_ble_eq_true rfl)⟩) (q0 := 0) (ci := 0) rfl rfl rfl [0, 1] rfl rfl (Nat.le_of_ble_eq_true rfl) ⟨(by show _ ≤ 600130; omega), (by show _ ≤ 7301080; omega)⟩ rfl rfl rfl rfl rfl dL_law_841 ?_
            refine z_iload C 2 dL_law_844 rfl ?_
            refine z_if_eq (tgt := 859) C dL_law_846 (by decide) (fun _ => ?_) (fun h9 => absurd (by decide) h9)
            refine z_iconst (v := 0) C dL_law_859 (by decide) ?_
            refine z_icmp_eq (tgt := 865) C dL_law_860 (by decide) (fun _ => ?_) (fun h9 => absurd ((E_e2 hI (by omega) c733)) h9)
            refine z_iinc (v := nI (i + 1)) (L' := [(19, .int (nI (i + 1))), (23, .int (imin 100 ((xl v i) + 1))), (22, .int (imin 99 ((xa v i) + (xdebt v (nI i))))), (21, .int 0), (20, .int (imin 99 ((xa v i) + (xdebt v (nI i))))), (0, .ref b), (1, .ref (hh 0)), (2, .ref (gO G2)), (3, .int (nI tm)), (5, .int (nI (xn v))), (7, .ref q7), (11, .ref q11), (12, .ref q12), (13, .ref q13), (14, .int w14)]) C 14 dL_law_865 rfl (z_inc _) (by decide) rfl ?_
            refine z_goto (tgt := 690) C dL_law_868 (by decide) ?_
            refine z_sub (L' := [(0, .ref b), (1, .ref (hh 0)), (2, .ref (gO G2)), (3, .int (nI tm)), (5, .int (nI (xn v))), (7, .ref q7), (11, .ref q11), (12, .ref q12), (13, .ref q13), (14, .int w14), (19, .int (nI (i + 1)))]) [5, 6, 7, 8, 9, 10, 11, 12, 13, 14, 0] rfl ?_
            exact ih (i + 1) (by omega)
        · skip
          refine z_iconst (v := 1) C dL_law_736 (by decide) ?_
          refine z_goto (tgt := 741) C dL_law_737 (by decide) ?_
          refine z_istore (L' := [(21, .int 1), (20, .int (imin 99 ((xa v i) + (xdebt v (nI i))))), (0, .ref b), (1, .ref (hh 0)), (2, .ref (gO G2)), (3, .int (nI tm)), (5, .int (nI (xn v))), (7, .ref q7), (11, .ref q11), (12, .ref q12), (13, .ref q13), (14, .int w14), (19, .int (nI i))]) C dL_law_741 (by decide) rfl ?_
          refine z_iload C 0 dL_law_743 rfl ?_
          refine z_if_eq (tgt := 759) C dL_law_745 (by decide) (fun h9 => absurd h9 (by decide)) (fun _ => ?_)
          refine z_iconst (v := 0) C dL_law_748 (by decide) ?_
          refine z_iload C 1 dL_law_749 rfl ?_
          refine z_iconst (v := 3) C dL_law_751 (by decide) ?_
          refine z_isub C dL_law_752 ?_
          refine z_mmax C wd0 wd1 wd2 wd3 (Nat.le_of_ble_eq_true rfl) (Nat.le_of_ble_eq_true rfl) (by show _ ≤ 600130; omega) (by show _ ≤ 7301080; omega) dL_law_753 ?_
          refine z_goto (tgt := 761) C dL_law_756 (by decide) ?_
          refine z_istore (L' := [(22, .int (imax 0 ((imin 99 ((xa v i) + (xdebt v (nI i)))) - 3))), (21, .int 1), (20, .int (imin 99 ((xa v i) + (xdebt v (nI i))))), (0, .ref b), (1, .ref (hh 0)), (2, .ref (gO G2)), (3, .int (nI tm)), (5, .int (nI (xn v))), (7, .ref q7), (11, .ref q11), (12, .ref q12), (13, .ref q13), (14, .int w14), (19, .int (nI i))]) C dL_law_761 (by decide) rfl ?_
          refine z_iload C 1 dL_law_763 rfl ?_
          refine z_if_eq (tgt := 776) C dL_law_765 (by decide) (fun h9 => absurd h9 (by decide)) (fun _ => ?_)
          refine z_aload C 9 dL_law_768 rfl ?_
          refine z_iload C 13 dL_law_770 rfl ?_
          refine z_iald (f := fl (xl v) (xn v)) C 9 0 rfl rfl i rfl (by omega) (by omega) dL_law_772 ?_
          refine z_top (y := xl v i) (fl_at (by omega)) ?_
          refine z_goto (tgt := 814) C dL_law_773 (by decide) ?_
          refine z_istore (L' := [(23, .int (xl v i)), (22, .int (imax 0 ((imin 99 ((xa v i) + (xdebt v (nI i)))) - 3))), (21, .int 1), (20, .int (imin 99 ((xa v i) + (xdebt v (nI i))))), (0, .ref b), (1, .ref (hh 0)), (2, .ref (gO G2)), (3, .int (nI tm)), (5, .int (nI (xn v))), (7, .ref q7), (11, .ref q11), (12, .ref q12), (13, .ref q13), (14, .int w14), (19, .int (nI i))]) C dL_law_814 (by decide) rfl ?_
          refine z_aload_n C 5 dL_law_816 rfl rfl ?_
          refine z_iload C 14 dL_law_817 rfl ?_
          refine z_callV (w := (wX0 hh cI cZ (xday v))) (w' := (wX0 hh cI cZ (xday v))) (w1 := ([] : va_W)) (w2 := ([(q7, .inl (cI, (xn v), .inl (adF v (xk v))))] ++ [(q11, .inl (cI, (xn v), .inl (fl (xl v) (xn v))))] ++ [(q12, .inl (cI, (xn v), .inl (fl (xa v) (xn v))))] ++ [(q13, .inl (cI, (xn v), .inl (fl (xe v) (xn v))))] ++ (wS G2 cI cP (xday v)))) (ws' := ((wX0 hh cI cZ (xday v)) ++ [(q7, .inl (cI, (xn v), .inl (adF v (xk v))))] ++ [(q11, .inl (cI, (xn v), .inl (fl (xl v) (xn v))))] ++ [(q12, .inl (cI, (xn v), .inl (fl (xa v) (xn v))))] ++ [(q13, .inl (cI, (xn v), .inl (fl (xe v) (xn v))))] ++ (wS G2 cI cP (xday v)))) (As := [.int (nI i)]) (rest := []) (st' := [.int (xa (xday v) i)]) (rv := some (.int (xa (xday v) i))) C (c_X0_arrearsOf l D hh cI cZ (xday v) i (by rw [xday_n]; omega) (by rw [xday_n]; omega)) (cwV 1 C.words gL_law_X0_arrearsOf rfl rfl rfl (by decide +kernel) ⟨(Nat.le_of_ble_eq_true rfl), (Nat.le_of_ble_eq_true rfl)⟩) (q0 := 0) (ci := 0) rfl rfl rfl [0, 1] rfl rfl (Nat.le_of_ble_eq_true rfl) ⟨(by show _ ≤ 600130; omega), (by show _ ≤ 7301080; omega)⟩ rfl rfl rfl rfl rfl dL_law_819 ?_
          refine z_iload C 1 dL_law_822 rfl ?_
          refine z_icmp_ne (tgt := 863) C dL_law_824 (by decide) (fun h9 => absurd h9 ((fun q => q (E_a1 (by omega) (T_a (hw.2 c699)) c733)))) (fun _ => ?_)
          refine z_aload_n C 5 dL_law_827 rfl rfl ?_
          refine z_iload C 14 dL_law_828 rfl ?_
          refine z_callV (w := (wX0 hh cI cZ (xday v))) (w' := (wX0 hh cI cZ (xday v))) (w1 := ([] : va_W)) (w2 := ([(q7, .inl (cI, (xn v), .inl (adF v (xk v))))] ++ [(q11, .inl (cI, (xn v), .inl (fl (xl v) (xn v))))] ++ [(q12, .inl (cI, (xn v), .inl (fl (xa v) (xn v))))] ++ [(q13, .inl (cI, (xn v), .inl (fl (xe v) (xn v))))] ++ (wS G2 cI cP (xday v)))) (ws' := ((wX0 hh cI cZ (xday v)) ++ [(q7, .inl (cI, (xn v), .inl (adF v (xk v))))] ++ [(q11, .inl (cI, (xn v), .inl (fl (xl v) (xn v))))] ++ [(q12, .inl (cI, (xn v), .inl (fl (xa v) (xn v))))] ++ [(q13, .inl (cI, (xn v), .inl (fl (xe v) (xn v))))] ++ (wS G2 cI cP (xday v)))) (As := [.int (nI i)]) (rest := []) (st' := [.int (xl (xday v) i)]) (rv := some (.int (xl (xday v) i))) C (c_X0_luckOf l D hh cI cZ (xday v) i (by rw [xday_n]; omega) (by rw [xday_n]; omega)) (cwV 1 C.words gL_law_X0_luckOf rfl rfl rfl (by decide +kernel) ⟨(Nat.le_of_ble_eq_true rfl), (Nat.le_of_ble_eq_true rfl)⟩) (q0 := 0) (ci := 0) rfl rfl rfl [0, 1] rfl rfl (Nat.le_of_ble_eq_true rfl) ⟨(by show _ ≤ 600130; omega), (by show _ ≤ 7301080; omega)⟩ rfl rfl rfl rfl rfl dL_law_830 ?_
          refine z_iload C 0 dL_law_833 rfl ?_
          refine z_icmp_ne (tgt := 863) C dL_law_835 (by decide) (fun h9 => absurd h9 ((fun q => q (E_l1 (by omega) c733)))) (fun _ => ?_)
          refine z_aload_n C 5 dL_law_838 rfl rfl ?_
          refine z_iload C 14 dL_law_839 rfl ?_
          refine z_callV (w := (wX0 hh cI cZ (xday v))) (w' := (wX0 hh cI cZ (xday v))) (w1 := ([] : va_W)) (w2 := ([(q7, .inl (cI, (xn v), .inl (adF v (xk v))))] ++ [(q11, .inl (cI, (xn v), .inl (fl (xl v) (xn v))))] ++ [(q12, .inl (cI, (xn v), .inl (fl (xa v) (xn v))))] ++ [(q13, .inl (cI, (xn v), .inl (fl (xe v) (xn v))))] ++ (wS G2 cI cP (xday v)))) (ws' := ((wX0 hh cI cZ (xday v)) ++ [(q7, .inl (cI, (xn v), .inl (adF v (xk v))))] ++ [(q11, .inl (cI, (xn v), .inl (fl (xl v) (xn v))))] ++ [(q12, .inl (cI, (xn v), .inl (fl (xa v) (xn v))))] ++ [(q13, .inl (cI, (xn v), .inl (fl (xe v) (xn v))))] ++ (wS G2 cI cP (xday v)))) (As := [.int (nI i)]) (rest := []) (st' := [.int (xe (xday v) i)]) (rv := some (.int (xe (xday v) i))) C (c_X0_lumpsOf l D hh cI cZ (xday v) i (by rw [xday_n]; omega) (by rw [xday_n]; omega)) (cwV 1 C.words gL_law_X0_lumpsOf rfl rfl rfl (by decide +kernel) ⟨(Nat.le_of_ble_eq_true rfl), (Nat.le_of_ble_eq_true rfl)⟩) (q0 := 0) (ci := 0) rfl rfl rfl [0, 1] rfl rfl (Nat.le_of_ble_eq_true rfl) ⟨(by show _ ≤ 600130; omega), (by show _ ≤ 7301080; omega)⟩ rfl rfl rfl rfl rfl dL_law_841 ?_
          refine z_iload C 2 dL_law_844 rfl ?_
          refine z_if_eq (tgt := 859) C dL_law_846 (by decide) (fun h9 => absurd h9 (by decide)) (fun _ => ?_)
          refine z_aload C 12 dL_law_849 rfl ?_
          refine z_iload C 14 dL_law_851 rfl ?_
          refine z_iald (f := fl (xe v) (xn v)) C 11 0 rfl rfl i rfl (by omega) (by omega) dL_law_853 ?_
          refine z_top (y := xe v i) (fl_at (by omega)) ?_
          refine z_iconst (v := 1) C dL_law_854 (by decide) ?_
          refine z_isub C dL_law_855 ?_
          refine z_goto (tgt := 860) C dL_law_856 (by decide) ?_
          refine z_icmp_eq (tgt := 865) C dL_law_860 (by decide) (fun _ => ?_) (fun h9 => absurd ((E_e1 (by omega) c733)) h9)
          refine z_iinc (v := nI (i + 1)) (L' := [(19, .int (nI (i + 1))), (23, .int (xl v i)), (22, .int (imax 0 ((imin 99 ((xa v i) + (xdebt v (nI i)))) - 3))), (21, .int 1), (20, .int (imin 99 ((xa v i) + (xdebt v (nI i))))), (0, .ref b), (1, .ref (hh 0)), (2, .ref (gO G2)), (3, .int (nI tm)), (5, .int (nI (xn v))), (7, .ref q7), (11, .ref q11), (12, .ref q12), (13, .ref q13), (14, .int w14)]) C 14 dL_law_865 rfl (z_inc _) (by decide) rfl ?_
          refine z_goto (tgt := 690) C dL_law_868 (by decide) ?_
          refine z_sub (L' := [(0, .ref b), (1, .ref (hh 0)), (2, .ref (gO G2)), (3, .int (nI tm)), (5, .int (nI (xn v))), (7, .ref q7), (11, .ref q11), (12, .ref q12), (13, .ref q13), (14, .int w14), (19, .int (nI (i + 1)))]) [5, 6, 7, 8, 9, 10, 11, 12, 13, 14, 0] rfl ?_
          exact ih (i + 1) (by omega)
  have lp244 : ∀ (q7 q11 q12 q13 : Nat), ∀ (dd i : Nat), i + dd = xn v → zG p l e room_1 s m args below meth c D 24 A (cells + 1 + 1 + 1 + 1) (slots + xn v + xn v + xn v + xn v) Q 244 [(0, .ref b), (1, .ref (hh 0)), (2, .ref (gO G)), (3, .int (nI tm)), (5, .int (nI (xn v))), (6, .int (xfltN (xx v) (xk v))), (7, .ref q7), (8, .int (sumI (xa v) i)), (9, .int (clrI (xa v) i)), (10, .int (sumI (xl v) i)), (11, .ref q11), (12, .ref q12), (13, .ref q13), (14, .int (nI i))] [] ((wX0 hh cI cZ v) ++ [(q7, .inl (cI, (xn v), .inl (adF v (xk v))))] ++ [(q11, .inl (cI, (xn v), .inl (fl (xl v) i)))] ++ [(q12, .inl (cI, (xn v), .inl (fl (xa v) i)))] ++ [(q13, .inl (cI, (xn v), .inl (fl (xe v) i)))] ++ (wS G cI cP v)) := by
    intro q7 q11 q12 q13
    intro dd
    induction dd with
    | zero =>
      intro i hi
      have hi : i = xn v := by omega
      subst hi
      refine z_iload C 13 dL_law_244 rfl ?_
      refine z_iload C 4 dL_law_246 rfl ?_
      refine z_icmp_ge (tgt := 499) C dL_law_248 (by decide) (fun _ => ?_) (fun h9 => absurd (nI_le (by omega) (by omega)) h9)
      refine z_aload_n C 1 dL_law_499 rfl rfl ?_
      refine z_callV (w := (wX0 hh cI cZ v)) (w' := (wX0 hh cI cZ v)) (w1 := ([] : va_W)) (w2 := ([(q7, .inl (cI, (xn v), .inl (adF v (xk v))))] ++ [(q11, .inl (cI, (xn v), .inl (fl (xl v) (xn v))))] ++ [(q12, .inl (cI, (xn v), .inl (fl (xa v) (xn v))))] ++ [(q13, .inl (cI, (xn v), .inl (fl (xe v) (xn v))))] ++ (wS G cI cP v))) (ws' := ((wX0 hh cI cZ v) ++ [(q7, .inl (cI, (xn v), .inl (adF v (xk v))))] ++ [(q11, .inl (cI, (xn v), .inl (fl (xl v) (xn v))))] ++ [(q12, .inl (cI, (xn v), .inl (fl (xa v) (xn v))))] ++ [(q13, .inl (cI, (xn v), .inl (fl (xe v) (xn v))))] ++ (wS G cI cP v))) (As := []) (rest := []) (st' := [.int (nI (xk v))]) (rv := some (.int (nI (xk v)))) C (c_X0_ledger l D hh cI cZ v) (cwV 0 C.words gL_law_X0_ledger rfl rfl rfl (by decide +kernel) ⟨(Nat.le_of_ble_eq_true rfl), (Nat.le_of_ble_eq_true rfl)⟩) (q0 := 0) (ci := 0) rfl rfl rfl [0, 1] rfl rfl (Nat.le_of_ble_eq_true rfl) ⟨(by show _ ≤ 600130; omega), (by show _ ≤ 7301080; omega)⟩ rfl rfl rfl rfl rfl dL_law_500 ?_
      refine z_bipush (v := 30) C dL_law_503 (by decide) ?_
      refine z_icmp_gt (tgt := 584) C dL_law_505 (by decide) (fun h9 => absurd h9 (nI_nlt (a := 30) (b := xk v) (by omega) (by omega))) (fun _ => ?_)
      refine z_aload_n C 1 dL_law_508 rfl rfl ?_
      refine z_callV (w := (wX0 hh cI cZ v)) (w' := (wX0 hh cI cZ v)) (w1 := ([] : va_W)) (w2 := ([(q7, .inl (cI, (xn v), .inl (adF v (xk v))))] ++ [(q11, .inl (cI, (xn v), .inl (fl (xl v) (xn v))))] ++ [(q12, .inl (cI, (xn v), .inl (fl (xa v) (xn v))))] ++ [(q13, .inl (cI, (xn v), .inl (fl (xe v) (xn v))))] ++ (wS G cI cP v))) (ws' := ((wX0 hh cI cZ v) ++ [(q7, .inl (cI, (xn v), .inl (adF v (xk v))))] ++ [(q11, .inl (cI, (xn v), .inl (fl (xl v) (xn v))))] ++ [(q12, .inl (cI, (xn v), .inl (fl (xa v) (xn v))))] ++ [(q13, .inl (cI, (xn v), .inl (fl (xe v) (xn v))))] ++ (wS G cI cP v))) (As := []) (rest := []) (st' := [.int (nI (xc v))]) (rv := some (.int (nI (xc v)))) C (c_X0_salt l D hh cI cZ v) (cwV 0 C.words gL_law_X0_salt rfl rfl rfl (by decide +kernel) ⟨(Nat.le_of_ble_eq_true rfl), (Nat.le_of_ble_eq_true rfl)⟩) (q0 := 0) (ci := 0) rfl rfl rfl [0, 1] rfl rfl (Nat.le_of_ble_eq_true rfl) ⟨(by show _ ≤ 600130; omega), (by show _ ≤ 7301080; omega)⟩ rfl rfl rfl rfl rfl dL_law_509 ?_
      refine z_if_lt (tgt := 584) C dL_law_512 (by decide) (fun h9 => absurd h9 (nI_pos (by omega))) (fun _ => ?_)
      refine z_aload_n C 1 dL_law_515 rfl rfl ?_
      refine z_callV (w := (wX0 hh cI cZ v)) (w' := (wX0 hh cI cZ v)) (w1 := ([] : va_W)) (w2 := ([(q7, .inl (cI, (xn v), .inl (adF v (xk v))))] ++ [(q11, .inl (cI, (xn v), .inl (fl (xl v) (xn v))))] ++ [(q12, .inl (cI, (xn v), .inl (fl (xa v) (xn v))))] ++ [(q13, .inl (cI, (xn v), .inl (fl (xe v) (xn v))))] ++ (wS G cI cP v))) (ws' := ((wX0 hh cI cZ v) ++ [(q7, .inl (cI, (xn v), .inl (adF v (xk v))))] ++ [(q11, .inl (cI, (xn v), .inl (fl (xl v) (xn v))))] ++ [(q12, .inl (cI, (xn v), .inl (fl (xa v) (xn v))))] ++ [(q13, .inl (cI, (xn v), .inl (fl (xe v) (xn v))))] ++ (wS G cI cP v))) (As := []) (rest := []) (st' := [.int (nI (xc v))]) (rv := some (.int (nI (xc v)))) C (c_X0_salt l D hh cI cZ v) (cwV 0 C.words gL_law_X0_salt rfl rfl rfl (by decide +kernel) ⟨(Nat.le_of_ble_eq_true rfl), (Nat.le_of_ble_eq_true rfl)⟩) (q0 := 0) (ci := 0) rfl rfl rfl [0, 1] rfl rfl (Nat.le_of_ble_eq_true rfl) ⟨(by show _ ≤ 600130; omega), (by show _ ≤ 7301080; omega)⟩ rfl rfl rfl rfl rfl dL_law_516 ?_
      refine z_sipush (v := 500) C dL_law_519 (by decide) ?_
      refine z_icmp_gt (tgt := 584) C dL_law_522 (by decide) (fun h9 => absurd h9 (nI_nlt (a := 500) (b := xc v) (by omega) (by omega))) (fun _ => ?_)
      refine z_iload C 5 dL_law_525 rfl ?_
      refine z_aload_n C 1 dL_law_527 rfl rfl ?_
      refine z_callV (w := (wX0 hh cI cZ v)) (w' := (wX0 hh cI cZ v)) (w1 := ([] : va_W)) (w2 := ([(q7, .inl (cI, (xn v), .inl (adF v (xk v))))] ++ [(q11, .inl (cI, (xn v), .inl (fl (xl v) (xn v))))] ++ [(q12, .inl (cI, (xn v), .inl (fl (xa v) (xn v))))] ++ [(q13, .inl (cI, (xn v), .inl (fl (xe v) (xn v))))] ++ (wS G cI cP v))) (ws' := ((wX0 hh cI cZ v) ++ [(q7, .inl (cI, (xn v), .inl (adF v (xk v))))] ++ [(q11, .inl (cI, (xn v), .inl (fl (xl v) (xn v))))] ++ [(q12, .inl (cI, (xn v), .inl (fl (xa v) (xn v))))] ++ [(q13, .inl (cI, (xn v), .inl (fl (xe v) (xn v))))] ++ (wS G cI cP v))) (As := []) (rest := [.int (xfltN (xx v) (xk v))]) (st' := [.int (xflt v), .int (xfltN (xx v) (xk v))]) (rv := some (.int (xflt v))) C (c_X0_faults l D hh cI cZ v (by omega)) (cwV 0 C.words gL_law_X0_faults rfl rfl rfl (by decide +kernel) ⟨(Nat.le_of_ble_eq_true rfl), (Nat.le_of_ble_eq_true rfl)⟩) (q0 := 0) (ci := 0) rfl rfl rfl [0, 1] rfl rfl (Nat.le_of_ble_eq_true rfl) ⟨(by show _ ≤ 600130; omega), (by show _ ≤ 7301080; omega)⟩ rfl rfl rfl rfl rfl dL_law_528 ?_
      refine z_icmp_ne (tgt := 584) C dL_law_531 (by decide) (fun h9 => absurd h9 ((fun q => q rfl))) (fun _ => ?_)
      refine z_iload C 7 dL_law_534 rfl ?_
      refine z_aload_n C 1 dL_law_536 rfl rfl ?_
      refine z_callV (w := (wX0 hh cI cZ v)) (w' := (wX0 hh cI cZ v)) (w1 := ([] : va_W)) (w2 := ([(q7, .inl (cI, (xn v), .inl (adF v (xk v))))] ++ [(q11, .inl (cI, (xn v), .inl (fl (xl v) (xn v))))] ++ [(q12, .inl (cI, (xn v), .inl (fl (xa v) (xn v))))] ++ [(q13, .inl (cI, (xn v), .inl (fl (xe v) (xn v))))] ++ (wS G cI cP v))) (ws' := ((wX0 hh cI cZ v) ++ [(q7, .inl (cI, (xn v), .inl (adF v (xk v))))] ++ [(q11, .inl (cI, (xn v), .inl (fl (xl v) (xn v))))] ++ [(q12, .inl (cI, (xn v), .inl (fl (xa v) (xn v))))] ++ [(q13, .inl (cI, (xn v), .inl (fl (xe v) (xn v))))] ++ (wS G cI cP v))) (As := []) (rest := [.int (sumI (xa v) (xn v))]) (st' := [.int (sumI (xa v) (xn v)), .int (sumI (xa v) (xn v))]) (rv := some (.int (sumI (xa v) (xn v)))) C (c_X0_allArrears l D hh cI cZ v (by omega)) (cwV 0 C.words gL_law_X0_allArrears rfl rfl rfl (by decide +kernel) ⟨(Nat.le_of_ble_eq_true rfl), (Nat.le_of_ble_eq_true rfl)⟩) (q0 := 0) (ci := 0) rfl rfl rfl [0, 1] rfl rfl (Nat.le_of_ble_eq_true rfl) ⟨(by show _ ≤ 600130; omega), (by show _ ≤ 7301080; omega)⟩ rfl rfl rfl rfl rfl dL_law_537 ?_
      refine z_icmp_ne (tgt := 584) C dL_law_540 (by decide) (fun h9 => absurd h9 ((fun q => q rfl))) (fun _ => ?_)
      refine z_iload C 8 dL_law_543 rfl ?_
      refine z_aload_n C 1 dL_law_545 rfl rfl ?_
      refine z_callV (w := (wX0 hh cI cZ v)) (w' := (wX0 hh cI cZ v)) (w1 := ([] : va_W)) (w2 := ([(q7, .inl (cI, (xn v), .inl (adF v (xk v))))] ++ [(q11, .inl (cI, (xn v), .inl (fl (xl v) (xn v))))] ++ [(q12, .inl (cI, (xn v), .inl (fl (xa v) (xn v))))] ++ [(q13, .inl (cI, (xn v), .inl (fl (xe v) (xn v))))] ++ (wS G cI cP v))) (ws' := ((wX0 hh cI cZ v) ++ [(q7, .inl (cI, (xn v), .inl (adF v (xk v))))] ++ [(q11, .inl (cI, (xn v), .inl (fl (xl v) (xn v))))] ++ [(q12, .inl (cI, (xn v), .inl (fl (xa v) (xn v))))] ++ [(q13, .inl (cI, (xn v), .inl (fl (xe v) (xn v))))] ++ (wS G cI cP v))) (As := []) (rest := [.int (clrI (xa v) (xn v))]) (st' := [.int (clrI (xa v) (xn v)), .int (clrI (xa v) (xn v))]) (rv := some (.int (clrI (xa v) (xn v)))) C (c_X0_clearMembers l D hh cI cZ v (by omega)) (cwV 0 C.words gL_law_X0_clearMembers rfl rfl rfl (by decide +kernel) ⟨(Nat.le_of_ble_eq_true rfl), (Nat.le_of_ble_eq_true rfl)⟩) (q0 := 0) (ci := 0) rfl rfl rfl [0, 1] rfl rfl (Nat.le_of_ble_eq_true rfl) ⟨(by show _ ≤ 600130; omega), (by show _ ≤ 7301080; omega)⟩ rfl rfl rfl rfl rfl dL_law_546 ?_
      refine z_icmp_ne (tgt := 584) C dL_law_549 (by decide) (fun h9 => absurd h9 ((fun q => q rfl))) (fun _ => ?_)
      refine z_aload_n C 1 dL_law_552 rfl rfl ?_
      refine z_callV (w := (wX0 hh cI cZ v)) (w' := (wX0 hh cI cZ v)) (w1 := ([] : va_W)) (w2 := ([(q7, .inl (cI, (xn v), .inl (adF v (xk v))))] ++ [(q11, .inl (cI, (xn v), .inl (fl (xl v) (xn v))))] ++ [(q12, .inl (cI, (xn v), .inl (fl (xa v) (xn v))))] ++ [(q13, .inl (cI, (xn v), .inl (fl (xe v) (xn v))))] ++ (wS G cI cP v))) (ws' := ((wX0 hh cI cZ v) ++ [(q7, .inl (cI, (xn v), .inl (adF v (xk v))))] ++ [(q11, .inl (cI, (xn v), .inl (fl (xl v) (xn v))))] ++ [(q12, .inl (cI, (xn v), .inl (fl (xa v) (xn v))))] ++ [(q13, .inl (cI, (xn v), .inl (fl (xe v) (xn v))))] ++ (wS G cI cP v))) (As := []) (rest := []) (st' := [.double (xmean v)]) (rv := some (.double (xmean v))) C (c_X0_meanLuck l D hh cI cZ v (by omega) (fun h0 => hI.nan h0)) (cwV 0 C.words gL_law_X0_meanLuck rfl rfl rfl (by decide +kernel) ⟨(Nat.le_of_ble_eq_true rfl), (Nat.le_of_ble_eq_true rfl)⟩) (q0 := 0) (ci := 0) rfl rfl rfl [0, 1] rfl rfl (Nat.le_of_ble_eq_true rfl) ⟨(by show _ ≤ 600130; omega), (by show _ ≤ 7301080; omega)⟩ rfl rfl rfl rfl rfl dL_law_553 ?_
      refine z_iload C 9 dL_law_556 rfl ?_
      refine z_i2d C dL_law_558 ?_
      refine z_iload C 4 dL_law_559 rfl ?_
      refine z_i2d C dL_law_561 ?_
      refine z_ddiv C dL_law_562 (hI.nan hn0) ?_
      refine z_dcmp C dL_law_563 ?_
      refine z_if_ne (tgt := 584) C dL_law_564 (by decide) (fun h9 => absurd h9 ((fun q => q (hI.cmpA hn0)))) (fun _ => ?_)
      refine z_aload_n C 1 dL_law_567 rfl rfl ?_
      refine z_callV (w := (wX0 hh cI cZ v)) (w' := (wX0 hh cI cZ v)) (w1 := ([] : va_W)) (w2 := ([(q7, .inl (cI, (xn v), .inl (adF v (xk v))))] ++ [(q11, .inl (cI, (xn v), .inl (fl (xl v) (xn v))))] ++ [(q12, .inl (cI, (xn v), .inl (fl (xa v) (xn v))))] ++ [(q13, .inl (cI, (xn v), .inl (fl (xe v) (xn v))))] ++ (wS G cI cP v))) (ws' := ((wX0 hh cI cZ v) ++ [(q7, .inl (cI, (xn v), .inl (adF v (xk v))))] ++ [(q11, .inl (cI, (xn v), .inl (fl (xl v) (xn v))))] ++ [(q12, .inl (cI, (xn v), .inl (fl (xa v) (xn v))))] ++ [(q13, .inl (cI, (xn v), .inl (fl (xe v) (xn v))))] ++ (wS G cI cP v))) (As := []) (rest := []) (st' := [.int (6 - (xd v - xd v / 7 * 7))]) (rv := some (.int (6 - (xd v - xd v / 7 * 7)))) C (c_X0_daysUntilAudit l D hh cI cZ v) (cwV 0 C.words gL_law_X0_daysUntilAudit rfl rfl rfl (by decide +kernel) ⟨(Nat.le_of_ble_eq_true rfl), (Nat.le_of_ble_eq_true rfl)⟩) (q0 := 0) (ci := 0) rfl rfl rfl [0, 1] rfl rfl (Nat.le_of_ble_eq_true rfl) ⟨(by show _ ≤ 600130; omega), (by show _ ≤ 7301080; omega)⟩ rfl rfl rfl rfl rfl dL_law_568 ?_
      refine z_bipush (v := 6) C dL_law_571 (by decide) ?_
      refine z_aload_n C 1 dL_law_573 rfl rfl ?_
      refine z_callV (w := (wX0 hh cI cZ v)) (w' := (wX0 hh cI cZ v)) (w1 := ([] : va_W)) (w2 := ([(q7, .inl (cI, (xn v), .inl (adF v (xk v))))] ++ [(q11, .inl (cI, (xn v), .inl (fl (xl v) (xn v))))] ++ [(q12, .inl (cI, (xn v), .inl (fl (xa v) (xn v))))] ++ [(q13, .inl (cI, (xn v), .inl (fl (xe v) (xn v))))] ++ (wS G cI cP v))) (ws' := ((wX0 hh cI cZ v) ++ [(q7, .inl (cI, (xn v), .inl (adF v (xk v))))] ++ [(q11, .inl (cI, (xn v), .inl (fl (xl v) (xn v))))] ++ [(q12, .inl (cI, (xn v), .inl (fl (xa v) (xn v))))] ++ [(q13, .inl (cI, (xn v), .inl (fl (xe v) (xn v))))] ++ (wS G cI cP v))) (As := []) (rest := [.int 6, .int (6 - (xd v - xd v / 7 * 7))]) (st' := [.int (xd v), .int 6, .int (6 - (xd v - xd v / 7 * 7))]) (rv := some (.int (xd v))) C (c_X0_day l D hh cI cZ v) (cwV 0 C.words gL_law_X0_day rfl rfl rfl (by decide +kernel) ⟨(Nat.le_of_ble_eq_true rfl), (Nat.le_of_ble_eq_true rfl)⟩) (q0 := 0) (ci := 0) rfl rfl rfl [0, 1] rfl rfl (Nat.le_of_ble_eq_true rfl) ⟨(by show _ ≤ 600130; omega), (by show _ ≤ 7301080; omega)⟩ rfl rfl rfl rfl rfl dL_law_574 ?_
      refine z_bipush (v := 7) C dL_law_577 (by decide) ?_
      refine z_irem C dL_law_579 (by decide) ?_
      refine z_isub C dL_law_580 ?_
      refine z_icmp_eq (tgt := 586) C dL_law_581 (by decide) (fun _ => ?_) (fun h9 => absurd (rfl) h9)
      refine z_aload_n C 1 dL_law_586 rfl rfl ?_
      refine z_callV (w := (wX0 hh cI cZ v)) (w' := (wX0 hh cI cZ v)) (w1 := ([] : va_W)) (w2 := ([(q7, .inl (cI, (xn v), .inl (adF v (xk v))))] ++ [(q11, .inl (cI, (xn v), .inl (fl (xl v) (xn v))))] ++ [(q12, .inl (cI, (xn v), .inl (fl (xa v) (xn v))))] ++ [(q13, .inl (cI, (xn v), .inl (fl (xe v) (xn v))))] ++ (wS G cI cP v))) (ws' := ((wX0 hh cI cZ v) ++ [(q7, .inl (cI, (xn v), .inl (adF v (xk v))))] ++ [(q11, .inl (cI, (xn v), .inl (fl (xl v) (xn v))))] ++ [(q12, .inl (cI, (xn v), .inl (fl (xa v) (xn v))))] ++ [(q13, .inl (cI, (xn v), .inl (fl (xe v) (xn v))))] ++ (wS G cI cP v))) (As := []) (rest := []) (st' := [.int (6 - (xd v - xd v / 7 * 7))]) (rv := some (.int (6 - (xd v - xd v / 7 * 7)))) C (c_X0_daysUntilAudit l D hh cI cZ v) (cwV 0 C.words gL_law_X0_daysUntilAudit rfl rfl rfl (by decide +kernel) ⟨(Nat.le_of_ble_eq_true rfl), (Nat.le_of_ble_eq_true rfl)⟩) (q0 := 0) (ci := 0) rfl rfl rfl [0, 1] rfl rfl (Nat.le_of_ble_eq_true rfl) ⟨(by show _ ≤ 600130; omega), (by show _ ≤ 7301080; omega)⟩ rfl rfl rfl rfl rfl dL_law_587 ?_
      refine z_if_ne (tgt := 597) C dL_law_590 (by decide) (fun c590 => ?_) (fun c590 => ?_)
      · skip
        refine z_iconst (v := 0) C dL_law_597 (by decide) ?_
        refine z_istore (L' := [(14, .int 0), (0, .ref b), (1, .ref (hh 0)), (2, .ref (gO G)), (3, .int (nI tm)), (5, .int (nI (xn v))), (6, .int (xfltN (xx v) (xk v))), (7, .ref q7), (8, .int (sumI (xa v) (xn v))), (9, .int (clrI (xa v) (xn v))), (10, .int (sumI (xl v) (xn v))), (11, .ref q11), (12, .ref q12), (13, .ref q13)]) C dL_law_598 (by decide) rfl ?_
        refine z_aload_n C 2 dL_law_600 rfl rfl ?_
        refine z_callV (w := (wX0 hh cI cZ v)) (w' := (wX0 hh cI cZ v)) (w1 := ([] : va_W)) (w2 := ([(q7, .inl (cI, (xn v), .inl (adF v (xk v))))] ++ [(q11, .inl (cI, (xn v), .inl (fl (xl v) (xn v))))] ++ [(q12, .inl (cI, (xn v), .inl (fl (xa v) (xn v))))] ++ [(q13, .inl (cI, (xn v), .inl (fl (xe v) (xn v))))] ++ (wS G cI cP v))) (ws' := ((wX0 hh cI cZ v) ++ [(q7, .inl (cI, (xn v), .inl (adF v (xk v))))] ++ [(q11, .inl (cI, (xn v), .inl (fl (xl v) (xn v))))] ++ [(q12, .inl (cI, (xn v), .inl (fl (xa v) (xn v))))] ++ [(q13, .inl (cI, (xn v), .inl (fl (xe v) (xn v))))] ++ (wS G cI cP v))) (As := []) (rest := []) (st' := [.int (nI (xc v))]) (rv := some (.int (nI (xc v)))) C (c_X0_salt l D hh cI cZ v) (cwV 0 C.words gL_law_X0_salt rfl rfl rfl (by decide +kernel) ⟨(Nat.le_of_ble_eq_true rfl), (Nat.le_of_ble_eq_true rfl)⟩) (q0 := 0) (ci := 0) rfl rfl rfl [0, 1] rfl rfl (Nat.le_of_ble_eq_true rfl) ⟨(by show _ ≤ 600130; omega), (by show _ ≤ 7301080; omega)⟩ rfl rfl rfl rfl rfl dL_law_601 ?_
        refine z_istore (L' := [(15, .int (nI (xc v))), (14, .int 0), (0, .ref b), (1, .ref (hh 0)), (2, .ref (gO G)), (3, .int (nI tm)), (5, .int (nI (xn v))), (6, .int (xfltN (xx v) (xk v))), (7, .ref q7), (8, .int (sumI (xa v) (xn v))), (9, .int (clrI (xa v) (xn v))), (10, .int (sumI (xl v) (xn v))), (11, .ref q11), (12, .ref q12), (13, .ref q13)]) C dL_law_604 (by decide) rfl ?_
        refine z_aload_n C 3 dL_law_606 rfl rfl ?_
        refine z_callV (w := (wX0 hh cI cZ v)) (w' := (wX0 hh cI cZ v)) (w1 := ([] : va_W)) (w2 := ([(q7, .inl (cI, (xn v), .inl (adF v (xk v))))] ++ [(q11, .inl (cI, (xn v), .inl (fl (xl v) (xn v))))] ++ [(q12, .inl (cI, (xn v), .inl (fl (xa v) (xn v))))] ++ [(q13, .inl (cI, (xn v), .inl (fl (xe v) (xn v))))] ++ (wS G cI cP v))) (ws' := ((wX0 hh cI cZ v) ++ [(q7, .inl (cI, (xn v), .inl (adF v (xk v))))] ++ [(q11, .inl (cI, (xn v), .inl (fl (xl v) (xn v))))] ++ [(q12, .inl (cI, (xn v), .inl (fl (xa v) (xn v))))] ++ [(q13, .inl (cI, (xn v), .inl (fl (xe v) (xn v))))] ++ (wS G cI cP v))) (As := []) (rest := []) (st' := [.int (nI (xk v))]) (rv := some (.int (nI (xk v)))) C (c_X0_ledger l D hh cI cZ v) (cwV 0 C.words gL_law_X0_ledger rfl rfl rfl (by decide +kernel) ⟨(Nat.le_of_ble_eq_true rfl), (Nat.le_of_ble_eq_true rfl)⟩) (q0 := 0) (ci := 0) rfl rfl rfl [0, 1] rfl rfl (Nat.le_of_ble_eq_true rfl) ⟨(by show _ ≤ 600130; omega), (by show _ ≤ 7301080; omega)⟩ rfl rfl rfl rfl rfl dL_law_607 ?_
        refine z_istore (L' := [(16, .int (nI (xk v))), (15, .int (nI (xc v))), (14, .int 0), (0, .ref b), (1, .ref (hh 0)), (2, .ref (gO G)), (3, .int (nI tm)), (5, .int (nI (xn v))), (6, .int (xfltN (xx v) (xk v))), (7, .ref q7), (8, .int (sumI (xa v) (xn v))), (9, .int (clrI (xa v) (xn v))), (10, .int (sumI (xl v) (xn v))), (11, .ref q11), (12, .ref q12), (13, .ref q13)]) C dL_law_610 (by decide) rfl ?_
        refine z_aload_n C 4 dL_law_612 rfl rfl ?_
        refine z_callV (w := (wX0 hh cI cZ v)) (w' := (wX0 hh cI cZ v)) (w1 := ([] : va_W)) (w2 := ([(q7, .inl (cI, (xn v), .inl (adF v (xk v))))] ++ [(q11, .inl (cI, (xn v), .inl (fl (xl v) (xn v))))] ++ [(q12, .inl (cI, (xn v), .inl (fl (xa v) (xn v))))] ++ [(q13, .inl (cI, (xn v), .inl (fl (xe v) (xn v))))] ++ (wS G cI cP v))) (ws' := ((wX0 hh cI cZ v) ++ [(q7, .inl (cI, (xn v), .inl (adF v (xk v))))] ++ [(q11, .inl (cI, (xn v), .inl (fl (xl v) (xn v))))] ++ [(q12, .inl (cI, (xn v), .inl (fl (xa v) (xn v))))] ++ [(q13, .inl (cI, (xn v), .inl (fl (xe v) (xn v))))] ++ (wS G cI cP v))) (As := []) (rest := []) (st' := [.int (xo v)]) (rv := some (.int (xo v))) C (c_X0_faultsFound l D hh cI cZ v) (cwV 0 C.words gL_law_X0_faultsFound rfl rfl rfl (by decide +kernel) ⟨(Nat.le_of_ble_eq_true rfl), (Nat.le_of_ble_eq_true rfl)⟩) (q0 := 0) (ci := 0) rfl rfl rfl [0, 1] rfl rfl (Nat.le_of_ble_eq_true rfl) ⟨(by show _ ≤ 600130; omega), (by show _ ≤ 7301080; omega)⟩ rfl rfl rfl rfl rfl dL_law_613 ?_
        refine z_istore (L' := [(17, .int (xo v)), (16, .int (nI (xk v))), (15, .int (nI (xc v))), (14, .int 0), (0, .ref b), (1, .ref (hh 0)), (2, .ref (gO G)), (3, .int (nI tm)), (5, .int (nI (xn v))), (6, .int (xfltN (xx v) (xk v))), (7, .ref q7), (8, .int (sumI (xa v) (xn v))), (9, .int (clrI (xa v) (xn v))), (10, .int (sumI (xl v) (xn v))), (11, .ref q11), (12, .ref q12), (13, .ref q13)]) C dL_law_616 (by decide) rfl ?_
        refine z_aload_n C 5 dL_law_618 rfl rfl ?_
        refine z_iconst (v := 1) C dL_law_619 (by decide) ?_
        obtain ⟨v1, hv1⟩ : ∃ z, z = xpass v 1 := ⟨_, rfl⟩
        refine z_callV (w := (wX0 hh cI cZ v)) (w' := (wX0 hh cI cZ v1)) (w1 := ([] : va_W)) (w2 := ([(q7, .inl (cI, (xn v), .inl (adF v (xk v))))] ++ [(q11, .inl (cI, (xn v), .inl (fl (xl v) (xn v))))] ++ [(q12, .inl (cI, (xn v), .inl (fl (xa v) (xn v))))] ++ [(q13, .inl (cI, (xn v), .inl (fl (xe v) (xn v))))] ++ (wS G cI cP v))) (ws' := ((wX0 hh cI cZ v1) ++ [(q7, .inl (cI, (xn v), .inl (adF v (xk v))))] ++ [(q11, .inl (cI, (xn v), .inl (fl (xl v) (xn v))))] ++ [(q12, .inl (cI, (xn v), .inl (fl (xa v) (xn v))))] ++ [(q13, .inl (cI, (xn v), .inl (fl (xe v) (xn v))))] ++ (wS G cI cP v))) (As := [.int 1]) (rest := []) (st' := [.int (xpassF v 1)]) (rv := some (.int (xpassF v 1))) C (by rw [hv1]; exact c_X0_pass l D hh cI cZ v 1 (by omega) (by omega) (by omega) (by omega)) (cwV 1 C.words gL_law_X0_pass rfl rfl rfl (by decide +kernel) ⟨(Nat.le_of_ble_eq_true rfl), (Nat.le_of_ble_eq_true rfl)⟩) (q0 := 0) (ci := 0) rfl rfl rfl [0, 1] rfl rfl (Nat.le_of_ble_eq_true rfl) ⟨(by show _ ≤ 600130; omega), (by show _ ≤ 7301080; omega)⟩ rfl rfl rfl rfl rfl dL_law_620 ?_
        refine z_top (y := xdayF v) (Int32.zero_add _) ?_
        refine z_istore (L' := [(18, .int (xdayF v)), (17, .int (xo v)), (16, .int (nI (xk v))), (15, .int (nI (xc v))), (14, .int 0), (0, .ref b), (1, .ref (hh 0)), (2, .ref (gO G)), (3, .int (nI tm)), (5, .int (nI (xn v))), (6, .int (xfltN (xx v) (xk v))), (7, .ref q7), (8, .int (sumI (xa v) (xn v))), (9, .int (clrI (xa v) (xn v))), (10, .int (sumI (xl v) (xn v))), (11, .ref q11), (12, .ref q12), (13, .ref q13)]) C dL_law_623 (by decide) rfl ?_
        refine z_aload_n C 7 dL_law_625 rfl rfl ?_
        refine z_callVX (w := (wS G cI cP v)) (w1 := ((wX0 hh cI cZ v1) ++ [(q7, .inl (cI, (xn v), .inl (adF v (xk v))))] ++ [(q11, .inl (cI, (xn v), .inl (fl (xl v) (xn v))))] ++ [(q12, .inl (cI, (xn v), .inl (fl (xa v) (xn v))))] ++ [(q13, .inl (cI, (xn v), .inl (fl (xe v) (xn v))))])) (w2 := ([] : va_W)) (As := []) (rest := []) C (c_X1_pass l D cI cP G B v hI hB) (hAA.call _) zAA.blind (cwV 0 C.words gL_law_X1_pass rfl rfl rfl (by decide +kernel) ⟨(Nat.le_of_ble_eq_true rfl), (Nat.le_of_ble_eq_true rfl)⟩) (q0 := 0) (ci := 1) rfl rfl rfl [0, 2] rfl rfl (Nat.le_of_ble_eq_true rfl) ⟨(by show _ ≤ 600130; omega), (by show _ ≤ 7301080; omega)⟩ (List.append_nil _).symm rfl dL_law_626 (fun G2 hG2 => ?_)
        refine z_ws (List.append_nil _) ?_
        refine z_st (st' := [.int (xdayF v)]) rfl ?_
        refine z_loc (L' := [(18, .int (xdayF v)), (17, .int (xo v)), (16, .int (nI (xk v))), (15, .int (nI (xc v))), (14, .int 0), (0, .ref b), (1, .ref (hh 0)), (2, .ref (gO G2)), (3, .int (nI tm)), (5, .int (nI (xn v))), (6, .int (xfltN (xx v) (xk v))), (7, .ref q7), (8, .int (sumI (xa v) (xn v))), (9, .int (clrI (xa v) (xn v))), (10, .int (sumI (xl v) (xn v))), (11, .ref q11), (12, .ref q12), (13, .ref q13)]) (by rw [show gO G2 = gO G from hG2]) ?_
        refine z_pop C dL_law_629 rfl ?_
        refine z_iload C 0 dL_law_630 rfl ?_
        refine z_iload C 4 dL_law_632 rfl ?_
        refine z_if_eq (tgt := 642) C dL_law_634 (by decide) (fun _ => ?_) (fun h9 => absurd (by decide) h9)
        refine z_iconst (v := 0) C dL_law_642 (by decide) ?_
        refine z_icmp_ne (tgt := 685) C dL_law_643 (by decide) (fun h9 => absurd h9 ((fun q => q (if_pos (audB hI hB c590))))) (fun _ => ?_)
        refine z_aload_n C 6 dL_law_646 rfl rfl ?_
        refine z_callV (w := (wX0 hh cI cZ v1)) (w' := (wX0 hh cI cZ v1)) (w1 := ([] : va_W)) (w2 := ([(q7, .inl (cI, (xn v), .inl (adF v (xk v))))] ++ [(q11, .inl (cI, (xn v), .inl (fl (xl v) (xn v))))] ++ [(q12, .inl (cI, (xn v), .inl (fl (xa v) (xn v))))] ++ [(q13, .inl (cI, (xn v), .inl (fl (xe v) (xn v))))] ++ (wS G2 cI cP (xday v)))) (ws' := ((wX0 hh cI cZ v1) ++ [(q7, .inl (cI, (xn v), .inl (adF v (xk v))))] ++ [(q11, .inl (cI, (xn v), .inl (fl (xl v) (xn v))))] ++ [(q12, .inl (cI, (xn v), .inl (fl (xa v) (xn v))))] ++ [(q13, .inl (cI, (xn v), .inl (fl (xe v) (xn v))))] ++ (wS G2 cI cP (xday v)))) (As := []) (rest := []) (st' := [.int (xo v1)]) (rv := some (.int (xo v1))) C (c_X0_faultsFound l D hh cI cZ v1) (cwV 0 C.words gL_law_X0_faultsFound rfl rfl rfl (by decide +kernel) ⟨(Nat.le_of_ble_eq_true rfl), (Nat.le_of_ble_eq_true rfl)⟩) (q0 := 0) (ci := 0) rfl rfl rfl [0, 1] rfl rfl (Nat.le_of_ble_eq_true rfl) ⟨(by show _ ≤ 600130; omega), (by show _ ≤ 7301080; omega)⟩ rfl rfl rfl rfl rfl dL_law_647 ?_
        refine z_iload C 1 dL_law_650 rfl ?_
        refine z_iload C 0 dL_law_652 rfl ?_
        refine z_iadd C dL_law_654 ?_
        refine z_icmp_ne (tgt := 685) C dL_law_655 (by decide) (fun h9 => absurd h9 ((fun q => q (by rw [hv1]; exact xday_o)))) (fun _ => ?_)
        refine z_aload_n C 6 dL_law_658 rfl rfl ?_
        refine z_callV (w := (wX0 hh cI cZ v1)) (w' := (wX0 hh cI cZ v1)) (w1 := ([] : va_W)) (w2 := ([(q7, .inl (cI, (xn v), .inl (adF v (xk v))))] ++ [(q11, .inl (cI, (xn v), .inl (fl (xl v) (xn v))))] ++ [(q12, .inl (cI, (xn v), .inl (fl (xa v) (xn v))))] ++ [(q13, .inl (cI, (xn v), .inl (fl (xe v) (xn v))))] ++ (wS G2 cI cP (xday v)))) (ws' := ((wX0 hh cI cZ v1) ++ [(q7, .inl (cI, (xn v), .inl (adF v (xk v))))] ++ [(q11, .inl (cI, (xn v), .inl (fl (xl v) (xn v))))] ++ [(q12, .inl (cI, (xn v), .inl (fl (xa v) (xn v))))] ++ [(q13, .inl (cI, (xn v), .inl (fl (xe v) (xn v))))] ++ (wS G2 cI cP (xday v)))) (As := []) (rest := []) (st' := [.int (nI (xk v1))]) (rv := some (.int (nI (xk v1)))) C (c_X0_ledger l D hh cI cZ v1) (cwV 0 C.words gL_law_X0_ledger rfl rfl rfl (by decide +kernel) ⟨(Nat.le_of_ble_eq_true rfl), (Nat.le_of_ble_eq_true rfl)⟩) (q0 := 0) (ci := 0) rfl rfl rfl [0, 1] rfl rfl (Nat.le_of_ble_eq_true rfl) ⟨(by show _ ≤ 600130; omega), (by show _ ≤ 7301080; omega)⟩ rfl rfl rfl rfl rfl dL_law_659 ?_
        refine z_iload C 4 dL_law_662 rfl ?_
        refine z_if_eq (tgt := 671) C dL_law_664 (by decide) (fun _ => ?_) (fun h9 => absurd (by decide) h9)
        refine z_iload C 2 dL_law_671 rfl ?_
        refine z_icmp_ne (tgt := 685) C dL_law_673 (by decide) (fun h9 => absurd h9 ((fun q => q (by rw [hv1]; show nI (xk (xday v)) = _; rw [xday_kB (audB hI hB c590)])))) (fun _ => ?_)
        refine z_aload_n C 6 dL_law_676 rfl rfl ?_
        refine z_callV (w := (wX0 hh cI cZ v1)) (w' := (wX0 hh cI cZ v1)) (w1 := ([] : va_W)) (w2 := ([(q7, .inl (cI, (xn v), .inl (adF v (xk v))))] ++ [(q11, .inl (cI, (xn v), .inl (fl (xl v) (xn v))))] ++ [(q12, .inl (cI, (xn v), .inl (fl (xa v) (xn v))))] ++ [(q13, .inl (cI, (xn v), .inl (fl (xe v) (xn v))))] ++ (wS G2 cI cP (xday v)))) (ws' := ((wX0 hh cI cZ v1) ++ [(q7, .inl (cI, (xn v), .inl (adF v (xk v))))] ++ [(q11, .inl (cI, (xn v), .inl (fl (xl v) (xn v))))] ++ [(q12, .inl (cI, (xn v), .inl (fl (xa v) (xn v))))] ++ [(q13, .inl (cI, (xn v), .inl (fl (xe v) (xn v))))] ++ (wS G2 cI cP (xday v)))) (As := []) (rest := []) (st' := [.int (nI (xc v1))]) (rv := some (.int (nI (xc v1)))) C (c_X0_salt l D hh cI cZ v1) (cwV 0 C.words gL_law_X0_salt rfl rfl rfl (by decide +kernel) ⟨(Nat.le_of_ble_eq_true rfl), (Nat.le_of_ble_eq_true rfl)⟩) (q0 := 0) (ci := 0) rfl rfl rfl [0, 1] rfl rfl (Nat.le_of_ble_eq_true rfl) ⟨(by show _ ≤ 600130; omega), (by show _ ≤ 7301080; omega)⟩ rfl rfl rfl rfl rfl dL_law_677 ?_
        refine z_iload C 3 dL_law_680 rfl ?_
        refine z_icmp_eq (tgt := 687) C dL_law_682 (by decide) (fun _ => ?_) (fun h9 => absurd (by rw [hv1]; show nI (xc (xday v)) = _; rw [xday_c2]) h9)
        refine z_iconst (v := 0) C dL_law_687 (by decide) ?_
        refine z_istore (L' := [(19, .int 0), (18, .int (xdayF v)), (17, .int (xo v)), (16, .int (nI (xk v))), (15, .int (nI (xc v))), (14, .int 0), (0, .ref b), (1, .ref (hh 0)), (2, .ref (gO G2)), (3, .int (nI tm)), (5, .int (nI (xn v))), (6, .int (xfltN (xx v) (xk v))), (7, .ref q7), (8, .int (sumI (xa v) (xn v))), (9, .int (clrI (xa v) (xn v))), (10, .int (sumI (xl v) (xn v))), (11, .ref q11), (12, .ref q12), (13, .ref q13)]) C dL_law_688 (by decide) rfl ?_
        refine z_sub (L' := [(0, .ref b), (1, .ref (hh 0)), (2, .ref (gO G2)), (3, .int (nI tm)), (5, .int (nI (xn v))), (7, .ref q7), (11, .ref q11), (12, .ref q12), (13, .ref q13), (14, .int 0), (19, .int 0)]) [6, 7, 8, 9, 10, 12, 16, 17, 18, 5, 0] rfl ?_
        subst hv1
        exact lp690 G2 q7 q11 q12 q13 _ _ _ hG2 ⟨fun _ => audB hI hB c590, fun q => absurd rfl q⟩ (by omega) (by omega) (xn v) 0 (by omega)
      · skip
        refine z_iconst (v := 1) C dL_law_593 (by decide) ?_
        refine z_goto (tgt := 598) C dL_law_594 (by decide) ?_
        refine z_istore (L' := [(14, .int 1), (0, .ref b), (1, .ref (hh 0)), (2, .ref (gO G)), (3, .int (nI tm)), (5, .int (nI (xn v))), (6, .int (xfltN (xx v) (xk v))), (7, .ref q7), (8, .int (sumI (xa v) (xn v))), (9, .int (clrI (xa v) (xn v))), (10, .int (sumI (xl v) (xn v))), (11, .ref q11), (12, .ref q12), (13, .ref q13)]) C dL_law_598 (by decide) rfl ?_
        refine z_aload_n C 2 dL_law_600 rfl rfl ?_
        refine z_callV (w := (wX0 hh cI cZ v)) (w' := (wX0 hh cI cZ v)) (w1 := ([] : va_W)) (w2 := ([(q7, .inl (cI, (xn v), .inl (adF v (xk v))))] ++ [(q11, .inl (cI, (xn v), .inl (fl (xl v) (xn v))))] ++ [(q12, .inl (cI, (xn v), .inl (fl (xa v) (xn v))))] ++ [(q13, .inl (cI, (xn v), .inl (fl (xe v) (xn v))))] ++ (wS G cI cP v))) (ws' := ((wX0 hh cI cZ v) ++ [(q7, .inl (cI, (xn v), .inl (adF v (xk v))))] ++ [(q11, .inl (cI, (xn v), .inl (fl (xl v) (xn v))))] ++ [(q12, .inl (cI, (xn v), .inl (fl (xa v) (xn v))))] ++ [(q13, .inl (cI, (xn v), .inl (fl (xe v) (xn v))))] ++ (wS G cI cP v))) (As := []) (rest := []) (st' := [.int (nI (xc v))]) (rv := some (.int (nI (xc v)))) C (c_X0_salt l D hh cI cZ v) (cwV 0 C.words gL_law_X0_salt rfl rfl rfl (by decide +kernel) ⟨(Nat.le_of_ble_eq_true rfl), (Nat.le_of_ble_eq_true rfl)⟩) (q0 := 0) (ci := 0) rfl rfl rfl [0, 1] rfl rfl (Nat.le_of_ble_eq_true rfl) ⟨(by show _ ≤ 600130; omega), (by show _ ≤ 7301080; omega)⟩ rfl rfl rfl rfl rfl dL_law_601 ?_
        refine z_istore (L' := [(15, .int (nI (xc v))), (14, .int 1), (0, .ref b), (1, .ref (hh 0)), (2, .ref (gO G)), (3, .int (nI tm)), (5, .int (nI (xn v))), (6, .int (xfltN (xx v) (xk v))), (7, .ref q7), (8, .int (sumI (xa v) (xn v))), (9, .int (clrI (xa v) (xn v))), (10, .int (sumI (xl v) (xn v))), (11, .ref q11), (12, .ref q12), (13, .ref q13)]) C dL_law_604 (by decide) rfl ?_
        refine z_aload_n C 3 dL_law_606 rfl rfl ?_
        refine z_callV (w := (wX0 hh cI cZ v)) (w' := (wX0 hh cI cZ v)) (w1 := ([] : va_W)) (w2 := ([(q7, .inl (cI, (xn v), .inl (adF v (xk v))))] ++ [(q11, .inl (cI, (xn v), .inl (fl (xl v) (xn v))))] ++ [(q12, .inl (cI, (xn v), .inl (fl (xa v) (xn v))))] ++ [(q13, .inl (cI, (xn v), .inl (fl (xe v) (xn v))))] ++ (wS G cI cP v))) (ws' := ((wX0 hh cI cZ v) ++ [(q7, .inl (cI, (xn v), .inl (adF v (xk v))))] ++ [(q11, .inl (cI, (xn v), .inl (fl (xl v) (xn v))))] ++ [(q12, .inl (cI, (xn v), .inl (fl (xa v) (xn v))))] ++ [(q13, .inl (cI, (xn v), .inl (fl (xe v) (xn v))))] ++ (wS G cI cP v))) (As := []) (rest := []) (st' := [.int (nI (xk v))]) (rv := some (.int (nI (xk v)))) C (c_X0_ledger l D hh cI cZ v) (cwV 0 C.words gL_law_X0_ledger rfl rfl rfl (by decide +kernel) ⟨(Nat.le_of_ble_eq_true rfl), (Nat.le_of_ble_eq_true rfl)⟩) (q0 := 0) (ci := 0) rfl rfl rfl [0, 1] rfl rfl (Nat.le_of_ble_eq_true rfl) ⟨(by show _ ≤ 600130; omega), (by show _ ≤ 7301080; omega)⟩ rfl rfl rfl rfl rfl dL_law_607 ?_
        refine z_istore (L' := [(16, .int (nI (xk v))), (15, .int (nI (xc v))), (14, .int 1), (0, .ref b), (1, .ref (hh 0)), (2, .ref (gO G)), (3, .int (nI tm)), (5, .int (nI (xn v))), (6, .int (xfltN (xx v) (xk v))), (7, .ref q7), (8, .int (sumI (xa v) (xn v))), (9, .int (clrI (xa v) (xn v))), (10, .int (sumI (xl v) (xn v))), (11, .ref q11), (12, .ref q12), (13, .ref q13)]) C dL_law_610 (by decide) rfl ?_
        refine z_aload_n C 4 dL_law_612 rfl rfl ?_
        refine z_callV (w := (wX0 hh cI cZ v)) (w' := (wX0 hh cI cZ v)) (w1 := ([] : va_W)) (w2 := ([(q7, .inl (cI, (xn v), .inl (adF v (xk v))))] ++ [(q11, .inl (cI, (xn v), .inl (fl (xl v) (xn v))))] ++ [(q12, .inl (cI, (xn v), .inl (fl (xa v) (xn v))))] ++ [(q13, .inl (cI, (xn v), .inl (fl (xe v) (xn v))))] ++ (wS G cI cP v))) (ws' := ((wX0 hh cI cZ v) ++ [(q7, .inl (cI, (xn v), .inl (adF v (xk v))))] ++ [(q11, .inl (cI, (xn v), .inl (fl (xl v) (xn v))))] ++ [(q12, .inl (cI, (xn v), .inl (fl (xa v) (xn v))))] ++ [(q13, .inl (cI, (xn v), .inl (fl (xe v) (xn v))))] ++ (wS G cI cP v))) (As := []) (rest := []) (st' := [.int (xo v)]) (rv := some (.int (xo v))) C (c_X0_faultsFound l D hh cI cZ v) (cwV 0 C.words gL_law_X0_faultsFound rfl rfl rfl (by decide +kernel) ⟨(Nat.le_of_ble_eq_true rfl), (Nat.le_of_ble_eq_true rfl)⟩) (q0 := 0) (ci := 0) rfl rfl rfl [0, 1] rfl rfl (Nat.le_of_ble_eq_true rfl) ⟨(by show _ ≤ 600130; omega), (by show _ ≤ 7301080; omega)⟩ rfl rfl rfl rfl rfl dL_law_613 ?_
        refine z_istore (L' := [(17, .int (xo v)), (16, .int (nI (xk v))), (15, .int (nI (xc v))), (14, .int 1), (0, .ref b), (1, .ref (hh 0)), (2, .ref (gO G)), (3, .int (nI tm)), (5, .int (nI (xn v))), (6, .int (xfltN (xx v) (xk v))), (7, .ref q7), (8, .int (sumI (xa v) (xn v))), (9, .int (clrI (xa v) (xn v))), (10, .int (sumI (xl v) (xn v))), (11, .ref q11), (12, .ref q12), (13, .ref q13)]) C dL_law_616 (by decide) rfl ?_
        refine z_aload_n C 5 dL_law_618 rfl rfl ?_
        refine z_iconst (v := 1) C dL_law_619 (by decide) ?_
        obtain ⟨v2, hv2⟩ : ∃ z, z = xpass v 1 := ⟨_, rfl⟩
        refine z_callV (w := (wX0 hh cI cZ v)) (w' := (wX0 hh cI cZ v2)) (w1 := ([] : va_W)) (w2 := ([(q7, .inl (cI, (xn v), .inl (adF v (xk v))))] ++ [(q11, .inl (cI, (xn v), .inl (fl (xl v) (xn v))))] ++ [(q12, .inl (cI, (xn v), .inl (fl (xa v) (xn v))))] ++ [(q13, .inl (cI, (xn v), .inl (fl (xe v) (xn v))))] ++ (wS G cI cP v))) (ws' := ((wX0 hh cI cZ v2) ++ [(q7, .inl (cI, (xn v), .inl (adF v (xk v))))] ++ [(q11, .inl (cI, (xn v), .inl (fl (xl v) (xn v))))] ++ [(q12, .inl (cI, (xn v), .inl (fl (xa v) (xn v))))] ++ [(q13, .inl (cI, (xn v), .inl (fl (xe v) (xn v))))] ++ (wS G cI cP v))) (As := [.int 1]) (rest := []) (st' := [.int (xpassF v 1)]) (rv := some (.int (xpassF v 1))) C (by rw [hv2]; exact c_X0_pass l D hh cI cZ v 1 (by omega) (by omega) (by omega) (by omega)) (cwV 1 C.words gL_law_X0_pass rfl rfl rfl (by decide +kernel) ⟨(Nat.le_of_ble_eq_true rfl), (Nat.le_of_ble_eq_true rfl)⟩) (q0 := 0) (ci := 0) rfl rfl rfl [0, 1] rfl rfl (Nat.le_of_ble_eq_true rfl) ⟨(by show _ ≤ 600130; omega), (by show _ ≤ 7301080; omega)⟩ rfl rfl rfl rfl rfl dL_law_620 ?_
        refine z_top (y := xdayF v) (Int32.zero_add _) ?_
        refine z_istore (L' := [(18, .int (xdayF v)), (17, .int (xo v)), (16, .int (nI (xk v))), (15, .int (nI (xc v))), (14, .int 1), (0, .ref b), (1, .ref (hh 0)), (2, .ref (gO G)), (3, .int (nI tm)), (5, .int (nI (xn v))), (6, .int (xfltN (xx v) (xk v))), (7, .ref q7), (8, .int (sumI (xa v) (xn v))), (9, .int (clrI (xa v) (xn v))), (10, .int (sumI (xl v) (xn v))), (11, .ref q11), (12, .ref q12), (13, .ref q13)]) C dL_law_623 (by decide) rfl ?_
        refine z_aload_n C 7 dL_law_625 rfl rfl ?_
        refine z_callVX (w := (wS G cI cP v)) (w1 := ((wX0 hh cI cZ v2) ++ [(q7, .inl (cI, (xn v), .inl (adF v (xk v))))] ++ [(q11, .inl (cI, (xn v), .inl (fl (xl v) (xn v))))] ++ [(q12, .inl (cI, (xn v), .inl (fl (xa v) (xn v))))] ++ [(q13, .inl (cI, (xn v), .inl (fl (xe v) (xn v))))])) (w2 := ([] : va_W)) (As := []) (rest := []) C (c_X1_pass l D cI cP G B v hI hB) (hAA.call _) zAA.blind (cwV 0 C.words gL_law_X1_pass rfl rfl rfl (by decide +kernel) ⟨(Nat.le_of_ble_eq_true rfl), (Nat.le_of_ble_eq_true rfl)⟩) (q0 := 0) (ci := 1) rfl rfl rfl [0, 2] rfl rfl (Nat.le_of_ble_eq_true rfl) ⟨(by show _ ≤ 600130; omega), (by show _ ≤ 7301080; omega)⟩ (List.append_nil _).symm rfl dL_law_626 (fun G2 hG2 => ?_)
        refine z_ws (List.append_nil _) ?_
        refine z_st (st' := [.int (xdayF v)]) rfl ?_
        refine z_loc (L' := [(18, .int (xdayF v)), (17, .int (xo v)), (16, .int (nI (xk v))), (15, .int (nI (xc v))), (14, .int 1), (0, .ref b), (1, .ref (hh 0)), (2, .ref (gO G2)), (3, .int (nI tm)), (5, .int (nI (xn v))), (6, .int (xfltN (xx v) (xk v))), (7, .ref q7), (8, .int (sumI (xa v) (xn v))), (9, .int (clrI (xa v) (xn v))), (10, .int (sumI (xl v) (xn v))), (11, .ref q11), (12, .ref q12), (13, .ref q13)]) (by rw [show gO G2 = gO G from hG2]) ?_
        refine z_pop C dL_law_629 rfl ?_
        refine z_iload C 0 dL_law_630 rfl ?_
        refine z_iload C 4 dL_law_632 rfl ?_
        refine z_if_eq (tgt := 642) C dL_law_634 (by decide) (fun h9 => absurd h9 (by decide)) (fun _ => ?_)
        refine z_iload C 10 dL_law_637 rfl ?_
        refine z_goto (tgt := 643) C dL_law_639 (by decide) ?_
        refine z_icmp_ne (tgt := 685) C dL_law_643 (by decide) (fun h9 => absurd h9 ((fun q => q (if_neg (audA hI hB c590))))) (fun _ => ?_)
        refine z_aload_n C 6 dL_law_646 rfl rfl ?_
        refine z_callV (w := (wX0 hh cI cZ v2)) (w' := (wX0 hh cI cZ v2)) (w1 := ([] : va_W)) (w2 := ([(q7, .inl (cI, (xn v), .inl (adF v (xk v))))] ++ [(q11, .inl (cI, (xn v), .inl (fl (xl v) (xn v))))] ++ [(q12, .inl (cI, (xn v), .inl (fl (xa v) (xn v))))] ++ [(q13, .inl (cI, (xn v), .inl (fl (xe v) (xn v))))] ++ (wS G2 cI cP (xday v)))) (ws' := ((wX0 hh cI cZ v2) ++ [(q7, .inl (cI, (xn v), .inl (adF v (xk v))))] ++ [(q11, .inl (cI, (xn v), .inl (fl (xl v) (xn v))))] ++ [(q12, .inl (cI, (xn v), .inl (fl (xa v) (xn v))))] ++ [(q13, .inl (cI, (xn v), .inl (fl (xe v) (xn v))))] ++ (wS G2 cI cP (xday v)))) (As := []) (rest := []) (st' := [.int (xo v2)]) (rv := some (.int (xo v2))) C (c_X0_faultsFound l D hh cI cZ v2) (cwV 0 C.words gL_law_X0_faultsFound rfl rfl rfl (by decide +kernel) ⟨(Nat.le_of_ble_eq_true rfl), (Nat.le_of_ble_eq_true rfl)⟩) (q0 := 0) (ci := 0) rfl rfl rfl [0, 1] rfl rfl (Nat.le_of_ble_eq_true rfl) ⟨(by show _ ≤ 600130; omega), (by show _ ≤ 7301080; omega)⟩ rfl rfl rfl rfl rfl dL_law_647 ?_
        refine z_iload C 1 dL_law_650 rfl ?_
        refine z_iload C 0 dL_law_652 rfl ?_
        refine z_iadd C dL_law_654 ?_
        refine z_icmp_ne (tgt := 685) C dL_law_655 (by decide) (fun h9 => absurd h9 ((fun q => q (by rw [hv2]; exact xday_o)))) (fun _ => ?_)
        refine z_aload_n C 6 dL_law_658 rfl rfl ?_
        refine z_callV (w := (wX0 hh cI cZ v2)) (w' := (wX0 hh cI cZ v2)) (w1 := ([] : va_W)) (w2 := ([(q7, .inl (cI, (xn v), .inl (adF v (xk v))))] ++ [(q11, .inl (cI, (xn v), .inl (fl (xl v) (xn v))))] ++ [(q12, .inl (cI, (xn v), .inl (fl (xa v) (xn v))))] ++ [(q13, .inl (cI, (xn v), .inl (fl (xe v) (xn v))))] ++ (wS G2 cI cP (xday v)))) (ws' := ((wX0 hh cI cZ v2) ++ [(q7, .inl (cI, (xn v), .inl (adF v (xk v))))] ++ [(q11, .inl (cI, (xn v), .inl (fl (xl v) (xn v))))] ++ [(q12, .inl (cI, (xn v), .inl (fl (xa v) (xn v))))] ++ [(q13, .inl (cI, (xn v), .inl (fl (xe v) (xn v))))] ++ (wS G2 cI cP (xday v)))) (As := []) (rest := []) (st' := [.int (nI (xk v2))]) (rv := some (.int (nI (xk v2)))) C (c_X0_ledger l D hh cI cZ v2) (cwV 0 C.words gL_law_X0_ledger rfl rfl rfl (by decide +kernel) ⟨(Nat.le_of_ble_eq_true rfl), (Nat.le_of_ble_eq_true rfl)⟩) (q0 := 0) (ci := 0) rfl rfl rfl [0, 1] rfl rfl (Nat.le_of_ble_eq_true rfl) ⟨(by show _ ≤ 600130; omega), (by show _ ≤ 7301080; omega)⟩ rfl rfl rfl rfl rfl dL_law_659 ?_
        refine z_iload C 4 dL_law_662 rfl ?_
        refine z_if_eq (tgt := 671) C dL_law_664 (by decide) (fun h9 => absurd h9 (by decide)) (fun _ => ?_)
        refine z_iconst (v := 0) C dL_law_667 (by decide) ?_
        refine z_goto (tgt := 673) C dL_law_668 (by decide) ?_
        refine z_icmp_ne (tgt := 685) C dL_law_673 (by decide) (fun h9 => absurd h9 ((fun q => q (by rw [hv2]; show nI (xk (xday v)) = _; rw [xday_kA (audA hI hB c590)]; rfl)))) (fun _ => ?_)
        refine z_aload_n C 6 dL_law_676 rfl rfl ?_
        refine z_callV (w := (wX0 hh cI cZ v2)) (w' := (wX0 hh cI cZ v2)) (w1 := ([] : va_W)) (w2 := ([(q7, .inl (cI, (xn v), .inl (adF v (xk v))))] ++ [(q11, .inl (cI, (xn v), .inl (fl (xl v) (xn v))))] ++ [(q12, .inl (cI, (xn v), .inl (fl (xa v) (xn v))))] ++ [(q13, .inl (cI, (xn v), .inl (fl (xe v) (xn v))))] ++ (wS G2 cI cP (xday v)))) (ws' := ((wX0 hh cI cZ v2) ++ [(q7, .inl (cI, (xn v), .inl (adF v (xk v))))] ++ [(q11, .inl (cI, (xn v), .inl (fl (xl v) (xn v))))] ++ [(q12, .inl (cI, (xn v), .inl (fl (xa v) (xn v))))] ++ [(q13, .inl (cI, (xn v), .inl (fl (xe v) (xn v))))] ++ (wS G2 cI cP (xday v)))) (As := []) (rest := []) (st' := [.int (nI (xc v2))]) (rv := some (.int (nI (xc v2)))) C (c_X0_salt l D hh cI cZ v2) (cwV 0 C.words gL_law_X0_salt rfl rfl rfl (by decide +kernel) ⟨(Nat.le_of_ble_eq_true rfl), (Nat.le_of_ble_eq_true rfl)⟩) (q0 := 0) (ci := 0) rfl rfl rfl [0, 1] rfl rfl (Nat.le_of_ble_eq_true rfl) ⟨(by show _ ≤ 600130; omega), (by show _ ≤ 7301080; omega)⟩ rfl rfl rfl rfl rfl dL_law_677 ?_
        refine z_iload C 3 dL_law_680 rfl ?_
        refine z_icmp_eq (tgt := 687) C dL_law_682 (by decide) (fun _ => ?_) (fun h9 => absurd (by rw [hv2]; show nI (xc (xday v)) = _; rw [xday_c2]) h9)
        refine z_iconst (v := 0) C dL_law_687 (by decide) ?_
        refine z_istore (L' := [(19, .int 0), (18, .int (xdayF v)), (17, .int (xo v)), (16, .int (nI (xk v))), (15, .int (nI (xc v))), (14, .int 1), (0, .ref b), (1, .ref (hh 0)), (2, .ref (gO G2)), (3, .int (nI tm)), (5, .int (nI (xn v))), (6, .int (xfltN (xx v) (xk v))), (7, .ref q7), (8, .int (sumI (xa v) (xn v))), (9, .int (clrI (xa v) (xn v))), (10, .int (sumI (xl v) (xn v))), (11, .ref q11), (12, .ref q12), (13, .ref q13)]) C dL_law_688 (by decide) rfl ?_
        refine z_sub (L' := [(0, .ref b), (1, .ref (hh 0)), (2, .ref (gO G2)), (3, .int (nI tm)), (5, .int (nI (xn v))), (7, .ref q7), (11, .ref q11), (12, .ref q12), (13, .ref q13), (14, .int 1), (19, .int 0)]) [6, 7, 8, 9, 10, 12, 16, 17, 18, 5, 0] rfl ?_
        subst hv2
        exact lp690 G2 q7 q11 q12 q13 _ _ _ hG2 ⟨fun q => absurd q (by decide), fun _ => audA hI hB c590⟩ (by omega) (by omega) (xn v) 0 (by omega)
    | succ dd ih =>
      intro i hi
      obtain ⟨l0, a, e0, h1, h2, h3, h4, h5, h6⟩ := hI.row (m := i) (by omega)
      have h1 : xl v i = nI l0 := h1
      have h3 : xa v i = nI a := h3
      have h5 : xe v i = nI e0 := h5
      refine z_iload C 13 dL_law_244 rfl ?_
      refine z_iload C 4 dL_law_246 rfl ?_
      refine z_icmp_ge (tgt := 499) C dL_law_248 (by decide) (fun h9 => absurd h9 (nI_ge (by omega) (by omega))) (fun _ => ?_)
      refine z_aload C 10 dL_law_251 rfl ?_
      refine z_iload C 13 dL_law_253 rfl ?_
      refine z_aload_n C 1 dL_law_255 rfl rfl ?_
      refine z_iload C 13 dL_law_256 rfl ?_
      refine z_callV (w := (wX0 hh cI cZ v)) (w' := (wX0 hh cI cZ v)) (w1 := ([] : va_W)) (w2 := ([(q7, .inl (cI, (xn v), .inl (adF v (xk v))))] ++ [(q11, .inl (cI, (xn v), .inl (fl (xl v) i)))] ++ [(q12, .inl (cI, (xn v), .inl (fl (xa v) i)))] ++ [(q13, .inl (cI, (xn v), .inl (fl (xe v) i)))] ++ (wS G cI cP v))) (ws' := ((wX0 hh cI cZ v) ++ [(q7, .inl (cI, (xn v), .inl (adF v (xk v))))] ++ [(q11, .inl (cI, (xn v), .inl (fl (xl v) i)))] ++ [(q12, .inl (cI, (xn v), .inl (fl (xa v) i)))] ++ [(q13, .inl (cI, (xn v), .inl (fl (xe v) i)))] ++ (wS G cI cP v))) (As := [.int (nI i)]) (rest := [.int (nI i), .ref q11]) (st' := [.int (xl v i), .int (nI i), .ref q11]) (rv := some (.int (xl v i))) C (c_X0_luckOf l D hh cI cZ v i (by omega) (by omega)) (cwV 1 C.words gL_law_X0_luckOf rfl rfl rfl (by decide +kernel) ⟨(Nat.le_of_ble_eq_true rfl), (Nat.le_of_ble_eq_true rfl)⟩) (q0 := 0) (ci := 0) rfl rfl rfl [0, 1] rfl rfl (Nat.le_of_ble_eq_true rfl) ⟨(by show _ ≤ 600130; omega), (by show _ ≤ 7301080; omega)⟩ rfl rfl rfl rfl rfl dL_law_258 ?_
      refine z_iast (ws' := ((wX0 hh cI cZ v) ++ [(q7, .inl (cI, (xn v), .inl (adF v (xk v))))] ++ [(q11, .inl (cI, (xn v), .inl (upd (fl (xl v) i) i (xl v i))))] ++ [(q12, .inl (cI, (xn v), .inl (fl (xa v) i)))] ++ [(q13, .inl (cI, (xn v), .inl (fl (xe v) i)))] ++ (wS G cI cP v))) C 9 0 rfl rfl i rfl (by omega) (by omega) rfl dL_law_261 ?_
      refine z_aload C 11 dL_law_262 rfl ?_
      refine z_iload C 13 dL_law_264 rfl ?_
      refine z_aload_n C 1 dL_law_266 rfl rfl ?_
      refine z_iload C 13 dL_law_267 rfl ?_
      refine z_callV (w := (wX0 hh cI cZ v)) (w' := (wX0 hh cI cZ v)) (w1 := ([] : va_W)) (w2 := ([(q7, .inl (cI, (xn v), .inl (adF v (xk v))))] ++ [(q11, .inl (cI, (xn v), .inl (upd (fl (xl v) i) i (xl v i))))] ++ [(q12, .inl (cI, (xn v), .inl (fl (xa v) i)))] ++ [(q13, .inl (cI, (xn v), .inl (fl (xe v) i)))] ++ (wS G cI cP v))) (ws' := ((wX0 hh cI cZ v) ++ [(q7, .inl (cI, (xn v), .inl (adF v (xk v))))] ++ [(q11, .inl (cI, (xn v), .inl (upd (fl (xl v) i) i (xl v i))))] ++ [(q12, .inl (cI, (xn v), .inl (fl (xa v) i)))] ++ [(q13, .inl (cI, (xn v), .inl (fl (xe v) i)))] ++ (wS G cI cP v))) (As := [.int (nI i)]) (rest := [.int (nI i), .ref q12]) (st' := [.int (xa v i), .int (nI i), .ref q12]) (rv := some (.int (xa v i))) C (c_X0_arrearsOf l D hh cI cZ v i (by omega) (by omega)) (cwV 1 C.words gL_law_X0_arrearsOf rfl rfl rfl (by decide +kernel) ⟨(Nat.le_of_ble_eq_true rfl), (Nat.le_of_ble_eq_true rfl)⟩) (q0 := 0) (ci := 0) rfl rfl rfl [0, 1] rfl rfl (Nat.le_of_ble_eq_true rfl) ⟨(by show _ ≤ 600130; omega), (by show _ ≤ 7301080; omega)⟩ rfl rfl rfl rfl rfl dL_law_269 ?_
      refine z_iast (ws' := ((wX0 hh cI cZ v) ++ [(q7, .inl (cI, (xn v), .inl (adF v (xk v))))] ++ [(q11, .inl (cI, (xn v), .inl (upd (fl (xl v) i) i (xl v i))))] ++ [(q12, .inl (cI, (xn v), .inl (upd (fl (xa v) i) i (xa v i))))] ++ [(q13, .inl (cI, (xn v), .inl (fl (xe v) i)))] ++ (wS G cI cP v))) C 10 0 rfl rfl i rfl (by omega) (by omega) rfl dL_law_272 ?_
      refine z_aload C 12 dL_law_273 rfl ?_
      refine z_iload C 13 dL_law_275 rfl ?_
      refine z_aload_n C 1 dL_law_277 rfl rfl ?_
      refine z_iload C 13 dL_law_278 rfl ?_
      refine z_callV (w := (wX0 hh cI cZ v)) (w' := (wX0 hh cI cZ v)) (w1 := ([] : va_W)) (w2 := ([(q7, .inl (cI, (xn v), .inl (adF v (xk v))))] ++ [(q11, .inl (cI, (xn v), .inl (upd (fl (xl v) i) i (xl v i))))] ++ [(q12, .inl (cI, (xn v), .inl (upd (fl (xa v) i) i (xa v i))))] ++ [(q13, .inl (cI, (xn v), .inl (fl (xe v) i)))] ++ (wS G cI cP v))) (ws' := ((wX0 hh cI cZ v) ++ [(q7, .inl (cI, (xn v), .inl (adF v (xk v))))] ++ [(q11, .inl (cI, (xn v), .inl (upd (fl (xl v) i) i (xl v i))))] ++ [(q12, .inl (cI, (xn v), .inl (upd (fl (xa v) i) i (xa v i))))] ++ [(q13, .inl (cI, (xn v), .inl (fl (xe v) i)))] ++ (wS G cI cP v))) (As := [.int (nI i)]) (rest := [.int (nI i), .ref q13]) (st' := [.int (xe v i), .int (nI i), .ref q13]) (rv := some (.int (xe v i))) C (c_X0_lumpsOf l D hh cI cZ v i (by omega) (by omega)) (cwV 1 C.words gL_law_X0_lumpsOf rfl rfl rfl (by decide +kernel) ⟨(Nat.le_of_ble_eq_true rfl), (Nat.le_of_ble_eq_true rfl)⟩) (q0 := 0) (ci := 0) rfl rfl rfl [0, 1] rfl rfl (Nat.le_of_ble_eq_true rfl) ⟨(by show _ ≤ 600130; omega), (by show _ ≤ 7301080; omega)⟩ rfl rfl rfl rfl rfl dL_law_280 ?_
      refine z_iast (ws' := ((wX0 hh cI cZ v) ++ [(q7, .inl (cI, (xn v), .inl (adF v (xk v))))] ++ [(q11, .inl (cI, (xn v), .inl (upd (fl (xl v) i) i (xl v i))))] ++ [(q12, .inl (cI, (xn v), .inl (upd (fl (xa v) i) i (xa v i))))] ++ [(q13, .inl (cI, (xn v), .inl (upd (fl (xe v) i) i (xe v i))))] ++ (wS G cI cP v))) C 11 0 rfl rfl i rfl (by omega) (by omega) rfl dL_law_283 ?_
      refine z_iload C 7 dL_law_284 rfl ?_
      refine z_aload C 11 dL_law_286 rfl ?_
      refine z_iload C 13 dL_law_288 rfl ?_
      refine z_iald (f := upd (fl (xa v) i) i (xa v i)) C 10 0 rfl rfl i rfl (by omega) (by omega) dL_law_290 ?_
      refine z_top (y := xa v i) pk_us ?_
      refine z_iadd C dL_law_291 ?_
      refine z_istore (L' := [(8, .int ((sumI (xa v) i) + (xa v i))), (0, .ref b), (1, .ref (hh 0)), (2, .ref (gO G)), (3, .int (nI tm)), (5, .int (nI (xn v))), (6, .int (xfltN (xx v) (xk v))), (7, .ref q7), (9, .int (clrI (xa v) i)), (10, .int (sumI (xl v) i)), (11, .ref q11), (12, .ref q12), (13, .ref q13), (14, .int (nI i))]) C dL_law_292 (by decide) rfl ?_
      refine z_iload C 8 dL_law_294 rfl ?_
      refine z_aload C 11 dL_law_296 rfl ?_
      refine z_iload C 13 dL_law_298 rfl ?_
      refine z_iald (f := upd (fl (xa v) i) i (xa v i)) C 10 0 rfl rfl i rfl (by omega) (by omega) dL_law_300 ?_
      refine z_top (y := xa v i) pk_us ?_
      refine z_if_ne (tgt := 308) C dL_law_301 (by decide) (fun c301 => ?_) (fun c301 => ?_)
      · skip
        refine z_iconst (v := 0) C dL_law_308 (by decide) ?_
        refine z_iadd C dL_law_309 ?_
        refine z_top (y := clrI (xa v) (i + 1)) (show clrI (xa v) i + 0 = (if xa v i = 0 then clrI (xa v) i + 1 else clrI (xa v) i) from by rw [if_neg c301, Int32.add_zero]) ?_
        refine z_istore (L' := [(9, .int (clrI (xa v) (i + 1))), (8, .int ((sumI (xa v) i) + (xa v i))), (0, .ref b), (1, .ref (hh 0)), (2, .ref (gO G)), (3, .int (nI tm)), (5, .int (nI (xn v))), (6, .int (xfltN (xx v) (xk v))), (7, .ref q7), (10, .int (sumI (xl v) i)), (11, .ref q11), (12, .ref q12), (13, .ref q13), (14, .int (nI i))]) C dL_law_310 (by decide) rfl ?_
        refine z_iload C 9 dL_law_312 rfl ?_
        refine z_aload C 10 dL_law_314 rfl ?_
        refine z_iload C 13 dL_law_316 rfl ?_
        refine z_iald (f := upd (fl (xl v) i) i (xl v i)) C 9 0 rfl rfl i rfl (by omega) (by omega) dL_law_318 ?_
        refine z_top (y := xl v i) pk_us ?_
        refine z_iadd C dL_law_319 ?_
        refine z_istore (L' := [(10, .int ((sumI (xl v) i) + (xl v i))), (9, .int (clrI (xa v) (i + 1))), (8, .int ((sumI (xa v) i) + (xa v i))), (0, .ref b), (1, .ref (hh 0)), (2, .ref (gO G)), (3, .int (nI tm)), (5, .int (nI (xn v))), (6, .int (xfltN (xx v) (xk v))), (7, .ref q7), (11, .ref q11), (12, .ref q12), (13, .ref q13), (14, .int (nI i))]) C dL_law_320 (by decide) rfl ?_
        refine z_aload C 10 dL_law_322 rfl ?_
        refine z_iload C 13 dL_law_324 rfl ?_
        refine z_iald (f := upd (fl (xl v) i) i (xl v i)) C 9 0 rfl rfl i rfl (by omega) (by omega) dL_law_326 ?_
        refine z_top (y := xl v i) pk_us ?_
        refine z_if_lt (tgt := 406) C dL_law_327 (by decide) (fun h9 => absurd h9 (by rw [h1]; exact nI_pos (by omega))) (fun _ => ?_)
        refine z_aload C 10 dL_law_330 rfl ?_
        refine z_iload C 13 dL_law_332 rfl ?_
        refine z_iald (f := upd (fl (xl v) i) i (xl v i)) C 9 0 rfl rfl i rfl (by omega) (by omega) dL_law_334 ?_
        refine z_top (y := xl v i) pk_us ?_
        refine z_bipush (v := 100) C dL_law_335 (by decide) ?_
        refine z_icmp_gt (tgt := 406) C dL_law_337 (by decide) (fun h9 => absurd h9 (by rw [h1]; exact nI_nlt (a := 100) (b := l0) (by omega) (by omega))) (fun _ => ?_)
        refine z_aload C 11 dL_law_340 rfl ?_
        refine z_iload C 13 dL_law_342 rfl ?_
        refine z_iald (f := upd (fl (xa v) i) i (xa v i)) C 10 0 rfl rfl i rfl (by omega) (by omega) dL_law_344 ?_
        refine z_top (y := xa v i) pk_us ?_
        refine z_if_lt (tgt := 406) C dL_law_345 (by decide) (fun h9 => absurd h9 (by rw [h3]; exact nI_pos (by omega))) (fun _ => ?_)
        refine z_aload C 11 dL_law_348 rfl ?_
        refine z_iload C 13 dL_law_350 rfl ?_
        refine z_iald (f := upd (fl (xa v) i) i (xa v i)) C 10 0 rfl rfl i rfl (by omega) (by omega) dL_law_352 ?_
        refine z_top (y := xa v i) pk_us ?_
        refine z_bipush (v := 99) C dL_law_353 (by decide) ?_
        refine z_icmp_gt (tgt := 406) C dL_law_355 (by decide) (fun h9 => absurd h9 (by rw [h3]; exact nI_nlt (a := 99) (b := a) (by omega) (by omega))) (fun _ => ?_)
        refine z_aload C 12 dL_law_358 rfl ?_
        refine z_iload C 13 dL_law_360 rfl ?_
        refine z_iald (f := upd (fl (xe v) i) i (xe v i)) C 11 0 rfl rfl i rfl (by omega) (by omega) dL_law_362 ?_
        refine z_top (y := xe v i) pk_us ?_
        refine z_if_lt (tgt := 406) C dL_law_363 (by decide) (fun h9 => absurd h9 (by rw [h5]; exact nI_pos (by omega))) (fun _ => ?_)
        refine z_aload C 12 dL_law_366 rfl ?_
        refine z_iload C 13 dL_law_368 rfl ?_
        refine z_iald (f := upd (fl (xe v) i) i (xe v i)) C 11 0 rfl rfl i rfl (by omega) (by omega) dL_law_370 ?_
        refine z_top (y := xe v i) pk_us ?_
        refine z_bipush (v := 9) C dL_law_371 (by decide) ?_
        refine z_icmp_gt (tgt := 406) C dL_law_373 (by decide) (fun h9 => absurd h9 (by rw [h5]; exact nI_nlt (a := 9) (b := e0) (by omega) (by omega))) (fun _ => ?_)
        refine z_aload_n C 4 dL_law_376 rfl rfl ?_
        refine z_iload C 13 dL_law_377 rfl ?_
        refine z_callV (w := (wX0 hh cI cZ v)) (w' := (wX0 hh cI cZ v)) (w1 := ([] : va_W)) (w2 := ([(q7, .inl (cI, (xn v), .inl (adF v (xk v))))] ++ [(q11, .inl (cI, (xn v), .inl (upd (fl (xl v) i) i (xl v i))))] ++ [(q12, .inl (cI, (xn v), .inl (upd (fl (xa v) i) i (xa v i))))] ++ [(q13, .inl (cI, (xn v), .inl (upd (fl (xe v) i) i (xe v i))))] ++ (wS G cI cP v))) (ws' := ((wX0 hh cI cZ v) ++ [(q7, .inl (cI, (xn v), .inl (adF v (xk v))))] ++ [(q11, .inl (cI, (xn v), .inl (upd (fl (xl v) i) i (xl v i))))] ++ [(q12, .inl (cI, (xn v), .inl (upd (fl (xa v) i) i (xa v i))))] ++ [(q13, .inl (cI, (xn v), .inl (upd (fl (xe v) i) i (xe v i))))] ++ (wS G cI cP v))) (As := [.int (nI i)]) (rest := []) (st' := [.int (xdebt v (nI i))]) (rv := some (.int (xdebt v (nI i)))) C (c_X0_arrearsByAudit l D hh cI cZ v i (by omega) (by omega) (by omega)) (cwV 1 C.words gL_law_X0_arrearsByAudit rfl rfl rfl (by decide +kernel) ⟨(Nat.le_of_ble_eq_true rfl), (Nat.le_of_ble_eq_true rfl)⟩) (q0 := 0) (ci := 0) rfl rfl rfl [0, 1] rfl rfl (Nat.le_of_ble_eq_true rfl) ⟨(by show _ ≤ 600130; omega), (by show _ ≤ 7301080; omega)⟩ rfl rfl rfl rfl rfl dL_law_379 ?_
        refine z_aload C 9 dL_law_382 rfl ?_
        refine z_iload C 13 dL_law_384 rfl ?_
        refine z_iald (f := adF v (xk v)) C 8 0 rfl rfl i rfl (by omega) (by omega) dL_law_386 ?_
        refine z_top (y := xdebt v (nI i)) (adF_at (by omega)) ?_
        refine z_icmp_ne (tgt := 406) C dL_law_387 (by decide) (fun h9 => absurd h9 ((fun q => q rfl))) (fun _ => ?_)
        refine z_aload C 10 dL_law_390 rfl ?_
        refine z_iload C 13 dL_law_392 rfl ?_
        refine z_iald (f := upd (fl (xl v) i) i (xl v i)) C 9 0 rfl rfl i rfl (by omega) (by omega) dL_law_394 ?_
        refine z_top (y := xl v i) pk_us ?_
        refine z_aload_n C 4 dL_law_395 rfl rfl ?_
        refine z_aload_n C 4 dL_law_396 rfl rfl ?_
        refine z_callV (w := (wX0 hh cI cZ v)) (w' := (wX0 hh cI cZ v)) (w1 := ([] : va_W)) (w2 := ([(q7, .inl (cI, (xn v), .inl (adF v (xk v))))] ++ [(q11, .inl (cI, (xn v), .inl (upd (fl (xl v) i) i (xl v i))))] ++ [(q12, .inl (cI, (xn v), .inl (upd (fl (xa v) i) i (xa v i))))] ++ [(q13, .inl (cI, (xn v), .inl (upd (fl (xe v) i) i (xe v i))))] ++ (wS G cI cP v))) (ws' := ((wX0 hh cI cZ v) ++ [(q7, .inl (cI, (xn v), .inl (adF v (xk v))))] ++ [(q11, .inl (cI, (xn v), .inl (upd (fl (xl v) i) i (xl v i))))] ++ [(q12, .inl (cI, (xn v), .inl (upd (fl (xa v) i) i (xa v i))))] ++ [(q13, .inl (cI, (xn v), .inl (upd (fl (xe v) i) i (xe v i))))] ++ (wS G cI cP v))) (As := []) (rest := [.ref (hh 0), .int (xl v i)]) (st' := [.int ((lukN (xl v) (xn v)).1), .ref (hh 0), .int (xl v i)]) (rv := some (.int ((lukN (xl v) (xn v)).1))) C (c_X0_luckiest l D hh cI cZ v (by omega)) (cwV 0 C.words gL_law_X0_luckiest rfl rfl rfl (by decide +kernel) ⟨(Nat.le_of_ble_eq_true rfl), (Nat.le_of_ble_eq_true rfl)⟩) (q0 := 0) (ci := 0) rfl rfl rfl [0, 1] rfl rfl (Nat.le_of_ble_eq_true rfl) ⟨(by show _ ≤ 600130; omega), (by show _ ≤ 7301080; omega)⟩ rfl rfl rfl rfl rfl dL_law_397 ?_
        refine z_top (y := nI bb) hb2 ?_
        refine z_callV (w := (wX0 hh cI cZ v)) (w' := (wX0 hh cI cZ v)) (w1 := ([] : va_W)) (w2 := ([(q7, .inl (cI, (xn v), .inl (adF v (xk v))))] ++ [(q11, .inl (cI, (xn v), .inl (upd (fl (xl v) i) i (xl v i))))] ++ [(q12, .inl (cI, (xn v), .inl (upd (fl (xa v) i) i (xa v i))))] ++ [(q13, .inl (cI, (xn v), .inl (upd (fl (xe v) i) i (xe v i))))] ++ (wS G cI cP v))) (ws' := ((wX0 hh cI cZ v) ++ [(q7, .inl (cI, (xn v), .inl (adF v (xk v))))] ++ [(q11, .inl (cI, (xn v), .inl (upd (fl (xl v) i) i (xl v i))))] ++ [(q12, .inl (cI, (xn v), .inl (upd (fl (xa v) i) i (xa v i))))] ++ [(q13, .inl (cI, (xn v), .inl (upd (fl (xe v) i) i (xe v i))))] ++ (wS G cI cP v))) (As := [.int (nI bb)]) (rest := [.int (xl v i)]) (st' := [.int (xl v bb), .int (xl v i)]) (rv := some (.int (xl v bb))) C (c_X0_luckOf l D hh cI cZ v bb (by omega) (by omega)) (cwV 1 C.words gL_law_X0_luckOf rfl rfl rfl (by decide +kernel) ⟨(Nat.le_of_ble_eq_true rfl), (Nat.le_of_ble_eq_true rfl)⟩) (q0 := 0) (ci := 0) rfl rfl rfl [0, 1] rfl rfl (Nat.le_of_ble_eq_true rfl) ⟨(by show _ ≤ 600130; omega), (by show _ ≤ 7301080; omega)⟩ rfl rfl rfl rfl rfl dL_law_400 ?_
        refine z_icmp_le (tgt := 408) C dL_law_403 (by decide) (fun _ => ?_) (fun h9 => absurd (hb3 i (by omega)) h9)
        refine z_aload_n C 4 dL_law_408 rfl rfl ?_
        refine z_iload C 13 dL_law_409 rfl ?_
        refine z_callV (w := (wX0 hh cI cZ v)) (w' := (wX0 hh cI cZ v)) (w1 := ([] : va_W)) (w2 := ([(q7, .inl (cI, (xn v), .inl (adF v (xk v))))] ++ [(q11, .inl (cI, (xn v), .inl (upd (fl (xl v) i) i (xl v i))))] ++ [(q12, .inl (cI, (xn v), .inl (upd (fl (xa v) i) i (xa v i))))] ++ [(q13, .inl (cI, (xn v), .inl (upd (fl (xe v) i) i (xe v i))))] ++ (wS G cI cP v))) (ws' := ((wX0 hh cI cZ v) ++ [(q7, .inl (cI, (xn v), .inl (adF v (xk v))))] ++ [(q11, .inl (cI, (xn v), .inl (upd (fl (xl v) i) i (xl v i))))] ++ [(q12, .inl (cI, (xn v), .inl (upd (fl (xa v) i) i (xa v i))))] ++ [(q13, .inl (cI, (xn v), .inl (upd (fl (xe v) i) i (xe v i))))] ++ (wS G cI cP v))) (As := [.int (nI i)]) (rest := []) (st' := [.int (xloss v i)]) (rv := some (.int (xloss v i))) C (c_X0_dailyLoss l D hh cI cZ v i (by omega) (by omega)) (cwV 1 C.words gL_law_X0_dailyLoss rfl rfl rfl (by decide +kernel) ⟨(Nat.le_of_ble_eq_true rfl), (Nat.le_of_ble_eq_true rfl)⟩) (q0 := 0) (ci := 0) rfl rfl rfl [0, 1] rfl rfl (Nat.le_of_ble_eq_true rfl) ⟨(by show _ ≤ 600130; omega), (by show _ ≤ 7301080; omega)⟩ rfl rfl rfl rfl rfl dL_law_411 ?_
        refine z_istore (L' := [(15, .int (xloss v i)), (10, .int ((sumI (xl v) i) + (xl v i))), (9, .int (clrI (xa v) (i + 1))), (8, .int ((sumI (xa v) i) + (xa v i))), (0, .ref b), (1, .ref (hh 0)), (2, .ref (gO G)), (3, .int (nI tm)), (5, .int (nI (xn v))), (6, .int (xfltN (xx v) (xk v))), (7, .ref q7), (11, .ref q11), (12, .ref q12), (13, .ref q13), (14, .int (nI i))]) C dL_law_414 (by decide) rfl ?_
        refine z_iload C 0 dL_law_416 rfl ?_
        refine z_if_le (tgt := 425) C dL_law_418 (by decide) (fun c418 => ?_) (fun c418 => ?_)
        · skip
          refine z_iconst (v := 0) C dL_law_425 (by decide) ?_
          refine z_aload C 13 dL_law_426 rfl ?_
          refine z_iload C 14 dL_law_428 rfl ?_
          refine z_iald (f := upd (fl (xe v) i) i (xe v i)) C 11 0 rfl rfl i rfl (by omega) (by omega) dL_law_430 ?_
          refine z_top (y := xe v i) pk_us ?_
          refine z_if_ne (tgt := 446) C dL_law_431 (by decide) (fun c431 => ?_) (fun c431 => ?_)
          · skip
            refine z_iconst (v := 0) C dL_law_446 (by decide) ?_
            refine z_icmp_ne (tgt := 491) C dL_law_447 (by decide) (fun h9 => absurd h9 (fun q => q rfl)) (fun _ => ?_)
            refine z_iload C 0 dL_law_450 rfl ?_
            refine z_bipush (v := 10) C dL_law_452 (by decide) ?_
            refine z_icmp_gt (tgt := 491) C dL_law_454 (by decide) (fun h9 => absurd h9 (law_10 (hI.row (m := i) (by omega)))) (fun _ => ?_)
            refine z_iload C 0 dL_law_457 rfl ?_
            refine z_if_le (tgt := 493) C dL_law_459 (by decide) (fun _ => ?_) (fun h9 => absurd (c418) h9)
            refine z_iinc (v := nI (i + 1)) (L' := [(14, .int (nI (i + 1))), (15, .int (xloss v i)), (10, .int ((sumI (xl v) i) + (xl v i))), (9, .int (clrI (xa v) (i + 1))), (8, .int ((sumI (xa v) i) + (xa v i))), (0, .ref b), (1, .ref (hh 0)), (2, .ref (gO G)), (3, .int (nI tm)), (5, .int (nI (xn v))), (6, .int (xfltN (xx v) (xk v))), (7, .ref q7), (11, .ref q11), (12, .ref q12), (13, .ref q13)]) C 14 dL_law_493 rfl (z_inc _) (by decide) rfl ?_
            refine z_goto (tgt := 244) C dL_law_496 (by decide) ?_
            refine z_sub (L' := [(0, .ref b), (1, .ref (hh 0)), (2, .ref (gO G)), (3, .int (nI tm)), (5, .int (nI (xn v))), (6, .int (xfltN (xx v) (xk v))), (7, .ref q7), (8, .int ((sumI (xa v) i) + (xa v i))), (9, .int (clrI (xa v) (i + 1))), (10, .int ((sumI (xl v) i) + (xl v i))), (11, .ref q11), (12, .ref q12), (13, .ref q13), (14, .int (nI (i + 1)))]) [5, 6, 7, 8, 9, 10, 11, 4, 3, 2, 12, 13, 14, 0] rfl ?_
            exact (by have e9 := ih (i + 1) (by omega); rw [← fl_s (f := xl v), ← fl_s (f := xa v), ← fl_s (f := xe v)] at e9; exact e9)
          · skip
            refine z_aload C 12 dL_law_434 rfl ?_
            refine z_iload C 14 dL_law_436 rfl ?_
            refine z_iald (f := upd (fl (xa v) i) i (xa v i)) C 10 0 rfl rfl i rfl (by omega) (by omega) dL_law_438 ?_
            refine z_top (y := xa v i) pk_us ?_
            refine z_if_le (tgt := 446) C dL_law_439 (by decide) (fun c439 => ?_) (fun c439 => ?_)
            · skip
              refine z_iconst (v := 0) C dL_law_446 (by decide) ?_
              refine z_icmp_ne (tgt := 491) C dL_law_447 (by decide) (fun h9 => absurd h9 (fun q => q rfl)) (fun _ => ?_)
              refine z_iload C 0 dL_law_450 rfl ?_
              refine z_bipush (v := 10) C dL_law_452 (by decide) ?_
              refine z_icmp_gt (tgt := 491) C dL_law_454 (by decide) (fun h9 => absurd h9 (law_10 (hI.row (m := i) (by omega)))) (fun _ => ?_)
              refine z_iload C 0 dL_law_457 rfl ?_
              refine z_if_le (tgt := 493) C dL_law_459 (by decide) (fun _ => ?_) (fun h9 => absurd (c418) h9)
              refine z_iinc (v := nI (i + 1)) (L' := [(14, .int (nI (i + 1))), (15, .int (xloss v i)), (10, .int ((sumI (xl v) i) + (xl v i))), (9, .int (clrI (xa v) (i + 1))), (8, .int ((sumI (xa v) i) + (xa v i))), (0, .ref b), (1, .ref (hh 0)), (2, .ref (gO G)), (3, .int (nI tm)), (5, .int (nI (xn v))), (6, .int (xfltN (xx v) (xk v))), (7, .ref q7), (11, .ref q11), (12, .ref q12), (13, .ref q13)]) C 14 dL_law_493 rfl (z_inc _) (by decide) rfl ?_
              refine z_goto (tgt := 244) C dL_law_496 (by decide) ?_
              refine z_sub (L' := [(0, .ref b), (1, .ref (hh 0)), (2, .ref (gO G)), (3, .int (nI tm)), (5, .int (nI (xn v))), (6, .int (xfltN (xx v) (xk v))), (7, .ref q7), (8, .int ((sumI (xa v) i) + (xa v i))), (9, .int (clrI (xa v) (i + 1))), (10, .int ((sumI (xl v) i) + (xl v i))), (11, .ref q11), (12, .ref q12), (13, .ref q13), (14, .int (nI (i + 1)))]) [5, 6, 7, 8, 9, 10, 11, 4, 3, 2, 12, 13, 14, 0] rfl ?_
              exact (by have e9 := ih (i + 1) (by omega); rw [← fl_s (f := xl v), ← fl_s (f := xa v), ← fl_s (f := xe v)] at e9; exact e9)
            · skip
              refine z_iconst (v := 1) C dL_law_442 (by decide) ?_
              refine z_goto (tgt := 447) C dL_law_443 (by decide) ?_
              exact (law_c1 h3 h4 c418 c431 c439).elim
        · skip
          refine z_iconst (v := 1) C dL_law_421 (by decide) ?_
          refine z_goto (tgt := 426) C dL_law_422 (by decide) ?_
          refine z_aload C 13 dL_law_426 rfl ?_
          refine z_iload C 14 dL_law_428 rfl ?_
          refine z_iald (f := upd (fl (xe v) i) i (xe v i)) C 11 0 rfl rfl i rfl (by omega) (by omega) dL_law_430 ?_
          refine z_top (y := xe v i) pk_us ?_
          refine z_if_ne (tgt := 446) C dL_law_431 (by decide) (fun c431 => ?_) (fun c431 => ?_)
          · skip
            refine z_iconst (v := 0) C dL_law_446 (by decide) ?_
            exact (law_c2 (hI.row (m := i) (by omega)) c418 c431).elim
          · skip
            refine z_aload C 12 dL_law_434 rfl ?_
            refine z_iload C 14 dL_law_436 rfl ?_
            refine z_iald (f := upd (fl (xa v) i) i (xa v i)) C 10 0 rfl rfl i rfl (by omega) (by omega) dL_law_438 ?_
            refine z_top (y := xa v i) pk_us ?_
            refine z_if_le (tgt := 446) C dL_law_439 (by decide) (fun c439 => ?_) (fun c439 => ?_)
            · skip
              refine z_iconst (v := 0) C dL_law_446 (by decide) ?_
              exact (law_c3 h3 h4 c418 c431 c439).elim
            · skip
              refine z_iconst (v := 1) C dL_law_442 (by decide) ?_
              refine z_goto (tgt := 447) C dL_law_443 (by decide) ?_
              refine z_icmp_ne (tgt := 491) C dL_law_447 (by decide) (fun h9 => absurd h9 (fun q => q rfl)) (fun _ => ?_)
              refine z_iload C 0 dL_law_450 rfl ?_
              refine z_bipush (v := 10) C dL_law_452 (by decide) ?_
              refine z_icmp_gt (tgt := 491) C dL_law_454 (by decide) (fun h9 => absurd h9 (law_10 (hI.row (m := i) (by omega)))) (fun _ => ?_)
              refine z_iload C 0 dL_law_457 rfl ?_
              refine z_if_le (tgt := 493) C dL_law_459 (by decide) (fun h9 => absurd h9 (c418)) (fun _ => ?_)
              refine z_bipush (v := 10) C dL_law_462 (by decide) ?_
              refine z_iload C 0 dL_law_464 rfl ?_
              refine z_imul C dL_law_466 ?_
              refine z_aload C 12 dL_law_467 rfl ?_
              refine z_iload C 14 dL_law_469 rfl ?_
              refine z_iald (f := upd (fl (xa v) i) i (xa v i)) C 10 0 rfl rfl i rfl (by omega) (by omega) dL_law_471 ?_
              refine z_top (y := xa v i) pk_us ?_
              refine z_icmp_lt (tgt := 491) C dL_law_472 (by decide) (fun h9 => absurd h9 (law_a h3 h4 c431)) (fun _ => ?_)
              refine z_bipush (v := 10) C dL_law_475 (by decide) ?_
              refine z_iload C 0 dL_law_477 rfl ?_
              refine z_imul C dL_law_479 ?_
              refine z_bipush (v := 10) C dL_law_480 (by decide) ?_
              refine z_isub C dL_law_482 ?_
              refine z_aload C 12 dL_law_483 rfl ?_
              refine z_iload C 14 dL_law_485 rfl ?_
              refine z_iald (f := upd (fl (xa v) i) i (xa v i)) C 10 0 rfl rfl i rfl (by omega) (by omega) dL_law_487 ?_
              refine z_top (y := xa v i) pk_us ?_
              refine z_icmp_lt (tgt := 493) C dL_law_488 (by decide) (fun _ => ?_) (fun h9 => absurd (law_b h3 h4 c431 c439) h9)
              refine z_iinc (v := nI (i + 1)) (L' := [(14, .int (nI (i + 1))), (15, .int (xloss v i)), (10, .int ((sumI (xl v) i) + (xl v i))), (9, .int (clrI (xa v) (i + 1))), (8, .int ((sumI (xa v) i) + (xa v i))), (0, .ref b), (1, .ref (hh 0)), (2, .ref (gO G)), (3, .int (nI tm)), (5, .int (nI (xn v))), (6, .int (xfltN (xx v) (xk v))), (7, .ref q7), (11, .ref q11), (12, .ref q12), (13, .ref q13)]) C 14 dL_law_493 rfl (z_inc _) (by decide) rfl ?_
              refine z_goto (tgt := 244) C dL_law_496 (by decide) ?_
              refine z_sub (L' := [(0, .ref b), (1, .ref (hh 0)), (2, .ref (gO G)), (3, .int (nI tm)), (5, .int (nI (xn v))), (6, .int (xfltN (xx v) (xk v))), (7, .ref q7), (8, .int ((sumI (xa v) i) + (xa v i))), (9, .int (clrI (xa v) (i + 1))), (10, .int ((sumI (xl v) i) + (xl v i))), (11, .ref q11), (12, .ref q12), (13, .ref q13), (14, .int (nI (i + 1)))]) [5, 6, 7, 8, 9, 10, 11, 4, 3, 2, 12, 13, 14, 0] rfl ?_
              exact (by have e9 := ih (i + 1) (by omega); rw [← fl_s (f := xl v), ← fl_s (f := xa v), ← fl_s (f := xe v)] at e9; exact e9)
      · skip
        refine z_iconst (v := 1) C dL_law_304 (by decide) ?_
        refine z_goto (tgt := 309) C dL_law_305 (by decide) ?_
        refine z_iadd C dL_law_309 ?_
        refine z_top (y := clrI (xa v) (i + 1)) (show clrI (xa v) i + 1 = (if xa v i = 0 then clrI (xa v) i + 1 else clrI (xa v) i) from by rw [if_pos c301]) ?_
        refine z_istore (L' := [(9, .int (clrI (xa v) (i + 1))), (8, .int ((sumI (xa v) i) + (xa v i))), (0, .ref b), (1, .ref (hh 0)), (2, .ref (gO G)), (3, .int (nI tm)), (5, .int (nI (xn v))), (6, .int (xfltN (xx v) (xk v))), (7, .ref q7), (10, .int (sumI (xl v) i)), (11, .ref q11), (12, .ref q12), (13, .ref q13), (14, .int (nI i))]) C dL_law_310 (by decide) rfl ?_
        refine z_iload C 9 dL_law_312 rfl ?_
        refine z_aload C 10 dL_law_314 rfl ?_
        refine z_iload C 13 dL_law_316 rfl ?_
        refine z_iald (f := upd (fl (xl v) i) i (xl v i)) C 9 0 rfl rfl i rfl (by omega) (by omega) dL_law_318 ?_
        refine z_top (y := xl v i) pk_us ?_
        refine z_iadd C dL_law_319 ?_
        refine z_istore (L' := [(10, .int ((sumI (xl v) i) + (xl v i))), (9, .int (clrI (xa v) (i + 1))), (8, .int ((sumI (xa v) i) + (xa v i))), (0, .ref b), (1, .ref (hh 0)), (2, .ref (gO G)), (3, .int (nI tm)), (5, .int (nI (xn v))), (6, .int (xfltN (xx v) (xk v))), (7, .ref q7), (11, .ref q11), (12, .ref q12), (13, .ref q13), (14, .int (nI i))]) C dL_law_320 (by decide) rfl ?_
        refine z_aload C 10 dL_law_322 rfl ?_
        refine z_iload C 13 dL_law_324 rfl ?_
        refine z_iald (f := upd (fl (xl v) i) i (xl v i)) C 9 0 rfl rfl i rfl (by omega) (by omega) dL_law_326 ?_
        refine z_top (y := xl v i) pk_us ?_
        refine z_if_lt (tgt := 406) C dL_law_327 (by decide) (fun h9 => absurd h9 (by rw [h1]; exact nI_pos (by omega))) (fun _ => ?_)
        refine z_aload C 10 dL_law_330 rfl ?_
        refine z_iload C 13 dL_law_332 rfl ?_
        refine z_iald (f := upd (fl (xl v) i) i (xl v i)) C 9 0 rfl rfl i rfl (by omega) (by omega) dL_law_334 ?_
        refine z_top (y := xl v i) pk_us ?_
        refine z_bipush (v := 100) C dL_law_335 (by decide) ?_
        refine z_icmp_gt (tgt := 406) C dL_law_337 (by decide) (fun h9 => absurd h9 (by rw [h1]; exact nI_nlt (a := 100) (b := l0) (by omega) (by omega))) (fun _ => ?_)
        refine z_aload C 11 dL_law_340 rfl ?_
        refine z_iload C 13 dL_law_342 rfl ?_
        refine z_iald (f := upd (fl (xa v) i) i (xa v i)) C 10 0 rfl rfl i rfl (by omega) (by omega) dL_law_344 ?_
        refine z_top (y := xa v i) pk_us ?_
        refine z_if_lt (tgt := 406) C dL_law_345 (by decide) (fun h9 => absurd h9 (by rw [h3]; exact nI_pos (by omega))) (fun _ => ?_)
        refine z_aload C 11 dL_law_348 rfl ?_
        refine z_iload C 13 dL_law_350 rfl ?_
        refine z_iald (f := upd (fl (xa v) i) i (xa v i)) C 10 0 rfl rfl i rfl (by omega) (by omega) dL_law_352 ?_
        refine z_top (y := xa v i) pk_us ?_
        refine z_bipush (v := 99) C dL_law_353 (by decide) ?_
        refine z_icmp_gt (tgt := 406) C dL_law_355 (by decide) (fun h9 => absurd h9 (by rw [h3]; exact nI_nlt (a := 99) (b := a) (by omega) (by omega))) (fun _ => ?_)
        refine z_aload C 12 dL_law_358 rfl ?_
        refine z_iload C 13 dL_law_360 rfl ?_
        refine z_iald (f := upd (fl (xe v) i) i (xe v i)) C 11 0 rfl rfl i rfl (by omega) (by omega) dL_law_362 ?_
        refine z_top (y := xe v i) pk_us ?_
        refine z_if_lt (tgt := 406) C dL_law_363 (by decide) (fun h9 => absurd h9 (by rw [h5]; exact nI_pos (by omega))) (fun _ => ?_)
        refine z_aload C 12 dL_law_366 rfl ?_
        refine z_iload C 13 dL_law_368 rfl ?_
        refine z_iald (f := upd (fl (xe v) i) i (xe v i)) C 11 0 rfl rfl i rfl (by omega) (by omega) dL_law_370 ?_
        refine z_top (y := xe v i) pk_us ?_
        refine z_bipush (v := 9) C dL_law_371 (by decide) ?_
        refine z_icmp_gt (tgt := 406) C dL_law_373 (by decide) (fun h9 => absurd h9 (by rw [h5]; exact nI_nlt (a := 9) (b := e0) (by omega) (by omega))) (fun _ => ?_)
        refine z_aload_n C 4 dL_law_376 rfl rfl ?_
        refine z_iload C 13 dL_law_377 rfl ?_
        refine z_callV (w := (wX0 hh cI cZ v)) (w' := (wX0 hh cI cZ v)) (w1 := ([] : va_W)) (w2 := ([(q7, .inl (cI, (xn v), .inl (adF v (xk v))))] ++ [(q11, .inl (cI, (xn v), .inl (upd (fl (xl v) i) i (xl v i))))] ++ [(q12, .inl (cI, (xn v), .inl (upd (fl (xa v) i) i (xa v i))))] ++ [(q13, .inl (cI, (xn v), .inl (upd (fl (xe v) i) i (xe v i))))] ++ (wS G cI cP v))) (ws' := ((wX0 hh cI cZ v) ++ [(q7, .inl (cI, (xn v), .inl (adF v (xk v))))] ++ [(q11, .inl (cI, (xn v), .inl (upd (fl (xl v) i) i (xl v i))))] ++ [(q12, .inl (cI, (xn v), .inl (upd (fl (xa v) i) i (xa v i))))] ++ [(q13, .inl (cI, (xn v), .inl (upd (fl (xe v) i) i (xe v i))))] ++ (wS G cI cP v))) (As := [.int (nI i)]) (rest := []) (st' := [.int (xdebt v (nI i))]) (rv := some (.int (xdebt v (nI i)))) C (c_X0_arrearsByAudit l D hh cI cZ v i (by omega) (by omega) (by omega)) (cwV 1 C.words gL_law_X0_arrearsByAudit rfl rfl rfl (by decide +kernel) ⟨(Nat.le_of_ble_eq_true rfl), (Nat.le_of_ble_eq_true rfl)⟩) (q0 := 0) (ci := 0) rfl rfl rfl [0, 1] rfl rfl (Nat.le_of_ble_eq_true rfl) ⟨(by show _ ≤ 600130; omega), (by show _ ≤ 7301080; omega)⟩ rfl rfl rfl rfl rfl dL_law_379 ?_
        refine z_aload C 9 dL_law_382 rfl ?_
        refine z_iload C 13 dL_law_384 rfl ?_
        refine z_iald (f := adF v (xk v)) C 8 0 rfl rfl i rfl (by omega) (by omega) dL_law_386 ?_
        refine z_top (y := xdebt v (nI i)) (adF_at (by omega)) ?_
        refine z_icmp_ne (tgt := 406) C dL_law_387 (by decide) (fun h9 => absurd h9 ((fun q => q rfl))) (fun _ => ?_)
        refine z_aload C 10 dL_law_390 rfl ?_
        refine z_iload C 13 dL_law_392 rfl ?_
        refine z_iald (f := upd (fl (xl v) i) i (xl v i)) C 9 0 rfl rfl i rfl (by omega) (by omega) dL_law_394 ?_
        refine z_top (y := xl v i) pk_us ?_
        refine z_aload_n C 4 dL_law_395 rfl rfl ?_
        refine z_aload_n C 4 dL_law_396 rfl rfl ?_
        refine z_callV (w := (wX0 hh cI cZ v)) (w' := (wX0 hh cI cZ v)) (w1 := ([] : va_W)) (w2 := ([(q7, .inl (cI, (xn v), .inl (adF v (xk v))))] ++ [(q11, .inl (cI, (xn v), .inl (upd (fl (xl v) i) i (xl v i))))] ++ [(q12, .inl (cI, (xn v), .inl (upd (fl (xa v) i) i (xa v i))))] ++ [(q13, .inl (cI, (xn v), .inl (upd (fl (xe v) i) i (xe v i))))] ++ (wS G cI cP v))) (ws' := ((wX0 hh cI cZ v) ++ [(q7, .inl (cI, (xn v), .inl (adF v (xk v))))] ++ [(q11, .inl (cI, (xn v), .inl (upd (fl (xl v) i) i (xl v i))))] ++ [(q12, .inl (cI, (xn v), .inl (upd (fl (xa v) i) i (xa v i))))] ++ [(q13, .inl (cI, (xn v), .inl (upd (fl (xe v) i) i (xe v i))))] ++ (wS G cI cP v))) (As := []) (rest := [.ref (hh 0), .int (xl v i)]) (st' := [.int ((lukN (xl v) (xn v)).1), .ref (hh 0), .int (xl v i)]) (rv := some (.int ((lukN (xl v) (xn v)).1))) C (c_X0_luckiest l D hh cI cZ v (by omega)) (cwV 0 C.words gL_law_X0_luckiest rfl rfl rfl (by decide +kernel) ⟨(Nat.le_of_ble_eq_true rfl), (Nat.le_of_ble_eq_true rfl)⟩) (q0 := 0) (ci := 0) rfl rfl rfl [0, 1] rfl rfl (Nat.le_of_ble_eq_true rfl) ⟨(by show _ ≤ 600130; omega), (by show _ ≤ 7301080; omega)⟩ rfl rfl rfl rfl rfl dL_law_397 ?_
        refine z_top (y := nI bb) hb2 ?_
        refine z_callV (w := (wX0 hh cI cZ v)) (w' := (wX0 hh cI cZ v)) (w1 := ([] : va_W)) (w2 := ([(q7, .inl (cI, (xn v), .inl (adF v (xk v))))] ++ [(q11, .inl (cI, (xn v), .inl (upd (fl (xl v) i) i (xl v i))))] ++ [(q12, .inl (cI, (xn v), .inl (upd (fl (xa v) i) i (xa v i))))] ++ [(q13, .inl (cI, (xn v), .inl (upd (fl (xe v) i) i (xe v i))))] ++ (wS G cI cP v))) (ws' := ((wX0 hh cI cZ v) ++ [(q7, .inl (cI, (xn v), .inl (adF v (xk v))))] ++ [(q11, .inl (cI, (xn v), .inl (upd (fl (xl v) i) i (xl v i))))] ++ [(q12, .inl (cI, (xn v), .inl (upd (fl (xa v) i) i (xa v i))))] ++ [(q13, .inl (cI, (xn v), .inl (upd (fl (xe v) i) i (xe v i))))] ++ (wS G cI cP v))) (As := [.int (nI bb)]) (rest := [.int (xl v i)]) (st' := [.int (xl v bb), .int (xl v i)]) (rv := some (.int (xl v bb))) C (c_X0_luckOf l D hh cI cZ v bb (by omega) (by omega)) (cwV 1 C.words gL_law_X0_luckOf rfl rfl rfl (by decide +kernel) ⟨(Nat.le_of_ble_eq_true rfl), (Nat.le_of_ble_eq_true rfl)⟩) (q0 := 0) (ci := 0) rfl rfl rfl [0, 1] rfl rfl (Nat.le_of_ble_eq_true rfl) ⟨(by show _ ≤ 600130; omega), (by show _ ≤ 7301080; omega)⟩ rfl rfl rfl rfl rfl dL_law_400 ?_
        refine z_icmp_le (tgt := 408) C dL_law_403 (by decide) (fun _ => ?_) (fun h9 => absurd (hb3 i (by omega)) h9)
        refine z_aload_n C 4 dL_law_408 rfl rfl ?_
        refine z_iload C 13 dL_law_409 rfl ?_
        refine z_callV (w := (wX0 hh cI cZ v)) (w' := (wX0 hh cI cZ v)) (w1 := ([] : va_W)) (w2 := ([(q7, .inl (cI, (xn v), .inl (adF v (xk v))))] ++ [(q11, .inl (cI, (xn v), .inl (upd (fl (xl v) i) i (xl v i))))] ++ [(q12, .inl (cI, (xn v), .inl (upd (fl (xa v) i) i (xa v i))))] ++ [(q13, .inl (cI, (xn v), .inl (upd (fl (xe v) i) i (xe v i))))] ++ (wS G cI cP v))) (ws' := ((wX0 hh cI cZ v) ++ [(q7, .inl (cI, (xn v), .inl (adF v (xk v))))] ++ [(q11, .inl (cI, (xn v), .inl (upd (fl (xl v) i) i (xl v i))))] ++ [(q12, .inl (cI, (xn v), .inl (upd (fl (xa v) i) i (xa v i))))] ++ [(q13, .inl (cI, (xn v), .inl (upd (fl (xe v) i) i (xe v i))))] ++ (wS G cI cP v))) (As := [.int (nI i)]) (rest := []) (st' := [.int (xloss v i)]) (rv := some (.int (xloss v i))) C (c_X0_dailyLoss l D hh cI cZ v i (by omega) (by omega)) (cwV 1 C.words gL_law_X0_dailyLoss rfl rfl rfl (by decide +kernel) ⟨(Nat.le_of_ble_eq_true rfl), (Nat.le_of_ble_eq_true rfl)⟩) (q0 := 0) (ci := 0) rfl rfl rfl [0, 1] rfl rfl (Nat.le_of_ble_eq_true rfl) ⟨(by show _ ≤ 600130; omega), (by show _ ≤ 7301080; omega)⟩ rfl rfl rfl rfl rfl dL_law_411 ?_
        refine z_istore (L' := [(15, .int (xloss v i)), (10, .int ((sumI (xl v) i) + (xl v i))), (9, .int (clrI (xa v) (i + 1))), (8, .int ((sumI (xa v) i) + (xa v i))), (0, .ref b), (1, .ref (hh 0)), (2, .ref (gO G)), (3, .int (nI tm)), (5, .int (nI (xn v))), (6, .int (xfltN (xx v) (xk v))), (7, .ref q7), (11, .ref q11), (12, .ref q12), (13, .ref q13), (14, .int (nI i))]) C dL_law_414 (by decide) rfl ?_
        refine z_iload C 0 dL_law_416 rfl ?_
        refine z_if_le (tgt := 425) C dL_law_418 (by decide) (fun c418 => ?_) (fun c418 => ?_)
        · skip
          refine z_iconst (v := 0) C dL_law_425 (by decide) ?_
          refine z_aload C 13 dL_law_426 rfl ?_
          refine z_iload C 14 dL_law_428 rfl ?_
          refine z_iald (f := upd (fl (xe v) i) i (xe v i)) C 11 0 rfl rfl i rfl (by omega) (by omega) dL_law_430 ?_
          refine z_top (y := xe v i) pk_us ?_
          refine z_if_ne (tgt := 446) C dL_law_431 (by decide) (fun c431 => ?_) (fun c431 => ?_)
          · skip
            refine z_iconst (v := 0) C dL_law_446 (by decide) ?_
            refine z_icmp_ne (tgt := 491) C dL_law_447 (by decide) (fun h9 => absurd h9 (fun q => q rfl)) (fun _ => ?_)
            refine z_iload C 0 dL_law_450 rfl ?_
            refine z_bipush (v := 10) C dL_law_452 (by decide) ?_
            refine z_icmp_gt (tgt := 491) C dL_law_454 (by decide) (fun h9 => absurd h9 (law_10 (hI.row (m := i) (by omega)))) (fun _ => ?_)
            refine z_iload C 0 dL_law_457 rfl ?_
            refine z_if_le (tgt := 493) C dL_law_459 (by decide) (fun _ => ?_) (fun h9 => absurd (c418) h9)
            refine z_iinc (v := nI (i + 1)) (L' := [(14, .int (nI (i + 1))), (15, .int (xloss v i)), (10, .int ((sumI (xl v) i) + (xl v i))), (9, .int (clrI (xa v) (i + 1))), (8, .int ((sumI (xa v) i) + (xa v i))), (0, .ref b), (1, .ref (hh 0)), (2, .ref (gO G)), (3, .int (nI tm)), (5, .int (nI (xn v))), (6, .int (xfltN (xx v) (xk v))), (7, .ref q7), (11, .ref q11), (12, .ref q12), (13, .ref q13)]) C 14 dL_law_493 rfl (z_inc _) (by decide) rfl ?_
            refine z_goto (tgt := 244) C dL_law_496 (by decide) ?_
            refine z_sub (L' := [(0, .ref b), (1, .ref (hh 0)), (2, .ref (gO G)), (3, .int (nI tm)), (5, .int (nI (xn v))), (6, .int (xfltN (xx v) (xk v))), (7, .ref q7), (8, .int ((sumI (xa v) i) + (xa v i))), (9, .int (clrI (xa v) (i + 1))), (10, .int ((sumI (xl v) i) + (xl v i))), (11, .ref q11), (12, .ref q12), (13, .ref q13), (14, .int (nI (i + 1)))]) [5, 6, 7, 8, 9, 10, 11, 4, 3, 2, 12, 13, 14, 0] rfl ?_
            exact (by have e9 := ih (i + 1) (by omega); rw [← fl_s (f := xl v), ← fl_s (f := xa v), ← fl_s (f := xe v)] at e9; exact e9)
          · skip
            refine z_aload C 12 dL_law_434 rfl ?_
            refine z_iload C 14 dL_law_436 rfl ?_
            refine z_iald (f := upd (fl (xa v) i) i (xa v i)) C 10 0 rfl rfl i rfl (by omega) (by omega) dL_law_438 ?_
            refine z_top (y := xa v i) pk_us ?_
            refine z_if_le (tgt := 446) C dL_law_439 (by decide) (fun c439 => ?_) (fun c439 => ?_)
            · skip
              refine z_iconst (v := 0) C dL_law_446 (by decide) ?_
              refine z_icmp_ne (tgt := 491) C dL_law_447 (by decide) (fun h9 => absurd h9 (fun q => q rfl)) (fun _ => ?_)
              refine z_iload C 0 dL_law_450 rfl ?_
              refine z_bipush (v := 10) C dL_law_452 (by decide) ?_
              refine z_icmp_gt (tgt := 491) C dL_law_454 (by decide) (fun h9 => absurd h9 (law_10 (hI.row (m := i) (by omega)))) (fun _ => ?_)
              refine z_iload C 0 dL_law_457 rfl ?_
              refine z_if_le (tgt := 493) C dL_law_459 (by decide) (fun _ => ?_) (fun h9 => absurd (c418) h9)
              refine z_iinc (v := nI (i + 1)) (L' := [(14, .int (nI (i + 1))), (15, .int (xloss v i)), (10, .int ((sumI (xl v) i) + (xl v i))), (9, .int (clrI (xa v) (i + 1))), (8, .int ((sumI (xa v) i) + (xa v i))), (0, .ref b), (1, .ref (hh 0)), (2, .ref (gO G)), (3, .int (nI tm)), (5, .int (nI (xn v))), (6, .int (xfltN (xx v) (xk v))), (7, .ref q7), (11, .ref q11), (12, .ref q12), (13, .ref q13)]) C 14 dL_law_493 rfl (z_inc _) (by decide) rfl ?_
              refine z_goto (tgt := 244) C dL_law_496 (by decide) ?_
              refine z_sub (L' := [(0, .ref b), (1, .ref (hh 0)), (2, .ref (gO G)), (3, .int (nI tm)), (5, .int (nI (xn v))), (6, .int (xfltN (xx v) (xk v))), (7, .ref q7), (8, .int ((sumI (xa v) i) + (xa v i))), (9, .int (clrI (xa v) (i + 1))), (10, .int ((sumI (xl v) i) + (xl v i))), (11, .ref q11), (12, .ref q12), (13, .ref q13), (14, .int (nI (i + 1)))]) [5, 6, 7, 8, 9, 10, 11, 4, 3, 2, 12, 13, 14, 0] rfl ?_
              exact (by have e9 := ih (i + 1) (by omega); rw [← fl_s (f := xl v), ← fl_s (f := xa v), ← fl_s (f := xe v)] at e9; exact e9)
            · skip
              refine z_iconst (v := 1) C dL_law_442 (by decide) ?_
              refine z_goto (tgt := 447) C dL_law_443 (by decide) ?_
              exact (law_c1 h3 h4 c418 c431 c439).elim
        · skip
          refine z_iconst (v := 1) C dL_law_421 (by decide) ?_
          refine z_goto (tgt := 426) C dL_law_422 (by decide) ?_
          refine z_aload C 13 dL_law_426 rfl ?_
          refine z_iload C 14 dL_law_428 rfl ?_
          refine z_iald (f := upd (fl (xe v) i) i (xe v i)) C 11 0 rfl rfl i rfl (by omega) (by omega) dL_law_430 ?_
          refine z_top (y := xe v i) pk_us ?_
          refine z_if_ne (tgt := 446) C dL_law_431 (by decide) (fun c431 => ?_) (fun c431 => ?_)
          · skip
            refine z_iconst (v := 0) C dL_law_446 (by decide) ?_
            exact (law_c2 (hI.row (m := i) (by omega)) c418 c431).elim
          · skip
            refine z_aload C 12 dL_law_434 rfl ?_
            refine z_iload C 14 dL_law_436 rfl ?_
            refine z_iald (f := upd (fl (xa v) i) i (xa v i)) C 10 0 rfl rfl i rfl (by omega) (by omega) dL_law_438 ?_
            refine z_top (y := xa v i) pk_us ?_
            refine z_if_le (tgt := 446) C dL_law_439 (by decide) (fun c439 => ?_) (fun c439 => ?_)
            · skip
              refine z_iconst (v := 0) C dL_law_446 (by decide) ?_
              exact (law_c3 h3 h4 c418 c431 c439).elim
            · skip
              refine z_iconst (v := 1) C dL_law_442 (by decide) ?_
              refine z_goto (tgt := 447) C dL_law_443 (by decide) ?_
              refine z_icmp_ne (tgt := 491) C dL_law_447 (by decide) (fun h9 => absurd h9 (fun q => q rfl)) (fun _ => ?_)
              refine z_iload C 0 dL_law_450 rfl ?_
              refine z_bipush (v := 10) C dL_law_452 (by decide) ?_
              refine z_icmp_gt (tgt := 491) C dL_law_454 (by decide) (fun h9 => absurd h9 (law_10 (hI.row (m := i) (by omega)))) (fun _ => ?_)
              refine z_iload C 0 dL_law_457 rfl ?_
              refine z_if_le (tgt := 493) C dL_law_459 (by decide) (fun h9 => absurd h9 (c418)) (fun _ => ?_)
              refine z_bipush (v := 10) C dL_law_462 (by decide) ?_
              refine z_iload C 0 dL_law_464 rfl ?_
              refine z_imul C dL_law_466 ?_
              refine z_aload C 12 dL_law_467 rfl ?_
              refine z_iload C 14 dL_law_469 rfl ?_
              refine z_iald (f := upd (fl (xa v) i) i (xa v i)) C 10 0 rfl rfl i rfl (by omega) (by omega) dL_law_471 ?_
              refine z_top (y := xa v i) pk_us ?_
              refine z_icmp_lt (tgt := 491) C dL_law_472 (by decide) (fun h9 => absurd h9 (law_a h3 h4 c431)) (fun _ => ?_)
              refine z_bipush (v := 10) C dL_law_475 (by decide) ?_
              refine z_iload C 0 dL_law_477 rfl ?_
              refine z_imul C dL_law_479 ?_
              refine z_bipush (v := 10) C dL_law_480 (by decide) ?_
              refine z_isub C dL_law_482 ?_
              refine z_aload C 12 dL_law_483 rfl ?_
              refine z_iload C 14 dL_law_485 rfl ?_
              refine z_iald (f := upd (fl (xa v) i) i (xa v i)) C 10 0 rfl rfl i rfl (by omega) (by omega) dL_law_487 ?_
              refine z_top (y := xa v i) pk_us ?_
              refine z_icmp_lt (tgt := 493) C dL_law_488 (by decide) (fun _ => ?_) (fun h9 => absurd (law_b h3 h4 c431 c439) h9)
              refine z_iinc (v := nI (i + 1)) (L' := [(14, .int (nI (i + 1))), (15, .int (xloss v i)), (10, .int ((sumI (xl v) i) + (xl v i))), (9, .int (clrI (xa v) (i + 1))), (8, .int ((sumI (xa v) i) + (xa v i))), (0, .ref b), (1, .ref (hh 0)), (2, .ref (gO G)), (3, .int (nI tm)), (5, .int (nI (xn v))), (6, .int (xfltN (xx v) (xk v))), (7, .ref q7), (11, .ref q11), (12, .ref q12), (13, .ref q13)]) C 14 dL_law_493 rfl (z_inc _) (by decide) rfl ?_
              refine z_goto (tgt := 244) C dL_law_496 (by decide) ?_
              refine z_sub (L' := [(0, .ref b), (1, .ref (hh 0)), (2, .ref (gO G)), (3, .int (nI tm)), (5, .int (nI (xn v))), (6, .int (xfltN (xx v) (xk v))), (7, .ref q7), (8, .int ((sumI (xa v) i) + (xa v i))), (9, .int (clrI (xa v) (i + 1))), (10, .int ((sumI (xl v) i) + (xl v i))), (11, .ref q11), (12, .ref q12), (13, .ref q13), (14, .int (nI (i + 1)))]) [5, 6, 7, 8, 9, 10, 11, 4, 3, 2, 12, 13, 14, 0] rfl ?_
              exact (by have e9 := ih (i + 1) (by omega); rw [← fl_s (f := xl v), ← fl_s (f := xa v), ← fl_s (f := xe v)] at e9; exact e9)
  have lp81 : ∀ (q7 : Nat), ∀ (dd i : Nat), i + dd = xk v → zG p l e room_1 s m args below meth c D 24 A (cells + 1) (slots + xn v) Q 81 [(0, .ref b), (1, .ref (hh 0)), (2, .ref (gO G)), (3, .int (nI tm)), (5, .int (nI (xn v))), (6, .int (xfltN (xx v) i)), (7, .ref q7), (8, .int (nI i))] [] ((wX0 hh cI cZ v) ++ [(q7, .inl (cI, (xn v), .inl (adF v i)))] ++ (wS G cI cP v)) := by
    intro q7
    intro dd
    induction dd with
    | zero =>
      intro i hi
      have hi : i = xk v := by omega
      subst hi
      refine z_iload C 7 dL_law_81 rfl ?_
      refine z_aload_n C 1 dL_law_83 rfl rfl ?_
      refine z_callV (w := (wX0 hh cI cZ v)) (w' := (wX0 hh cI cZ v)) (w1 := ([] : va_W)) (w2 := ([(q7, .inl (cI, (xn v), .inl (adF v (xk v))))] ++ (wS G cI cP v))) (ws' := ((wX0 hh cI cZ v) ++ [(q7, .inl (cI, (xn v), .inl (adF v (xk v))))] ++ (wS G cI cP v))) (As := []) (rest := [.int (nI (xk v))]) (st' := [.int (nI (xk v)), .int (nI (xk v))]) (rv := some (.int (nI (xk v)))) C (c_X0_ledger l D hh cI cZ v) (cwV 0 C.words gL_law_X0_ledger rfl rfl rfl (by decide +kernel) ⟨(Nat.le_of_ble_eq_true rfl), (Nat.le_of_ble_eq_true rfl)⟩) (q0 := 0) (ci := 0) rfl rfl rfl [0, 1] rfl rfl (Nat.le_of_ble_eq_true rfl) ⟨(by show _ ≤ 600130; omega), (by show _ ≤ 7301080; omega)⟩ rfl rfl rfl rfl rfl dL_law_84 ?_
      refine z_icmp_ge (tgt := 214) C dL_law_87 (by decide) (fun _ => ?_) (fun h9 => absurd (nI_le (by omega) (by omega)) h9)
      refine z_iconst (v := 0) C dL_law_214 (by decide) ?_
      refine z_istore (L' := [(8, .int 0), (0, .ref b), (1, .ref (hh 0)), (2, .ref (gO G)), (3, .int (nI tm)), (5, .int (nI (xn v))), (6, .int (xfltN (xx v) (xk v))), (7, .ref q7)]) C dL_law_215 (by decide) rfl ?_
      refine z_iconst (v := 0) C dL_law_217 (by decide) ?_
      refine z_istore (L' := [(9, .int 0), (8, .int 0), (0, .ref b), (1, .ref (hh 0)), (2, .ref (gO G)), (3, .int (nI tm)), (5, .int (nI (xn v))), (6, .int (xfltN (xx v) (xk v))), (7, .ref q7)]) C dL_law_218 (by decide) rfl ?_
      refine z_iconst (v := 0) C dL_law_220 (by decide) ?_
      refine z_istore (L' := [(10, .int 0), (9, .int 0), (8, .int 0), (0, .ref b), (1, .ref (hh 0)), (2, .ref (gO G)), (3, .int (nI tm)), (5, .int (nI (xn v))), (6, .int (xfltN (xx v) (xk v))), (7, .ref q7)]) C dL_law_221 (by decide) rfl ?_
      refine z_iload C 7 dL_law_223 rfl ?_
      refine z_newi (N := xn v) C 0 rfl wd7 (nI_pos (by omega)) (nI_clamp (by omega)) (by omega) (by show _ ≤ 600130; omega) (by show _ ≤ 7301080; omega) dL_law_225 (fun q11 => ?_)
      refine z_swap ?_
      refine z_ws (ws' := ((wX0 hh cI cZ v) ++ [(q7, .inl (cI, (xn v), .inl (adF v (xk v))))] ++ [(q11, .inl (cI, (xn v), .inl (fl (xl v) 0)))] ++ (wS G cI cP v))) (by rw [fl_0 (f := xl v)]) ?_
      refine z_astore (L' := [(11, .ref q11), (10, .int 0), (9, .int 0), (8, .int 0), (0, .ref b), (1, .ref (hh 0)), (2, .ref (gO G)), (3, .int (nI tm)), (5, .int (nI (xn v))), (6, .int (xfltN (xx v) (xk v))), (7, .ref q7)]) C dL_law_227 (by decide) rfl ?_
      refine z_iload C 8 dL_law_229 rfl ?_
      refine z_newi (N := xn v) C 0 rfl wd7 (nI_pos (by omega)) (nI_clamp (by omega)) (by omega) (by show _ ≤ 600130; omega) (by show _ ≤ 7301080; omega) dL_law_231 (fun q12 => ?_)
      refine z_swap ?_
      refine z_ws (ws' := ((wX0 hh cI cZ v) ++ [(q7, .inl (cI, (xn v), .inl (adF v (xk v))))] ++ [(q11, .inl (cI, (xn v), .inl (fl (xl v) 0)))] ++ [(q12, .inl (cI, (xn v), .inl (fl (xa v) 0)))] ++ (wS G cI cP v))) (by rw [fl_0 (f := xa v)]) ?_
      refine z_astore (L' := [(12, .ref q12), (11, .ref q11), (10, .int 0), (9, .int 0), (8, .int 0), (0, .ref b), (1, .ref (hh 0)), (2, .ref (gO G)), (3, .int (nI tm)), (5, .int (nI (xn v))), (6, .int (xfltN (xx v) (xk v))), (7, .ref q7)]) C dL_law_233 (by decide) rfl ?_
      refine z_iload C 9 dL_law_235 rfl ?_
      refine z_newi (N := xn v) C 0 rfl wd7 (nI_pos (by omega)) (nI_clamp (by omega)) (by omega) (by show _ ≤ 600130; omega) (by show _ ≤ 7301080; omega) dL_law_237 (fun q13 => ?_)
      refine z_swap ?_
      refine z_ws (ws' := ((wX0 hh cI cZ v) ++ [(q7, .inl (cI, (xn v), .inl (adF v (xk v))))] ++ [(q11, .inl (cI, (xn v), .inl (fl (xl v) 0)))] ++ [(q12, .inl (cI, (xn v), .inl (fl (xa v) 0)))] ++ [(q13, .inl (cI, (xn v), .inl (fl (xe v) 0)))] ++ (wS G cI cP v))) (by rw [fl_0 (f := xe v)]) ?_
      refine z_astore (L' := [(13, .ref q13), (12, .ref q12), (11, .ref q11), (10, .int 0), (9, .int 0), (8, .int 0), (0, .ref b), (1, .ref (hh 0)), (2, .ref (gO G)), (3, .int (nI tm)), (5, .int (nI (xn v))), (6, .int (xfltN (xx v) (xk v))), (7, .ref q7)]) C dL_law_239 (by decide) rfl ?_
      refine z_iconst (v := 0) C dL_law_241 (by decide) ?_
      refine z_istore (L' := [(14, .int 0), (13, .ref q13), (12, .ref q12), (11, .ref q11), (10, .int 0), (9, .int 0), (8, .int 0), (0, .ref b), (1, .ref (hh 0)), (2, .ref (gO G)), (3, .int (nI tm)), (5, .int (nI (xn v))), (6, .int (xfltN (xx v) (xk v))), (7, .ref q7)]) C dL_law_242 (by decide) rfl ?_
      refine z_sub (L' := [(0, .ref b), (1, .ref (hh 0)), (2, .ref (gO G)), (3, .int (nI tm)), (5, .int (nI (xn v))), (6, .int (xfltN (xx v) (xk v))), (7, .ref q7), (8, .int 0), (9, .int 0), (10, .int 0), (11, .ref q11), (12, .ref q12), (13, .ref q13), (14, .int 0)]) [7, 8, 9, 10, 11, 12, 13, 6, 5, 4, 3, 2, 1, 0] rfl ?_
      exact lp244 q7 q11 q12 q13 (xn v) 0 (by omega)
    | succ dd ih =>
      intro i hi
      obtain ⟨j0, g0, x0, w1, w2, w3, w4, w5, w6, w7, hf, w9⟩ := hI.led i (by omega)
      refine z_iload C 7 dL_law_81 rfl ?_
      refine z_aload_n C 1 dL_law_83 rfl rfl ?_
      refine z_callV (w := (wX0 hh cI cZ v)) (w' := (wX0 hh cI cZ v)) (w1 := ([] : va_W)) (w2 := ([(q7, .inl (cI, (xn v), .inl (adF v i)))] ++ (wS G cI cP v))) (ws' := ((wX0 hh cI cZ v) ++ [(q7, .inl (cI, (xn v), .inl (adF v i)))] ++ (wS G cI cP v))) (As := []) (rest := [.int (nI i)]) (st' := [.int (nI (xk v)), .int (nI i)]) (rv := some (.int (nI (xk v)))) C (c_X0_ledger l D hh cI cZ v) (cwV 0 C.words gL_law_X0_ledger rfl rfl rfl (by decide +kernel) ⟨(Nat.le_of_ble_eq_true rfl), (Nat.le_of_ble_eq_true rfl)⟩) (q0 := 0) (ci := 0) rfl rfl rfl [0, 1] rfl rfl (Nat.le_of_ble_eq_true rfl) ⟨(by show _ ≤ 600130; omega), (by show _ ≤ 7301080; omega)⟩ rfl rfl rfl rfl rfl dL_law_84 ?_
      refine z_icmp_ge (tgt := 214) C dL_law_87 (by decide) (fun h9 => absurd h9 (nI_ge (by omega) (by omega))) (fun _ => ?_)
      refine z_aload_n C 1 dL_law_90 rfl rfl ?_
      refine z_iload C 7 dL_law_91 rfl ?_
      refine z_callV (w := (wX0 hh cI cZ v)) (w' := (wX0 hh cI cZ v)) (w1 := ([] : va_W)) (w2 := ([(q7, .inl (cI, (xn v), .inl (adF v i)))] ++ (wS G cI cP v))) (ws' := ((wX0 hh cI cZ v) ++ [(q7, .inl (cI, (xn v), .inl (adF v i)))] ++ (wS G cI cP v))) (As := [.int (nI i)]) (rest := []) (st' := [.int (xx v i)]) (rv := some (.int (xx v i))) C (c_X0_excessOf l D hh cI cZ v i (by omega) (by omega)) (cwV 1 C.words gL_law_X0_excessOf rfl rfl rfl (by decide +kernel) ⟨(Nat.le_of_ble_eq_true rfl), (Nat.le_of_ble_eq_true rfl)⟩) (q0 := 0) (ci := 0) rfl rfl rfl [0, 1] rfl rfl (Nat.le_of_ble_eq_true rfl) ⟨(by show _ ≤ 600130; omega), (by show _ ≤ 7301080; omega)⟩ rfl rfl rfl rfl rfl dL_law_93 ?_
      refine z_istore (L' := [(9, .int (xx v i)), (0, .ref b), (1, .ref (hh 0)), (2, .ref (gO G)), (3, .int (nI tm)), (5, .int (nI (xn v))), (6, .int (xfltN (xx v) i)), (7, .ref q7), (8, .int (nI i))]) C dL_law_96 (by decide) rfl ?_
      refine z_aload_n C 2 dL_law_98 rfl rfl ?_
      refine z_iload C 8 dL_law_99 rfl ?_
      refine z_callV (w := (wX0 hh cI cZ v)) (w' := (wX0 hh cI cZ v)) (w1 := ([] : va_W)) (w2 := ([(q7, .inl (cI, (xn v), .inl (adF v i)))] ++ (wS G cI cP v))) (ws' := ((wX0 hh cI cZ v) ++ [(q7, .inl (cI, (xn v), .inl (adF v i)))] ++ (wS G cI cP v))) (As := [.int (nI i)]) (rest := []) (st' := [.int (xg v i)]) (rv := some (.int (xg v i))) C (c_X0_grainsOf l D hh cI cZ v i (by omega) (by omega)) (cwV 1 C.words gL_law_X0_grainsOf rfl rfl rfl (by decide +kernel) ⟨(Nat.le_of_ble_eq_true rfl), (Nat.le_of_ble_eq_true rfl)⟩) (q0 := 0) (ci := 0) rfl rfl rfl [0, 1] rfl rfl (Nat.le_of_ble_eq_true rfl) ⟨(by show _ ≤ 600130; omega), (by show _ ≤ 7301080; omega)⟩ rfl rfl rfl rfl rfl dL_law_101 ?_
      refine z_iconst (v := 1) C dL_law_104 (by decide) ?_
      refine z_icmp_lt (tgt := 175) C dL_law_105 (by decide) (fun h9 => absurd h9 (by rw [w3]; exact nI_nlt (a := g0) (b := 1) (by omega) (by omega))) (fun _ => ?_)
      refine z_aload_n C 2 dL_law_108 rfl rfl ?_
      refine z_iload C 8 dL_law_109 rfl ?_
      refine z_callV (w := (wX0 hh cI cZ v)) (w' := (wX0 hh cI cZ v)) (w1 := ([] : va_W)) (w2 := ([(q7, .inl (cI, (xn v), .inl (adF v i)))] ++ (wS G cI cP v))) (ws' := ((wX0 hh cI cZ v) ++ [(q7, .inl (cI, (xn v), .inl (adF v i)))] ++ (wS G cI cP v))) (As := [.int (nI i)]) (rest := []) (st' := [.int (xg v i)]) (rv := some (.int (xg v i))) C (c_X0_grainsOf l D hh cI cZ v i (by omega) (by omega)) (cwV 1 C.words gL_law_X0_grainsOf rfl rfl rfl (by decide +kernel) ⟨(Nat.le_of_ble_eq_true rfl), (Nat.le_of_ble_eq_true rfl)⟩) (q0 := 0) (ci := 0) rfl rfl rfl [0, 1] rfl rfl (Nat.le_of_ble_eq_true rfl) ⟨(by show _ ≤ 600130; omega), (by show _ ≤ 7301080; omega)⟩ rfl rfl rfl rfl rfl dL_law_111 ?_
      refine z_bipush (v := 9) C dL_law_114 (by decide) ?_
      refine z_icmp_gt (tgt := 175) C dL_law_116 (by decide) (fun h9 => absurd h9 (by rw [w3]; exact nI_nlt (a := 9) (b := g0) (by omega) (by omega))) (fun _ => ?_)
      refine z_iload C 0 dL_law_119 rfl ?_
      refine z_if_lt (tgt := 175) C dL_law_121 (by decide) (fun h9 => absurd h9 (by rw [w6]; exact nI_pos (by omega))) (fun _ => ?_)
      refine z_iload C 0 dL_law_124 rfl ?_
      refine z_aload_n C 2 dL_law_126 rfl rfl ?_
      refine z_iload C 8 dL_law_127 rfl ?_
      refine z_callV (w := (wX0 hh cI cZ v)) (w' := (wX0 hh cI cZ v)) (w1 := ([] : va_W)) (w2 := ([(q7, .inl (cI, (xn v), .inl (adF v i)))] ++ (wS G cI cP v))) (ws' := ((wX0 hh cI cZ v) ++ [(q7, .inl (cI, (xn v), .inl (adF v i)))] ++ (wS G cI cP v))) (As := [.int (nI i)]) (rest := [.int (xx v i)]) (st' := [.int (xg v i), .int (xx v i)]) (rv := some (.int (xg v i))) C (c_X0_grainsOf l D hh cI cZ v i (by omega) (by omega)) (cwV 1 C.words gL_law_X0_grainsOf rfl rfl rfl (by decide +kernel) ⟨(Nat.le_of_ble_eq_true rfl), (Nat.le_of_ble_eq_true rfl)⟩) (q0 := 0) (ci := 0) rfl rfl rfl [0, 1] rfl rfl (Nat.le_of_ble_eq_true rfl) ⟨(by show _ ≤ 600130; omega), (by show _ ≤ 7301080; omega)⟩ rfl rfl rfl rfl rfl dL_law_129 ?_
      refine z_icmp_gt (tgt := 175) C dL_law_132 (by decide) (fun h9 => absurd h9 (by rw [w3, w6]; exact nI_nlt (by omega) (by omega))) (fun _ => ?_)
      refine z_aload_n C 2 dL_law_135 rfl rfl ?_
      refine z_iload C 8 dL_law_136 rfl ?_
      refine z_callV (w := (wX0 hh cI cZ v)) (w' := (wX0 hh cI cZ v)) (w1 := ([] : va_W)) (w2 := ([(q7, .inl (cI, (xn v), .inl (adF v i)))] ++ (wS G cI cP v))) (ws' := ((wX0 hh cI cZ v) ++ [(q7, .inl (cI, (xn v), .inl (adF v i)))] ++ (wS G cI cP v))) (As := [.int (nI i)]) (rest := []) (st' := [.int (xf v i)]) (rv := some (.int (xf v i))) C (c_X0_isLeft l D hh cI cZ v i (by omega) (by omega) hf) (cwV 1 C.words gL_law_X0_isLeft rfl rfl rfl (by decide +kernel) ⟨(Nat.le_of_ble_eq_true rfl), (Nat.le_of_ble_eq_true rfl)⟩) (q0 := 0) (ci := 0) rfl rfl rfl [0, 1] rfl rfl (Nat.le_of_ble_eq_true rfl) ⟨(by show _ ≤ 600130; omega), (by show _ ≤ 7301080; omega)⟩ rfl rfl rfl rfl rfl dL_law_138 ?_
      refine z_if_ne (tgt := 155) C dL_law_141 (by decide) (fun c141 => ?_) (fun c141 => ?_)
      · skip
        refine z_aload_n C 2 dL_law_155 rfl rfl ?_
        refine z_iload C 8 dL_law_156 rfl ?_
        refine z_callV (w := (wX0 hh cI cZ v)) (w' := (wX0 hh cI cZ v)) (w1 := ([] : va_W)) (w2 := ([(q7, .inl (cI, (xn v), .inl (adF v i)))] ++ (wS G cI cP v))) (ws' := ((wX0 hh cI cZ v) ++ [(q7, .inl (cI, (xn v), .inl (adF v i)))] ++ (wS G cI cP v))) (As := [.int (nI i)]) (rest := []) (st' := [.int (xw v i)]) (rv := some (.int (xw v i))) C (c_X0_memberOf l D hh cI cZ v i (by omega) (by omega)) (cwV 1 C.words gL_law_X0_memberOf rfl rfl rfl (by decide +kernel) ⟨(Nat.le_of_ble_eq_true rfl), (Nat.le_of_ble_eq_true rfl)⟩) (q0 := 0) (ci := 0) rfl rfl rfl [0, 1] rfl rfl (Nat.le_of_ble_eq_true rfl) ⟨(by show _ ≤ 600130; omega), (by show _ ≤ 7301080; omega)⟩ rfl rfl rfl rfl rfl dL_law_158 ?_
        refine z_if_lt (tgt := 175) C dL_law_161 (by decide) (fun h9 => absurd h9 (by rw [w1]; exact nI_pos (by omega))) (fun _ => ?_)
        refine z_aload_n C 2 dL_law_164 rfl rfl ?_
        refine z_iload C 8 dL_law_165 rfl ?_
        refine z_callV (w := (wX0 hh cI cZ v)) (w' := (wX0 hh cI cZ v)) (w1 := ([] : va_W)) (w2 := ([(q7, .inl (cI, (xn v), .inl (adF v i)))] ++ (wS G cI cP v))) (ws' := ((wX0 hh cI cZ v) ++ [(q7, .inl (cI, (xn v), .inl (adF v i)))] ++ (wS G cI cP v))) (As := [.int (nI i)]) (rest := []) (st' := [.int (xw v i)]) (rv := some (.int (xw v i))) C (c_X0_memberOf l D hh cI cZ v i (by omega) (by omega)) (cwV 1 C.words gL_law_X0_memberOf rfl rfl rfl (by decide +kernel) ⟨(Nat.le_of_ble_eq_true rfl), (Nat.le_of_ble_eq_true rfl)⟩) (q0 := 0) (ci := 0) rfl rfl rfl [0, 1] rfl rfl (Nat.le_of_ble_eq_true rfl) ⟨(by show _ ≤ 600130; omega), (by show _ ≤ 7301080; omega)⟩ rfl rfl rfl rfl rfl dL_law_167 ?_
        refine z_iload C 5 dL_law_170 rfl ?_
        refine z_icmp_lt (tgt := 177) C dL_law_172 (by decide) (fun _ => ?_) (fun h9 => absurd (by rw [w1]; exact nI_lt w2 (by omega)) h9)
        refine z_iload C 6 dL_law_177 rfl ?_
        refine z_iload C 0 dL_law_179 rfl ?_
        refine z_if_le (tgt := 188) C dL_law_181 (by decide) (fun c181 => ?_) (fun c181 => ?_)
        · skip
          refine z_iconst (v := 0) C dL_law_188 (by decide) ?_
          refine z_iadd C dL_law_189 ?_
          refine z_top (y := xfltN (xx v) (i + 1)) (show xfltN (xx v) i + 0 = (if xx v i ≤ 0 then xfltN (xx v) i else xfltN (xx v) i + 1) from by rw [if_pos c181, Int32.add_zero]) ?_
          refine z_istore (L' := [(6, .int (xfltN (xx v) (i + 1))), (9, .int (xx v i)), (0, .ref b), (1, .ref (hh 0)), (2, .ref (gO G)), (3, .int (nI tm)), (5, .int (nI (xn v))), (7, .ref q7), (8, .int (nI i))]) C dL_law_190 (by decide) rfl ?_
          refine z_aload C 7 dL_law_192 rfl ?_
          refine z_aload_n C 3 dL_law_194 rfl rfl ?_
          refine z_iload C 8 dL_law_195 rfl ?_
          refine z_callV (w := (wX0 hh cI cZ v)) (w' := (wX0 hh cI cZ v)) (w1 := ([] : va_W)) (w2 := ([(q7, .inl (cI, (xn v), .inl (adF v i)))] ++ (wS G cI cP v))) (ws' := ((wX0 hh cI cZ v) ++ [(q7, .inl (cI, (xn v), .inl (adF v i)))] ++ (wS G cI cP v))) (As := [.int (nI i)]) (rest := [.ref q7]) (st' := [.int (xw v i), .ref q7]) (rv := some (.int (xw v i))) C (c_X0_memberOf l D hh cI cZ v i (by omega) (by omega)) (cwV 1 C.words gL_law_X0_memberOf rfl rfl rfl (by decide +kernel) ⟨(Nat.le_of_ble_eq_true rfl), (Nat.le_of_ble_eq_true rfl)⟩) (q0 := 0) (ci := 0) rfl rfl rfl [0, 1] rfl rfl (Nat.le_of_ble_eq_true rfl) ⟨(by show _ ≤ 600130; omega), (by show _ ≤ 7301080; omega)⟩ rfl rfl rfl rfl rfl dL_law_197 ?_
          refine z_dup2 C dL_law_200 rfl rfl ?_
          refine z_iald (f := adF v i) C 8 0 rfl rfl j0 w1 (by omega) (by omega) dL_law_201 ?_
          refine z_iconst (v := 2) C dL_law_202 (by decide) ?_
          refine z_iload C 1 dL_law_203 rfl ?_
          refine z_imul C dL_law_205 ?_
          refine z_iadd C dL_law_206 ?_
          refine z_iast (ws' := ((wX0 hh cI cZ v) ++ [(q7, .inl (cI, (xn v), .inl (upd (adF v i) j0 (((adF v i) j0) + (2 * (xx v i))))))] ++ (wS G cI cP v))) C 8 0 rfl rfl j0 w1 (by omega) (by omega) rfl dL_law_207 ?_
          refine z_iinc (v := nI (i + 1)) (L' := [(8, .int (nI (i + 1))), (6, .int (xfltN (xx v) (i + 1))), (9, .int (xx v i)), (0, .ref b), (1, .ref (hh 0)), (2, .ref (gO G)), (3, .int (nI tm)), (5, .int (nI (xn v))), (7, .ref q7)]) C 8 dL_law_208 rfl (z_inc _) (by decide) rfl ?_
          refine z_goto (tgt := 81) C dL_law_211 (by decide) ?_
          refine z_sub (L' := [(0, .ref b), (1, .ref (hh 0)), (2, .ref (gO G)), (3, .int (nI tm)), (5, .int (nI (xn v))), (6, .int (xfltN (xx v) (i + 1))), (7, .ref q7), (8, .int (nI (i + 1)))]) [3, 4, 5, 6, 7, 1, 8, 0] rfl ?_
          exact (by have e9 := ih (i + 1) (by omega); rw [← adF_s hn8 w1 w2] at e9; exact e9)
        · skip
          refine z_iconst (v := 1) C dL_law_184 (by decide) ?_
          refine z_goto (tgt := 189) C dL_law_185 (by decide) ?_
          refine z_iadd C dL_law_189 ?_
          refine z_top (y := xfltN (xx v) (i + 1)) (show xfltN (xx v) i + 1 = (if xx v i ≤ 0 then xfltN (xx v) i else xfltN (xx v) i + 1) from by rw [if_neg c181]) ?_
          refine z_istore (L' := [(6, .int (xfltN (xx v) (i + 1))), (9, .int (xx v i)), (0, .ref b), (1, .ref (hh 0)), (2, .ref (gO G)), (3, .int (nI tm)), (5, .int (nI (xn v))), (7, .ref q7), (8, .int (nI i))]) C dL_law_190 (by decide) rfl ?_
          refine z_aload C 7 dL_law_192 rfl ?_
          refine z_aload_n C 3 dL_law_194 rfl rfl ?_
          refine z_iload C 8 dL_law_195 rfl ?_
          refine z_callV (w := (wX0 hh cI cZ v)) (w' := (wX0 hh cI cZ v)) (w1 := ([] : va_W)) (w2 := ([(q7, .inl (cI, (xn v), .inl (adF v i)))] ++ (wS G cI cP v))) (ws' := ((wX0 hh cI cZ v) ++ [(q7, .inl (cI, (xn v), .inl (adF v i)))] ++ (wS G cI cP v))) (As := [.int (nI i)]) (rest := [.ref q7]) (st' := [.int (xw v i), .ref q7]) (rv := some (.int (xw v i))) C (c_X0_memberOf l D hh cI cZ v i (by omega) (by omega)) (cwV 1 C.words gL_law_X0_memberOf rfl rfl rfl (by decide +kernel) ⟨(Nat.le_of_ble_eq_true rfl), (Nat.le_of_ble_eq_true rfl)⟩) (q0 := 0) (ci := 0) rfl rfl rfl [0, 1] rfl rfl (Nat.le_of_ble_eq_true rfl) ⟨(by show _ ≤ 600130; omega), (by show _ ≤ 7301080; omega)⟩ rfl rfl rfl rfl rfl dL_law_197 ?_
          refine z_dup2 C dL_law_200 rfl rfl ?_
          refine z_iald (f := adF v i) C 8 0 rfl rfl j0 w1 (by omega) (by omega) dL_law_201 ?_
          refine z_iconst (v := 2) C dL_law_202 (by decide) ?_
          refine z_iload C 1 dL_law_203 rfl ?_
          refine z_imul C dL_law_205 ?_
          refine z_iadd C dL_law_206 ?_
          refine z_iast (ws' := ((wX0 hh cI cZ v) ++ [(q7, .inl (cI, (xn v), .inl (upd (adF v i) j0 (((adF v i) j0) + (2 * (xx v i))))))] ++ (wS G cI cP v))) C 8 0 rfl rfl j0 w1 (by omega) (by omega) rfl dL_law_207 ?_
          refine z_iinc (v := nI (i + 1)) (L' := [(8, .int (nI (i + 1))), (6, .int (xfltN (xx v) (i + 1))), (9, .int (xx v i)), (0, .ref b), (1, .ref (hh 0)), (2, .ref (gO G)), (3, .int (nI tm)), (5, .int (nI (xn v))), (7, .ref q7)]) C 8 dL_law_208 rfl (z_inc _) (by decide) rfl ?_
          refine z_goto (tgt := 81) C dL_law_211 (by decide) ?_
          refine z_sub (L' := [(0, .ref b), (1, .ref (hh 0)), (2, .ref (gO G)), (3, .int (nI tm)), (5, .int (nI (xn v))), (6, .int (xfltN (xx v) (i + 1))), (7, .ref q7), (8, .int (nI (i + 1)))]) [3, 4, 5, 6, 7, 1, 8, 0] rfl ?_
          exact (by have e9 := ih (i + 1) (by omega); rw [← adF_s hn8 w1 w2] at e9; exact e9)
      · skip
        refine z_iload C 0 dL_law_144 rfl ?_
        refine z_aload_n C 2 dL_law_146 rfl rfl ?_
        refine z_iload C 8 dL_law_147 rfl ?_
        refine z_callV (w := (wX0 hh cI cZ v)) (w' := (wX0 hh cI cZ v)) (w1 := ([] : va_W)) (w2 := ([(q7, .inl (cI, (xn v), .inl (adF v i)))] ++ (wS G cI cP v))) (ws' := ((wX0 hh cI cZ v) ++ [(q7, .inl (cI, (xn v), .inl (adF v i)))] ++ (wS G cI cP v))) (As := [.int (nI i)]) (rest := [.int (xx v i)]) (st' := [.int (xg v i), .int (xx v i)]) (rv := some (.int (xg v i))) C (c_X0_grainsOf l D hh cI cZ v i (by omega) (by omega)) (cwV 1 C.words gL_law_X0_grainsOf rfl rfl rfl (by decide +kernel) ⟨(Nat.le_of_ble_eq_true rfl), (Nat.le_of_ble_eq_true rfl)⟩) (q0 := 0) (ci := 0) rfl rfl rfl [0, 1] rfl rfl (Nat.le_of_ble_eq_true rfl) ⟨(by show _ ≤ 600130; omega), (by show _ ≤ 7301080; omega)⟩ rfl rfl rfl rfl rfl dL_law_149 ?_
        refine z_icmp_ne (tgt := 175) C dL_law_152 (by decide) (fun h9 => absurd h9 ((fun q => q (by rw [w6, w3, w9 c141])))) (fun _ => ?_)
        refine z_aload_n C 2 dL_law_155 rfl rfl ?_
        refine z_iload C 8 dL_law_156 rfl ?_
        refine z_callV (w := (wX0 hh cI cZ v)) (w' := (wX0 hh cI cZ v)) (w1 := ([] : va_W)) (w2 := ([(q7, .inl (cI, (xn v), .inl (adF v i)))] ++ (wS G cI cP v))) (ws' := ((wX0 hh cI cZ v) ++ [(q7, .inl (cI, (xn v), .inl (adF v i)))] ++ (wS G cI cP v))) (As := [.int (nI i)]) (rest := []) (st' := [.int (xw v i)]) (rv := some (.int (xw v i))) C (c_X0_memberOf l D hh cI cZ v i (by omega) (by omega)) (cwV 1 C.words gL_law_X0_memberOf rfl rfl rfl (by decide +kernel) ⟨(Nat.le_of_ble_eq_true rfl), (Nat.le_of_ble_eq_true rfl)⟩) (q0 := 0) (ci := 0) rfl rfl rfl [0, 1] rfl rfl (Nat.le_of_ble_eq_true rfl) ⟨(by show _ ≤ 600130; omega), (by show _ ≤ 7301080; omega)⟩ rfl rfl rfl rfl rfl dL_law_158 ?_
        refine z_if_lt (tgt := 175) C dL_law_161 (by decide) (fun h9 => absurd h9 (by rw [w1]; exact nI_pos (by omega))) (fun _ => ?_)
        refine z_aload_n C 2 dL_law_164 rfl rfl ?_
        refine z_iload C 8 dL_law_165 rfl ?_
        refine z_callV (w := (wX0 hh cI cZ v)) (w' := (wX0 hh cI cZ v)) (w1 := ([] : va_W)) (w2 := ([(q7, .inl (cI, (xn v), .inl (adF v i)))] ++ (wS G cI cP v))) (ws' := ((wX0 hh cI cZ v) ++ [(q7, .inl (cI, (xn v), .inl (adF v i)))] ++ (wS G cI cP v))) (As := [.int (nI i)]) (rest := []) (st' := [.int (xw v i)]) (rv := some (.int (xw v i))) C (c_X0_memberOf l D hh cI cZ v i (by omega) (by omega)) (cwV 1 C.words gL_law_X0_memberOf rfl rfl rfl (by decide +kernel) ⟨(Nat.le_of_ble_eq_true rfl), (Nat.le_of_ble_eq_true rfl)⟩) (q0 := 0) (ci := 0) rfl rfl rfl [0, 1] rfl rfl (Nat.le_of_ble_eq_true rfl) ⟨(by show _ ≤ 600130; omega), (by show _ ≤ 7301080; omega)⟩ rfl rfl rfl rfl rfl dL_law_167 ?_
        refine z_iload C 5 dL_law_170 rfl ?_
        refine z_icmp_lt (tgt := 177) C dL_law_172 (by decide) (fun _ => ?_) (fun h9 => absurd (by rw [w1]; exact nI_lt w2 (by omega)) h9)
        refine z_iload C 6 dL_law_177 rfl ?_
        refine z_iload C 0 dL_law_179 rfl ?_
        refine z_if_le (tgt := 188) C dL_law_181 (by decide) (fun c181 => ?_) (fun c181 => ?_)
        · skip
          refine z_iconst (v := 0) C dL_law_188 (by decide) ?_
          refine z_iadd C dL_law_189 ?_
          refine z_top (y := xfltN (xx v) (i + 1)) (show xfltN (xx v) i + 0 = (if xx v i ≤ 0 then xfltN (xx v) i else xfltN (xx v) i + 1) from by rw [if_pos c181, Int32.add_zero]) ?_
          refine z_istore (L' := [(6, .int (xfltN (xx v) (i + 1))), (9, .int (xx v i)), (0, .ref b), (1, .ref (hh 0)), (2, .ref (gO G)), (3, .int (nI tm)), (5, .int (nI (xn v))), (7, .ref q7), (8, .int (nI i))]) C dL_law_190 (by decide) rfl ?_
          refine z_aload C 7 dL_law_192 rfl ?_
          refine z_aload_n C 3 dL_law_194 rfl rfl ?_
          refine z_iload C 8 dL_law_195 rfl ?_
          refine z_callV (w := (wX0 hh cI cZ v)) (w' := (wX0 hh cI cZ v)) (w1 := ([] : va_W)) (w2 := ([(q7, .inl (cI, (xn v), .inl (adF v i)))] ++ (wS G cI cP v))) (ws' := ((wX0 hh cI cZ v) ++ [(q7, .inl (cI, (xn v), .inl (adF v i)))] ++ (wS G cI cP v))) (As := [.int (nI i)]) (rest := [.ref q7]) (st' := [.int (xw v i), .ref q7]) (rv := some (.int (xw v i))) C (c_X0_memberOf l D hh cI cZ v i (by omega) (by omega)) (cwV 1 C.words gL_law_X0_memberOf rfl rfl rfl (by decide +kernel) ⟨(Nat.le_of_ble_eq_true rfl), (Nat.le_of_ble_eq_true rfl)⟩) (q0 := 0) (ci := 0) rfl rfl rfl [0, 1] rfl rfl (Nat.le_of_ble_eq_true rfl) ⟨(by show _ ≤ 600130; omega), (by show _ ≤ 7301080; omega)⟩ rfl rfl rfl rfl rfl dL_law_197 ?_
          refine z_dup2 C dL_law_200 rfl rfl ?_
          refine z_iald (f := adF v i) C 8 0 rfl rfl j0 w1 (by omega) (by omega) dL_law_201 ?_
          refine z_iconst (v := 2) C dL_law_202 (by decide) ?_
          refine z_iload C 1 dL_law_203 rfl ?_
          refine z_imul C dL_law_205 ?_
          refine z_iadd C dL_law_206 ?_
          refine z_iast (ws' := ((wX0 hh cI cZ v) ++ [(q7, .inl (cI, (xn v), .inl (upd (adF v i) j0 (((adF v i) j0) + (2 * (xx v i))))))] ++ (wS G cI cP v))) C 8 0 rfl rfl j0 w1 (by omega) (by omega) rfl dL_law_207 ?_
          refine z_iinc (v := nI (i + 1)) (L' := [(8, .int (nI (i + 1))), (6, .int (xfltN (xx v) (i + 1))), (9, .int (xx v i)), (0, .ref b), (1, .ref (hh 0)), (2, .ref (gO G)), (3, .int (nI tm)), (5, .int (nI (xn v))), (7, .ref q7)]) C 8 dL_law_208 rfl (z_inc _) (by decide) rfl ?_
          refine z_goto (tgt := 81) C dL_law_211 (by decide) ?_
          refine z_sub (L' := [(0, .ref b), (1, .ref (hh 0)), (2, .ref (gO G)), (3, .int (nI tm)), (5, .int (nI (xn v))), (6, .int (xfltN (xx v) (i + 1))), (7, .ref q7), (8, .int (nI (i + 1)))]) [3, 4, 5, 6, 7, 1, 8, 0] rfl ?_
          exact (by have e9 := ih (i + 1) (by omega); rw [← adF_s hn8 w1 w2] at e9; exact e9)
        · skip
          refine z_iconst (v := 1) C dL_law_184 (by decide) ?_
          refine z_goto (tgt := 189) C dL_law_185 (by decide) ?_
          refine z_iadd C dL_law_189 ?_
          refine z_top (y := xfltN (xx v) (i + 1)) (show xfltN (xx v) i + 1 = (if xx v i ≤ 0 then xfltN (xx v) i else xfltN (xx v) i + 1) from by rw [if_neg c181]) ?_
          refine z_istore (L' := [(6, .int (xfltN (xx v) (i + 1))), (9, .int (xx v i)), (0, .ref b), (1, .ref (hh 0)), (2, .ref (gO G)), (3, .int (nI tm)), (5, .int (nI (xn v))), (7, .ref q7), (8, .int (nI i))]) C dL_law_190 (by decide) rfl ?_
          refine z_aload C 7 dL_law_192 rfl ?_
          refine z_aload_n C 3 dL_law_194 rfl rfl ?_
          refine z_iload C 8 dL_law_195 rfl ?_
          refine z_callV (w := (wX0 hh cI cZ v)) (w' := (wX0 hh cI cZ v)) (w1 := ([] : va_W)) (w2 := ([(q7, .inl (cI, (xn v), .inl (adF v i)))] ++ (wS G cI cP v))) (ws' := ((wX0 hh cI cZ v) ++ [(q7, .inl (cI, (xn v), .inl (adF v i)))] ++ (wS G cI cP v))) (As := [.int (nI i)]) (rest := [.ref q7]) (st' := [.int (xw v i), .ref q7]) (rv := some (.int (xw v i))) C (c_X0_memberOf l D hh cI cZ v i (by omega) (by omega)) (cwV 1 C.words gL_law_X0_memberOf rfl rfl rfl (by decide +kernel) ⟨(Nat.le_of_ble_eq_true rfl), (Nat.le_of_ble_eq_true rfl)⟩) (q0 := 0) (ci := 0) rfl rfl rfl [0, 1] rfl rfl (Nat.le_of_ble_eq_true rfl) ⟨(by show _ ≤ 600130; omega), (by show _ ≤ 7301080; omega)⟩ rfl rfl rfl rfl rfl dL_law_197 ?_
          refine z_dup2 C dL_law_200 rfl rfl ?_
          refine z_iald (f := adF v i) C 8 0 rfl rfl j0 w1 (by omega) (by omega) dL_law_201 ?_
          refine z_iconst (v := 2) C dL_law_202 (by decide) ?_
          refine z_iload C 1 dL_law_203 rfl ?_
          refine z_imul C dL_law_205 ?_
          refine z_iadd C dL_law_206 ?_
          refine z_iast (ws' := ((wX0 hh cI cZ v) ++ [(q7, .inl (cI, (xn v), .inl (upd (adF v i) j0 (((adF v i) j0) + (2 * (xx v i))))))] ++ (wS G cI cP v))) C 8 0 rfl rfl j0 w1 (by omega) (by omega) rfl dL_law_207 ?_
          refine z_iinc (v := nI (i + 1)) (L' := [(8, .int (nI (i + 1))), (6, .int (xfltN (xx v) (i + 1))), (9, .int (xx v i)), (0, .ref b), (1, .ref (hh 0)), (2, .ref (gO G)), (3, .int (nI tm)), (5, .int (nI (xn v))), (7, .ref q7)]) C 8 dL_law_208 rfl (z_inc _) (by decide) rfl ?_
          refine z_goto (tgt := 81) C dL_law_211 (by decide) ?_
          refine z_sub (L' := [(0, .ref b), (1, .ref (hh 0)), (2, .ref (gO G)), (3, .int (nI tm)), (5, .int (nI (xn v))), (6, .int (xfltN (xx v) (i + 1))), (7, .ref q7), (8, .int (nI (i + 1)))]) [3, 4, 5, 6, 7, 1, 8, 0] rfl ?_
          exact (by have e9 := ih (i + 1) (by omega); rw [← adF_s hn8 w1 w2] at e9; exact e9)
  refine z_aload_n C 1 dL_law_63 rfl rfl ?_
  refine z_callV (w := (wX0 hh cI cZ v)) (w' := (wX0 hh cI cZ v)) (w1 := ([] : va_W)) (w2 := (([] : va_W) ++ (wS G cI cP v))) (ws' := ((wX0 hh cI cZ v) ++ (wS G cI cP v))) (As := []) (rest := []) (st' := [.int (nI (xn v))]) (rv := some (.int (nI (xn v)))) C (c_X0_members l D hh cI cZ v) (cwV 0 C.words gL_law_X0_members rfl rfl rfl (by decide +kernel) ⟨(Nat.le_of_ble_eq_true rfl), (Nat.le_of_ble_eq_true rfl)⟩) (q0 := 0) (ci := 0) rfl rfl rfl [0, 1] rfl rfl (Nat.le_of_ble_eq_true rfl) ⟨(by show _ ≤ 600130; omega), (by show _ ≤ 7301080; omega)⟩ rfl rfl rfl rfl rfl dL_law_64 ?_
  refine z_istore (L' := [(5, .int (nI (xn v))), (0, .ref b), (1, .ref (hh 0)), (2, .ref (gO G)), (3, .int (nI tm))]) C dL_law_67 (by decide) rfl ?_
  refine z_iconst (v := 0) C dL_law_69 (by decide) ?_
  refine z_istore (L' := [(6, .int 0), (5, .int (nI (xn v))), (0, .ref b), (1, .ref (hh 0)), (2, .ref (gO G)), (3, .int (nI tm))]) C dL_law_70 (by decide) rfl ?_
  refine z_iload C 1 dL_law_72 rfl ?_
  refine z_newi (N := xn v) C 0 rfl wd7 (nI_pos (by omega)) (nI_clamp (by omega)) (by omega) (by show _ ≤ 600130; omega) (by show _ ≤ 7301080; omega) dL_law_74 (fun q7 => ?_)
  refine z_swap ?_
  refine z_ws (ws' := ((wX0 hh cI cZ v) ++ [(q7, .inl (cI, (xn v), .inl (adF v 0)))] ++ (wS G cI cP v))) (by rw [adF_0]) ?_
  refine z_astore (L' := [(7, .ref q7), (6, .int 0), (5, .int (nI (xn v))), (0, .ref b), (1, .ref (hh 0)), (2, .ref (gO G)), (3, .int (nI tm))]) C dL_law_76 (by decide) rfl ?_
  refine z_iconst (v := 0) C dL_law_78 (by decide) ?_
  refine z_istore (L' := [(8, .int 0), (7, .ref q7), (6, .int 0), (5, .int (nI (xn v))), (0, .ref b), (1, .ref (hh 0)), (2, .ref (gO G)), (3, .int (nI tm))]) C dL_law_79 (by decide) rfl ?_
  refine z_sub (L' := [(0, .ref b), (1, .ref (hh 0)), (2, .ref (gO G)), (3, .int (nI tm)), (5, .int (nI (xn v))), (6, .int 0), (7, .ref q7), (8, .int 0)]) [4, 5, 6, 7, 3, 2, 1, 0] rfl ?_
  exact lp81 q7 (xk v) 0 (by omega)
