set_option maxHeartbeats 4000000 in
set_option maxRecDepth 100000 in
theorem s_law_ledger {p : Program} {l : Launch} {e : Env} {s : State} {m : MethodId} {below : List Frame} {meth : Method} {c : Code} {b : Nat} {D : va_G} {hh gg : Nat → Nat} {cI cZ cJ : ClassId} {o N : Nat} {xs : Nat → Int32} {cells slots t : Nat} {Q : State → Prop} {v v2 : S0} {u u2 : S1} {f : Nat → Int64} {r : Int32} {fr lo fr0 lo0 : Nat} (K : lC p s m c b D cI cZ cJ N xs) (hfr0 : fr0 + 1 ≤ 12) (hlo0 : lo0 ≤ 400) (hfr : fr + 1 ≤ 12) (hlo : lo ≤ 400) (hc : cells + 9 ≤ 601024) (hs : slots + 64 ≤ 7293034) (hA : zM l yX0_ledger wsX0_ledger fr0 lo0 0 0 [.ref (hh 0)] [(cI, .int), (cZ, .boolean)] D (wX0 hh cI cZ v) (wX0 hh cI cZ v2) (some (.int r))) (hB : zM l yX1_ledger wsX1_ledger fr lo 0 0 [.ref (gg 0)] [(cI, .int)] D (wX1 gg cI u) (wX1 gg cI u2) (some (.int r))) (kk : zG p l e room_1 s m #[.ref b] below meth c D 9 (aN s) (cells + 9) (slots + 64) Q 1557 [(0, .ref b), (1, .ref (hh 0)), (2, .ref (gg 0)), (3, .ref o), (4, .int (nI (4 * t)))] [] (wL hh gg cI cZ cJ o v2 f u2)) : zG p l e room_1 s m #[.ref b] below meth c D 9 (aN s) cells slots Q 871 [(0, .ref b), (1, .ref (hh 0)), (2, .ref (gg 0)), (3, .ref o), (4, .int (nI (4 * t)))] [] (wL hh gg cI cZ cJ o v f u) := by
  obtain ⟨C, ⟨hT, hN⟩, hX, hbl, hN2⟩ := K
  refine z_aload_n C 1 dL_law_871 rfl rfl ?_
  refine z_callV (w := wX0 hh cI cZ v) (w' := wX0 hh cI cZ v2) (w1 := ([] : va_W)) (w2 := (wO o cJ f ++ wX1 gg cI u)) (ws' := wL hh gg cI cZ cJ o v2 f u) (As := []) (rest := []) (st' := [.int r]) (rv := some (.int r)) C hA (cwV 0 C.words gL_law_X0_ledger rfl rfl rfl (by decide +kernel) ⟨hfr0, by show 8 + (_ + 11) + lo0 ≤ 440; omega⟩) (q0 := 0) (ci := 0) rfl rfl rfl [0, 1] rfl rfl (Nat.le_of_ble_eq_true rfl) ⟨by show _ ≤ 601024; omega, by show _ ≤ 7293034; omega⟩ rfl rfl rfl rfl rfl dL_law_872 ?_
  refine z_aload_n C 2 dL_law_875 rfl rfl ?_
  refine z_callV (w := wX1 gg cI u) (w' := wX1 gg cI u2) (w1 := (wX0 hh cI cZ v2 ++ wO o cJ f)) (w2 := ([] : va_W)) (ws' := wL hh gg cI cZ cJ o v2 f u2) (As := []) (rest := [.int r]) (st' := .int r :: [.int r]) (rv := some (.int r)) C hB (cwV 0 C.words gL_law_X1_ledger rfl rfl rfl (by decide +kernel) ⟨hfr, by show 8 + (_ + 11) + lo ≤ 440; omega⟩) (q0 := 0) (ci := 1) rfl rfl rfl [0] rfl rfl (Nat.le_of_ble_eq_true rfl) ⟨by show _ ≤ 601024; omega, by show _ ≤ 7293034; omega⟩ rfl rfl rfl rfl rfl dL_law_876 ?_
  exact z_icmp_eq (tgt := 1557) C dL_law_879 (by decide) (fun _ => z_more (by omega) (by omega) kk) (fun q => absurd rfl q)
set_option maxHeartbeats 4000000 in
set_option maxRecDepth 100000 in
theorem s_law_memberOf {p : Program} {l : Launch} {e : Env} {s : State} {m : MethodId} {below : List Frame} {meth : Method} {c : Code} {b : Nat} {D : va_G} {hh gg : Nat → Nat} {cI cZ cJ : ClassId} {o N : Nat} {xs : Nat → Int32} {cells slots t : Nat} {Q : State → Prop} {v v2 : S0} {u u2 : S1} {f f2 : Nat → Int64} {r k : Int32} {fr lo mc ms : Nat} (K : lC p s m c b D cI cZ cJ N xs) (ht : 4 * t + 4 ≤ N) (hfr : fr + 1 ≤ 12) (hlo : lo ≤ 400) (hc : cells + 1 ≤ 601024) (hs : slots + 6 ≤ 7293034) (hmc : mc ≤ 1) (hms : ms ≤ 6) (hA : zMT l yL_memberOf wsL_memberOf 8 140 mc ms [.ref (hh 0), .int (xs (4 * t + 1)), .ref o] (tyL cI cZ cJ) D (wX0 hh cI cZ v ++ wO o cJ f) (wX0 hh cI cZ v2 ++ wO o cJ f2) (some (.int k))) (hB : zM l yX1_memberOf wsX1_memberOf fr lo 0 0 [.ref (gg 0), .int (xs (4 * t + 1))] [(cI, .int)] D (wX1 gg cI u) (wX1 gg cI u2) (some (.int r))) (hk : rt u2 = k) (hr : k = 0 → f2 0 = r.toInt64) (kk : zG p l e room_1 s m #[.ref b] below meth c D 9 (aN s) (cells + 1) (slots + 6) Q 1557 [(0, .ref b), (1, .ref (hh 0)), (2, .ref (gg 0)), (3, .ref o), (4, .int (nI (4 * t)))] [] (wL hh gg cI cZ cJ o v2 f2 u2)) : zG p l e room_1 s m #[.ref b] below meth c D 9 (aN s) cells slots Q 884 [(0, .ref b), (1, .ref (hh 0)), (2, .ref (gg 0)), (3, .ref o), (4, .int (nI (4 * t)))] [] (wL hh gg cI cZ cJ o v f u) := by
  obtain ⟨C, ⟨hT, hN⟩, hX, hbl, hN2⟩ := K
  have hbA : ¬ aN s b := Nat.not_le.mpr hbl
  refine z_aload_n C 1 dL_law_884 rfl rfl ?_
  refine z_aload_n C 0 dL_law_885 rfl rfl ?_
  refine z_iload C 4 dL_law_886 rfl ?_
  refine z_iconst (v := 1) C dL_law_888 (by decide) ?_
  refine z_iadd C dL_law_889 ?_
  refine z_sld C hX hbl hbA (4 * t + 1) (nI_add (4 * t) 1) (by omega) (by omega) dL_law_890 ?_
  refine z_aload_n C 3 dL_law_891 rfl rfl ?_
  refine z_callT (w := (wX0 hh cI cZ v ++ wO o cJ f)) (w' := (wX0 hh cI cZ v2 ++ wO o cJ f2)) (w1 := ([] : va_W)) (w2 := wX1 gg cI u) (ws' := wL hh gg cI cZ cJ o v2 f2 u) (As := [.ref (hh 0), .int (xs (4 * t + 1)), .ref o]) (rest := []) (st' := [.int k]) (rv := some (.int k)) C hT hN hA (vx_cwSW 3 C.words gL_law_L_memberOf rfl rfl rfl (by decide +kernel) ⟨(Nat.le_of_ble_eq_true rfl), (Nat.le_of_ble_eq_true rfl)⟩) [0, 1, 2] rfl rfl (Nat.le_of_ble_eq_true rfl) ⟨by show _ ≤ 601024; omega, by show _ ≤ 7293034; omega⟩ rfl rfl rfl rfl rfl dL_law_892 ?_
  refine z_istore (L' := [(5, .int k), (0, .ref b), (1, .ref (hh 0)), (2, .ref (gg 0)), (3, .ref o), (4, .int (nI (4 * t)))]) C dL_law_895 (by decide) rfl ?_
  refine z_aload_n C 3 dL_law_897 rfl rfl ?_
  refine z_aload_n C 1 dL_law_898 rfl rfl ?_
  refine z_iload C 5 dL_law_899 rfl ?_
  refine z_iconst (v := 1) C dL_law_901 (by decide) ?_
  refine z_iadd C dL_law_902 ?_
  refine z_sld C hX hbl hbA (4 * t + 1) (nI_add (4 * t) 1) (by omega) (by omega) dL_law_903 ?_
  refine z_callV (w := wX1 gg cI u) (w' := wX1 gg cI u2) (w1 := (wX0 hh cI cZ v2 ++ wO o cJ f2)) (w2 := ([] : va_W)) (ws' := wL hh gg cI cZ cJ o v2 f2 u2) (As := [.int (xs (4 * t + 1))]) (rest := []) (st' := [.int r]) (rv := some (.int r)) C hB (cwV 1 C.words gL_law_X1_memberOf rfl rfl rfl (by decide +kernel) ⟨hfr, by show 8 + (_ + 11) + lo ≤ 440; omega⟩) (q0 := 0) (ci := 1) rfl rfl rfl [0] rfl rfl (Nat.le_of_ble_eq_true rfl) ⟨by show _ ≤ 601024; omega, by show _ ≤ 7293034; omega⟩ rfl rfl rfl rfl rfl dL_law_904 ?_
  refine z_istore (L' := [(6, .int r), (5, .int k), (0, .ref b), (1, .ref (hh 0)), (2, .ref (gg 0)), (3, .ref o), (4, .int (nI (4 * t)))]) C dL_law_907 (by decide) rfl ?_
  refine z_aload_n C 4 dL_law_909 rfl rfl ?_
  refine z_callV (w := wX1 gg cI u2) (w' := wX1 gg cI u2) (w1 := (wX0 hh cI cZ v2 ++ wO o cJ f2)) (w2 := ([] : va_W)) (ws' := wL hh gg cI cZ cJ o v2 f2 u2) (As := []) (rest := []) (st' := [.int (rt u2)]) (rv := some (.int (rt u2))) C (c_X1_thrown l D gg cI u2) (cwV 0 C.words gL_law_X1_thrown rfl rfl rfl (by decide +kernel) ⟨(Nat.le_of_ble_eq_true rfl), (Nat.le_of_ble_eq_true rfl)⟩) (q0 := 0) (ci := 1) rfl rfl rfl [0] rfl rfl (Nat.le_of_ble_eq_true rfl) ⟨by show _ ≤ 601024; omega, by show _ ≤ 7293034; omega⟩ rfl rfl rfl rfl rfl dL_law_910 ?_
  refine z_iload C 1 dL_law_913 rfl ?_
  refine z_icmp_eq (tgt := 920) C dL_law_915 (by decide) (fun _ => ?_) (fun q => absurd hk q)
  refine z_iload C 1 dL_law_920 rfl ?_
  have jend : zG p l e room_1 s m #[.ref b] below meth c D 9 (aN s) (cells + mc + 0 + 0) (slots + ms + 0 + 0) Q 937 [(6, .int r), (5, .int k), (0, .ref b), (1, .ref (hh 0)), (2, .ref (gg 0)), (3, .ref o), (4, .int (nI (4 * t)))] [] (wL hh gg cI cZ cJ o v2 f2 u2) := z_goto (tgt := 1557) C dL_law_937 (by decide) (z_sub (L' := [(0, .ref b), (1, .ref (hh 0)), (2, .ref (gg 0)), (3, .ref o), (4, .int (nI (4 * t)))]) [2, 3, 4, 5, 6] rfl (z_more (by omega) (by omega) kk))
  refine z_if_ne (tgt := 937) C dL_law_922 (by decide) (fun _ => jend) (fun hk0 => ?_)
  refine z_aload_n C 5 dL_law_925 rfl rfl ?_
  refine z_iconst (v := 0) C dL_law_926 (by decide) ?_
  refine z_lald (f := f2) C 8 2 rfl rfl 0 rfl (by decide) (by decide) dL_law_927 ?_
  refine z_iload C 0 dL_law_928 rfl ?_
  refine z_i2l (v := r.toInt64) C dL_law_930 rfl ?_
  refine z_lcmp C dL_law_931 ?_
  refine z_if_eq (tgt := 937) C dL_law_932 (by decide) (fun _ => jend) (fun q => absurd (by rw [hr hk0]; exact lg_self _) q)
set_option maxHeartbeats 4000000 in
set_option maxRecDepth 100000 in
theorem s_law_isLeft {p : Program} {l : Launch} {e : Env} {s : State} {m : MethodId} {below : List Frame} {meth : Method} {c : Code} {b : Nat} {D : va_G} {hh gg : Nat → Nat} {cI cZ cJ : ClassId} {o N : Nat} {xs : Nat → Int32} {cells slots t : Nat} {Q : State → Prop} {v v2 : S0} {u u2 : S1} {f f2 : Nat → Int64} {r k : Int32} {fr lo mc ms : Nat} (K : lC p s m c b D cI cZ cJ N xs) (ht : 4 * t + 4 ≤ N) (hfr : fr + 1 ≤ 12) (hlo : lo ≤ 400) (hc : cells + 1 ≤ 601024) (hs : slots + 6 ≤ 7293034) (hmc : mc ≤ 1) (hms : ms ≤ 6) (hA : zMT l yL_isLeft wsL_isLeft 8 140 mc ms [.ref (hh 0), .int (xs (4 * t + 1)), .ref o] (tyL cI cZ cJ) D (wX0 hh cI cZ v ++ wO o cJ f) (wX0 hh cI cZ v2 ++ wO o cJ f2) (some (.int k))) (hB : zM l yX1_isLeft wsX1_isLeft fr lo 0 0 [.ref (gg 0), .int (xs (4 * t + 1))] [(cI, .int)] D (wX1 gg cI u) (wX1 gg cI u2) (some (.int r))) (hk : rt u2 = k) (hr : k = 0 → f2 0 = (if r = 0 then 0 else 1)) (kk : zG p l e room_1 s m #[.ref b] below meth c D 9 (aN s) (cells + 1) (slots + 6) Q 1557 [(0, .ref b), (1, .ref (hh 0)), (2, .ref (gg 0)), (3, .ref o), (4, .int (nI (4 * t)))] [] (wL hh gg cI cZ cJ o v2 f2 u2)) : zG p l e room_1 s m #[.ref b] below meth c D 9 (aN s) cells slots Q 940 [(0, .ref b), (1, .ref (hh 0)), (2, .ref (gg 0)), (3, .ref o), (4, .int (nI (4 * t)))] [] (wL hh gg cI cZ cJ o v f u) := by
  obtain ⟨C, ⟨hT, hN⟩, hX, hbl, hN2⟩ := K
  have hbA : ¬ aN s b := Nat.not_le.mpr hbl
  refine z_aload_n C 1 dL_law_940 rfl rfl ?_
  refine z_aload_n C 0 dL_law_941 rfl rfl ?_
  refine z_iload C 4 dL_law_942 rfl ?_
  refine z_iconst (v := 1) C dL_law_944 (by decide) ?_
  refine z_iadd C dL_law_945 ?_
  refine z_sld C hX hbl hbA (4 * t + 1) (nI_add (4 * t) 1) (by omega) (by omega) dL_law_946 ?_
  refine z_aload_n C 3 dL_law_947 rfl rfl ?_
  refine z_callT (w := (wX0 hh cI cZ v ++ wO o cJ f)) (w' := (wX0 hh cI cZ v2 ++ wO o cJ f2)) (w1 := ([] : va_W)) (w2 := wX1 gg cI u) (ws' := wL hh gg cI cZ cJ o v2 f2 u) (As := [.ref (hh 0), .int (xs (4 * t + 1)), .ref o]) (rest := []) (st' := [.int k]) (rv := some (.int k)) C hT hN hA (vx_cwSW 3 C.words gL_law_L_isLeft rfl rfl rfl (by decide +kernel) ⟨(Nat.le_of_ble_eq_true rfl), (Nat.le_of_ble_eq_true rfl)⟩) [0, 1, 2] rfl rfl (Nat.le_of_ble_eq_true rfl) ⟨by show _ ≤ 601024; omega, by show _ ≤ 7293034; omega⟩ rfl rfl rfl rfl rfl dL_law_948 ?_
  refine z_istore (L' := [(5, .int k), (0, .ref b), (1, .ref (hh 0)), (2, .ref (gg 0)), (3, .ref o), (4, .int (nI (4 * t)))]) C dL_law_951 (by decide) rfl ?_
  refine z_aload_n C 3 dL_law_953 rfl rfl ?_
  refine z_aload_n C 1 dL_law_954 rfl rfl ?_
  refine z_iload C 5 dL_law_955 rfl ?_
  refine z_iconst (v := 1) C dL_law_957 (by decide) ?_
  refine z_iadd C dL_law_958 ?_
  refine z_sld C hX hbl hbA (4 * t + 1) (nI_add (4 * t) 1) (by omega) (by omega) dL_law_959 ?_
  refine z_callV (w := wX1 gg cI u) (w' := wX1 gg cI u2) (w1 := (wX0 hh cI cZ v2 ++ wO o cJ f2)) (w2 := ([] : va_W)) (ws' := wL hh gg cI cZ cJ o v2 f2 u2) (As := [.int (xs (4 * t + 1))]) (rest := []) (st' := [.int r]) (rv := some (.int r)) C hB (cwV 1 C.words gL_law_X1_isLeft rfl rfl rfl (by decide +kernel) ⟨hfr, by show 8 + (_ + 11) + lo ≤ 440; omega⟩) (q0 := 0) (ci := 1) rfl rfl rfl [0] rfl rfl (Nat.le_of_ble_eq_true rfl) ⟨by show _ ≤ 601024; omega, by show _ ≤ 7293034; omega⟩ rfl rfl rfl rfl rfl dL_law_960 ?_
  refine z_istore (L' := [(6, .int r), (5, .int k), (0, .ref b), (1, .ref (hh 0)), (2, .ref (gg 0)), (3, .ref o), (4, .int (nI (4 * t)))]) C dL_law_963 (by decide) rfl ?_
  refine z_aload_n C 4 dL_law_965 rfl rfl ?_
  refine z_callV (w := wX1 gg cI u2) (w' := wX1 gg cI u2) (w1 := (wX0 hh cI cZ v2 ++ wO o cJ f2)) (w2 := ([] : va_W)) (ws' := wL hh gg cI cZ cJ o v2 f2 u2) (As := []) (rest := []) (st' := [.int (rt u2)]) (rv := some (.int (rt u2))) C (c_X1_thrown l D gg cI u2) (cwV 0 C.words gL_law_X1_thrown rfl rfl rfl (by decide +kernel) ⟨(Nat.le_of_ble_eq_true rfl), (Nat.le_of_ble_eq_true rfl)⟩) (q0 := 0) (ci := 1) rfl rfl rfl [0] rfl rfl (Nat.le_of_ble_eq_true rfl) ⟨by show _ ≤ 601024; omega, by show _ ≤ 7293034; omega⟩ rfl rfl rfl rfl rfl dL_law_966 ?_
  refine z_iload C 1 dL_law_969 rfl ?_
  refine z_icmp_eq (tgt := 976) C dL_law_971 (by decide) (fun _ => ?_) (fun q => absurd hk q)
  refine z_iload C 1 dL_law_976 rfl ?_
  have jend : zG p l e room_1 s m #[.ref b] below meth c D 9 (aN s) (cells + mc + 0 + 0) (slots + ms + 0 + 0) Q 1000 [(6, .int r), (5, .int k), (0, .ref b), (1, .ref (hh 0)), (2, .ref (gg 0)), (3, .ref o), (4, .int (nI (4 * t)))] [] (wL hh gg cI cZ cJ o v2 f2 u2) := z_goto (tgt := 1557) C dL_law_1000 (by decide) (z_sub (L' := [(0, .ref b), (1, .ref (hh 0)), (2, .ref (gg 0)), (3, .ref o), (4, .int (nI (4 * t)))]) [2, 3, 4, 5, 6] rfl (z_more (by omega) (by omega) kk))
  refine z_if_ne (tgt := 1000) C dL_law_978 (by decide) (fun _ => jend) (fun hk0 => ?_)
  refine z_aload_n C 5 dL_law_981 rfl rfl ?_
  refine z_iconst (v := 0) C dL_law_982 (by decide) ?_
  refine z_lald (f := f2) C 8 2 rfl rfl 0 rfl (by decide) (by decide) dL_law_983 ?_
  refine z_iload C 0 dL_law_984 rfl ?_
  refine z_if_eq (tgt := 993) C dL_law_986 (by decide) (fun c7 => ?_) (fun c7 => ?_)
  · refine z_lconst (v := 0) C dL_law_993 (by decide) ?_
    refine z_lcmp C dL_law_994 ?_
    exact z_if_eq (tgt := 1000) C dL_law_995 (by decide) (fun _ => jend) (fun q => absurd (by rw [hr hk0, if_pos c7]; exact lg_self _) q)
  · refine z_lconst (v := 1) C dL_law_989 (by decide) ?_
    refine z_goto (tgt := 994) C dL_law_990 (by decide) ?_
    refine z_lcmp C dL_law_994 ?_
    exact z_if_eq (tgt := 1000) C dL_law_995 (by decide) (fun _ => jend) (fun q => absurd (by rw [hr hk0, if_neg c7]; exact lg_self _) q)
set_option maxHeartbeats 4000000 in
set_option maxRecDepth 100000 in
theorem s_law_grainsOf {p : Program} {l : Launch} {e : Env} {s : State} {m : MethodId} {below : List Frame} {meth : Method} {c : Code} {b : Nat} {D : va_G} {hh gg : Nat → Nat} {cI cZ cJ : ClassId} {o N : Nat} {xs : Nat → Int32} {cells slots t : Nat} {Q : State → Prop} {v v2 : S0} {u u2 : S1} {f f2 : Nat → Int64} {r k : Int32} {fr lo mc ms : Nat} (K : lC p s m c b D cI cZ cJ N xs) (ht : 4 * t + 4 ≤ N) (hfr : fr + 1 ≤ 12) (hlo : lo ≤ 400) (hc : cells + 1 ≤ 601024) (hs : slots + 6 ≤ 7293034) (hmc : mc ≤ 1) (hms : ms ≤ 6) (hA : zMT l yL_grainsOf wsL_grainsOf 8 140 mc ms [.ref (hh 0), .int (xs (4 * t + 1)), .ref o] (tyL cI cZ cJ) D (wX0 hh cI cZ v ++ wO o cJ f) (wX0 hh cI cZ v2 ++ wO o cJ f2) (some (.int k))) (hB : zM l yX1_grainsOf wsX1_grainsOf fr lo 0 0 [.ref (gg 0), .int (xs (4 * t + 1))] [(cI, .int)] D (wX1 gg cI u) (wX1 gg cI u2) (some (.int r))) (hk : rt u2 = k) (hr : k = 0 → f2 0 = r.toInt64) (kk : zG p l e room_1 s m #[.ref b] below meth c D 9 (aN s) (cells + 1) (slots + 6) Q 1557 [(0, .ref b), (1, .ref (hh 0)), (2, .ref (gg 0)), (3, .ref o), (4, .int (nI (4 * t)))] [] (wL hh gg cI cZ cJ o v2 f2 u2)) : zG p l e room_1 s m #[.ref b] below meth c D 9 (aN s) cells slots Q 1003 [(0, .ref b), (1, .ref (hh 0)), (2, .ref (gg 0)), (3, .ref o), (4, .int (nI (4 * t)))] [] (wL hh gg cI cZ cJ o v f u) := by
  obtain ⟨C, ⟨hT, hN⟩, hX, hbl, hN2⟩ := K
  have hbA : ¬ aN s b := Nat.not_le.mpr hbl
  refine z_aload_n C 1 dL_law_1003 rfl rfl ?_
  refine z_aload_n C 0 dL_law_1004 rfl rfl ?_
  refine z_iload C 4 dL_law_1005 rfl ?_
  refine z_iconst (v := 1) C dL_law_1007 (by decide) ?_
  refine z_iadd C dL_law_1008 ?_
  refine z_sld C hX hbl hbA (4 * t + 1) (nI_add (4 * t) 1) (by omega) (by omega) dL_law_1009 ?_
  refine z_aload_n C 3 dL_law_1010 rfl rfl ?_
  refine z_callT (w := (wX0 hh cI cZ v ++ wO o cJ f)) (w' := (wX0 hh cI cZ v2 ++ wO o cJ f2)) (w1 := ([] : va_W)) (w2 := wX1 gg cI u) (ws' := wL hh gg cI cZ cJ o v2 f2 u) (As := [.ref (hh 0), .int (xs (4 * t + 1)), .ref o]) (rest := []) (st' := [.int k]) (rv := some (.int k)) C hT hN hA (vx_cwSW 3 C.words gL_law_L_grainsOf rfl rfl rfl (by decide +kernel) ⟨(Nat.le_of_ble_eq_true rfl), (Nat.le_of_ble_eq_true rfl)⟩) [0, 1, 2] rfl rfl (Nat.le_of_ble_eq_true rfl) ⟨by show _ ≤ 601024; omega, by show _ ≤ 7293034; omega⟩ rfl rfl rfl rfl rfl dL_law_1011 ?_
  refine z_istore (L' := [(5, .int k), (0, .ref b), (1, .ref (hh 0)), (2, .ref (gg 0)), (3, .ref o), (4, .int (nI (4 * t)))]) C dL_law_1014 (by decide) rfl ?_
  refine z_aload_n C 3 dL_law_1016 rfl rfl ?_
  refine z_aload_n C 1 dL_law_1017 rfl rfl ?_
  refine z_iload C 5 dL_law_1018 rfl ?_
  refine z_iconst (v := 1) C dL_law_1020 (by decide) ?_
  refine z_iadd C dL_law_1021 ?_
  refine z_sld C hX hbl hbA (4 * t + 1) (nI_add (4 * t) 1) (by omega) (by omega) dL_law_1022 ?_
  refine z_callV (w := wX1 gg cI u) (w' := wX1 gg cI u2) (w1 := (wX0 hh cI cZ v2 ++ wO o cJ f2)) (w2 := ([] : va_W)) (ws' := wL hh gg cI cZ cJ o v2 f2 u2) (As := [.int (xs (4 * t + 1))]) (rest := []) (st' := [.int r]) (rv := some (.int r)) C hB (cwV 1 C.words gL_law_X1_grainsOf rfl rfl rfl (by decide +kernel) ⟨hfr, by show 8 + (_ + 11) + lo ≤ 440; omega⟩) (q0 := 0) (ci := 1) rfl rfl rfl [0] rfl rfl (Nat.le_of_ble_eq_true rfl) ⟨by show _ ≤ 601024; omega, by show _ ≤ 7293034; omega⟩ rfl rfl rfl rfl rfl dL_law_1023 ?_
  refine z_istore (L' := [(6, .int r), (5, .int k), (0, .ref b), (1, .ref (hh 0)), (2, .ref (gg 0)), (3, .ref o), (4, .int (nI (4 * t)))]) C dL_law_1026 (by decide) rfl ?_
  refine z_aload_n C 4 dL_law_1028 rfl rfl ?_
  refine z_callV (w := wX1 gg cI u2) (w' := wX1 gg cI u2) (w1 := (wX0 hh cI cZ v2 ++ wO o cJ f2)) (w2 := ([] : va_W)) (ws' := wL hh gg cI cZ cJ o v2 f2 u2) (As := []) (rest := []) (st' := [.int (rt u2)]) (rv := some (.int (rt u2))) C (c_X1_thrown l D gg cI u2) (cwV 0 C.words gL_law_X1_thrown rfl rfl rfl (by decide +kernel) ⟨(Nat.le_of_ble_eq_true rfl), (Nat.le_of_ble_eq_true rfl)⟩) (q0 := 0) (ci := 1) rfl rfl rfl [0] rfl rfl (Nat.le_of_ble_eq_true rfl) ⟨by show _ ≤ 601024; omega, by show _ ≤ 7293034; omega⟩ rfl rfl rfl rfl rfl dL_law_1029 ?_
  refine z_iload C 1 dL_law_1032 rfl ?_
  refine z_icmp_eq (tgt := 1039) C dL_law_1034 (by decide) (fun _ => ?_) (fun q => absurd hk q)
  refine z_iload C 1 dL_law_1039 rfl ?_
  have jend : zG p l e room_1 s m #[.ref b] below meth c D 9 (aN s) (cells + mc + 0 + 0) (slots + ms + 0 + 0) Q 1056 [(6, .int r), (5, .int k), (0, .ref b), (1, .ref (hh 0)), (2, .ref (gg 0)), (3, .ref o), (4, .int (nI (4 * t)))] [] (wL hh gg cI cZ cJ o v2 f2 u2) := z_goto (tgt := 1557) C dL_law_1056 (by decide) (z_sub (L' := [(0, .ref b), (1, .ref (hh 0)), (2, .ref (gg 0)), (3, .ref o), (4, .int (nI (4 * t)))]) [2, 3, 4, 5, 6] rfl (z_more (by omega) (by omega) kk))
  refine z_if_ne (tgt := 1056) C dL_law_1041 (by decide) (fun _ => jend) (fun hk0 => ?_)
  refine z_aload_n C 5 dL_law_1044 rfl rfl ?_
  refine z_iconst (v := 0) C dL_law_1045 (by decide) ?_
  refine z_lald (f := f2) C 8 2 rfl rfl 0 rfl (by decide) (by decide) dL_law_1046 ?_
  refine z_iload C 0 dL_law_1047 rfl ?_
  refine z_i2l (v := r.toInt64) C dL_law_1049 rfl ?_
  refine z_lcmp C dL_law_1050 ?_
  refine z_if_eq (tgt := 1056) C dL_law_1051 (by decide) (fun _ => jend) (fun q => absurd (by rw [hr hk0]; exact lg_self _) q)
set_option maxHeartbeats 4000000 in
set_option maxRecDepth 100000 in
theorem s_law_excessOf {p : Program} {l : Launch} {e : Env} {s : State} {m : MethodId} {below : List Frame} {meth : Method} {c : Code} {b : Nat} {D : va_G} {hh gg : Nat → Nat} {cI cZ cJ : ClassId} {o N : Nat} {xs : Nat → Int32} {cells slots t : Nat} {Q : State → Prop} {v v2 : S0} {u u2 : S1} {f f2 : Nat → Int64} {r k : Int32} {fr lo mc ms : Nat} (K : lC p s m c b D cI cZ cJ N xs) (ht : 4 * t + 4 ≤ N) (hfr : fr + 1 ≤ 12) (hlo : lo ≤ 400) (hc : cells + 1 ≤ 601024) (hs : slots + 6 ≤ 7293034) (hmc : mc ≤ 1) (hms : ms ≤ 6) (hA : zMT l yL_excessOf wsL_excessOf 8 140 mc ms [.ref (hh 0), .int (xs (4 * t + 1)), .ref o] (tyL cI cZ cJ) D (wX0 hh cI cZ v ++ wO o cJ f) (wX0 hh cI cZ v2 ++ wO o cJ f2) (some (.int k))) (hB : zM l yX1_excessOf wsX1_excessOf fr lo 0 0 [.ref (gg 0), .int (xs (4 * t + 1))] [(cI, .int)] D (wX1 gg cI u) (wX1 gg cI u2) (some (.int r))) (hk : rt u2 = k) (hr : k = 0 → f2 0 = r.toInt64) (kk : zG p l e room_1 s m #[.ref b] below meth c D 9 (aN s) (cells + 1) (slots + 6) Q 1557 [(0, .ref b), (1, .ref (hh 0)), (2, .ref (gg 0)), (3, .ref o), (4, .int (nI (4 * t)))] [] (wL hh gg cI cZ cJ o v2 f2 u2)) : zG p l e room_1 s m #[.ref b] below meth c D 9 (aN s) cells slots Q 1059 [(0, .ref b), (1, .ref (hh 0)), (2, .ref (gg 0)), (3, .ref o), (4, .int (nI (4 * t)))] [] (wL hh gg cI cZ cJ o v f u) := by
  obtain ⟨C, ⟨hT, hN⟩, hX, hbl, hN2⟩ := K
  have hbA : ¬ aN s b := Nat.not_le.mpr hbl
  refine z_aload_n C 1 dL_law_1059 rfl rfl ?_
  refine z_aload_n C 0 dL_law_1060 rfl rfl ?_
  refine z_iload C 4 dL_law_1061 rfl ?_
  refine z_iconst (v := 1) C dL_law_1063 (by decide) ?_
  refine z_iadd C dL_law_1064 ?_
  refine z_sld C hX hbl hbA (4 * t + 1) (nI_add (4 * t) 1) (by omega) (by omega) dL_law_1065 ?_
  refine z_aload_n C 3 dL_law_1066 rfl rfl ?_
  refine z_callT (w := (wX0 hh cI cZ v ++ wO o cJ f)) (w' := (wX0 hh cI cZ v2 ++ wO o cJ f2)) (w1 := ([] : va_W)) (w2 := wX1 gg cI u) (ws' := wL hh gg cI cZ cJ o v2 f2 u) (As := [.ref (hh 0), .int (xs (4 * t + 1)), .ref o]) (rest := []) (st' := [.int k]) (rv := some (.int k)) C hT hN hA (vx_cwSW 3 C.words gL_law_L_excessOf rfl rfl rfl (by decide +kernel) ⟨(Nat.le_of_ble_eq_true rfl), (Nat.le_of_ble_eq_true rfl)⟩) [0, 1, 2] rfl rfl (Nat.le_of_ble_eq_true rfl) ⟨by show _ ≤ 601024; omega, by show _ ≤ 7293034; omega⟩ rfl rfl rfl rfl rfl dL_law_1067 ?_
  refine z_istore (L' := [(5, .int k), (0, .ref b), (1, .ref (hh 0)), (2, .ref (gg 0)), (3, .ref o), (4, .int (nI (4 * t)))]) C dL_law_1070 (by decide) rfl ?_
  refine z_aload_n C 3 dL_law_1072 rfl rfl ?_
  refine z_aload_n C 1 dL_law_1073 rfl rfl ?_
  refine z_iload C 5 dL_law_1074 rfl ?_
  refine z_iconst (v := 1) C dL_law_1076 (by decide) ?_
  refine z_iadd C dL_law_1077 ?_
  refine z_sld C hX hbl hbA (4 * t + 1) (nI_add (4 * t) 1) (by omega) (by omega) dL_law_1078 ?_
  refine z_callV (w := wX1 gg cI u) (w' := wX1 gg cI u2) (w1 := (wX0 hh cI cZ v2 ++ wO o cJ f2)) (w2 := ([] : va_W)) (ws' := wL hh gg cI cZ cJ o v2 f2 u2) (As := [.int (xs (4 * t + 1))]) (rest := []) (st' := [.int r]) (rv := some (.int r)) C hB (cwV 1 C.words gL_law_X1_excessOf rfl rfl rfl (by decide +kernel) ⟨hfr, by show 8 + (_ + 11) + lo ≤ 440; omega⟩) (q0 := 0) (ci := 1) rfl rfl rfl [0] rfl rfl (Nat.le_of_ble_eq_true rfl) ⟨by show _ ≤ 601024; omega, by show _ ≤ 7293034; omega⟩ rfl rfl rfl rfl rfl dL_law_1079 ?_
  refine z_istore (L' := [(6, .int r), (5, .int k), (0, .ref b), (1, .ref (hh 0)), (2, .ref (gg 0)), (3, .ref o), (4, .int (nI (4 * t)))]) C dL_law_1082 (by decide) rfl ?_
  refine z_aload_n C 4 dL_law_1084 rfl rfl ?_
  refine z_callV (w := wX1 gg cI u2) (w' := wX1 gg cI u2) (w1 := (wX0 hh cI cZ v2 ++ wO o cJ f2)) (w2 := ([] : va_W)) (ws' := wL hh gg cI cZ cJ o v2 f2 u2) (As := []) (rest := []) (st' := [.int (rt u2)]) (rv := some (.int (rt u2))) C (c_X1_thrown l D gg cI u2) (cwV 0 C.words gL_law_X1_thrown rfl rfl rfl (by decide +kernel) ⟨(Nat.le_of_ble_eq_true rfl), (Nat.le_of_ble_eq_true rfl)⟩) (q0 := 0) (ci := 1) rfl rfl rfl [0] rfl rfl (Nat.le_of_ble_eq_true rfl) ⟨by show _ ≤ 601024; omega, by show _ ≤ 7293034; omega⟩ rfl rfl rfl rfl rfl dL_law_1085 ?_
  refine z_iload C 1 dL_law_1088 rfl ?_
  refine z_icmp_eq (tgt := 1095) C dL_law_1090 (by decide) (fun _ => ?_) (fun q => absurd hk q)
  refine z_iload C 1 dL_law_1095 rfl ?_
  have jend : zG p l e room_1 s m #[.ref b] below meth c D 9 (aN s) (cells + mc + 0 + 0) (slots + ms + 0 + 0) Q 1112 [(6, .int r), (5, .int k), (0, .ref b), (1, .ref (hh 0)), (2, .ref (gg 0)), (3, .ref o), (4, .int (nI (4 * t)))] [] (wL hh gg cI cZ cJ o v2 f2 u2) := z_goto (tgt := 1557) C dL_law_1112 (by decide) (z_sub (L' := [(0, .ref b), (1, .ref (hh 0)), (2, .ref (gg 0)), (3, .ref o), (4, .int (nI (4 * t)))]) [2, 3, 4, 5, 6] rfl (z_more (by omega) (by omega) kk))
  refine z_if_ne (tgt := 1112) C dL_law_1097 (by decide) (fun _ => jend) (fun hk0 => ?_)
  refine z_aload_n C 5 dL_law_1100 rfl rfl ?_
  refine z_iconst (v := 0) C dL_law_1101 (by decide) ?_
  refine z_lald (f := f2) C 8 2 rfl rfl 0 rfl (by decide) (by decide) dL_law_1102 ?_
  refine z_iload C 0 dL_law_1103 rfl ?_
  refine z_i2l (v := r.toInt64) C dL_law_1105 rfl ?_
  refine z_lcmp C dL_law_1106 ?_
  refine z_if_eq (tgt := 1112) C dL_law_1107 (by decide) (fun _ => jend) (fun q => absurd (by rw [hr hk0]; exact lg_self _) q)
set_option maxHeartbeats 4000000 in
set_option maxRecDepth 100000 in
theorem s_law_faults {p : Program} {l : Launch} {e : Env} {s : State} {m : MethodId} {below : List Frame} {meth : Method} {c : Code} {b : Nat} {D : va_G} {hh gg : Nat → Nat} {cI cZ cJ : ClassId} {o N : Nat} {xs : Nat → Int32} {cells slots t : Nat} {Q : State → Prop} {v v2 : S0} {u u2 : S1} {f : Nat → Int64} {r : Int32} {fr lo fr0 lo0 : Nat} (K : lC p s m c b D cI cZ cJ N xs) (hfr0 : fr0 + 1 ≤ 12) (hlo0 : lo0 ≤ 400) (hfr : fr + 1 ≤ 12) (hlo : lo ≤ 400) (hc : cells + 9 ≤ 601024) (hs : slots + 64 ≤ 7293034) (hA : zM l yX0_faults wsX0_faults fr0 lo0 0 0 [.ref (hh 0)] [(cI, .int), (cZ, .boolean)] D (wX0 hh cI cZ v) (wX0 hh cI cZ v2) (some (.int r))) (hB : zM l yX1_faults wsX1_faults fr lo 0 0 [.ref (gg 0)] [(cI, .int)] D (wX1 gg cI u) (wX1 gg cI u2) (some (.int r))) (kk : zG p l e room_1 s m #[.ref b] below meth c D 9 (aN s) (cells + 9) (slots + 64) Q 1557 [(0, .ref b), (1, .ref (hh 0)), (2, .ref (gg 0)), (3, .ref o), (4, .int (nI (4 * t)))] [] (wL hh gg cI cZ cJ o v2 f u2)) : zG p l e room_1 s m #[.ref b] below meth c D 9 (aN s) cells slots Q 1115 [(0, .ref b), (1, .ref (hh 0)), (2, .ref (gg 0)), (3, .ref o), (4, .int (nI (4 * t)))] [] (wL hh gg cI cZ cJ o v f u) := by
  obtain ⟨C, ⟨hT, hN⟩, hX, hbl, hN2⟩ := K
  refine z_aload_n C 1 dL_law_1115 rfl rfl ?_
  refine z_callV (w := wX0 hh cI cZ v) (w' := wX0 hh cI cZ v2) (w1 := ([] : va_W)) (w2 := (wO o cJ f ++ wX1 gg cI u)) (ws' := wL hh gg cI cZ cJ o v2 f u) (As := []) (rest := []) (st' := [.int r]) (rv := some (.int r)) C hA (cwV 0 C.words gL_law_X0_faults rfl rfl rfl (by decide +kernel) ⟨hfr0, by show 8 + (_ + 11) + lo0 ≤ 440; omega⟩) (q0 := 0) (ci := 0) rfl rfl rfl [0, 1] rfl rfl (Nat.le_of_ble_eq_true rfl) ⟨by show _ ≤ 601024; omega, by show _ ≤ 7293034; omega⟩ rfl rfl rfl rfl rfl dL_law_1116 ?_
  refine z_aload_n C 2 dL_law_1119 rfl rfl ?_
  refine z_callV (w := wX1 gg cI u) (w' := wX1 gg cI u2) (w1 := (wX0 hh cI cZ v2 ++ wO o cJ f)) (w2 := ([] : va_W)) (ws' := wL hh gg cI cZ cJ o v2 f u2) (As := []) (rest := [.int r]) (st' := .int r :: [.int r]) (rv := some (.int r)) C hB (cwV 0 C.words gL_law_X1_faults rfl rfl rfl (by decide +kernel) ⟨hfr, by show 8 + (_ + 11) + lo ≤ 440; omega⟩) (q0 := 0) (ci := 1) rfl rfl rfl [0] rfl rfl (Nat.le_of_ble_eq_true rfl) ⟨by show _ ≤ 601024; omega, by show _ ≤ 7293034; omega⟩ rfl rfl rfl rfl rfl dL_law_1120 ?_
  exact z_icmp_eq (tgt := 1557) C dL_law_1123 (by decide) (fun _ => z_more (by omega) (by omega) kk) (fun q => absurd rfl q)
set_option maxHeartbeats 4000000 in
set_option maxRecDepth 100000 in
theorem s_law_arrearsByAudit {p : Program} {l : Launch} {e : Env} {s : State} {m : MethodId} {below : List Frame} {meth : Method} {c : Code} {b : Nat} {D : va_G} {hh gg : Nat → Nat} {cI cZ cJ : ClassId} {o N : Nat} {xs : Nat → Int32} {cells slots t : Nat} {Q : State → Prop} {v v2 : S0} {u u2 : S1} {f f2 : Nat → Int64} {r k : Int32} {fr lo mc ms : Nat} (K : lC p s m c b D cI cZ cJ N xs) (ht : 4 * t + 4 ≤ N) (hfr : fr + 1 ≤ 12) (hlo : lo ≤ 400) (hc : cells + 1 ≤ 601024) (hs : slots + 6 ≤ 7293034) (hmc : mc ≤ 1) (hms : ms ≤ 6) (hA : zMT l yL_arrearsByAudit wsL_arrearsByAudit 8 140 mc ms [.ref (hh 0), .int (xs (4 * t + 1)), .ref o] (tyL cI cZ cJ) D (wX0 hh cI cZ v ++ wO o cJ f) (wX0 hh cI cZ v2 ++ wO o cJ f2) (some (.int k))) (hB : zM l yX1_arrearsByAudit wsX1_arrearsByAudit fr lo 0 0 [.ref (gg 0), .int (xs (4 * t + 1))] [(cI, .int)] D (wX1 gg cI u) (wX1 gg cI u2) (some (.int r))) (hk : rt u2 = k) (hr : k = 0 → f2 0 = r.toInt64) (kk : zG p l e room_1 s m #[.ref b] below meth c D 9 (aN s) (cells + 1) (slots + 6) Q 1557 [(0, .ref b), (1, .ref (hh 0)), (2, .ref (gg 0)), (3, .ref o), (4, .int (nI (4 * t)))] [] (wL hh gg cI cZ cJ o v2 f2 u2)) : zG p l e room_1 s m #[.ref b] below meth c D 9 (aN s) cells slots Q 1128 [(0, .ref b), (1, .ref (hh 0)), (2, .ref (gg 0)), (3, .ref o), (4, .int (nI (4 * t)))] [] (wL hh gg cI cZ cJ o v f u) := by
  obtain ⟨C, ⟨hT, hN⟩, hX, hbl, hN2⟩ := K
  have hbA : ¬ aN s b := Nat.not_le.mpr hbl
  refine z_aload_n C 1 dL_law_1128 rfl rfl ?_
  refine z_aload_n C 0 dL_law_1129 rfl rfl ?_
  refine z_iload C 4 dL_law_1130 rfl ?_
  refine z_iconst (v := 1) C dL_law_1132 (by decide) ?_
  refine z_iadd C dL_law_1133 ?_
  refine z_sld C hX hbl hbA (4 * t + 1) (nI_add (4 * t) 1) (by omega) (by omega) dL_law_1134 ?_
  refine z_aload_n C 3 dL_law_1135 rfl rfl ?_
  refine z_callT (w := (wX0 hh cI cZ v ++ wO o cJ f)) (w' := (wX0 hh cI cZ v2 ++ wO o cJ f2)) (w1 := ([] : va_W)) (w2 := wX1 gg cI u) (ws' := wL hh gg cI cZ cJ o v2 f2 u) (As := [.ref (hh 0), .int (xs (4 * t + 1)), .ref o]) (rest := []) (st' := [.int k]) (rv := some (.int k)) C hT hN hA (vx_cwSW 3 C.words gL_law_L_arrearsByAudit rfl rfl rfl (by decide +kernel) ⟨(Nat.le_of_ble_eq_true rfl), (Nat.le_of_ble_eq_true rfl)⟩) [0, 1, 2] rfl rfl (Nat.le_of_ble_eq_true rfl) ⟨by show _ ≤ 601024; omega, by show _ ≤ 7293034; omega⟩ rfl rfl rfl rfl rfl dL_law_1136 ?_
  refine z_istore (L' := [(5, .int k), (0, .ref b), (1, .ref (hh 0)), (2, .ref (gg 0)), (3, .ref o), (4, .int (nI (4 * t)))]) C dL_law_1139 (by decide) rfl ?_
  refine z_aload_n C 3 dL_law_1141 rfl rfl ?_
  refine z_aload_n C 1 dL_law_1142 rfl rfl ?_
  refine z_iload C 5 dL_law_1143 rfl ?_
  refine z_iconst (v := 1) C dL_law_1145 (by decide) ?_
  refine z_iadd C dL_law_1146 ?_
  refine z_sld C hX hbl hbA (4 * t + 1) (nI_add (4 * t) 1) (by omega) (by omega) dL_law_1147 ?_
  refine z_callV (w := wX1 gg cI u) (w' := wX1 gg cI u2) (w1 := (wX0 hh cI cZ v2 ++ wO o cJ f2)) (w2 := ([] : va_W)) (ws' := wL hh gg cI cZ cJ o v2 f2 u2) (As := [.int (xs (4 * t + 1))]) (rest := []) (st' := [.int r]) (rv := some (.int r)) C hB (cwV 1 C.words gL_law_X1_arrearsByAudit rfl rfl rfl (by decide +kernel) ⟨hfr, by show 8 + (_ + 11) + lo ≤ 440; omega⟩) (q0 := 0) (ci := 1) rfl rfl rfl [0] rfl rfl (Nat.le_of_ble_eq_true rfl) ⟨by show _ ≤ 601024; omega, by show _ ≤ 7293034; omega⟩ rfl rfl rfl rfl rfl dL_law_1148 ?_
  refine z_istore (L' := [(6, .int r), (5, .int k), (0, .ref b), (1, .ref (hh 0)), (2, .ref (gg 0)), (3, .ref o), (4, .int (nI (4 * t)))]) C dL_law_1151 (by decide) rfl ?_
  refine z_aload_n C 4 dL_law_1153 rfl rfl ?_
  refine z_callV (w := wX1 gg cI u2) (w' := wX1 gg cI u2) (w1 := (wX0 hh cI cZ v2 ++ wO o cJ f2)) (w2 := ([] : va_W)) (ws' := wL hh gg cI cZ cJ o v2 f2 u2) (As := []) (rest := []) (st' := [.int (rt u2)]) (rv := some (.int (rt u2))) C (c_X1_thrown l D gg cI u2) (cwV 0 C.words gL_law_X1_thrown rfl rfl rfl (by decide +kernel) ⟨(Nat.le_of_ble_eq_true rfl), (Nat.le_of_ble_eq_true rfl)⟩) (q0 := 0) (ci := 1) rfl rfl rfl [0] rfl rfl (Nat.le_of_ble_eq_true rfl) ⟨by show _ ≤ 601024; omega, by show _ ≤ 7293034; omega⟩ rfl rfl rfl rfl rfl dL_law_1154 ?_
  refine z_iload C 1 dL_law_1157 rfl ?_
  refine z_icmp_eq (tgt := 1164) C dL_law_1159 (by decide) (fun _ => ?_) (fun q => absurd hk q)
  refine z_iload C 1 dL_law_1164 rfl ?_
  have jend : zG p l e room_1 s m #[.ref b] below meth c D 9 (aN s) (cells + mc + 0 + 0) (slots + ms + 0 + 0) Q 1181 [(6, .int r), (5, .int k), (0, .ref b), (1, .ref (hh 0)), (2, .ref (gg 0)), (3, .ref o), (4, .int (nI (4 * t)))] [] (wL hh gg cI cZ cJ o v2 f2 u2) := z_goto (tgt := 1557) C dL_law_1181 (by decide) (z_sub (L' := [(0, .ref b), (1, .ref (hh 0)), (2, .ref (gg 0)), (3, .ref o), (4, .int (nI (4 * t)))]) [2, 3, 4, 5, 6] rfl (z_more (by omega) (by omega) kk))
  refine z_if_ne (tgt := 1181) C dL_law_1166 (by decide) (fun _ => jend) (fun hk0 => ?_)
  refine z_aload_n C 5 dL_law_1169 rfl rfl ?_
  refine z_iconst (v := 0) C dL_law_1170 (by decide) ?_
  refine z_lald (f := f2) C 8 2 rfl rfl 0 rfl (by decide) (by decide) dL_law_1171 ?_
  refine z_iload C 0 dL_law_1172 rfl ?_
  refine z_i2l (v := r.toInt64) C dL_law_1174 rfl ?_
  refine z_lcmp C dL_law_1175 ?_
  refine z_if_eq (tgt := 1181) C dL_law_1176 (by decide) (fun _ => jend) (fun q => absurd (by rw [hr hk0]; exact lg_self _) q)
set_option maxHeartbeats 4000000 in
set_option maxRecDepth 100000 in
theorem s_law_daysUntilAudit {p : Program} {l : Launch} {e : Env} {s : State} {m : MethodId} {below : List Frame} {meth : Method} {c : Code} {b : Nat} {D : va_G} {hh gg : Nat → Nat} {cI cZ cJ : ClassId} {o N : Nat} {xs : Nat → Int32} {cells slots t : Nat} {Q : State → Prop} {v v2 : S0} {u u2 : S1} {f : Nat → Int64} {r : Int32} {fr lo fr0 lo0 : Nat} (K : lC p s m c b D cI cZ cJ N xs) (hfr0 : fr0 + 1 ≤ 12) (hlo0 : lo0 ≤ 400) (hfr : fr + 1 ≤ 12) (hlo : lo ≤ 400) (hc : cells + 9 ≤ 601024) (hs : slots + 64 ≤ 7293034) (hA : zM l yX0_daysUntilAudit wsX0_daysUntilAudit fr0 lo0 0 0 [.ref (hh 0)] [(cI, .int), (cZ, .boolean)] D (wX0 hh cI cZ v) (wX0 hh cI cZ v2) (some (.int r))) (hB : zM l yX1_daysUntilAudit wsX1_daysUntilAudit fr lo 0 0 [.ref (gg 0)] [(cI, .int)] D (wX1 gg cI u) (wX1 gg cI u2) (some (.int r))) (kk : zG p l e room_1 s m #[.ref b] below meth c D 9 (aN s) (cells + 9) (slots + 64) Q 1557 [(0, .ref b), (1, .ref (hh 0)), (2, .ref (gg 0)), (3, .ref o), (4, .int (nI (4 * t)))] [] (wL hh gg cI cZ cJ o v2 f u2)) : zG p l e room_1 s m #[.ref b] below meth c D 9 (aN s) cells slots Q 1184 [(0, .ref b), (1, .ref (hh 0)), (2, .ref (gg 0)), (3, .ref o), (4, .int (nI (4 * t)))] [] (wL hh gg cI cZ cJ o v f u) := by
  obtain ⟨C, ⟨hT, hN⟩, hX, hbl, hN2⟩ := K
  refine z_aload_n C 1 dL_law_1184 rfl rfl ?_
  refine z_callV (w := wX0 hh cI cZ v) (w' := wX0 hh cI cZ v2) (w1 := ([] : va_W)) (w2 := (wO o cJ f ++ wX1 gg cI u)) (ws' := wL hh gg cI cZ cJ o v2 f u) (As := []) (rest := []) (st' := [.int r]) (rv := some (.int r)) C hA (cwV 0 C.words gL_law_X0_daysUntilAudit rfl rfl rfl (by decide +kernel) ⟨hfr0, by show 8 + (_ + 11) + lo0 ≤ 440; omega⟩) (q0 := 0) (ci := 0) rfl rfl rfl [0, 1] rfl rfl (Nat.le_of_ble_eq_true rfl) ⟨by show _ ≤ 601024; omega, by show _ ≤ 7293034; omega⟩ rfl rfl rfl rfl rfl dL_law_1185 ?_
  refine z_aload_n C 2 dL_law_1188 rfl rfl ?_
  refine z_callV (w := wX1 gg cI u) (w' := wX1 gg cI u2) (w1 := (wX0 hh cI cZ v2 ++ wO o cJ f)) (w2 := ([] : va_W)) (ws' := wL hh gg cI cZ cJ o v2 f u2) (As := []) (rest := [.int r]) (st' := .int r :: [.int r]) (rv := some (.int r)) C hB (cwV 0 C.words gL_law_X1_daysUntilAudit rfl rfl rfl (by decide +kernel) ⟨hfr, by show 8 + (_ + 11) + lo ≤ 440; omega⟩) (q0 := 0) (ci := 1) rfl rfl rfl [0] rfl rfl (Nat.le_of_ble_eq_true rfl) ⟨by show _ ≤ 601024; omega, by show _ ≤ 7293034; omega⟩ rfl rfl rfl rfl rfl dL_law_1189 ?_
  exact z_icmp_eq (tgt := 1557) C dL_law_1192 (by decide) (fun _ => z_more (by omega) (by omega) kk) (fun q => absurd rfl q)
set_option maxHeartbeats 4000000 in
set_option maxRecDepth 100000 in
theorem s_law_faultsFound {p : Program} {l : Launch} {e : Env} {s : State} {m : MethodId} {below : List Frame} {meth : Method} {c : Code} {b : Nat} {D : va_G} {hh gg : Nat → Nat} {cI cZ cJ : ClassId} {o N : Nat} {xs : Nat → Int32} {cells slots t : Nat} {Q : State → Prop} {v v2 : S0} {u u2 : S1} {f : Nat → Int64} {r : Int32} {fr lo fr0 lo0 : Nat} (K : lC p s m c b D cI cZ cJ N xs) (hfr0 : fr0 + 1 ≤ 12) (hlo0 : lo0 ≤ 400) (hfr : fr + 1 ≤ 12) (hlo : lo ≤ 400) (hc : cells + 9 ≤ 601024) (hs : slots + 64 ≤ 7293034) (hA : zM l yX0_faultsFound wsX0_faultsFound fr0 lo0 0 0 [.ref (hh 0)] [(cI, .int), (cZ, .boolean)] D (wX0 hh cI cZ v) (wX0 hh cI cZ v2) (some (.int r))) (hB : zM l yX1_faultsFound wsX1_faultsFound fr lo 0 0 [.ref (gg 0)] [(cI, .int)] D (wX1 gg cI u) (wX1 gg cI u2) (some (.int r))) (kk : zG p l e room_1 s m #[.ref b] below meth c D 9 (aN s) (cells + 9) (slots + 64) Q 1557 [(0, .ref b), (1, .ref (hh 0)), (2, .ref (gg 0)), (3, .ref o), (4, .int (nI (4 * t)))] [] (wL hh gg cI cZ cJ o v2 f u2)) : zG p l e room_1 s m #[.ref b] below meth c D 9 (aN s) cells slots Q 1197 [(0, .ref b), (1, .ref (hh 0)), (2, .ref (gg 0)), (3, .ref o), (4, .int (nI (4 * t)))] [] (wL hh gg cI cZ cJ o v f u) := by
  obtain ⟨C, ⟨hT, hN⟩, hX, hbl, hN2⟩ := K
  refine z_aload_n C 1 dL_law_1197 rfl rfl ?_
  refine z_callV (w := wX0 hh cI cZ v) (w' := wX0 hh cI cZ v2) (w1 := ([] : va_W)) (w2 := (wO o cJ f ++ wX1 gg cI u)) (ws' := wL hh gg cI cZ cJ o v2 f u) (As := []) (rest := []) (st' := [.int r]) (rv := some (.int r)) C hA (cwV 0 C.words gL_law_X0_faultsFound rfl rfl rfl (by decide +kernel) ⟨hfr0, by show 8 + (_ + 11) + lo0 ≤ 440; omega⟩) (q0 := 0) (ci := 0) rfl rfl rfl [0, 1] rfl rfl (Nat.le_of_ble_eq_true rfl) ⟨by show _ ≤ 601024; omega, by show _ ≤ 7293034; omega⟩ rfl rfl rfl rfl rfl dL_law_1198 ?_
  refine z_aload_n C 2 dL_law_1201 rfl rfl ?_
  refine z_callV (w := wX1 gg cI u) (w' := wX1 gg cI u2) (w1 := (wX0 hh cI cZ v2 ++ wO o cJ f)) (w2 := ([] : va_W)) (ws' := wL hh gg cI cZ cJ o v2 f u2) (As := []) (rest := [.int r]) (st' := .int r :: [.int r]) (rv := some (.int r)) C hB (cwV 0 C.words gL_law_X1_faultsFound rfl rfl rfl (by decide +kernel) ⟨hfr, by show 8 + (_ + 11) + lo ≤ 440; omega⟩) (q0 := 0) (ci := 1) rfl rfl rfl [0] rfl rfl (Nat.le_of_ble_eq_true rfl) ⟨by show _ ≤ 601024; omega, by show _ ≤ 7293034; omega⟩ rfl rfl rfl rfl rfl dL_law_1202 ?_
  exact z_icmp_eq (tgt := 1557) C dL_law_1205 (by decide) (fun _ => z_more (by omega) (by omega) kk) (fun q => absurd rfl q)
set_option maxHeartbeats 4000000 in
set_option maxRecDepth 100000 in
theorem s_law_luckIn {p : Program} {l : Launch} {e : Env} {s : State} {m : MethodId} {below : List Frame} {meth : Method} {c : Code} {b : Nat} {D : va_G} {hh gg : Nat → Nat} {cI cZ cJ : ClassId} {o N : Nat} {xs : Nat → Int32} {cells slots t : Nat} {Q : State → Prop} {v v2 : S0} {u u2 : S1} {f f2 : Nat → Int64} {r k : Int32} {fr lo mc ms : Nat} (K : lC p s m c b D cI cZ cJ N xs) (ht : 4 * t + 4 ≤ N) (hfr : fr + 1 ≤ 12) (hlo : lo ≤ 400) (hc : cells + 1 ≤ 601024) (hs : slots + 6 ≤ 7293034) (hmc : mc ≤ 1) (hms : ms ≤ 6) (hA : zMT l yL_luckIn wsL_luckIn 8 140 mc ms [.ref (hh 0), .int (xs (4 * t + 1)), .int (xs (4 * t + 2)), .ref o] (tyL cI cZ cJ) D (wX0 hh cI cZ v ++ wO o cJ f) (wX0 hh cI cZ v2 ++ wO o cJ f2) (some (.int k))) (hB : zM l yX1_luckIn wsX1_luckIn fr lo 0 0 [.ref (gg 0), .int (xs (4 * t + 1)), .int (xs (4 * t + 2))] [(cI, .int)] D (wX1 gg cI u) (wX1 gg cI u2) (some (.int r))) (hk : rt u2 = k) (hr : k = 0 → f2 0 = r.toInt64) (kk : zG p l e room_1 s m #[.ref b] below meth c D 9 (aN s) (cells + 1) (slots + 6) Q 1557 [(0, .ref b), (1, .ref (hh 0)), (2, .ref (gg 0)), (3, .ref o), (4, .int (nI (4 * t)))] [] (wL hh gg cI cZ cJ o v2 f2 u2)) : zG p l e room_1 s m #[.ref b] below meth c D 9 (aN s) cells slots Q 1210 [(0, .ref b), (1, .ref (hh 0)), (2, .ref (gg 0)), (3, .ref o), (4, .int (nI (4 * t)))] [] (wL hh gg cI cZ cJ o v f u) := by
  obtain ⟨C, ⟨hT, hN⟩, hX, hbl, hN2⟩ := K
  have hbA : ¬ aN s b := Nat.not_le.mpr hbl
  refine z_aload_n C 1 dL_law_1210 rfl rfl ?_
  refine z_aload_n C 0 dL_law_1211 rfl rfl ?_
  refine z_iload C 4 dL_law_1212 rfl ?_
  refine z_iconst (v := 1) C dL_law_1214 (by decide) ?_
  refine z_iadd C dL_law_1215 ?_
  refine z_sld C hX hbl hbA (4 * t + 1) (nI_add (4 * t) 1) (by omega) (by omega) dL_law_1216 ?_
  refine z_aload_n C 0 dL_law_1217 rfl rfl ?_
  refine z_iload C 4 dL_law_1218 rfl ?_
  refine z_iconst (v := 2) C dL_law_1220 (by decide) ?_
  refine z_iadd C dL_law_1221 ?_
  refine z_sld C hX hbl hbA (4 * t + 2) (nI_add (4 * t) 2) (by omega) (by omega) dL_law_1222 ?_
  refine z_aload_n C 3 dL_law_1223 rfl rfl ?_
  refine z_callT (w := (wX0 hh cI cZ v ++ wO o cJ f)) (w' := (wX0 hh cI cZ v2 ++ wO o cJ f2)) (w1 := ([] : va_W)) (w2 := wX1 gg cI u) (ws' := wL hh gg cI cZ cJ o v2 f2 u) (As := [.ref (hh 0), .int (xs (4 * t + 1)), .int (xs (4 * t + 2)), .ref o]) (rest := []) (st' := [.int k]) (rv := some (.int k)) C hT hN hA (vx_cwSW 4 C.words gL_law_L_luckIn rfl rfl rfl (by decide +kernel) ⟨(Nat.le_of_ble_eq_true rfl), (Nat.le_of_ble_eq_true rfl)⟩) [0, 1, 2] rfl rfl (Nat.le_of_ble_eq_true rfl) ⟨by show _ ≤ 601024; omega, by show _ ≤ 7293034; omega⟩ rfl rfl rfl rfl rfl dL_law_1224 ?_
  refine z_istore (L' := [(5, .int k), (0, .ref b), (1, .ref (hh 0)), (2, .ref (gg 0)), (3, .ref o), (4, .int (nI (4 * t)))]) C dL_law_1227 (by decide) rfl ?_
  refine z_aload_n C 3 dL_law_1229 rfl rfl ?_
  refine z_aload_n C 1 dL_law_1230 rfl rfl ?_
  refine z_iload C 5 dL_law_1231 rfl ?_
  refine z_iconst (v := 1) C dL_law_1233 (by decide) ?_
  refine z_iadd C dL_law_1234 ?_
  refine z_sld C hX hbl hbA (4 * t + 1) (nI_add (4 * t) 1) (by omega) (by omega) dL_law_1235 ?_
  refine z_aload_n C 1 dL_law_1236 rfl rfl ?_
  refine z_iload C 5 dL_law_1237 rfl ?_
  refine z_iconst (v := 2) C dL_law_1239 (by decide) ?_
  refine z_iadd C dL_law_1240 ?_
  refine z_sld C hX hbl hbA (4 * t + 2) (nI_add (4 * t) 2) (by omega) (by omega) dL_law_1241 ?_
  refine z_callV (w := wX1 gg cI u) (w' := wX1 gg cI u2) (w1 := (wX0 hh cI cZ v2 ++ wO o cJ f2)) (w2 := ([] : va_W)) (ws' := wL hh gg cI cZ cJ o v2 f2 u2) (As := [.int (xs (4 * t + 1)), .int (xs (4 * t + 2))]) (rest := []) (st' := [.int r]) (rv := some (.int r)) C hB (cwV 2 C.words gL_law_X1_luckIn rfl rfl rfl (by decide +kernel) ⟨hfr, by show 8 + (_ + 11) + lo ≤ 440; omega⟩) (q0 := 0) (ci := 1) rfl rfl rfl [0] rfl rfl (Nat.le_of_ble_eq_true rfl) ⟨by show _ ≤ 601024; omega, by show _ ≤ 7293034; omega⟩ rfl rfl rfl rfl rfl dL_law_1242 ?_
  refine z_istore (L' := [(6, .int r), (5, .int k), (0, .ref b), (1, .ref (hh 0)), (2, .ref (gg 0)), (3, .ref o), (4, .int (nI (4 * t)))]) C dL_law_1245 (by decide) rfl ?_
  refine z_aload_n C 4 dL_law_1247 rfl rfl ?_
  refine z_callV (w := wX1 gg cI u2) (w' := wX1 gg cI u2) (w1 := (wX0 hh cI cZ v2 ++ wO o cJ f2)) (w2 := ([] : va_W)) (ws' := wL hh gg cI cZ cJ o v2 f2 u2) (As := []) (rest := []) (st' := [.int (rt u2)]) (rv := some (.int (rt u2))) C (c_X1_thrown l D gg cI u2) (cwV 0 C.words gL_law_X1_thrown rfl rfl rfl (by decide +kernel) ⟨(Nat.le_of_ble_eq_true rfl), (Nat.le_of_ble_eq_true rfl)⟩) (q0 := 0) (ci := 1) rfl rfl rfl [0] rfl rfl (Nat.le_of_ble_eq_true rfl) ⟨by show _ ≤ 601024; omega, by show _ ≤ 7293034; omega⟩ rfl rfl rfl rfl rfl dL_law_1248 ?_
  refine z_iload C 1 dL_law_1251 rfl ?_
  refine z_icmp_eq (tgt := 1258) C dL_law_1253 (by decide) (fun _ => ?_) (fun q => absurd hk q)
  refine z_iload C 1 dL_law_1258 rfl ?_
  have jend : zG p l e room_1 s m #[.ref b] below meth c D 9 (aN s) (cells + mc + 0 + 0) (slots + ms + 0 + 0) Q 1275 [(6, .int r), (5, .int k), (0, .ref b), (1, .ref (hh 0)), (2, .ref (gg 0)), (3, .ref o), (4, .int (nI (4 * t)))] [] (wL hh gg cI cZ cJ o v2 f2 u2) := z_goto (tgt := 1557) C dL_law_1275 (by decide) (z_sub (L' := [(0, .ref b), (1, .ref (hh 0)), (2, .ref (gg 0)), (3, .ref o), (4, .int (nI (4 * t)))]) [2, 3, 4, 5, 6] rfl (z_more (by omega) (by omega) kk))
  refine z_if_ne (tgt := 1275) C dL_law_1260 (by decide) (fun _ => jend) (fun hk0 => ?_)
  refine z_aload_n C 5 dL_law_1263 rfl rfl ?_
  refine z_iconst (v := 0) C dL_law_1264 (by decide) ?_
  refine z_lald (f := f2) C 8 2 rfl rfl 0 rfl (by decide) (by decide) dL_law_1265 ?_
  refine z_iload C 0 dL_law_1266 rfl ?_
  refine z_i2l (v := r.toInt64) C dL_law_1268 rfl ?_
  refine z_lcmp C dL_law_1269 ?_
  refine z_if_eq (tgt := 1275) C dL_law_1270 (by decide) (fun _ => jend) (fun q => absurd (by rw [hr hk0]; exact lg_self _) q)
set_option maxHeartbeats 4000000 in
set_option maxRecDepth 100000 in
theorem s_law_daysUntilClear {p : Program} {l : Launch} {e : Env} {s : State} {m : MethodId} {below : List Frame} {meth : Method} {c : Code} {b : Nat} {D : va_G} {hh gg : Nat → Nat} {cI cZ cJ : ClassId} {o N : Nat} {xs : Nat → Int32} {cells slots t : Nat} {Q : State → Prop} {v v2 : S0} {u u2 : S1} {f f2 : Nat → Int64} {r k : Int32} {fr lo mc ms : Nat} (K : lC p s m c b D cI cZ cJ N xs) (ht : 4 * t + 4 ≤ N) (hfr : fr + 1 ≤ 12) (hlo : lo ≤ 400) (hc : cells + 1 ≤ 601024) (hs : slots + 6 ≤ 7293034) (hmc : mc ≤ 1) (hms : ms ≤ 6) (hA : zMT l yL_daysUntilClear wsL_daysUntilClear 8 140 mc ms [.ref (hh 0), .int (xs (4 * t + 1)), .ref o] (tyL cI cZ cJ) D (wX0 hh cI cZ v ++ wO o cJ f) (wX0 hh cI cZ v2 ++ wO o cJ f2) (some (.int k))) (hB : zM l yX1_daysUntilClear wsX1_daysUntilClear fr lo 0 0 [.ref (gg 0), .int (xs (4 * t + 1))] [(cI, .int)] D (wX1 gg cI u) (wX1 gg cI u2) (some (.int r))) (hk : rt u2 = k) (hr : k = 0 → f2 0 = r.toInt64) (kk : zG p l e room_1 s m #[.ref b] below meth c D 9 (aN s) (cells + 1) (slots + 6) Q 1557 [(0, .ref b), (1, .ref (hh 0)), (2, .ref (gg 0)), (3, .ref o), (4, .int (nI (4 * t)))] [] (wL hh gg cI cZ cJ o v2 f2 u2)) : zG p l e room_1 s m #[.ref b] below meth c D 9 (aN s) cells slots Q 1278 [(0, .ref b), (1, .ref (hh 0)), (2, .ref (gg 0)), (3, .ref o), (4, .int (nI (4 * t)))] [] (wL hh gg cI cZ cJ o v f u) := by
  obtain ⟨C, ⟨hT, hN⟩, hX, hbl, hN2⟩ := K
  have hbA : ¬ aN s b := Nat.not_le.mpr hbl
  refine z_aload_n C 1 dL_law_1278 rfl rfl ?_
  refine z_aload_n C 0 dL_law_1279 rfl rfl ?_
  refine z_iload C 4 dL_law_1280 rfl ?_
  refine z_iconst (v := 1) C dL_law_1282 (by decide) ?_
  refine z_iadd C dL_law_1283 ?_
  refine z_sld C hX hbl hbA (4 * t + 1) (nI_add (4 * t) 1) (by omega) (by omega) dL_law_1284 ?_
  refine z_aload_n C 3 dL_law_1285 rfl rfl ?_
  refine z_callT (w := (wX0 hh cI cZ v ++ wO o cJ f)) (w' := (wX0 hh cI cZ v2 ++ wO o cJ f2)) (w1 := ([] : va_W)) (w2 := wX1 gg cI u) (ws' := wL hh gg cI cZ cJ o v2 f2 u) (As := [.ref (hh 0), .int (xs (4 * t + 1)), .ref o]) (rest := []) (st' := [.int k]) (rv := some (.int k)) C hT hN hA (vx_cwSW 3 C.words gL_law_L_daysUntilClear rfl rfl rfl (by decide +kernel) ⟨(Nat.le_of_ble_eq_true rfl), (Nat.le_of_ble_eq_true rfl)⟩) [0, 1, 2] rfl rfl (Nat.le_of_ble_eq_true rfl) ⟨by show _ ≤ 601024; omega, by show _ ≤ 7293034; omega⟩ rfl rfl rfl rfl rfl dL_law_1286 ?_
  refine z_istore (L' := [(5, .int k), (0, .ref b), (1, .ref (hh 0)), (2, .ref (gg 0)), (3, .ref o), (4, .int (nI (4 * t)))]) C dL_law_1289 (by decide) rfl ?_
  refine z_aload_n C 3 dL_law_1291 rfl rfl ?_
  refine z_aload_n C 1 dL_law_1292 rfl rfl ?_
  refine z_iload C 5 dL_law_1293 rfl ?_
  refine z_iconst (v := 1) C dL_law_1295 (by decide) ?_
  refine z_iadd C dL_law_1296 ?_
  refine z_sld C hX hbl hbA (4 * t + 1) (nI_add (4 * t) 1) (by omega) (by omega) dL_law_1297 ?_
  refine z_callV (w := wX1 gg cI u) (w' := wX1 gg cI u2) (w1 := (wX0 hh cI cZ v2 ++ wO o cJ f2)) (w2 := ([] : va_W)) (ws' := wL hh gg cI cZ cJ o v2 f2 u2) (As := [.int (xs (4 * t + 1))]) (rest := []) (st' := [.int r]) (rv := some (.int r)) C hB (cwV 1 C.words gL_law_X1_daysUntilClear rfl rfl rfl (by decide +kernel) ⟨hfr, by show 8 + (_ + 11) + lo ≤ 440; omega⟩) (q0 := 0) (ci := 1) rfl rfl rfl [0] rfl rfl (Nat.le_of_ble_eq_true rfl) ⟨by show _ ≤ 601024; omega, by show _ ≤ 7293034; omega⟩ rfl rfl rfl rfl rfl dL_law_1298 ?_
  refine z_istore (L' := [(6, .int r), (5, .int k), (0, .ref b), (1, .ref (hh 0)), (2, .ref (gg 0)), (3, .ref o), (4, .int (nI (4 * t)))]) C dL_law_1301 (by decide) rfl ?_
  refine z_aload_n C 4 dL_law_1303 rfl rfl ?_
  refine z_callV (w := wX1 gg cI u2) (w' := wX1 gg cI u2) (w1 := (wX0 hh cI cZ v2 ++ wO o cJ f2)) (w2 := ([] : va_W)) (ws' := wL hh gg cI cZ cJ o v2 f2 u2) (As := []) (rest := []) (st' := [.int (rt u2)]) (rv := some (.int (rt u2))) C (c_X1_thrown l D gg cI u2) (cwV 0 C.words gL_law_X1_thrown rfl rfl rfl (by decide +kernel) ⟨(Nat.le_of_ble_eq_true rfl), (Nat.le_of_ble_eq_true rfl)⟩) (q0 := 0) (ci := 1) rfl rfl rfl [0] rfl rfl (Nat.le_of_ble_eq_true rfl) ⟨by show _ ≤ 601024; omega, by show _ ≤ 7293034; omega⟩ rfl rfl rfl rfl rfl dL_law_1304 ?_
  refine z_iload C 1 dL_law_1307 rfl ?_
  refine z_icmp_eq (tgt := 1314) C dL_law_1309 (by decide) (fun _ => ?_) (fun q => absurd hk q)
  refine z_iload C 1 dL_law_1314 rfl ?_
  have jend : zG p l e room_1 s m #[.ref b] below meth c D 9 (aN s) (cells + mc + 0 + 0) (slots + ms + 0 + 0) Q 1331 [(6, .int r), (5, .int k), (0, .ref b), (1, .ref (hh 0)), (2, .ref (gg 0)), (3, .ref o), (4, .int (nI (4 * t)))] [] (wL hh gg cI cZ cJ o v2 f2 u2) := z_goto (tgt := 1557) C dL_law_1331 (by decide) (z_sub (L' := [(0, .ref b), (1, .ref (hh 0)), (2, .ref (gg 0)), (3, .ref o), (4, .int (nI (4 * t)))]) [2, 3, 4, 5, 6] rfl (z_more (by omega) (by omega) kk))
  refine z_if_ne (tgt := 1331) C dL_law_1316 (by decide) (fun _ => jend) (fun hk0 => ?_)
  refine z_aload_n C 5 dL_law_1319 rfl rfl ?_
  refine z_iconst (v := 0) C dL_law_1320 (by decide) ?_
  refine z_lald (f := f2) C 8 2 rfl rfl 0 rfl (by decide) (by decide) dL_law_1321 ?_
  refine z_iload C 0 dL_law_1322 rfl ?_
  refine z_i2l (v := r.toInt64) C dL_law_1324 rfl ?_
  refine z_lcmp C dL_law_1325 ?_
  refine z_if_eq (tgt := 1331) C dL_law_1326 (by decide) (fun _ => jend) (fun q => absurd (by rw [hr hk0]; exact lg_self _) q)
set_option maxHeartbeats 4000000 in
set_option maxRecDepth 100000 in
theorem s_law_daysUntilUnlucky {p : Program} {l : Launch} {e : Env} {s : State} {m : MethodId} {below : List Frame} {meth : Method} {c : Code} {b : Nat} {D : va_G} {hh gg : Nat → Nat} {cI cZ cJ : ClassId} {o N : Nat} {xs : Nat → Int32} {cells slots t : Nat} {Q : State → Prop} {v v2 : S0} {u u2 : S1} {f f2 : Nat → Int64} {r k : Int32} {fr lo mc ms : Nat} (K : lC p s m c b D cI cZ cJ N xs) (ht : 4 * t + 4 ≤ N) (hfr : fr + 1 ≤ 12) (hlo : lo ≤ 400) (hc : cells + 1 ≤ 601024) (hs : slots + 6 ≤ 7293034) (hmc : mc ≤ 1) (hms : ms ≤ 6) (hA : zMT l yL_daysUntilUnlucky wsL_daysUntilUnlucky 8 140 mc ms [.ref (hh 0), .int (xs (4 * t + 1)), .ref o] (tyL cI cZ cJ) D (wX0 hh cI cZ v ++ wO o cJ f) (wX0 hh cI cZ v2 ++ wO o cJ f2) (some (.int k))) (hB : zM l yX1_daysUntilUnlucky wsX1_daysUntilUnlucky fr lo 0 0 [.ref (gg 0), .int (xs (4 * t + 1))] [(cI, .int)] D (wX1 gg cI u) (wX1 gg cI u2) (some (.int r))) (hk : rt u2 = k) (hr : k = 0 → f2 0 = r.toInt64) (kk : zG p l e room_1 s m #[.ref b] below meth c D 9 (aN s) (cells + 1) (slots + 6) Q 1557 [(0, .ref b), (1, .ref (hh 0)), (2, .ref (gg 0)), (3, .ref o), (4, .int (nI (4 * t)))] [] (wL hh gg cI cZ cJ o v2 f2 u2)) : zG p l e room_1 s m #[.ref b] below meth c D 9 (aN s) cells slots Q 1334 [(0, .ref b), (1, .ref (hh 0)), (2, .ref (gg 0)), (3, .ref o), (4, .int (nI (4 * t)))] [] (wL hh gg cI cZ cJ o v f u) := by
  obtain ⟨C, ⟨hT, hN⟩, hX, hbl, hN2⟩ := K
  have hbA : ¬ aN s b := Nat.not_le.mpr hbl
  refine z_aload_n C 1 dL_law_1334 rfl rfl ?_
  refine z_aload_n C 0 dL_law_1335 rfl rfl ?_
  refine z_iload C 4 dL_law_1336 rfl ?_
  refine z_iconst (v := 1) C dL_law_1338 (by decide) ?_
  refine z_iadd C dL_law_1339 ?_
  refine z_sld C hX hbl hbA (4 * t + 1) (nI_add (4 * t) 1) (by omega) (by omega) dL_law_1340 ?_
  refine z_aload_n C 3 dL_law_1341 rfl rfl ?_
  refine z_callT (w := (wX0 hh cI cZ v ++ wO o cJ f)) (w' := (wX0 hh cI cZ v2 ++ wO o cJ f2)) (w1 := ([] : va_W)) (w2 := wX1 gg cI u) (ws' := wL hh gg cI cZ cJ o v2 f2 u) (As := [.ref (hh 0), .int (xs (4 * t + 1)), .ref o]) (rest := []) (st' := [.int k]) (rv := some (.int k)) C hT hN hA (vx_cwSW 3 C.words gL_law_L_daysUntilUnlucky rfl rfl rfl (by decide +kernel) ⟨(Nat.le_of_ble_eq_true rfl), (Nat.le_of_ble_eq_true rfl)⟩) [0, 1, 2] rfl rfl (Nat.le_of_ble_eq_true rfl) ⟨by show _ ≤ 601024; omega, by show _ ≤ 7293034; omega⟩ rfl rfl rfl rfl rfl dL_law_1342 ?_
  refine z_istore (L' := [(5, .int k), (0, .ref b), (1, .ref (hh 0)), (2, .ref (gg 0)), (3, .ref o), (4, .int (nI (4 * t)))]) C dL_law_1345 (by decide) rfl ?_
  refine z_aload_n C 3 dL_law_1347 rfl rfl ?_
  refine z_aload_n C 1 dL_law_1348 rfl rfl ?_
  refine z_iload C 5 dL_law_1349 rfl ?_
  refine z_iconst (v := 1) C dL_law_1351 (by decide) ?_
  refine z_iadd C dL_law_1352 ?_
  refine z_sld C hX hbl hbA (4 * t + 1) (nI_add (4 * t) 1) (by omega) (by omega) dL_law_1353 ?_
  refine z_callV (w := wX1 gg cI u) (w' := wX1 gg cI u2) (w1 := (wX0 hh cI cZ v2 ++ wO o cJ f2)) (w2 := ([] : va_W)) (ws' := wL hh gg cI cZ cJ o v2 f2 u2) (As := [.int (xs (4 * t + 1))]) (rest := []) (st' := [.int r]) (rv := some (.int r)) C hB (cwV 1 C.words gL_law_X1_daysUntilUnlucky rfl rfl rfl (by decide +kernel) ⟨hfr, by show 8 + (_ + 11) + lo ≤ 440; omega⟩) (q0 := 0) (ci := 1) rfl rfl rfl [0] rfl rfl (Nat.le_of_ble_eq_true rfl) ⟨by show _ ≤ 601024; omega, by show _ ≤ 7293034; omega⟩ rfl rfl rfl rfl rfl dL_law_1354 ?_
  refine z_istore (L' := [(6, .int r), (5, .int k), (0, .ref b), (1, .ref (hh 0)), (2, .ref (gg 0)), (3, .ref o), (4, .int (nI (4 * t)))]) C dL_law_1357 (by decide) rfl ?_
  refine z_aload_n C 4 dL_law_1359 rfl rfl ?_
  refine z_callV (w := wX1 gg cI u2) (w' := wX1 gg cI u2) (w1 := (wX0 hh cI cZ v2 ++ wO o cJ f2)) (w2 := ([] : va_W)) (ws' := wL hh gg cI cZ cJ o v2 f2 u2) (As := []) (rest := []) (st' := [.int (rt u2)]) (rv := some (.int (rt u2))) C (c_X1_thrown l D gg cI u2) (cwV 0 C.words gL_law_X1_thrown rfl rfl rfl (by decide +kernel) ⟨(Nat.le_of_ble_eq_true rfl), (Nat.le_of_ble_eq_true rfl)⟩) (q0 := 0) (ci := 1) rfl rfl rfl [0] rfl rfl (Nat.le_of_ble_eq_true rfl) ⟨by show _ ≤ 601024; omega, by show _ ≤ 7293034; omega⟩ rfl rfl rfl rfl rfl dL_law_1360 ?_
  refine z_iload C 1 dL_law_1363 rfl ?_
  refine z_icmp_eq (tgt := 1370) C dL_law_1365 (by decide) (fun _ => ?_) (fun q => absurd hk q)
  refine z_iload C 1 dL_law_1370 rfl ?_
  have jend : zG p l e room_1 s m #[.ref b] below meth c D 9 (aN s) (cells + mc + 0 + 0) (slots + ms + 0 + 0) Q 1387 [(6, .int r), (5, .int k), (0, .ref b), (1, .ref (hh 0)), (2, .ref (gg 0)), (3, .ref o), (4, .int (nI (4 * t)))] [] (wL hh gg cI cZ cJ o v2 f2 u2) := z_goto (tgt := 1557) C dL_law_1387 (by decide) (z_sub (L' := [(0, .ref b), (1, .ref (hh 0)), (2, .ref (gg 0)), (3, .ref o), (4, .int (nI (4 * t)))]) [2, 3, 4, 5, 6] rfl (z_more (by omega) (by omega) kk))
  refine z_if_ne (tgt := 1387) C dL_law_1372 (by decide) (fun _ => jend) (fun hk0 => ?_)
  refine z_aload_n C 5 dL_law_1375 rfl rfl ?_
  refine z_iconst (v := 0) C dL_law_1376 (by decide) ?_
  refine z_lald (f := f2) C 8 2 rfl rfl 0 rfl (by decide) (by decide) dL_law_1377 ?_
  refine z_iload C 0 dL_law_1378 rfl ?_
  refine z_i2l (v := r.toInt64) C dL_law_1380 rfl ?_
  refine z_lcmp C dL_law_1381 ?_
  refine z_if_eq (tgt := 1387) C dL_law_1382 (by decide) (fun _ => jend) (fun q => absurd (by rw [hr hk0]; exact lg_self _) q)
set_option maxHeartbeats 4000000 in
set_option maxRecDepth 100000 in
theorem s_law_bestPinch {p : Program} {l : Launch} {e : Env} {s : State} {m : MethodId} {below : List Frame} {meth : Method} {c : Code} {b : Nat} {D : va_G} {hh gg : Nat → Nat} {cI cZ cJ : ClassId} {o N : Nat} {xs : Nat → Int32} {cells slots t : Nat} {Q : State → Prop} {v v2 : S0} {u u2 : S1} {f f2 : Nat → Int64} {r k : Int32} {fr lo mc ms : Nat} (K : lC p s m c b D cI cZ cJ N xs) (ht : 4 * t + 4 ≤ N) (hfr : fr + 1 ≤ 12) (hlo : lo ≤ 400) (hc : cells + 1 ≤ 601024) (hs : slots + 6 ≤ 7293034) (hmc : mc ≤ 1) (hms : ms ≤ 6) (hA : zMT l yL_bestPinch wsL_bestPinch 8 140 mc ms [.ref (hh 0), .int (xs (4 * t + 1)), .ref o] (tyL cI cZ cJ) D (wX0 hh cI cZ v ++ wO o cJ f) (wX0 hh cI cZ v2 ++ wO o cJ f2) (some (.int k))) (hB : zM l yX1_bestPinch wsX1_bestPinch fr lo 0 0 [.ref (gg 0), .int (xs (4 * t + 1))] [(cI, .int)] D (wX1 gg cI u) (wX1 gg cI u2) (some (.int r))) (hk : rt u2 = k) (hr : k = 0 → f2 0 = r.toInt64) (kk : zG p l e room_1 s m #[.ref b] below meth c D 9 (aN s) (cells + 1) (slots + 6) Q 1557 [(0, .ref b), (1, .ref (hh 0)), (2, .ref (gg 0)), (3, .ref o), (4, .int (nI (4 * t)))] [] (wL hh gg cI cZ cJ o v2 f2 u2)) : zG p l e room_1 s m #[.ref b] below meth c D 9 (aN s) cells slots Q 1390 [(0, .ref b), (1, .ref (hh 0)), (2, .ref (gg 0)), (3, .ref o), (4, .int (nI (4 * t)))] [] (wL hh gg cI cZ cJ o v f u) := by
  obtain ⟨C, ⟨hT, hN⟩, hX, hbl, hN2⟩ := K
  have hbA : ¬ aN s b := Nat.not_le.mpr hbl
  refine z_aload_n C 1 dL_law_1390 rfl rfl ?_
  refine z_aload_n C 0 dL_law_1391 rfl rfl ?_
  refine z_iload C 4 dL_law_1392 rfl ?_
  refine z_iconst (v := 1) C dL_law_1394 (by decide) ?_
  refine z_iadd C dL_law_1395 ?_
  refine z_sld C hX hbl hbA (4 * t + 1) (nI_add (4 * t) 1) (by omega) (by omega) dL_law_1396 ?_
  refine z_aload_n C 3 dL_law_1397 rfl rfl ?_
  refine z_callT (w := (wX0 hh cI cZ v ++ wO o cJ f)) (w' := (wX0 hh cI cZ v2 ++ wO o cJ f2)) (w1 := ([] : va_W)) (w2 := wX1 gg cI u) (ws' := wL hh gg cI cZ cJ o v2 f2 u) (As := [.ref (hh 0), .int (xs (4 * t + 1)), .ref o]) (rest := []) (st' := [.int k]) (rv := some (.int k)) C hT hN hA (vx_cwSW 3 C.words gL_law_L_bestPinch rfl rfl rfl (by decide +kernel) ⟨(Nat.le_of_ble_eq_true rfl), (Nat.le_of_ble_eq_true rfl)⟩) [0, 1, 2] rfl rfl (Nat.le_of_ble_eq_true rfl) ⟨by show _ ≤ 601024; omega, by show _ ≤ 7293034; omega⟩ rfl rfl rfl rfl rfl dL_law_1398 ?_
  refine z_istore (L' := [(5, .int k), (0, .ref b), (1, .ref (hh 0)), (2, .ref (gg 0)), (3, .ref o), (4, .int (nI (4 * t)))]) C dL_law_1401 (by decide) rfl ?_
  refine z_aload_n C 3 dL_law_1403 rfl rfl ?_
  refine z_aload_n C 1 dL_law_1404 rfl rfl ?_
  refine z_iload C 5 dL_law_1405 rfl ?_
  refine z_iconst (v := 1) C dL_law_1407 (by decide) ?_
  refine z_iadd C dL_law_1408 ?_
  refine z_sld C hX hbl hbA (4 * t + 1) (nI_add (4 * t) 1) (by omega) (by omega) dL_law_1409 ?_
  refine z_callV (w := wX1 gg cI u) (w' := wX1 gg cI u2) (w1 := (wX0 hh cI cZ v2 ++ wO o cJ f2)) (w2 := ([] : va_W)) (ws' := wL hh gg cI cZ cJ o v2 f2 u2) (As := [.int (xs (4 * t + 1))]) (rest := []) (st' := [.int r]) (rv := some (.int r)) C hB (cwV 1 C.words gL_law_X1_bestPinch rfl rfl rfl (by decide +kernel) ⟨hfr, by show 8 + (_ + 11) + lo ≤ 440; omega⟩) (q0 := 0) (ci := 1) rfl rfl rfl [0] rfl rfl (Nat.le_of_ble_eq_true rfl) ⟨by show _ ≤ 601024; omega, by show _ ≤ 7293034; omega⟩ rfl rfl rfl rfl rfl dL_law_1410 ?_
  refine z_istore (L' := [(6, .int r), (5, .int k), (0, .ref b), (1, .ref (hh 0)), (2, .ref (gg 0)), (3, .ref o), (4, .int (nI (4 * t)))]) C dL_law_1413 (by decide) rfl ?_
  refine z_aload_n C 4 dL_law_1415 rfl rfl ?_
  refine z_callV (w := wX1 gg cI u2) (w' := wX1 gg cI u2) (w1 := (wX0 hh cI cZ v2 ++ wO o cJ f2)) (w2 := ([] : va_W)) (ws' := wL hh gg cI cZ cJ o v2 f2 u2) (As := []) (rest := []) (st' := [.int (rt u2)]) (rv := some (.int (rt u2))) C (c_X1_thrown l D gg cI u2) (cwV 0 C.words gL_law_X1_thrown rfl rfl rfl (by decide +kernel) ⟨(Nat.le_of_ble_eq_true rfl), (Nat.le_of_ble_eq_true rfl)⟩) (q0 := 0) (ci := 1) rfl rfl rfl [0] rfl rfl (Nat.le_of_ble_eq_true rfl) ⟨by show _ ≤ 601024; omega, by show _ ≤ 7293034; omega⟩ rfl rfl rfl rfl rfl dL_law_1416 ?_
  refine z_iload C 1 dL_law_1419 rfl ?_
  refine z_icmp_eq (tgt := 1426) C dL_law_1421 (by decide) (fun _ => ?_) (fun q => absurd hk q)
  refine z_iload C 1 dL_law_1426 rfl ?_
  have jend : zG p l e room_1 s m #[.ref b] below meth c D 9 (aN s) (cells + mc + 0 + 0) (slots + ms + 0 + 0) Q 1443 [(6, .int r), (5, .int k), (0, .ref b), (1, .ref (hh 0)), (2, .ref (gg 0)), (3, .ref o), (4, .int (nI (4 * t)))] [] (wL hh gg cI cZ cJ o v2 f2 u2) := z_goto (tgt := 1557) C dL_law_1443 (by decide) (z_sub (L' := [(0, .ref b), (1, .ref (hh 0)), (2, .ref (gg 0)), (3, .ref o), (4, .int (nI (4 * t)))]) [2, 3, 4, 5, 6] rfl (z_more (by omega) (by omega) kk))
  refine z_if_ne (tgt := 1443) C dL_law_1428 (by decide) (fun _ => jend) (fun hk0 => ?_)
  refine z_aload_n C 5 dL_law_1431 rfl rfl ?_
  refine z_iconst (v := 0) C dL_law_1432 (by decide) ?_
  refine z_lald (f := f2) C 8 2 rfl rfl 0 rfl (by decide) (by decide) dL_law_1433 ?_
  refine z_iload C 0 dL_law_1434 rfl ?_
  refine z_i2l (v := r.toInt64) C dL_law_1436 rfl ?_
  refine z_lcmp C dL_law_1437 ?_
  refine z_if_eq (tgt := 1443) C dL_law_1438 (by decide) (fun _ => jend) (fun q => absurd (by rw [hr hk0]; exact lg_self _) q)
set_option maxHeartbeats 4000000 in
set_option maxRecDepth 100000 in
theorem s_law_bestPenance {p : Program} {l : Launch} {e : Env} {s : State} {m : MethodId} {below : List Frame} {meth : Method} {c : Code} {b : Nat} {D : va_G} {hh gg : Nat → Nat} {cI cZ cJ : ClassId} {o N : Nat} {xs : Nat → Int32} {cells slots t : Nat} {Q : State → Prop} {v v2 : S0} {u u2 : S1} {f f2 : Nat → Int64} {r k : Int32} {fr lo mc ms : Nat} (K : lC p s m c b D cI cZ cJ N xs) (ht : 4 * t + 4 ≤ N) (hfr : fr + 1 ≤ 12) (hlo : lo ≤ 400) (hc : cells + 1 ≤ 601024) (hs : slots + 6 ≤ 7293034) (hmc : mc ≤ 1) (hms : ms ≤ 6) (hA : zMT l yL_bestPenance wsL_bestPenance 8 140 mc ms [.ref (hh 0), .int (xs (4 * t + 1)), .ref o] (tyL cI cZ cJ) D (wX0 hh cI cZ v ++ wO o cJ f) (wX0 hh cI cZ v2 ++ wO o cJ f2) (some (.int k))) (hB : zM l yX1_bestPenance wsX1_bestPenance fr lo 0 0 [.ref (gg 0), .int (xs (4 * t + 1))] [(cI, .int)] D (wX1 gg cI u) (wX1 gg cI u2) (some (.int r))) (hk : rt u2 = k) (hr : k = 0 → f2 0 = r.toInt64) (kk : zG p l e room_1 s m #[.ref b] below meth c D 9 (aN s) (cells + 1) (slots + 6) Q 1557 [(0, .ref b), (1, .ref (hh 0)), (2, .ref (gg 0)), (3, .ref o), (4, .int (nI (4 * t)))] [] (wL hh gg cI cZ cJ o v2 f2 u2)) : zG p l e room_1 s m #[.ref b] below meth c D 9 (aN s) cells slots Q 1446 [(0, .ref b), (1, .ref (hh 0)), (2, .ref (gg 0)), (3, .ref o), (4, .int (nI (4 * t)))] [] (wL hh gg cI cZ cJ o v f u) := by
  obtain ⟨C, ⟨hT, hN⟩, hX, hbl, hN2⟩ := K
  have hbA : ¬ aN s b := Nat.not_le.mpr hbl
  refine z_aload_n C 1 dL_law_1446 rfl rfl ?_
  refine z_aload_n C 0 dL_law_1447 rfl rfl ?_
  refine z_iload C 4 dL_law_1448 rfl ?_
  refine z_iconst (v := 1) C dL_law_1450 (by decide) ?_
  refine z_iadd C dL_law_1451 ?_
  refine z_sld C hX hbl hbA (4 * t + 1) (nI_add (4 * t) 1) (by omega) (by omega) dL_law_1452 ?_
  refine z_aload_n C 3 dL_law_1453 rfl rfl ?_
  refine z_callT (w := (wX0 hh cI cZ v ++ wO o cJ f)) (w' := (wX0 hh cI cZ v2 ++ wO o cJ f2)) (w1 := ([] : va_W)) (w2 := wX1 gg cI u) (ws' := wL hh gg cI cZ cJ o v2 f2 u) (As := [.ref (hh 0), .int (xs (4 * t + 1)), .ref o]) (rest := []) (st' := [.int k]) (rv := some (.int k)) C hT hN hA (vx_cwSW 3 C.words gL_law_L_bestPenance rfl rfl rfl (by decide +kernel) ⟨(Nat.le_of_ble_eq_true rfl), (Nat.le_of_ble_eq_true rfl)⟩) [0, 1, 2] rfl rfl (Nat.le_of_ble_eq_true rfl) ⟨by show _ ≤ 601024; omega, by show _ ≤ 7293034; omega⟩ rfl rfl rfl rfl rfl dL_law_1454 ?_
  refine z_istore (L' := [(5, .int k), (0, .ref b), (1, .ref (hh 0)), (2, .ref (gg 0)), (3, .ref o), (4, .int (nI (4 * t)))]) C dL_law_1457 (by decide) rfl ?_
  refine z_aload_n C 3 dL_law_1459 rfl rfl ?_
  refine z_aload_n C 1 dL_law_1460 rfl rfl ?_
  refine z_iload C 5 dL_law_1461 rfl ?_
  refine z_iconst (v := 1) C dL_law_1463 (by decide) ?_
  refine z_iadd C dL_law_1464 ?_
  refine z_sld C hX hbl hbA (4 * t + 1) (nI_add (4 * t) 1) (by omega) (by omega) dL_law_1465 ?_
  refine z_callV (w := wX1 gg cI u) (w' := wX1 gg cI u2) (w1 := (wX0 hh cI cZ v2 ++ wO o cJ f2)) (w2 := ([] : va_W)) (ws' := wL hh gg cI cZ cJ o v2 f2 u2) (As := [.int (xs (4 * t + 1))]) (rest := []) (st' := [.int r]) (rv := some (.int r)) C hB (cwV 1 C.words gL_law_X1_bestPenance rfl rfl rfl (by decide +kernel) ⟨hfr, by show 8 + (_ + 11) + lo ≤ 440; omega⟩) (q0 := 0) (ci := 1) rfl rfl rfl [0] rfl rfl (Nat.le_of_ble_eq_true rfl) ⟨by show _ ≤ 601024; omega, by show _ ≤ 7293034; omega⟩ rfl rfl rfl rfl rfl dL_law_1466 ?_
  refine z_istore (L' := [(6, .int r), (5, .int k), (0, .ref b), (1, .ref (hh 0)), (2, .ref (gg 0)), (3, .ref o), (4, .int (nI (4 * t)))]) C dL_law_1469 (by decide) rfl ?_
  refine z_aload_n C 4 dL_law_1471 rfl rfl ?_
  refine z_callV (w := wX1 gg cI u2) (w' := wX1 gg cI u2) (w1 := (wX0 hh cI cZ v2 ++ wO o cJ f2)) (w2 := ([] : va_W)) (ws' := wL hh gg cI cZ cJ o v2 f2 u2) (As := []) (rest := []) (st' := [.int (rt u2)]) (rv := some (.int (rt u2))) C (c_X1_thrown l D gg cI u2) (cwV 0 C.words gL_law_X1_thrown rfl rfl rfl (by decide +kernel) ⟨(Nat.le_of_ble_eq_true rfl), (Nat.le_of_ble_eq_true rfl)⟩) (q0 := 0) (ci := 1) rfl rfl rfl [0] rfl rfl (Nat.le_of_ble_eq_true rfl) ⟨by show _ ≤ 601024; omega, by show _ ≤ 7293034; omega⟩ rfl rfl rfl rfl rfl dL_law_1472 ?_
  refine z_iload C 1 dL_law_1475 rfl ?_
  refine z_icmp_eq (tgt := 1482) C dL_law_1477 (by decide) (fun _ => ?_) (fun q => absurd hk q)
  refine z_iload C 1 dL_law_1482 rfl ?_
  have jend : zG p l e room_1 s m #[.ref b] below meth c D 9 (aN s) (cells + mc + 0 + 0) (slots + ms + 0 + 0) Q 1499 [(6, .int r), (5, .int k), (0, .ref b), (1, .ref (hh 0)), (2, .ref (gg 0)), (3, .ref o), (4, .int (nI (4 * t)))] [] (wL hh gg cI cZ cJ o v2 f2 u2) := z_goto (tgt := 1557) C dL_law_1499 (by decide) (z_sub (L' := [(0, .ref b), (1, .ref (hh 0)), (2, .ref (gg 0)), (3, .ref o), (4, .int (nI (4 * t)))]) [2, 3, 4, 5, 6] rfl (z_more (by omega) (by omega) kk))
  refine z_if_ne (tgt := 1499) C dL_law_1484 (by decide) (fun _ => jend) (fun hk0 => ?_)
  refine z_aload_n C 5 dL_law_1487 rfl rfl ?_
  refine z_iconst (v := 0) C dL_law_1488 (by decide) ?_
  refine z_lald (f := f2) C 8 2 rfl rfl 0 rfl (by decide) (by decide) dL_law_1489 ?_
  refine z_iload C 0 dL_law_1490 rfl ?_
  refine z_i2l (v := r.toInt64) C dL_law_1492 rfl ?_
  refine z_lcmp C dL_law_1493 ?_
  refine z_if_eq (tgt := 1499) C dL_law_1494 (by decide) (fun _ => jend) (fun q => absurd (by rw [hr hk0]; exact lg_self _) q)
set_option maxHeartbeats 4000000 in
set_option maxRecDepth 100000 in
theorem s_law_meanLuck {p : Program} {l : Launch} {e : Env} {s : State} {m : MethodId} {below : List Frame} {meth : Method} {c : Code} {b : Nat} {D : va_G} {hh gg : Nat → Nat} {cI cZ cJ : ClassId} {o N : Nat} {xs : Nat → Int32} {cells slots t : Nat} {Q : State → Prop} {v v2 : S0} {u u2 : S1} {f : Nat → Int64} {r : UInt64} {fr lo fr0 lo0 : Nat} (K : lC p s m c b D cI cZ cJ N xs) (hfr0 : fr0 + 1 ≤ 12) (hlo0 : lo0 ≤ 400) (hfr : fr + 1 ≤ 12) (hlo : lo ≤ 400) (hc : cells + 9 ≤ 601024) (hs : slots + 64 ≤ 7293034) (hA : zM l yX0_meanLuck wsX0_meanLuck fr0 lo0 0 0 [.ref (hh 0)] [(cI, .int), (cZ, .boolean)] D (wX0 hh cI cZ v) (wX0 hh cI cZ v2) (some (.double r))) (hB : zM l yX1_meanLuck wsX1_meanLuck fr lo 0 0 [.ref (gg 0)] [(cI, .int)] D (wX1 gg cI u) (wX1 gg cI u2) (some (.double r))) (hq : FP.dcmp r r = some .eq) (kk : zG p l e room_1 s m #[.ref b] below meth c D 9 (aN s) (cells + 9) (slots + 64) Q 1557 [(0, .ref b), (1, .ref (hh 0)), (2, .ref (gg 0)), (3, .ref o), (4, .int (nI (4 * t)))] [] (wL hh gg cI cZ cJ o v2 f u2)) : zG p l e room_1 s m #[.ref b] below meth c D 9 (aN s) cells slots Q 1502 [(0, .ref b), (1, .ref (hh 0)), (2, .ref (gg 0)), (3, .ref o), (4, .int (nI (4 * t)))] [] (wL hh gg cI cZ cJ o v f u) := by
  obtain ⟨C, ⟨hT, hN⟩, hX, hbl, hN2⟩ := K
  refine z_aload_n C 1 dL_law_1502 rfl rfl ?_
  refine z_callV (w := wX0 hh cI cZ v) (w' := wX0 hh cI cZ v2) (w1 := ([] : va_W)) (w2 := (wO o cJ f ++ wX1 gg cI u)) (ws' := wL hh gg cI cZ cJ o v2 f u) (As := []) (rest := []) (st' := [.double r]) (rv := some (.double r)) C hA (cwV 0 C.words gL_law_X0_meanLuck rfl rfl rfl (by decide +kernel) ⟨hfr0, by show 8 + (_ + 11) + lo0 ≤ 440; omega⟩) (q0 := 0) (ci := 0) rfl rfl rfl [0, 1] rfl rfl (Nat.le_of_ble_eq_true rfl) ⟨by show _ ≤ 601024; omega, by show _ ≤ 7293034; omega⟩ rfl rfl rfl rfl rfl dL_law_1503 ?_
  refine z_dstore (L' := [(5, .double r), (0, .ref b), (1, .ref (hh 0)), (2, .ref (gg 0)), (3, .ref o), (4, .int (nI (4 * t)))]) C dL_law_1506 (by decide) rfl ?_
  refine z_aload_n C 3 dL_law_1508 rfl rfl ?_
  refine z_callV (w := wX1 gg cI u) (w' := wX1 gg cI u2) (w1 := (wX0 hh cI cZ v2 ++ wO o cJ f)) (w2 := ([] : va_W)) (ws' := wL hh gg cI cZ cJ o v2 f u2) (As := []) (rest := []) (st' := .double r :: []) (rv := some (.double r)) C hB (cwV 0 C.words gL_law_X1_meanLuck rfl rfl rfl (by decide +kernel) ⟨hfr, by show 8 + (_ + 11) + lo ≤ 440; omega⟩) (q0 := 0) (ci := 1) rfl rfl rfl [0] rfl rfl (Nat.le_of_ble_eq_true rfl) ⟨by show _ ≤ 601024; omega, by show _ ≤ 7293034; omega⟩ rfl rfl rfl rfl rfl dL_law_1509 ?_
  refine z_dstore (L' := [(7, .double r), (5, .double r), (0, .ref b), (1, .ref (hh 0)), (2, .ref (gg 0)), (3, .ref o), (4, .int (nI (4 * t)))]) C dL_law_1512 (by decide) rfl ?_
  refine z_dload C 1 dL_law_1514 rfl ?_
  refine z_dload C 0 dL_law_1516 rfl ?_
  refine z_dcmp C dL_law_1518 ?_
  exact z_if_eq (tgt := 1540) C dL_law_1519 (by decide) (fun _ => z_goto (tgt := 1557) C dL_law_1540 (by decide) (z_sub (L' := [(0, .ref b), (1, .ref (hh 0)), (2, .ref (gg 0)), (3, .ref o), (4, .int (nI (4 * t)))]) [2, 3, 4, 5, 6] rfl (z_more (by omega) (by omega) kk))) (fun q => absurd (by rw [hq]; rfl) q)
set_option maxHeartbeats 4000000 in
set_option maxRecDepth 100000 in
theorem s_law_digest {p : Program} {l : Launch} {e : Env} {s : State} {m : MethodId} {below : List Frame} {meth : Method} {c : Code} {b : Nat} {D : va_G} {hh gg : Nat → Nat} {cI cZ cJ : ClassId} {o N : Nat} {xs : Nat → Int32} {cells slots t : Nat} {Q : State → Prop} {v v2 : S0} {u u2 : S1} {f : Nat → Int64} {r : Int64} {fr lo fr0 lo0 : Nat} (K : lC p s m c b D cI cZ cJ N xs) (hfr0 : fr0 + 1 ≤ 12) (hlo0 : lo0 ≤ 400) (hfr : fr + 1 ≤ 12) (hlo : lo ≤ 400) (hc : cells + 9 ≤ 601024) (hs : slots + 64 ≤ 7293034) (hA : zM l yX0_digest wsX0_digest fr0 lo0 0 0 [.ref (hh 0)] [(cI, .int), (cZ, .boolean)] D (wX0 hh cI cZ v) (wX0 hh cI cZ v2) (some (.long r))) (hB : zM l yX1_digest wsX1_digest fr lo 9 64 [.ref (gg 0)] [(cI, .int)] D (wX1 gg cI u) (wX1 gg cI u2) (some (.long r))) (kk : zG p l e room_1 s m #[.ref b] below meth c D 9 (aN s) (cells + 9) (slots + 64) Q 1557 [(0, .ref b), (1, .ref (hh 0)), (2, .ref (gg 0)), (3, .ref o), (4, .int (nI (4 * t)))] [] (wL hh gg cI cZ cJ o v2 f u2)) : zG p l e room_1 s m #[.ref b] below meth c D 9 (aN s) cells slots Q 1543 [(0, .ref b), (1, .ref (hh 0)), (2, .ref (gg 0)), (3, .ref o), (4, .int (nI (4 * t)))] [] (wL hh gg cI cZ cJ o v f u) := by
  obtain ⟨C, ⟨hT, hN⟩, hX, hbl, hN2⟩ := K
  refine z_aload_n C 1 dL_law_1543 rfl rfl ?_
  refine z_callV (w := wX0 hh cI cZ v) (w' := wX0 hh cI cZ v2) (w1 := ([] : va_W)) (w2 := (wO o cJ f ++ wX1 gg cI u)) (ws' := wL hh gg cI cZ cJ o v2 f u) (As := []) (rest := []) (st' := [.long r]) (rv := some (.long r)) C hA (cwV 0 C.words gL_law_X0_digest rfl rfl rfl (by decide +kernel) ⟨hfr0, by show 8 + (_ + 11) + lo0 ≤ 440; omega⟩) (q0 := 0) (ci := 0) rfl rfl rfl [0, 1] rfl rfl (Nat.le_of_ble_eq_true rfl) ⟨by show _ ≤ 601024; omega, by show _ ≤ 7293034; omega⟩ rfl rfl rfl rfl rfl dL_law_1544 ?_
  refine z_aload_n C 2 dL_law_1547 rfl rfl ?_
  refine z_callV (w := wX1 gg cI u) (w' := wX1 gg cI u2) (w1 := (wX0 hh cI cZ v2 ++ wO o cJ f)) (w2 := ([] : va_W)) (ws' := wL hh gg cI cZ cJ o v2 f u2) (As := []) (rest := [.long r]) (st' := .long r :: [.long r]) (rv := some (.long r)) C hB (cwV 0 C.words gL_law_X1_digest rfl rfl rfl (by decide +kernel) ⟨hfr, by show 8 + (_ + 11) + lo ≤ 440; omega⟩) (q0 := 0) (ci := 1) rfl rfl rfl [0] rfl rfl (Nat.le_of_ble_eq_true rfl) ⟨by show _ ≤ 601024; omega, by show _ ≤ 7293034; omega⟩ rfl rfl rfl rfl rfl dL_law_1548 ?_
  refine z_lcmp C dL_law_1551 ?_
  exact z_if_eq (tgt := 1557) C dL_law_1552 (by decide) (fun _ => z_more (by omega) (by omega) kk) (fun q => absurd (lg_self _) q)
