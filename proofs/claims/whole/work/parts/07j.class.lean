set_option maxHeartbeats 4000000 in
set_option maxRecDepth 100000 in
theorem c_X0_digest (l : Launch) (D : va_G) (hh : Nat → Nat) (cI cZ : ClassId) (v : S0) (hn : xn v ≤ 8) (hk : xk v ≤ 30) (hc5 : xc v ≤ 500) (hf : ∀ t, t < xk v → xf v t = 0 ∨ xf v t = 1) : zM l yX0_digest wsX0_digest 7 151 0 0 [.ref (hh 0)] [(cI, .int), (cZ, .boolean)] D (wX0 hh cI cZ v) (wX0 hh cI cZ (xdig v)) (some (.long (xdigR v))) := by
  refine z_met (cc := cX0_digest) (maxL := 4) (ret := (some .long)) (by decide) rfl (Nat.le_of_ble_eq_true rfl) ?_
  intro p e s m args below meth c A C hr hlocks
  have inl : ∀ w ∈ u_ws RX0 TX0 14, w ∈ wsX0_digest := by decide +kernel
  have wd0 : Cond.fieldLink RX0 36 "SaltOrder" "throwCount" "I" ∈ wsX0_digest := by decide +kernel
  have wd1 : Cond.fieldLink RX0 32 "SaltOrder" "memberCount" "I" ∈ wsX0_digest := by decide +kernel
  have wd2 : Cond.constantLong RX0 126 (2011) ∈ wsX0_digest := by decide +kernel
  refine z_sub (L' := [(0, .ref (hh 0))]) [0] rfl ?_
  have lp101 : ∀ (dd i : Nat), i + dd = xk v → zG p l e ({ frames := 7, cells := 0, slots := 0, locals := 151 } : Room) s m args below meth c D 4 A 0 0 (MQ below (zQ (some (.long (xdigR v))) (fun t => va_P D vwCl (wX0 hh cI cZ (xdig v)) t.heap) A) args s 0 0 A) 101 [(0, .ref (hh 0)), (1, .long (xthDN (xdig v) (xmemDN v (xdig8 v) (xn v)) i)), (3, .int (nI i))] [] (wX0 hh cI cZ (xdig v)) := by
    intro dd
    induction dd with
    | zero =>
      intro i hi
      have hi : i = xk v := by omega
      subst hi
      have hk1 : xk (xdig v) = xk v := xmemN_k v (xn v)
      refine z_iload_n C 2 dX0_digest_101 rfl rfl ?_
      refine z_aload_n C 0 dX0_digest_102 rfl rfl ?_
      refine z_get0 (v := .int (nI (xk (xdig v)))) C inl 0 8 (by decide) rfl rfl wd0 dX0_digest_103 ?_
      refine z_icmp_ge (tgt := 122) C dX0_digest_106 (by decide) (fun _ => ?_) (fun h9 => absurd (nI_le (by omega) (by omega)) h9)
      refine z_lload_n C 1 dX0_digest_122 rfl rfl ?_
      exact z_lret C hr hlocks (Nat.le_of_ble_eq_true rfl) (Nat.le_of_ble_eq_true rfl) dX0_digest_123 (by unfold xdigR; rfl) rfl
    | succ dd ih =>
      intro i hi
      have hk1 : xk (xdig v) = xk v := xmemN_k v (xn v)
      have hf1 : xf (xdig v) = xf v := xmemN_f v (xn v)
      refine z_iload_n C 2 dX0_digest_101 rfl rfl ?_
      refine z_aload_n C 0 dX0_digest_102 rfl rfl ?_
      refine z_get0 (v := .int (nI (xk (xdig v)))) C inl 0 8 (by decide) rfl rfl wd0 dX0_digest_103 ?_
      refine z_icmp_ge (tgt := 122) C dX0_digest_106 (by decide) (fun h9 => absurd h9 (nI_ge (by omega) (by omega))) (fun _ => ?_)
      refine z_aload_n C 0 dX0_digest_109 rfl rfl ?_
      refine z_lload_n C 1 dX0_digest_110 rfl rfl ?_
      refine z_iload_n C 2 dX0_digest_111 rfl rfl ?_
      refine z_callV (w := (wX0 hh cI cZ (xdig v))) (w' := (wX0 hh cI cZ (xdig v))) (w1 := ([] : va_W)) (w2 := ([] : va_W)) (ws' := (wX0 hh cI cZ (xdig v))) (As := [.long (xthDN (xdig v) (xmemDN v (xdig8 v) (xn v)) i), .int (nI i)]) (rest := []) (st' := [.long (xthD (xdig v) (xthDN (xdig v) (xmemDN v (xdig8 v) (xn v)) i) i)]) (rv := some (.long (xthD (xdig v) (xthDN (xdig v) (xmemDN v (xdig8 v) (xn v)) i) i))) C (c_X0_withThrow l D hh cI cZ (xdig v) (xthDN (xdig v) (xmemDN v (xdig8 v) (xn v)) i) i (by omega) (by omega) (by rw [hf1]; exact hf i (by omega))) (cwV 2 C.words gX0_digest_X0_withThrow rfl rfl rfl (by decide +kernel) ⟨(Nat.le_of_ble_eq_true rfl), (Nat.le_of_ble_eq_true rfl)⟩) (q0 := 0) (ci := 0) rfl rfl rfl [0, 1] rfl rfl (Nat.le_of_ble_eq_true rfl) ⟨(Nat.le_of_ble_eq_true rfl), (Nat.le_of_ble_eq_true rfl)⟩ rfl rfl rfl rfl rfl dX0_digest_112 ?_
      refine z_lstore_n (L' := [(1, .long (xthD (xdig v) (xthDN (xdig v) (xmemDN v (xdig8 v) (xn v)) i) i)), (0, .ref (hh 0)), (3, .int (nI i))]) C dX0_digest_115 rfl (by decide) rfl ?_
      refine z_iinc (v := nI (i + 1)) (L' := [(3, .int (nI (i + 1))), (1, .long (xthD (xdig v) (xthDN (xdig v) (xmemDN v (xdig8 v) (xn v)) i) i)), (0, .ref (hh 0))]) C 2 dX0_digest_116 rfl (z_inc _) (by decide) rfl ?_
      refine z_goto (tgt := 101) C dX0_digest_119 (by decide) ?_
      refine z_sub (L' := [(0, .ref (hh 0)), (1, .long (xthD (xdig v) (xthDN (xdig v) (xmemDN v (xdig8 v) (xn v)) i) i)), (3, .int (nI (i + 1)))]) [2, 1, 0] rfl ?_
      exact ih (i + 1) (by omega)
  have lp78 : ∀ (dd i : Nat), i + dd = xn v → zG p l e ({ frames := 7, cells := 0, slots := 0, locals := 151 } : Room) s m args below meth c D 4 A 0 0 (MQ below (zQ (some (.long (xdigR v))) (fun t => va_P D vwCl (wX0 hh cI cZ (xdig v)) t.heap) A) args s 0 0 A) 78 [(0, .ref (hh 0)), (1, .long (xmemDN v (xdig8 v) i)), (3, .int (nI i))] [] (wX0 hh cI cZ (xmemN v i)) := by
    intro dd
    induction dd with
    | zero =>
      intro i hi
      have hi : i = xn v := by omega
      subst hi
      have hn1 := xmemN_n v (xn v)
      refine z_iload_n C 2 dX0_digest_78 rfl rfl ?_
      refine z_aload_n C 0 dX0_digest_79 rfl rfl ?_
      refine z_get0 (v := .int (nI (xn (xmemN v (xn v))))) C inl 0 3 (by decide) rfl rfl wd1 dX0_digest_80 ?_
      refine z_icmp_ge (tgt := 99) C dX0_digest_83 (by decide) (fun _ => ?_) (fun h9 => absurd (nI_le (by omega) (by omega)) h9)
      refine z_iconst (v := 0) C dX0_digest_99 (by decide) ?_
      refine z_istore_n (L' := [(3, .int 0), (0, .ref (hh 0)), (1, .long (xmemDN v (xdig8 v) (xn v)))]) C dX0_digest_100 rfl (by decide) rfl ?_
      refine z_sub (L' := [(0, .ref (hh 0)), (1, .long (xmemDN v (xdig8 v) (xn v))), (3, .int 0)]) [1, 2, 0] rfl ?_
      exact lp101 (xk v) 0 (by omega)
    | succ dd ih =>
      intro i hi
      have hn1 := xmemN_n v i
      have hk1 := xmemN_k v i
      have hc1 := xmemN_c v i
      refine z_iload_n C 2 dX0_digest_78 rfl rfl ?_
      refine z_aload_n C 0 dX0_digest_79 rfl rfl ?_
      refine z_get0 (v := .int (nI (xn (xmemN v i)))) C inl 0 3 (by decide) rfl rfl wd1 dX0_digest_80 ?_
      refine z_icmp_ge (tgt := 99) C dX0_digest_83 (by decide) (fun h9 => absurd h9 (nI_ge (by omega) (by omega))) (fun _ => ?_)
      refine z_aload_n C 0 dX0_digest_86 rfl rfl ?_
      refine z_lload_n C 1 dX0_digest_87 rfl rfl ?_
      refine z_iload_n C 2 dX0_digest_88 rfl rfl ?_
      obtain ⟨v1, hv1⟩ : ∃ z, z = xmem (xmemN v i) i := ⟨_, rfl⟩
      have hv1k0 : xn v1 = xn (xmemN v i) := by rw [hv1]; exact xmem_n (xmemN v i) i
      have hv1k1 : xk v1 = xk (xmemN v i) := by rw [hv1]; exact xmem_k (xmemN v i) i
      refine z_callV (w := (wX0 hh cI cZ (xmemN v i))) (w' := (wX0 hh cI cZ v1)) (w1 := ([] : va_W)) (w2 := ([] : va_W)) (ws' := (wX0 hh cI cZ v1)) (As := [.long (xmemDN v (xdig8 v) i), .int (nI i)]) (rest := []) (st' := [.long (xmemD (xmemN v i) (xmemDN v (xdig8 v) i) i)]) (rv := some (.long (xmemD (xmemN v i) (xmemDN v (xdig8 v) i) i))) C (by rw [hv1]; exact c_X0_withMember l D hh cI cZ (xmemN v i) (xmemDN v (xdig8 v) i) i (by omega) (by omega) (by omega) (by rw [hc1]; exact hc5)) (cwV 2 C.words gX0_digest_X0_withMember rfl rfl rfl (by decide +kernel) ⟨(Nat.le_of_ble_eq_true rfl), (Nat.le_of_ble_eq_true rfl)⟩) (q0 := 0) (ci := 0) rfl rfl rfl [0, 1] rfl rfl (Nat.le_of_ble_eq_true rfl) ⟨(Nat.le_of_ble_eq_true rfl), (Nat.le_of_ble_eq_true rfl)⟩ rfl rfl rfl rfl rfl dX0_digest_89 ?_
      refine z_lstore_n (L' := [(1, .long (xmemD (xmemN v i) (xmemDN v (xdig8 v) i) i)), (0, .ref (hh 0)), (3, .int (nI i))]) C dX0_digest_92 rfl (by decide) rfl ?_
      refine z_iinc (v := nI (i + 1)) (L' := [(3, .int (nI (i + 1))), (1, .long (xmemD (xmemN v i) (xmemDN v (xdig8 v) i) i)), (0, .ref (hh 0))]) C 2 dX0_digest_93 rfl (z_inc _) (by decide) rfl ?_
      refine z_goto (tgt := 78) C dX0_digest_96 (by decide) ?_
      refine z_sub (L' := [(0, .ref (hh 0)), (1, .long (xmemD (xmemN v i) (xmemDN v (xdig8 v) i) i)), (3, .int (nI (i + 1)))]) [2, 1, 0] rfl ?_
      have e2 : xmemN v (i + 1) = v1 := by rw [hv1]; rfl
      have e3 : xmemDN v (xdig8 v) (i + 1) = xmemD (xmemN v i) (xmemDN v (xdig8 v) i) i := rfl
      exact (by have e9 := ih (i + 1) (by omega); rw [e2, e3] at e9; exact e9)
  refine z_ldc2 C wd2 dX0_digest_0 ?_
  refine z_lstore_n (L' := [(1, .long 2011), (0, .ref (hh 0))]) C dX0_digest_3 rfl (by decide) rfl ?_
  refine z_lload_n C 0 dX0_digest_4 rfl rfl ?_
  refine z_aload_n C 1 dX0_digest_5 rfl rfl ?_
  refine z_callV (w := (wX0 hh cI cZ v)) (w' := (wX0 hh cI cZ v)) (w1 := ([] : va_W)) (w2 := ([] : va_W)) (ws' := (wX0 hh cI cZ v)) (As := []) (rest := [.long 2011]) (st' := [.int (xd v), .long 2011]) (rv := some (.int (xd v))) C (c_X0_day l D hh cI cZ v) (cwV 0 C.words gX0_digest_X0_day rfl rfl rfl (by decide +kernel) ⟨(Nat.le_of_ble_eq_true rfl), (Nat.le_of_ble_eq_true rfl)⟩) (q0 := 0) (ci := 0) rfl rfl rfl [0, 1] rfl rfl (Nat.le_of_ble_eq_true rfl) ⟨(Nat.le_of_ble_eq_true rfl), (Nat.le_of_ble_eq_true rfl)⟩ rfl rfl rfl rfl rfl dX0_digest_6 ?_
  refine z_callS (w := ([] : va_W)) (w' := ([] : va_W)) (w1 := (wX0 hh cI cZ v)) (w2 := ([] : va_W)) (ws' := (wX0 hh cI cZ v)) (As := [.long 2011, .int (xd v)]) (rest := []) (st' := [.long (mixd 2011 (xd v))]) (rv := some (.long (mixd 2011 (xd v)))) C (c_X0_mixed l D 2011 (xd v)) (va_cwS 2 C.words gX0_digest_X0_mixed rfl rfl rfl (by decide +kernel) ⟨(Nat.le_of_ble_eq_true rfl), (Nat.le_of_ble_eq_true rfl)⟩) [] rfl rfl (Nat.le_of_ble_eq_true rfl) ⟨(Nat.le_of_ble_eq_true rfl), (Nat.le_of_ble_eq_true rfl)⟩ rfl rfl rfl rfl rfl dX0_digest_9 ?_
  refine z_lstore_n (L' := [(1, .long (mixd 2011 (xd v))), (0, .ref (hh 0))]) C dX0_digest_12 rfl (by decide) rfl ?_
  refine z_lload_n C 0 dX0_digest_13 rfl rfl ?_
  refine z_aload_n C 1 dX0_digest_14 rfl rfl ?_
  refine z_callV (w := (wX0 hh cI cZ v)) (w' := (wX0 hh cI cZ v)) (w1 := ([] : va_W)) (w2 := ([] : va_W)) (ws' := (wX0 hh cI cZ v)) (As := []) (rest := [.long (mixd 2011 (xd v))]) (st' := [.int (nI (xn v)), .long (mixd 2011 (xd v))]) (rv := some (.int (nI (xn v)))) C (c_X0_members l D hh cI cZ v) (cwV 0 C.words gX0_digest_X0_members rfl rfl rfl (by decide +kernel) ⟨(Nat.le_of_ble_eq_true rfl), (Nat.le_of_ble_eq_true rfl)⟩) (q0 := 0) (ci := 0) rfl rfl rfl [0, 1] rfl rfl (Nat.le_of_ble_eq_true rfl) ⟨(Nat.le_of_ble_eq_true rfl), (Nat.le_of_ble_eq_true rfl)⟩ rfl rfl rfl rfl rfl dX0_digest_15 ?_
  refine z_callS (w := ([] : va_W)) (w' := ([] : va_W)) (w1 := (wX0 hh cI cZ v)) (w2 := ([] : va_W)) (ws' := (wX0 hh cI cZ v)) (As := [.long (mixd 2011 (xd v)), .int (nI (xn v))]) (rest := []) (st' := [.long (mixd (mixd 2011 (xd v)) (nI (xn v)))]) (rv := some (.long (mixd (mixd 2011 (xd v)) (nI (xn v))))) C (c_X0_mixed l D (mixd 2011 (xd v)) (nI (xn v))) (va_cwS 2 C.words gX0_digest_X0_mixed rfl rfl rfl (by decide +kernel) ⟨(Nat.le_of_ble_eq_true rfl), (Nat.le_of_ble_eq_true rfl)⟩) [] rfl rfl (Nat.le_of_ble_eq_true rfl) ⟨(Nat.le_of_ble_eq_true rfl), (Nat.le_of_ble_eq_true rfl)⟩ rfl rfl rfl rfl rfl dX0_digest_18 ?_
  refine z_lstore_n (L' := [(1, .long (mixd (mixd 2011 (xd v)) (nI (xn v)))), (0, .ref (hh 0))]) C dX0_digest_21 rfl (by decide) rfl ?_
  refine z_lload_n C 0 dX0_digest_22 rfl rfl ?_
  refine z_aload_n C 1 dX0_digest_23 rfl rfl ?_
  refine z_callV (w := (wX0 hh cI cZ v)) (w' := (wX0 hh cI cZ v)) (w1 := ([] : va_W)) (w2 := ([] : va_W)) (ws' := (wX0 hh cI cZ v)) (As := []) (rest := [.long (mixd (mixd 2011 (xd v)) (nI (xn v)))]) (st' := [.int (nI (xc v)), .long (mixd (mixd 2011 (xd v)) (nI (xn v)))]) (rv := some (.int (nI (xc v)))) C (c_X0_salt l D hh cI cZ v) (cwV 0 C.words gX0_digest_X0_salt rfl rfl rfl (by decide +kernel) ⟨(Nat.le_of_ble_eq_true rfl), (Nat.le_of_ble_eq_true rfl)⟩) (q0 := 0) (ci := 0) rfl rfl rfl [0, 1] rfl rfl (Nat.le_of_ble_eq_true rfl) ⟨(Nat.le_of_ble_eq_true rfl), (Nat.le_of_ble_eq_true rfl)⟩ rfl rfl rfl rfl rfl dX0_digest_24 ?_
  refine z_callS (w := ([] : va_W)) (w' := ([] : va_W)) (w1 := (wX0 hh cI cZ v)) (w2 := ([] : va_W)) (ws' := (wX0 hh cI cZ v)) (As := [.long (mixd (mixd 2011 (xd v)) (nI (xn v))), .int (nI (xc v))]) (rest := []) (st' := [.long (mixd (mixd (mixd 2011 (xd v)) (nI (xn v))) (nI (xc v)))]) (rv := some (.long (mixd (mixd (mixd 2011 (xd v)) (nI (xn v))) (nI (xc v))))) C (c_X0_mixed l D (mixd (mixd 2011 (xd v)) (nI (xn v))) (nI (xc v))) (va_cwS 2 C.words gX0_digest_X0_mixed rfl rfl rfl (by decide +kernel) ⟨(Nat.le_of_ble_eq_true rfl), (Nat.le_of_ble_eq_true rfl)⟩) [] rfl rfl (Nat.le_of_ble_eq_true rfl) ⟨(Nat.le_of_ble_eq_true rfl), (Nat.le_of_ble_eq_true rfl)⟩ rfl rfl rfl rfl rfl dX0_digest_27 ?_
  refine z_lstore_n (L' := [(1, .long (mixd (mixd (mixd 2011 (xd v)) (nI (xn v))) (nI (xc v)))), (0, .ref (hh 0))]) C dX0_digest_30 rfl (by decide) rfl ?_
  refine z_lload_n C 0 dX0_digest_31 rfl rfl ?_
  refine z_aload_n C 1 dX0_digest_32 rfl rfl ?_
  refine z_callV (w := (wX0 hh cI cZ v)) (w' := (wX0 hh cI cZ v)) (w1 := ([] : va_W)) (w2 := ([] : va_W)) (ws' := (wX0 hh cI cZ v)) (As := []) (rest := [.long (mixd (mixd (mixd 2011 (xd v)) (nI (xn v))) (nI (xc v)))]) (st' := [.int (nI (xk v)), .long (mixd (mixd (mixd 2011 (xd v)) (nI (xn v))) (nI (xc v)))]) (rv := some (.int (nI (xk v)))) C (c_X0_ledger l D hh cI cZ v) (cwV 0 C.words gX0_digest_X0_ledger rfl rfl rfl (by decide +kernel) ⟨(Nat.le_of_ble_eq_true rfl), (Nat.le_of_ble_eq_true rfl)⟩) (q0 := 0) (ci := 0) rfl rfl rfl [0, 1] rfl rfl (Nat.le_of_ble_eq_true rfl) ⟨(Nat.le_of_ble_eq_true rfl), (Nat.le_of_ble_eq_true rfl)⟩ rfl rfl rfl rfl rfl dX0_digest_33 ?_
  refine z_callS (w := ([] : va_W)) (w' := ([] : va_W)) (w1 := (wX0 hh cI cZ v)) (w2 := ([] : va_W)) (ws' := (wX0 hh cI cZ v)) (As := [.long (mixd (mixd (mixd 2011 (xd v)) (nI (xn v))) (nI (xc v))), .int (nI (xk v))]) (rest := []) (st' := [.long (mixd (mixd (mixd (mixd 2011 (xd v)) (nI (xn v))) (nI (xc v))) (nI (xk v)))]) (rv := some (.long (mixd (mixd (mixd (mixd 2011 (xd v)) (nI (xn v))) (nI (xc v))) (nI (xk v))))) C (c_X0_mixed l D (mixd (mixd (mixd 2011 (xd v)) (nI (xn v))) (nI (xc v))) (nI (xk v))) (va_cwS 2 C.words gX0_digest_X0_mixed rfl rfl rfl (by decide +kernel) ⟨(Nat.le_of_ble_eq_true rfl), (Nat.le_of_ble_eq_true rfl)⟩) [] rfl rfl (Nat.le_of_ble_eq_true rfl) ⟨(Nat.le_of_ble_eq_true rfl), (Nat.le_of_ble_eq_true rfl)⟩ rfl rfl rfl rfl rfl dX0_digest_36 ?_
  refine z_lstore_n (L' := [(1, .long (mixd (mixd (mixd (mixd 2011 (xd v)) (nI (xn v))) (nI (xc v))) (nI (xk v)))), (0, .ref (hh 0))]) C dX0_digest_39 rfl (by decide) rfl ?_
  refine z_lload_n C 0 dX0_digest_40 rfl rfl ?_
  refine z_aload_n C 1 dX0_digest_41 rfl rfl ?_
  refine z_callV (w := (wX0 hh cI cZ v)) (w' := (wX0 hh cI cZ v)) (w1 := ([] : va_W)) (w2 := ([] : va_W)) (ws' := (wX0 hh cI cZ v)) (As := []) (rest := [.long (mixd (mixd (mixd (mixd 2011 (xd v)) (nI (xn v))) (nI (xc v))) (nI (xk v)))]) (st' := [.int (xflt v), .long (mixd (mixd (mixd (mixd 2011 (xd v)) (nI (xn v))) (nI (xc v))) (nI (xk v)))]) (rv := some (.int (xflt v))) C (c_X0_faults l D hh cI cZ v (by omega)) (cwV 0 C.words gX0_digest_X0_faults rfl rfl rfl (by decide +kernel) ⟨(Nat.le_of_ble_eq_true rfl), (Nat.le_of_ble_eq_true rfl)⟩) (q0 := 0) (ci := 0) rfl rfl rfl [0, 1] rfl rfl (Nat.le_of_ble_eq_true rfl) ⟨(Nat.le_of_ble_eq_true rfl), (Nat.le_of_ble_eq_true rfl)⟩ rfl rfl rfl rfl rfl dX0_digest_42 ?_
  refine z_callS (w := ([] : va_W)) (w' := ([] : va_W)) (w1 := (wX0 hh cI cZ v)) (w2 := ([] : va_W)) (ws' := (wX0 hh cI cZ v)) (As := [.long (mixd (mixd (mixd (mixd 2011 (xd v)) (nI (xn v))) (nI (xc v))) (nI (xk v))), .int (xflt v)]) (rest := []) (st' := [.long (mixd (mixd (mixd (mixd (mixd 2011 (xd v)) (nI (xn v))) (nI (xc v))) (nI (xk v))) (xflt v))]) (rv := some (.long (mixd (mixd (mixd (mixd (mixd 2011 (xd v)) (nI (xn v))) (nI (xc v))) (nI (xk v))) (xflt v)))) C (c_X0_mixed l D (mixd (mixd (mixd (mixd 2011 (xd v)) (nI (xn v))) (nI (xc v))) (nI (xk v))) (xflt v)) (va_cwS 2 C.words gX0_digest_X0_mixed rfl rfl rfl (by decide +kernel) ⟨(Nat.le_of_ble_eq_true rfl), (Nat.le_of_ble_eq_true rfl)⟩) [] rfl rfl (Nat.le_of_ble_eq_true rfl) ⟨(Nat.le_of_ble_eq_true rfl), (Nat.le_of_ble_eq_true rfl)⟩ rfl rfl rfl rfl rfl dX0_digest_45 ?_
  refine z_lstore_n (L' := [(1, .long (mixd (mixd (mixd (mixd (mixd 2011 (xd v)) (nI (xn v))) (nI (xc v))) (nI (xk v))) (xflt v))), (0, .ref (hh 0))]) C dX0_digest_48 rfl (by decide) rfl ?_
  refine z_lload_n C 0 dX0_digest_49 rfl rfl ?_
  refine z_aload_n C 1 dX0_digest_50 rfl rfl ?_
  refine z_callV (w := (wX0 hh cI cZ v)) (w' := (wX0 hh cI cZ v)) (w1 := ([] : va_W)) (w2 := ([] : va_W)) (ws' := (wX0 hh cI cZ v)) (As := []) (rest := [.long (mixd (mixd (mixd (mixd (mixd 2011 (xd v)) (nI (xn v))) (nI (xc v))) (nI (xk v))) (xflt v))]) (st' := [.int (xo v), .long (mixd (mixd (mixd (mixd (mixd 2011 (xd v)) (nI (xn v))) (nI (xc v))) (nI (xk v))) (xflt v))]) (rv := some (.int (xo v))) C (c_X0_faultsFound l D hh cI cZ v) (cwV 0 C.words gX0_digest_X0_faultsFound rfl rfl rfl (by decide +kernel) ⟨(Nat.le_of_ble_eq_true rfl), (Nat.le_of_ble_eq_true rfl)⟩) (q0 := 0) (ci := 0) rfl rfl rfl [0, 1] rfl rfl (Nat.le_of_ble_eq_true rfl) ⟨(Nat.le_of_ble_eq_true rfl), (Nat.le_of_ble_eq_true rfl)⟩ rfl rfl rfl rfl rfl dX0_digest_51 ?_
  refine z_callS (w := ([] : va_W)) (w' := ([] : va_W)) (w1 := (wX0 hh cI cZ v)) (w2 := ([] : va_W)) (ws' := (wX0 hh cI cZ v)) (As := [.long (mixd (mixd (mixd (mixd (mixd 2011 (xd v)) (nI (xn v))) (nI (xc v))) (nI (xk v))) (xflt v)), .int (xo v)]) (rest := []) (st' := [.long (mixd (mixd (mixd (mixd (mixd (mixd 2011 (xd v)) (nI (xn v))) (nI (xc v))) (nI (xk v))) (xflt v)) (xo v))]) (rv := some (.long (mixd (mixd (mixd (mixd (mixd (mixd 2011 (xd v)) (nI (xn v))) (nI (xc v))) (nI (xk v))) (xflt v)) (xo v)))) C (c_X0_mixed l D (mixd (mixd (mixd (mixd (mixd 2011 (xd v)) (nI (xn v))) (nI (xc v))) (nI (xk v))) (xflt v)) (xo v)) (va_cwS 2 C.words gX0_digest_X0_mixed rfl rfl rfl (by decide +kernel) ⟨(Nat.le_of_ble_eq_true rfl), (Nat.le_of_ble_eq_true rfl)⟩) [] rfl rfl (Nat.le_of_ble_eq_true rfl) ⟨(Nat.le_of_ble_eq_true rfl), (Nat.le_of_ble_eq_true rfl)⟩ rfl rfl rfl rfl rfl dX0_digest_54 ?_
  refine z_lstore_n (L' := [(1, .long (mixd (mixd (mixd (mixd (mixd (mixd 2011 (xd v)) (nI (xn v))) (nI (xc v))) (nI (xk v))) (xflt v)) (xo v))), (0, .ref (hh 0))]) C dX0_digest_57 rfl (by decide) rfl ?_
  refine z_lload_n C 0 dX0_digest_58 rfl rfl ?_
  refine z_aload_n C 1 dX0_digest_59 rfl rfl ?_
  refine z_callV (w := (wX0 hh cI cZ v)) (w' := (wX0 hh cI cZ v)) (w1 := ([] : va_W)) (w2 := ([] : va_W)) (ws' := (wX0 hh cI cZ v)) (As := []) (rest := [.long (mixd (mixd (mixd (mixd (mixd (mixd 2011 (xd v)) (nI (xn v))) (nI (xc v))) (nI (xk v))) (xflt v)) (xo v))]) (st' := [.int ((lukN (xl v) (xn v)).1), .long (mixd (mixd (mixd (mixd (mixd (mixd 2011 (xd v)) (nI (xn v))) (nI (xc v))) (nI (xk v))) (xflt v)) (xo v))]) (rv := some (.int ((lukN (xl v) (xn v)).1))) C (c_X0_luckiest l D hh cI cZ v (by omega)) (cwV 0 C.words gX0_digest_X0_luckiest rfl rfl rfl (by decide +kernel) ⟨(Nat.le_of_ble_eq_true rfl), (Nat.le_of_ble_eq_true rfl)⟩) (q0 := 0) (ci := 0) rfl rfl rfl [0, 1] rfl rfl (Nat.le_of_ble_eq_true rfl) ⟨(Nat.le_of_ble_eq_true rfl), (Nat.le_of_ble_eq_true rfl)⟩ rfl rfl rfl rfl rfl dX0_digest_60 ?_
  refine z_callS (w := ([] : va_W)) (w' := ([] : va_W)) (w1 := (wX0 hh cI cZ v)) (w2 := ([] : va_W)) (ws' := (wX0 hh cI cZ v)) (As := [.long (mixd (mixd (mixd (mixd (mixd (mixd 2011 (xd v)) (nI (xn v))) (nI (xc v))) (nI (xk v))) (xflt v)) (xo v)), .int ((lukN (xl v) (xn v)).1)]) (rest := []) (st' := [.long (mixd (mixd (mixd (mixd (mixd (mixd (mixd 2011 (xd v)) (nI (xn v))) (nI (xc v))) (nI (xk v))) (xflt v)) (xo v)) ((lukN (xl v) (xn v)).1))]) (rv := some (.long (mixd (mixd (mixd (mixd (mixd (mixd (mixd 2011 (xd v)) (nI (xn v))) (nI (xc v))) (nI (xk v))) (xflt v)) (xo v)) ((lukN (xl v) (xn v)).1)))) C (c_X0_mixed l D (mixd (mixd (mixd (mixd (mixd (mixd 2011 (xd v)) (nI (xn v))) (nI (xc v))) (nI (xk v))) (xflt v)) (xo v)) ((lukN (xl v) (xn v)).1)) (va_cwS 2 C.words gX0_digest_X0_mixed rfl rfl rfl (by decide +kernel) ⟨(Nat.le_of_ble_eq_true rfl), (Nat.le_of_ble_eq_true rfl)⟩) [] rfl rfl (Nat.le_of_ble_eq_true rfl) ⟨(Nat.le_of_ble_eq_true rfl), (Nat.le_of_ble_eq_true rfl)⟩ rfl rfl rfl rfl rfl dX0_digest_63 ?_
  refine z_lstore_n (L' := [(1, .long (mixd (mixd (mixd (mixd (mixd (mixd (mixd 2011 (xd v)) (nI (xn v))) (nI (xc v))) (nI (xk v))) (xflt v)) (xo v)) ((lukN (xl v) (xn v)).1))), (0, .ref (hh 0))]) C dX0_digest_66 rfl (by decide) rfl ?_
  refine z_lload_n C 0 dX0_digest_67 rfl rfl ?_
  refine z_aload_n C 1 dX0_digest_68 rfl rfl ?_
  refine z_callV (w := (wX0 hh cI cZ v)) (w' := (wX0 hh cI cZ v)) (w1 := ([] : va_W)) (w2 := ([] : va_W)) (ws' := (wX0 hh cI cZ v)) (As := []) (rest := [.long (mixd (mixd (mixd (mixd (mixd (mixd (mixd 2011 (xd v)) (nI (xn v))) (nI (xc v))) (nI (xk v))) (xflt v)) (xo v)) ((lukN (xl v) (xn v)).1))]) (st' := [.int (sumI (xa v) (xn v)), .long (mixd (mixd (mixd (mixd (mixd (mixd (mixd 2011 (xd v)) (nI (xn v))) (nI (xc v))) (nI (xk v))) (xflt v)) (xo v)) ((lukN (xl v) (xn v)).1))]) (rv := some (.int (sumI (xa v) (xn v)))) C (c_X0_allArrears l D hh cI cZ v (by omega)) (cwV 0 C.words gX0_digest_X0_allArrears rfl rfl rfl (by decide +kernel) ⟨(Nat.le_of_ble_eq_true rfl), (Nat.le_of_ble_eq_true rfl)⟩) (q0 := 0) (ci := 0) rfl rfl rfl [0, 1] rfl rfl (Nat.le_of_ble_eq_true rfl) ⟨(Nat.le_of_ble_eq_true rfl), (Nat.le_of_ble_eq_true rfl)⟩ rfl rfl rfl rfl rfl dX0_digest_69 ?_
  refine z_callS (w := ([] : va_W)) (w' := ([] : va_W)) (w1 := (wX0 hh cI cZ v)) (w2 := ([] : va_W)) (ws' := (wX0 hh cI cZ v)) (As := [.long (mixd (mixd (mixd (mixd (mixd (mixd (mixd 2011 (xd v)) (nI (xn v))) (nI (xc v))) (nI (xk v))) (xflt v)) (xo v)) ((lukN (xl v) (xn v)).1)), .int (sumI (xa v) (xn v))]) (rest := []) (st' := [.long (mixd (mixd (mixd (mixd (mixd (mixd (mixd (mixd 2011 (xd v)) (nI (xn v))) (nI (xc v))) (nI (xk v))) (xflt v)) (xo v)) ((lukN (xl v) (xn v)).1)) (sumI (xa v) (xn v)))]) (rv := some (.long (mixd (mixd (mixd (mixd (mixd (mixd (mixd (mixd 2011 (xd v)) (nI (xn v))) (nI (xc v))) (nI (xk v))) (xflt v)) (xo v)) ((lukN (xl v) (xn v)).1)) (sumI (xa v) (xn v))))) C (c_X0_mixed l D (mixd (mixd (mixd (mixd (mixd (mixd (mixd 2011 (xd v)) (nI (xn v))) (nI (xc v))) (nI (xk v))) (xflt v)) (xo v)) ((lukN (xl v) (xn v)).1)) (sumI (xa v) (xn v))) (va_cwS 2 C.words gX0_digest_X0_mixed rfl rfl rfl (by decide +kernel) ⟨(Nat.le_of_ble_eq_true rfl), (Nat.le_of_ble_eq_true rfl)⟩) [] rfl rfl (Nat.le_of_ble_eq_true rfl) ⟨(Nat.le_of_ble_eq_true rfl), (Nat.le_of_ble_eq_true rfl)⟩ rfl rfl rfl rfl rfl dX0_digest_72 ?_
  refine z_lstore_n (L' := [(1, .long (mixd (mixd (mixd (mixd (mixd (mixd (mixd (mixd 2011 (xd v)) (nI (xn v))) (nI (xc v))) (nI (xk v))) (xflt v)) (xo v)) ((lukN (xl v) (xn v)).1)) (sumI (xa v) (xn v)))), (0, .ref (hh 0))]) C dX0_digest_75 rfl (by decide) rfl ?_
  refine z_iconst (v := 0) C dX0_digest_76 (by decide) ?_
  refine z_istore_n (L' := [(3, .int 0), (1, .long (mixd (mixd (mixd (mixd (mixd (mixd (mixd (mixd 2011 (xd v)) (nI (xn v))) (nI (xc v))) (nI (xk v))) (xflt v)) (xo v)) ((lukN (xl v) (xn v)).1)) (sumI (xa v) (xn v)))), (0, .ref (hh 0))]) C dX0_digest_77 rfl (by decide) rfl ?_
  refine z_sub (L' := [(0, .ref (hh 0)), (1, .long (mixd (mixd (mixd (mixd (mixd (mixd (mixd (mixd 2011 (xd v)) (nI (xn v))) (nI (xc v))) (nI (xk v))) (xflt v)) (xo v)) ((lukN (xl v) (xn v)).1)) (sumI (xa v) (xn v)))), (3, .int 0)]) [2, 1, 0] rfl ?_
  exact lp78 (xn v) 0 (by omega)
