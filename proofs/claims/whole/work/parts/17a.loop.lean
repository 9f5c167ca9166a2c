/-! the law: its loop -/
set_option maxHeartbeats 8000000 in
set_option maxRecDepth 100000 in
theorem k_law_body {p : Program} {l : Launch} {e : Env} {s : State} {m : MethodId} {below : List Frame} {meth : Method} {c : Code} {b : Nat} {D : va_G} {hh gg : Nat → Nat} {cI cZ cJ : ClassId} {o N : Nat} {xs : Nat → Int32} {cells slots t : Nat} {Q : State → Prop} {v : S0} {u : S1} {f : Nat → Int64} {W X : Nat → Nat} (K : lC p s m c b D cI cZ cJ N xs) (ht : 4 * t + 4 ≤ N) (hst : l.stackTraces = false) (hc : cells + 9 ≤ 601024) (hs : slots + 64 ≤ 7293034) (h : Rel v u W X) (kk : ∀ (v : S0) (f : Nat → Int64) (u : S1) (W X : Nat → Nat), Rel v u W X → zG p l e room_1 s m #[.ref b] below meth c D 9 (aN s) (cells + 9) (slots + 64) Q 1557 [(0, .ref b), (1, .ref (hh 0)), (2, .ref (gg 0)), (3, .ref o), (4, .int (nI (4 * t)))] [] (wL hh gg cI cZ cJ o v f u)) : zG p l e room_1 s m #[.ref b] below meth c D 9 (aN s) cells slots Q 32 [(0, .ref b), (1, .ref (hh 0)), (2, .ref (gg 0)), (3, .ref o), (4, .int (nI (4 * t)))] [] (wL hh gg cI cZ cJ o v f u) := by
  obtain ⟨C, -, hX, hbl, hN2⟩ := id K
  have hbA : ¬ aN s b := Nat.not_le.mpr hbl
  refine z_aload_n C 0 dL_law_32 rfl rfl ?_
  refine z_iload C 4 dL_law_33 rfl ?_
  refine z_sld C hX hbl hbA (4 * t) rfl (by omega) (by omega) dL_law_35 ?_
  refine z_bipush (v := 63) C dL_law_36 (by decide) ?_
  refine z_iand C dL_law_38 ?_
  obtain ⟨j, hj, ej⟩ := pk_andE (xs (4 * t)) (m := 63) 6 (by decide)
  refine z_top ej ?_
  by_cases hj2 : j ≤ 32
  · rcases (show j = 0 ∨ j = 1 ∨ j = 2 ∨ j = 3 ∨ j = 4 ∨ j = 5 ∨ j = 6 ∨ j = 7 ∨ j = 8 ∨ j = 9 ∨ j = 10 ∨ j = 11 ∨ j = 12 ∨ j = 13 ∨ j = 14 ∨ j = 15 ∨ j = 16 ∨ j = 17 ∨ j = 18 ∨ j = 19 ∨ j = 20 ∨ j = 21 ∨ j = 22 ∨ j = 23 ∨ j = 24 ∨ j = 25 ∨ j = 26 ∨ j = 27 ∨ j = 28 ∨ j = 29 ∨ j = 30 ∨ j = 31 ∨ j = 32 by omega) with rfl | rfl | rfl | rfl | rfl | rfl | rfl | rfl | rfl | rfl | rfl | rfl | rfl | rfl | rfl | rfl | rfl | rfl | rfl | rfl | rfl | rfl | rfl | rfl | rfl | rfl | rfl | rfl | rfl | rfl | rfl | rfl | rfl
    · exact z_tabIn (off := 145) (tgt := 184) C dL_law_39 (by decide +kernel) (by decide +kernel) (by decide +kernel) (by decide) (k_law_join K ht hst hc hs h kk)
    · exact z_tabIn (off := 189) (tgt := 228) C dL_law_39 (by decide +kernel) (by decide +kernel) (by decide +kernel) (by decide) (k_law_spill K ht hst hc hs h kk)
    · exact z_tabIn (off := 257) (tgt := 296) C dL_law_39 (by decide +kernel) (by decide +kernel) (by decide +kernel) (by decide) (k_law_throwSalt K ht hst hc hs h kk)
    · exact z_tabIn (off := 337) (tgt := 376) C dL_law_39 (by decide +kernel) (by decide +kernel) (by decide +kernel) (by decide) (k_law_doPenance K ht hst hc hs h kk)
    · exact z_tabIn (off := 405) (tgt := 444) C dL_law_39 (by decide +kernel) (by decide +kernel) (by decide +kernel) (by decide) (k_law_bringSalt K ht hst hc hs h kk)
    · exact z_tabIn (off := 461) (tgt := 500) C dL_law_39 (by decide +kernel) (by decide +kernel) (by decide +kernel) (by decide) (k_law_audit K ht hst hc hs h kk)
    · exact z_tabIn (off := 474) (tgt := 513) C dL_law_39 (by decide +kernel) (by decide +kernel) (by decide +kernel) (by decide) (k_law_pass K ht hst hc hs h kk)
    · exact z_tabIn (off := 530) (tgt := 569) C dL_law_39 (by decide +kernel) (by decide +kernel) (by decide +kernel) (by decide) (k_law_day K ht hst hc hs h kk)
    · exact z_tabIn (off := 543) (tgt := 582) C dL_law_39 (by decide +kernel) (by decide +kernel) (by decide +kernel) (by decide) (k_law_members K ht hst hc hs h kk)
    · exact z_tabIn (off := 556) (tgt := 595) C dL_law_39 (by decide +kernel) (by decide +kernel) (by decide +kernel) (by decide) (k_law_luckOf K ht hst hc hs h kk)
    · exact z_tabIn (off := 612) (tgt := 651) C dL_law_39 (by decide +kernel) (by decide +kernel) (by decide +kernel) (by decide) (k_law_arrearsOf K ht hst hc hs h kk)
    · exact z_tabIn (off := 668) (tgt := 707) C dL_law_39 (by decide +kernel) (by decide +kernel) (by decide +kernel) (by decide) (k_law_lumpsOf K ht hst hc hs h kk)
    · exact z_tabIn (off := 724) (tgt := 763) C dL_law_39 (by decide +kernel) (by decide +kernel) (by decide +kernel) (by decide) (k_law_dailyLoss K ht hst hc hs h kk)
    · exact z_tabIn (off := 780) (tgt := 819) C dL_law_39 (by decide +kernel) (by decide +kernel) (by decide +kernel) (by decide) (k_law_luckiest K ht hst hc hs h kk)
    · exact z_tabIn (off := 793) (tgt := 832) C dL_law_39 (by decide +kernel) (by decide +kernel) (by decide +kernel) (by decide) (k_law_allArrears K ht hst hc hs h kk)
    · exact z_tabIn (off := 806) (tgt := 845) C dL_law_39 (by decide +kernel) (by decide +kernel) (by decide +kernel) (by decide) (k_law_clearMembers K ht hst hc hs h kk)
    · exact z_tabIn (off := 819) (tgt := 858) C dL_law_39 (by decide +kernel) (by decide +kernel) (by decide +kernel) (by decide) (k_law_salt K ht hst hc hs h kk)
    · exact z_tabIn (off := 832) (tgt := 871) C dL_law_39 (by decide +kernel) (by decide +kernel) (by decide +kernel) (by decide) (k_law_ledger K ht hst hc hs h kk)
    · exact z_tabIn (off := 845) (tgt := 884) C dL_law_39 (by decide +kernel) (by decide +kernel) (by decide +kernel) (by decide) (k_law_memberOf K ht hst hc hs h kk)
    · exact z_tabIn (off := 901) (tgt := 940) C dL_law_39 (by decide +kernel) (by decide +kernel) (by decide +kernel) (by decide) (k_law_isLeft K ht hst hc hs h kk)
    · exact z_tabIn (off := 964) (tgt := 1003) C dL_law_39 (by decide +kernel) (by decide +kernel) (by decide +kernel) (by decide) (k_law_grainsOf K ht hst hc hs h kk)
    · exact z_tabIn (off := 1020) (tgt := 1059) C dL_law_39 (by decide +kernel) (by decide +kernel) (by decide +kernel) (by decide) (k_law_excessOf K ht hst hc hs h kk)
    · exact z_tabIn (off := 1076) (tgt := 1115) C dL_law_39 (by decide +kernel) (by decide +kernel) (by decide +kernel) (by decide) (k_law_faults K ht hst hc hs h kk)
    · exact z_tabIn (off := 1089) (tgt := 1128) C dL_law_39 (by decide +kernel) (by decide +kernel) (by decide +kernel) (by decide) (k_law_arrearsByAudit K ht hst hc hs h kk)
    · exact z_tabIn (off := 1145) (tgt := 1184) C dL_law_39 (by decide +kernel) (by decide +kernel) (by decide +kernel) (by decide) (k_law_daysUntilAudit K ht hst hc hs h kk)
    · exact z_tabIn (off := 1158) (tgt := 1197) C dL_law_39 (by decide +kernel) (by decide +kernel) (by decide +kernel) (by decide) (k_law_faultsFound K ht hst hc hs h kk)
    · exact z_tabIn (off := 1171) (tgt := 1210) C dL_law_39 (by decide +kernel) (by decide +kernel) (by decide +kernel) (by decide) (k_law_luckIn K ht hst hc hs h kk)
    · exact z_tabIn (off := 1239) (tgt := 1278) C dL_law_39 (by decide +kernel) (by decide +kernel) (by decide +kernel) (by decide) (k_law_daysUntilClear K ht hst hc hs h kk)
    · exact z_tabIn (off := 1295) (tgt := 1334) C dL_law_39 (by decide +kernel) (by decide +kernel) (by decide +kernel) (by decide) (k_law_daysUntilUnlucky K ht hst hc hs h kk)
    · exact z_tabIn (off := 1351) (tgt := 1390) C dL_law_39 (by decide +kernel) (by decide +kernel) (by decide +kernel) (by decide) (k_law_bestPinch K ht hst hc hs h kk)
    · exact z_tabIn (off := 1407) (tgt := 1446) C dL_law_39 (by decide +kernel) (by decide +kernel) (by decide +kernel) (by decide) (k_law_bestPenance K ht hst hc hs h kk)
    · exact z_tabIn (off := 1463) (tgt := 1502) C dL_law_39 (by decide +kernel) (by decide +kernel) (by decide +kernel) (by decide) (k_law_meanLuck K ht hst hc hs h kk)
    · exact z_tabIn (off := 1504) (tgt := 1543) C dL_law_39 (by decide +kernel) (by decide +kernel) (by decide +kernel) (by decide) (k_law_digest K ht hst hc hs h kk)
  · exact z_tabOut (tgt := 1557) C dL_law_39 (Or.inr (by rw [nI_toInt (by omega)]; omega)) (by decide) (z_more (by omega) (by omega) (kk v f u W X h))
theorem lim_lt {N t : Nat} (hN : N ≤ 2048) (ht : t ≤ 512) : nI N - 4 < nI (4 * t) ↔ N < 4 * t + 4 := by
  have e1 : (nI N - 4).toInt = (N : Int) - 4 := pk_sub_toInt (a := N) (b := 4) (by omega) (by omega)
  have e2 : (nI (4 * t)).toInt = ((4 * t : Nat) : Int) := nI_toInt (by omega)
  rw [Int32.lt_iff_toInt_lt, e1, e2]
  omega
set_option maxHeartbeats 4000000 in
set_option maxRecDepth 100000 in
theorem k_law_loop {p : Program} {l : Launch} {e : Env} {s : State} {m : MethodId} {below : List Frame} {meth : Method} {c : Code} {b : Nat} {D : va_G} {hh gg : Nat → Nat} {cI cZ cJ : ClassId} {o N : Nat} {xs : Nat → Int32}  {Q : State → Prop} (K : lC p s m c b D cI cZ cJ N xs) (hst : l.stackTraces = false) (kx : ∀ (cells slots : Nat) (Lx : List (Nat × Value)) (ws : va_W), cells ≤ 601024 → slots ≤ 7293034 → zG p l e room_1 s m #[.ref b] below meth c D 9 (aN s) cells slots Q 1564 Lx [.int 1] ws) : ∀ d t : Nat, N ≤ 4 * t + 4 * d + 3 → t ≤ 512 → ∀ (v : S0) (f : Nat → Int64) (u : S1) (W X : Nat → Nat), Rel v u W X → zG p l e room_1 s m #[.ref b] below meth c D 9 (aN s) (12 + 9 * t) (462 + 64 * t) Q 23 [(0, .ref b), (1, .ref (hh 0)), (2, .ref (gg 0)), (3, .ref o), (4, .int (nI (4 * t)))] [] (wL hh gg cI cZ cJ o v f u) := by
  obtain ⟨C, -, hX, hbl, hN2⟩ := id K
  have hbA : ¬ aN s b := Nat.not_le.mpr hbl
  intro d
  induction d with
  | zero =>
    intro t hd ht v f u W X h
    refine z_iload C 4 dL_law_23 rfl ?_
    refine z_aload_n C 0 dL_law_25 rfl rfl ?_
    refine z_slen C hX hbl hbA dL_law_26 ?_
    refine z_iconst (v := 4) C dL_law_27 (by decide) ?_
    refine z_isub C dL_law_28 ?_
    refine z_icmp_gt (tgt := 1563) C dL_law_29 (by decide) (fun _ => ?_) (fun q => absurd ((lim_lt hN2 ht).mpr (by omega)) q)
    refine z_iconst (v := 1) C dL_law_1563 (by decide) ?_
    exact kx _ _ _ _ (by omega) (by omega)
  | succ d ih =>
    intro t hd ht v f u W X h
    refine z_iload C 4 dL_law_23 rfl ?_
    refine z_aload_n C 0 dL_law_25 rfl rfl ?_
    refine z_slen C hX hbl hbA dL_law_26 ?_
    refine z_iconst (v := 4) C dL_law_27 (by decide) ?_
    refine z_isub C dL_law_28 ?_
    by_cases c4 : 4 * t + 4 ≤ N
    · refine z_icmp_gt (tgt := 1563) C dL_law_29 (by decide) (fun q => absurd ((lim_lt hN2 ht).mp q) (by omega)) (fun _ => ?_)
      refine k_law_body K c4 hst (by omega) (by omega) h (fun v f u W X h => ?_)
      refine z_iinc (v := nI (4 * (t + 1))) (L' := [(4, .int (nI (4 * (t + 1)))), (0, .ref b), (1, .ref (hh 0)), (2, .ref (gg 0)), (3, .ref o)]) C 4 dL_law_1557 rfl (by rw [z_incs]; rfl) (by decide) rfl ?_
      refine z_goto (tgt := 23) C dL_law_1560 (by decide) ?_
      refine z_sub (L' := [(0, .ref b), (1, .ref (hh 0)), (2, .ref (gg 0)), (3, .ref o), (4, .int (nI (4 * (t + 1))))]) [1, 2, 3, 4, 0] rfl ?_
      exact z_more (by omega) (by omega) (ih (t + 1) (by omega) (by omega) v f u W X h)
    · refine z_icmp_gt (tgt := 1563) C dL_law_29 (by decide) (fun _ => ?_) (fun q => absurd ((lim_lt hN2 ht).mpr (by omega)) q)
      refine z_iconst (v := 1) C dL_law_1563 (by decide) ?_
      exact kx _ _ _ _ (by omega) (by omega)
