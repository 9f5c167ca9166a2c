/-! the law: its start -/
section ZNEW
variable {p : Program} {l : Launch} {e : Env} {R : Room} {s : State} {m : MethodId} {args : Array Value} {below : List Frame} {meth : Method} {c : Code}
variable {cc : ByteArray} {nL : Nat} {own : String} {Ts : List Cond} {D : va_G} {tys : List (ClassId × FieldType)} {A : Nat → Prop} {cells slots : Nat} {Q : State → Prop} {pc : Nat} {L : List (Nat × Value)} {st : List Value} {ws : va_W}
theorem df0 : ∀ j, j < 14 → defaultValue (tyX0 j) = vp_V [.null, .null, .null, .int 0, .null, .null, .null, .null, .int 0, .int 0, .int 0, .int 0, .int 0, .int 0] j := by
  intro j hj
  rcases (show j = 0 ∨ j = 1 ∨ j = 2 ∨ j = 3 ∨ j = 4 ∨ j = 5 ∨ j = 6 ∨ j = 7 ∨ j = 8 ∨ j = 9 ∨ j = 10 ∨ j = 11 ∨ j = 12 ∨ j = 13 by omega) with rfl | rfl | rfl | rfl | rfl | rfl | rfl | rfl | rfl | rfl | rfl | rfl | rfl | rfl <;> rfl
theorem df1 : ∀ j, j < 4 → defaultValue (tyX1 j) = vp_V [.int 0, .int 0, .null, .null] j := by
  intro j hj
  rcases (show j = 0 ∨ j = 1 ∨ j = 2 ∨ j = 3 by omega) with rfl | rfl | rfl | rfl <;> rfl
theorem z_new0 (C : zC p s m args c cc nL own Ts D tys A) {index : Nat} (hin : ∀ w ∈ u_ws RX0 TX0 14, w ∈ Ts) (h1 : Cond.classLink own index RX0 ∈ Ts) (h2 : Cond.instantiable RX0 14 ∈ Ts) (h3 : Cond.initialized RX0 ∈ Ts) (hcells : cells + 1 ≤ R.cells) (hslots : slots + 14 ≤ R.slots) (hdg : decode cc pc = .ok (.new index, 3)) (kk : ∀ q : Nat, zG p l e R s m args below meth c D nL A (cells + 1) (slots + 14) Q (pc + 3) L (.ref q :: st) (ws ++ [(q, .inr (0, [.null, .null, .null, .int 0, .null, .null, .null, .null, .int 0, .int 0, .int 0, .int 0, .int 0, .int 0]))])) : zG p l e R s m args below meth c D nL A cells slots Q (pc) L st ws := fun H locs ls hl hP hD hS => va_new (ci := 0) (C := RX0) (T := TX0) (N := 14) C.exec C.code C.words hin tyX0 tyX0_ok C.here (C.words _ h1) (C.words _ h2) (C.words _ h3) C.known hP hD hS C.new rfl df0 hcells hslots hdg (fun q H1 hP hD hS => kk q H1 locs ls hl hP hD hS)
theorem z_new1 (C : zC p s m args c cc nL own Ts D tys A) {index : Nat} (hin : ∀ w ∈ u_ws RX1 TX1 4, w ∈ Ts) (h1 : Cond.classLink own index RX1 ∈ Ts) (h2 : Cond.instantiable RX1 4 ∈ Ts) (h3 : Cond.initialized RX1 ∈ Ts) (hcells : cells + 1 ≤ R.cells) (hslots : slots + 4 ≤ R.slots) (hdg : decode cc pc = .ok (.new index, 3)) (kk : ∀ q : Nat, zG p l e R s m args below meth c D nL A (cells + 1) (slots + 4) Q (pc + 3) L (.ref q :: st) (ws ++ [(q, .inr (1, [.int 0, .int 0, .null, .null]))])) : zG p l e R s m args below meth c D nL A cells slots Q (pc) L st ws := fun H locs ls hl hP hD hS => va_new (ci := 1) (C := RX1) (T := TX1) (N := 4) C.exec C.code C.words hin tyX1 tyX1_ok C.here (C.words _ h1) (C.words _ h2) (C.words _ h3) C.known hP hD hS C.new rfl df1 hcells hslots hdg (fun q H1 hP hD hS => kk q H1 locs ls hl hP hD hS)
end ZNEW
theorem zxw_in1 : ∀ w ∈ zxwS, w ∈ lw_tbl := by decide +kernel
theorem zxw_in2 : ∀ w ∈ zxwI, w ∈ lw_tbl := by decide +kernel
theorem zxw_in3 : ∀ w ∈ zxwA, w ∈ lw_tbl := by decide +kernel
theorem zxw_in : ∀ w ∈ zxw, w ∈ lw_tbl := z_inA zxw_in1 (z_inA zxw_in2 zxw_in3)
theorem st_T {s : State} {b : Nat} (hts : ∀ w ∈ lw_tbl, w.before #[.ref b] s = true) (hgv : (Jvm.Cond.and given_1 narrow_1).before #[.ref b] s = true) : zT (aN s) s s.heap ∧ zN s := by
  have hf := flat_of_before _ hgv
  have ini : (Cond.initialized Bundle.tN).before #[.ref b] s = true := hts _ (by decide +kernel)
  have hA : ∀ a : Nat, a < s.heap.size → ¬ aN s a := fun a h => Nat.not_le.mpr h
  have str : ∀ (n : Nat) (tx : String), Cond.stringRef RX0 n tx ∈ lw_tbl → Cond.exactly (Term.string RX0 n) "java/lang/String" ∈ flatC (Jvm.Cond.and given_1 narrow_1) → ∃ a, vk_R RX0 n tx a s := by
    intro n tx h1 h2
    obtain ⟨a, -, -, -, ha, -⟩ := Cond.exactly_spec (hf _ h2)
    exact ⟨a, vk_R.of (hts _ h1) ha⟩
  refine ⟨⟨vx_Zqof (hts _ (by decide +kernel)) ini (hf _ (by decide +kernel)) hA, vx_Zqof (hts _ (by decide +kernel)) ini (hf _ (by decide +kernel)) hA, fun w hw => va_tabs (zxw_tab hw).1 rfl (hts w (zxw_in w hw)), ?_⟩, va_Nc.of (hf _ (by decide +kernel)), va_Nc.of (hf _ (by decide +kernel)), va_Nc.of (hf _ (by decide +kernel))⟩
  intro q hq
  rcases List.mem_cons.mp hq with rfl | hq
  · exact str _ _ (by decide +kernel) (by decide +kernel)
  rcases List.mem_cons.mp hq with rfl | hq
  · exact str _ _ (by decide +kernel) (by decide +kernel)
  rcases List.mem_cons.mp hq with rfl | hq
  · exact str _ _ (by decide +kernel) (by decide +kernel)
  rcases List.mem_cons.mp hq with rfl | hq
  · exact str _ _ (by decide +kernel) (by decide +kernel)
  rcases List.mem_cons.mp hq with rfl | hq
  · exact str _ _ (by decide +kernel) (by decide +kernel)
  rcases List.mem_cons.mp hq with rfl | hq
  · exact str _ _ (by decide +kernel) (by decide +kernel)
  rcases List.mem_cons.mp hq with rfl | hq
  · exact str _ _ (by decide +kernel) (by decide +kernel)
  exact nomatch hq
theorem st_K {s : State} {b : Nat} (hts : ∀ w ∈ lw_tbl, w.before #[.ref b] s = true) : ∃ (D : va_G) (cI cZ cJ : ClassId), va_K D vwCl (tyL cI cZ cJ) s := by
  have r1 : ∀ w ∈ wsL_law0_r1, w.before #[.ref b] s = true := fun w h => hts w (wsL_law0_r1_in w h)
  obtain ⟨c0, iS0, k0⟩ := u_known (C := RX0) (T := TX0) (N := 14) (n := 14) hts inX0 (r1 (.instantiable RX0 14) (by decide +kernel))
  obtain ⟨c1, iS1, k1⟩ := u_known (C := RX1) (T := TX1) (N := 4) (n := 4) hts inX1 (r1 (.instantiable RX1 4) (by decide +kernel))
  obtain ⟨cI, kI, cmI, fI, gI, dI⟩ := Cond.arrayClass_spec (r1 (.arrayClass .int) (by decide +kernel))
  obtain ⟨cZ, kZ, cmZ, fZ, gZ, dZ⟩ := Cond.arrayClass_spec (r1 (.arrayClass .boolean) (by decide +kernel))
  obtain ⟨cJ, kJ, cmJ, fJ, gJ, dJ⟩ := Cond.arrayClass_spec (r1 (.arrayClass .long) (by decide +kernel))
  refine ⟨(fun k => if k = 0 then c0 else c1, fun k => if k = 0 then iS0 else iS1), cI, cZ, cJ, ?_, ?_⟩
  · intro k q hq
    match k, hq with
    | 0, hq => cases hq; exact k0
    | 1, hq => cases hq; exact k1
    | k + 2, hq => exact nomatch hq
  · intro k q hq
    match k, hq with
    | 0, hq => cases hq; exact ⟨fun n z => ⟨fun k h => (by cases h), kI, gI, cmI, dI⟩, fI⟩
    | 1, hq => cases hq; exact ⟨fun n z => ⟨fun k h => (by cases h), kZ, gZ, cmZ, dZ⟩, fZ⟩
    | 2, hq => cases hq; exact ⟨fun n z => ⟨fun k h => (by cases h), kJ, gJ, cmJ, dJ⟩, fJ⟩
    | k + 3, hq => exact nomatch hq
set_option maxHeartbeats 4000000 in
set_option maxRecDepth 100000 in
theorem k_law_start {p : Program} {l : Launch} {e : Env} {s : State} {m : MethodId} {below : List Frame} {meth : Method} {c : Code} {b : Nat} {D : va_G} {cI cZ cJ : ClassId} {N : Nat} {xs : Nat → Int32} {Q : State → Prop} (K : lC p s m c b D cI cZ cJ N xs) (hst : l.stackTraces = false) (kx : ∀ (cells slots : Nat) (Lx : List (Nat × Value)) (ws : va_W), cells ≤ 601024 → slots ≤ 7293034 → zG p l e room_1 s m #[.ref b] below meth c D 9 (aN s) cells slots Q 1564 Lx [.int 1] ws) : zG p l e room_1 s m #[.ref b] below meth c D 9 (aN s) 0 0 Q 0 (lv_args 0 [.ref b]) [] ([] : va_W) := by
  have C : zC p s m #[.ref b] c cL_law 9 RL wsL_law D (tyL cI cZ cJ) (aN s) := K.1
  refine z_sub (L' := [(0, .ref b)]) [0] rfl ?_
  refine z_new0 C inlX0 (by decide +kernel) (by decide +kernel) (by decide +kernel) (Nat.le_of_ble_eq_true rfl) (Nat.le_of_ble_eq_true rfl) dL_law_0 (fun q0 => ?_)
  refine z_dup C dL_law_3 rfl ?_
  refine z_callI (w := [(q0, .inr (0, [.null, .null, .null, .int 0, .null, .null, .null, .null, .int 0, .int 0, .int 0, .int 0, .int 0, .int 0]))]) (wr := ([] : va_W)) (rest := [.ref q0]) C (c_X0_init l D cI cZ q0) (cwI 0 C.words gL_law_X0_init rfl rfl rfl (C.words (.initialized RX0) (by decide +kernel)) (C.words (.methodLink RL 80 yX0_init) (by decide +kernel)) (C.words (.instanceMethod yX0_init) (by decide +kernel)) rfl (by decide +kernel) ⟨(Nat.le_of_ble_eq_true rfl), (Nat.le_of_ble_eq_true rfl)⟩) [0, 1] rfl (Nat.le_of_ble_eq_true rfl) ⟨(Nat.le_of_ble_eq_true rfl), (Nat.le_of_ble_eq_true rfl)⟩ [0] [] rfl rfl rfl (by decide) (by decide) (by decide) rfl dL_law_4 (fun hh e0 => ?_)
  subst e0
  refine z_ws (ws' := wX0 hh cI cZ x00) rfl ?_
  refine z_astore_n (L' := [(1, .ref (hh 0)), (0, .ref b)]) C dL_law_7 rfl (by decide) rfl ?_
  refine z_new1 C inlX1 (by decide +kernel) (by decide +kernel) (by decide +kernel) (Nat.le_of_ble_eq_true rfl) (Nat.le_of_ble_eq_true rfl) dL_law_8 (fun q1 => ?_)
  refine z_dup C dL_law_11 rfl ?_
  refine z_callI (w := [(q1, .inr (1, [.int 0, .int 0, .null, .null]))]) (wr := (wX0 hh cI cZ x00)) (rest := [.ref q1]) C (c_X1_init l D cI q1) (cwI 0 C.words gL_law_X1_init rfl rfl rfl (C.words (.initialized RX1) (by decide +kernel)) (C.words (.methodLink RL 83 yX1_init) (by decide +kernel)) (C.words (.instanceMethod yX1_init) (by decide +kernel)) rfl (by decide +kernel) ⟨(Nat.le_of_ble_eq_true rfl), (Nat.le_of_ble_eq_true rfl)⟩) [0] rfl (Nat.le_of_ble_eq_true rfl) ⟨(Nat.le_of_ble_eq_true rfl), (Nat.le_of_ble_eq_true rfl)⟩ [8] [0, 1, 2, 3, 4, 5, 6, 7] rfl rfl rfl (by decide) (by decide) (by decide) rfl dL_law_12 (fun gg e1 => ?_)
  subst e1
  refine z_astore_n (L' := [(2, .ref (gg 0)), (1, .ref (hh 0)), (0, .ref b)]) C dL_law_15 rfl (by decide) rfl ?_
  refine z_iconst (v := 1) C dL_law_16 (by decide) ?_
  refine z_newl (N := 1) C 2 rfl (by decide +kernel) (by decide) (by decide) (by decide) (Nat.le_of_ble_eq_true rfl) (Nat.le_of_ble_eq_true rfl) dL_law_17 (fun o => ?_)
  refine z_astore_n (L' := [(3, .ref o), (2, .ref (gg 0)), (1, .ref (hh 0)), (0, .ref b)]) C dL_law_19 rfl (by decide) rfl ?_
  refine z_iconst (v := nI (4 * 0)) C dL_law_20 (by decide) ?_
  refine z_istore (L' := [(4, .int (nI (4 * 0))), (3, .ref o), (2, .ref (gg 0)), (1, .ref (hh 0)), (0, .ref b)]) C dL_law_21 (by decide) rfl ?_
  refine z_sub (L' := [(0, .ref b), (1, .ref (hh 0)), (2, .ref (gg 0)), (3, .ref o), (4, .int (nI (4 * 0)))]) [4, 3, 2, 1, 0] rfl ?_
  refine z_part (ws' := wL hh gg cI cZ cJ o x00 (fun _ => 0) r00) [0, 1, 2, 3, 4, 5, 6, 7, 11, 8, 9, 10] (by decide) rfl rfl ?_
  exact z_more (by omega) (by omega) (k_law_loop K hst kx N 0 (by omega) (by omega) x00 (fun _ => 0) r00 (fun _ => 0) (fun _ => 0) Rel.x00)
