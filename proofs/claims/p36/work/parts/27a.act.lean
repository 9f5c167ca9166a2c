/-! what the law's own methods lean on -/
/-- a number below n, out of any -/
def bel (x n : Int32) : Int32 := (x &&& 2147483647) - (x &&& 2147483647) / n * n
theorem bel_ex (x : Int32) {m : Nat} (h0 : 0 < m) (hm : m < 2 ^ 31) : ∃ r : Nat, r < m ∧ bel x (nI m) = nI r := by
  obtain ⟨j, hj, ej⟩ := pk_andE x (m := 2147483647) 31 (by decide)
  refine ⟨j % m, Nat.mod_lt _ h0, ?_⟩
  unfold bel
  rw [ej]
  exact pk_rem hj h0 hm
theorem xthrow_n (v : S0) (j : Nat) (b : Int32) (g : Nat) : xn (xthrow v j b g) = xn v := by
  unfold xthrow
  split
  · rfl
  · rfl
theorem row3 {u : S0} {m : Nat} {a b c : Int32} (h0 : xl u m = a) (h1 : xa u m = b) (h2 : xe u m = c) : upd (upd (upd (fun _ => 0) 0 a) 1 b) 2 c = mrow u m := by
  funext k
  unfold mrow
  rw [upd_i, upd_i, upd_i, h0, h1, h2]
  by_cases k0 : k = 0
  · subst k0; rfl
  · by_cases k1 : k = 1
    · subst k1; rfl
    · by_cases k2 : k = 2
      · subst k2; rfl
      · simp only [k0, k1, k2, ↓reduceIte]
theorem wS_pushM {pre : va_W} {cI cP : ClassId} {G : AG} {u u2 : S0} {q bb : Nat} {F : Nat → Int32} (hn : xn u + 1 = xn u2) (hk : xk u = xk u2) (hd : xd u = xd u2) (hc : xc u = xc u2) (ho : xo u = xo u2) (hm : ∀ m, m < xn u → mrow u m = mrow u2 m) (hl : ∀ t, t < xk u → lrow u t = lrow u2 t) (hF : F = mrow u2 (xn u)) : (pre ++ wSo (gO G, bb, gB G, gM G, gL G) u) ++ (wT bb cP cI (xn u + 1) 3 (snoc (xn u) (gM G) q) (snoc (xn u) (mrow u) F) ++ wT (gB G) cP cI (xk u) 4 (gL G) (lrow u)) = pre ++ wS (gO G, bb, gB G, snoc (xn u) (gM G) q, gL G) cI cP u2 := by
  have e1 : wT bb cP cI (xn u + 1) 3 (snoc (xn u) (gM G) q) (snoc (xn u) (mrow u) F) = wT bb cP cI (xn u + 1) 3 (snoc (xn u) (gM G) q) (mrow u2) := wT_congr (fun _ _ => rfl) (fun m hm2 => by
    by_cases h : m < xn u
    · rw [snoc_lt h, hm m h]
    · rw [show m = xn u by omega, snoc_n, hF])
  rw [e1, wT_congr (g' := gL G) (r' := lrow u2) (fun _ _ => rfl) hl]
  unfold wS wSo
  rw [hn, hk, hd, hc, ho]
  simp only [List.append_assoc]
/-- the law's script, where a method reads it -/
def zES (b N : Nat) (xs : Nat → Int32) (U : State) : Prop := va_X b N xs U U.heap ∧ b < U.heap.size
def zEB (b N : Nat) (xs : Nat → Int32) (U : State) : Prop := zAA U ∧ va_Nw (.methodLinkNest RL 70 yX1_init RL) U ∧ zES b N xs U
theorem zES.call {s : State} {b N : Nat} {xs : Nat → Int32} {A : Nat → Prop} (hX : va_X b N xs s s.heap) (hbl : b < s.heap.size) (hbA : ¬ A b) : ∀ (H : Heap) (locs : List Loc) (U : State), va_S A s.heap H locs → U.heap = H → s.WarmedH U.vm → zES b N xs U := fun H _ U hS hU hW => ⟨by rw [hU]; exact (hX.kept (hS.2.1 b hbl hbA)).moved hW.alike, by rw [hU]; exact Nat.lt_of_lt_of_le hbl hS.1⟩
theorem zES.blind {b N : Nat} {xs : Nat → Int32} : ∀ (U : State) (g : JFrame) (mk : MethodId) (a : Array Value), zES b N xs U → zES b N xs (U.calling g mk a) := fun U g mk a h => ⟨va_X.moved (u := U) (U := U.calling g mk a) (Vm.Alike.refl U.vm) h.1, h.2⟩
theorem zEB.call {s : State} {b N : Nat} {xs : Nat → Int32} {A : Nat → Prop} (hAA : zAA s) (hNw : va_Nw (.methodLinkNest RL 70 yX1_init RL) s) (hX : va_X b N xs s s.heap) (hbl : b < s.heap.size) (hbA : ¬ A b) : ∀ (H : Heap) (locs : List Loc) (U : State), va_S A s.heap H locs → U.heap = H → s.WarmedH U.vm → zEB b N xs U := fun H locs U hS hU hW => ⟨hAA.moved hW.alike, hNw.warmM hW, zES.call hX hbl hbA H locs U hS hU hW⟩
theorem zEB.blind {b N : Nat} {xs : Nat → Int32} : ∀ (U : State) (g : JFrame) (mk : MethodId) (a : Array Value), zEB b N xs U → zEB b N xs (U.calling g mk a) := fun U g mk a h => ⟨zAA.blind U g mk a h.1, va_Nw.same (by decide +kernel) rfl h.2.1, zES.blind U g mk a h.2.2⟩
section LAW
variable {p : Program} {l : Launch} {e : Env} {R : Room} {s : State} {m : MethodId} {args : Array Value} {below : List Frame} {meth : Method} {c : Code}
variable {cc : ByteArray} {nL : Nat} {own : String} {Ts : List Cond} {D : va_G} {tys : List (ClassId × FieldType)} {A : Nat → Prop} {cells slots : Nat} {Q : State → Prop} {pc : Nat} {L : List (Nat × Value)} {st : List Value} {ws : va_W}
theorem z_sld (C : zC p s m args c cc nL own Ts D tys A) {b N : Nat} {xs : Nat → Int32} (hX : va_X b N xs s s.heap) (hbl : b < s.heap.size) (hbA : ¬ A b) {i : Int32} (j : Nat) (hi : i = nI j) (hj : j < N) (hN : N < 2 ^ 31) (hdg : decode cc pc = .ok (.iaload, 1)) (kk : zG p l e R s m args below meth c D nL A cells slots Q (pc + 1) L (.int (xs j) :: st) ws) : zG p l e R s m args below meth c D nL A cells slots Q (pc) L (.int i :: .ref b :: st) ws := fun H locs ls hl hP hD hS => va_sld C.exec C.code hX hbl hbA hS (z_cl hi hj hN).1 hdg (by rw [(z_cl hi hj hN).2]; exact kk H locs ls hl hP hD hS)
theorem z_slen (C : zC p s m args c cc nL own Ts D tys A) {b N : Nat} {xs : Nat → Int32} (hX : va_X b N xs s s.heap) (hbl : b < s.heap.size) (hbA : ¬ A b) (hdg : decode cc pc = .ok (.arraylength, 1)) (kk : zG p l e R s m args below meth c D nL A cells slots Q (pc + 1) L (.int (nI N) :: st) ws) : zG p l e R s m args below meth c D nL A cells slots Q (pc) L (.ref b :: st) ws := fun H locs ls hl hP hD hS => va_slen C.exec C.code hX hbl hbA hS hdg (kk H locs ls hl hP hD hS)
theorem df0 : ∀ j, j < 14 → defaultValue (tyX0 j) = vp_V [.null, .null, .null, .int 0, .null, .null, .null, .null, .int 0, .int 0, .int 0, .int 0, .int 0, .int 0] j := by
  intro j hj
  rcases (show j = 0 ∨ j = 1 ∨ j = 2 ∨ j = 3 ∨ j = 4 ∨ j = 5 ∨ j = 6 ∨ j = 7 ∨ j = 8 ∨ j = 9 ∨ j = 10 ∨ j = 11 ∨ j = 12 ∨ j = 13 by omega) with rfl | rfl | rfl | rfl | rfl | rfl | rfl | rfl | rfl | rfl | rfl | rfl | rfl | rfl <;> rfl
theorem df1 : ∀ j, j < 5 → defaultValue (tyX1 j) = vp_V [.int 0, .int 0, .int 0, .null, .null] j := by
  intro j hj
  rcases (show j = 0 ∨ j = 1 ∨ j = 2 ∨ j = 3 ∨ j = 4 by omega) with rfl | rfl | rfl | rfl | rfl <;> rfl
theorem z_new0 (C : zC p s m args c cc nL own Ts D tys A) {index : Nat} (hin : ∀ w ∈ u_ws RX0 TX0 14, w ∈ Ts) (h1 : Cond.classLink own index RX0 ∈ Ts) (h2 : Cond.instantiable RX0 14 ∈ Ts) (h3 : Cond.initialized RX0 ∈ Ts) (hcells : cells + 1 ≤ R.cells) (hslots : slots + 14 ≤ R.slots) (hdg : decode cc pc = .ok (.new index, 3)) (kk : ∀ q : Nat, zG p l e R s m args below meth c D nL A (cells + 1) (slots + 14) Q (pc + 3) L (.ref q :: st) (ws ++ [(q, .inr (0, [.null, .null, .null, .int 0, .null, .null, .null, .null, .int 0, .int 0, .int 0, .int 0, .int 0, .int 0]))])) : zG p l e R s m args below meth c D nL A cells slots Q (pc) L st ws := fun H locs ls hl hP hD hS => va_new (ci := 0) (C := RX0) (T := TX0) (N := 14) C.exec C.code C.words hin tyX0 tyX0_ok C.here (C.words _ h1) (C.words _ h2) (C.words _ h3) C.known hP hD hS C.new rfl df0 hcells hslots hdg (fun q H1 hP hD hS => kk q H1 locs ls hl hP hD hS)
theorem z_new1 (C : zC p s m args c cc nL own Ts D tys A) {index : Nat} (hin : ∀ w ∈ u_ws RX1 TX1 5, w ∈ Ts) (h1 : Cond.classLink own index RX1 ∈ Ts) (h2 : Cond.instantiable RX1 5 ∈ Ts) (h3 : Cond.initialized RX1 ∈ Ts) (hcells : cells + 1 ≤ R.cells) (hslots : slots + 5 ≤ R.slots) (hdg : decode cc pc = .ok (.new index, 3)) (kk : ∀ q : Nat, zG p l e R s m args below meth c D nL A (cells + 1) (slots + 5) Q (pc + 3) L (.ref q :: st) (ws ++ [(q, .inr (1, [.int 0, .int 0, .int 0, .null, .null]))])) : zG p l e R s m args below meth c D nL A cells slots Q (pc) L st ws := fun H locs ls hl hP hD hS => va_new (ci := 1) (C := RX1) (T := TX1) (N := 5) C.exec C.code C.words hin tyX1 tyX1_ok C.here (C.words _ h1) (C.words _ h2) (C.words _ h3) C.known hP hD hS C.new rfl df1 hcells hslots hdg (fun q H1 hP hD hS => kk q H1 locs ls hl hP hD hS)
/-- where the cells lie -/
theorem z_at (k : (∀ (i : Nat) (q : Nat × va_E), ws[i]? = some q → A q.1) → zG p l e R s m args below meth c D nL A cells slots Q pc L st ws) : zG p l e R s m args below meth c D nL A cells slots Q pc L st ws := fun H locs ls hl hP hD hS => k hD.2 H locs ls hl hP hD hS
end LAW
set_option maxHeartbeats 4000000 in
set_option maxRecDepth 100000 in
theorem c_L_cell (l : Launch) (D : va_G) {b N k : Nat} {xs : Nat → Int32} (hk : k < 2 ^ 31) (hN : N < 2 ^ 31) : zMX l yL_cell wsL_cell 0 0 0 0 [.ref b, .int (nI k)] [] D ([] : va_W) (zES b N xs) (fun _ : Int32 => True) (fun x => some (.int x)) (fun _ => ([] : va_W)) := by
  refine z_metX (cc := cL_cell) (maxL := 2) (ret := (some .int)) (by decide) rfl (Nat.le_of_ble_eq_true rfl) ?_
  intro p e s m args below meth c A hAw hE C hr hlocks
  obtain ⟨hX, hbl⟩ := hE
  have hbA : ¬ A b := fun q => by
    rw [hAw] at q
    rcases q with ⟨j, e, h⟩ | h
    · cases h
    · omega
  have wk : Cond.constant RL 8 (790386105) ∈ wsL_cell := by decide +kernel
  refine z_sub (L' := [(0, .ref b), (1, .int (nI k))]) [0, 1] rfl ?_
  refine z_iload_n C 1 dL_cell_0 rfl rfl ?_
  refine z_aload_n C 0 dL_cell_1 rfl rfl ?_
  refine z_slen C hX hbl hbA dL_cell_2 ?_
  refine z_icmp_ge (tgt := 12) C dL_cell_3 (by decide) (fun _ => ?_) (fun c3 => ?_)
  · refine z_ldc C wk dL_cell_12 ?_
    refine z_iload_n C 1 dL_cell_14 rfl rfl ?_
    refine z_iconst (v := 3) C dL_cell_15 (by decide) ?_
    refine z_iadd C dL_cell_16 ?_
    refine z_imul C dL_cell_17 ?_
    exact z_iretX C (790386105 * (nI k + 3)) (by trivial) hr hlocks (Nat.le_of_ble_eq_true rfl) (Nat.le_of_ble_eq_true rfl) dL_cell_18 (by rfl) (by rfl)
  · refine z_aload_n C 0 dL_cell_6 rfl rfl ?_
    refine z_iload_n C 1 dL_cell_7 rfl rfl ?_
    refine z_sld C hX hbl hbA k rfl (Nat.not_le.mp (fun q => c3 (nI_le q hk))) hN dL_cell_8 ?_
    refine z_goto (tgt := 18) C dL_cell_9 (by decide) ?_
    exact z_iretX C (xs k) (by trivial) hr hlocks (Nat.le_of_ble_eq_true rfl) (Nat.le_of_ble_eq_true rfl) dL_cell_18 (by rfl) (by rfl)
