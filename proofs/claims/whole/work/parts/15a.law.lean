/-! the law: one case a step -/
abbrev aN (s : State) : Nat → Prop := fun q => s.heap.size ≤ q
abbrev wL (hh gg : Nat → Nat) (cI cZ cJ : ClassId) (o : Nat) (v : S0) (f : Nat → Int64) (u : S1) : va_W := wX0 hh cI cZ v ++ wO o cJ f ++ wX1 gg cI u
abbrev tyL (cI cZ cJ : ClassId) : List (ClassId × FieldType) := [(cI, .int), (cZ, .boolean), (cJ, .long)]
def lC (p : Program) (s : State) (m : MethodId) (c : Code) (b : Nat) (D : va_G) (cI cZ cJ : ClassId) (N : Nat) (xs : Nat → Int32) : Prop :=
  zC p s m #[.ref b] c cL_law 9 RL wsL_law D (tyL cI cZ cJ) (aN s) ∧ (zT (aN s) s s.heap ∧ zN s) ∧ va_X b N xs s s.heap ∧ b < s.heap.size ∧ N ≤ 2048
theorem lg_self (x : Int64) : lg_cmp x x = 0 := by
  unfold lg_cmp
  rw [if_neg (Int64.lt_irrefl), if_pos rfl]
section LAW
variable {p : Program} {l : Launch} {e : Env} {R : Room} {s : State} {m : MethodId} {args : Array Value} {below : List Frame} {meth : Method} {c : Code}
variable {cc : ByteArray} {nL : Nat} {own : String} {Ts : List Cond} {D : va_G} {tys : List (ClassId × FieldType)} {A : Nat → Prop} {cells slots : Nat} {Q : State → Prop} {pc : Nat} {L : List (Nat × Value)} {st : List Value} {ws : va_W}
theorem z_sld (C : zC p s m args c cc nL own Ts D tys A) {b N : Nat} {xs : Nat → Int32} (hX : va_X b N xs s s.heap) (hbl : b < s.heap.size) (hbA : ¬ A b) {i : Int32} (j : Nat) (hi : i = nI j) (hj : j < N) (hN : N < 2 ^ 31) (hdg : decode cc pc = .ok (.iaload, 1)) (kk : zG p l e R s m args below meth c D nL A cells slots Q (pc + 1) L (.int (xs j) :: st) ws) : zG p l e R s m args below meth c D nL A cells slots Q (pc) L (.int i :: .ref b :: st) ws := fun H locs ls hl hP hD hS => va_sld C.exec C.code hX hbl hbA hS (z_cl hi hj hN).1 hdg (by rw [(z_cl hi hj hN).2]; exact kk H locs ls hl hP hD hS)
theorem z_slen (C : zC p s m args c cc nL own Ts D tys A) {b N : Nat} {xs : Nat → Int32} (hX : va_X b N xs s s.heap) (hbl : b < s.heap.size) (hbA : ¬ A b) (hdg : decode cc pc = .ok (.arraylength, 1)) (kk : zG p l e R s m args below meth c D nL A cells slots Q (pc + 1) L (.int (nI N) :: st) ws) : zG p l e R s m args below meth c D nL A cells slots Q (pc) L (.ref b :: st) ws := fun H locs ls hl hP hD hS => va_slen C.exec C.code hX hbl hbA hS hdg (kk H locs ls hl hP hD hS)
theorem z_tabIn (C : zC p s m args c cc nL own Ts D tys A) {dflt lo hi : Int} {offs : Array Int} {len : Nat} {x : Int32} {off : Int} {tgt : Nat} (hdg : decode cc pc = .ok (.tableswitch dflt lo hi offs, len)) (h1 : ¬ x.toInt < lo) (h2 : ¬ hi < x.toInt) (ho : offs[(x.toInt - lo).toNat]? = some off) (ht : (pc : Int) + off = (tgt : Int)) (kk : zG p l e R s m args below meth c D nL A cells slots Q tgt L st ws) : zG p l e R s m args below meth c D nL A cells slots Q (pc) L (.int x :: st) ws := fun H locs ls hl hP hD hS => lv_tableIn C.exec C.code hdg h1 h2 ho ht (kk H locs ls hl hP hD hS)
theorem z_tabOut (C : zC p s m args c cc nL own Ts D tys A) {dflt lo hi : Int} {offs : Array Int} {len : Nat} {x : Int32} {tgt : Nat} (hdg : decode cc pc = .ok (.tableswitch dflt lo hi offs, len)) (h : x.toInt < lo ∨ hi < x.toInt) (ht : (pc : Int) + dflt = (tgt : Int)) (kk : zG p l e R s m args below meth c D nL A cells slots Q tgt L st ws) : zG p l e R s m args below meth c D nL A cells slots Q (pc) L (.int x :: st) ws := fun H locs ls hl hP hD hS => lv_tableOut C.exec C.code hdg h ht (kk H locs ls hl hP hD hS)
end LAW
set_option maxHeartbeats 4000000 in
set_option maxRecDepth 100000 in
theorem s_law_join {p : Program} {l : Launch} {e : Env} {s : State} {m : MethodId} {below : List Frame} {meth : Method} {c : Code} {b : Nat} {D : va_G} {hh gg : Nat → Nat} {cI cZ cJ : ClassId} {o N : Nat} {xs : Nat → Int32} {cells slots t : Nat} {Q : State → Prop} {v v2 : S0} {u u2 : S1} {f f2 : Nat → Int64} {r k : Int32} {fr lo mc ms : Nat} (K : lC p s m c b D cI cZ cJ N xs) (ht : 4 * t + 4 ≤ N) (hfr : fr + 1 ≤ 12) (hlo : lo ≤ 400) (hc : cells + 1 ≤ 601024) (hs : slots + 6 ≤ 7293034) (hmc : mc ≤ 1) (hms : ms ≤ 6) (hA : zMT l yL_join wsL_join 8 140 mc ms [.ref (hh 0), .ref o] (tyL cI cZ cJ) D (wX0 hh cI cZ v ++ wO o cJ f) (wX0 hh cI cZ v2 ++ wO o cJ f2) (some (.int k))) (hB : zM l yX1_join wsX1_join fr lo 0 0 [.ref (gg 0)] [(cI, .int)] D (wX1 gg cI u) (wX1 gg cI u2) (some (.int r))) (hk : rt u2 = k) (hr : k = 0 → f2 0 = r.toInt64) (kk : zG p l e room_1 s m #[.ref b] below meth c D 9 (aN s) (cells + 1) (slots + 6) Q 1557 [(0, .ref b), (1, .ref (hh 0)), (2, .ref (gg 0)), (3, .ref o), (4, .int (nI (4 * t)))] [] (wL hh gg cI cZ cJ o v2 f2 u2)) : zG p l e room_1 s m #[.ref b] below meth c D 9 (aN s) cells slots Q 184 [(0, .ref b), (1, .ref (hh 0)), (2, .ref (gg 0)), (3, .ref o), (4, .int (nI (4 * t)))] [] (wL hh gg cI cZ cJ o v f u) := by
  obtain ⟨C, ⟨hT, hN⟩, hX, hbl, hN2⟩ := K
  have hbA : ¬ aN s b := Nat.not_le.mpr hbl
  refine z_aload_n C 1 dL_law_184 rfl rfl ?_
  refine z_aload_n C 3 dL_law_185 rfl rfl ?_
  refine z_callT (w := (wX0 hh cI cZ v ++ wO o cJ f)) (w' := (wX0 hh cI cZ v2 ++ wO o cJ f2)) (w1 := ([] : va_W)) (w2 := wX1 gg cI u) (ws' := wL hh gg cI cZ cJ o v2 f2 u) (As := [.ref (hh 0), .ref o]) (rest := []) (st' := [.int k]) (rv := some (.int k)) C hT hN hA (vx_cwSW 2 C.words gL_law_L_join rfl rfl rfl (by decide +kernel) ⟨(Nat.le_of_ble_eq_true rfl), (Nat.le_of_ble_eq_true rfl)⟩) [0, 1, 2] rfl rfl (Nat.le_of_ble_eq_true rfl) ⟨by show _ ≤ 601024; omega, by show _ ≤ 7293034; omega⟩ rfl rfl rfl rfl rfl dL_law_186 ?_
  refine z_istore (L' := [(5, .int k), (0, .ref b), (1, .ref (hh 0)), (2, .ref (gg 0)), (3, .ref o), (4, .int (nI (4 * t)))]) C dL_law_189 (by decide) rfl ?_
  refine z_aload_n C 3 dL_law_191 rfl rfl ?_
  refine z_callV (w := wX1 gg cI u) (w' := wX1 gg cI u2) (w1 := (wX0 hh cI cZ v2 ++ wO o cJ f2)) (w2 := ([] : va_W)) (ws' := wL hh gg cI cZ cJ o v2 f2 u2) (As := []) (rest := []) (st' := [.int r]) (rv := some (.int r)) C hB (cwV 0 C.words gL_law_X1_join rfl rfl rfl (by decide +kernel) ⟨hfr, by show 8 + (_ + 11) + lo ≤ 440; omega⟩) (q0 := 0) (ci := 1) rfl rfl rfl [0] rfl rfl (Nat.le_of_ble_eq_true rfl) ⟨by show _ ≤ 601024; omega, by show _ ≤ 7293034; omega⟩ rfl rfl rfl rfl rfl dL_law_192 ?_
  refine z_istore (L' := [(6, .int r), (5, .int k), (0, .ref b), (1, .ref (hh 0)), (2, .ref (gg 0)), (3, .ref o), (4, .int (nI (4 * t)))]) C dL_law_195 (by decide) rfl ?_
  refine z_aload_n C 4 dL_law_197 rfl rfl ?_
  refine z_callV (w := wX1 gg cI u2) (w' := wX1 gg cI u2) (w1 := (wX0 hh cI cZ v2 ++ wO o cJ f2)) (w2 := ([] : va_W)) (ws' := wL hh gg cI cZ cJ o v2 f2 u2) (As := []) (rest := []) (st' := [.int (rt u2)]) (rv := some (.int (rt u2))) C (c_X1_thrown l D gg cI u2) (cwV 0 C.words gL_law_X1_thrown rfl rfl rfl (by decide +kernel) ⟨(Nat.le_of_ble_eq_true rfl), (Nat.le_of_ble_eq_true rfl)⟩) (q0 := 0) (ci := 1) rfl rfl rfl [0] rfl rfl (Nat.le_of_ble_eq_true rfl) ⟨by show _ ≤ 601024; omega, by show _ ≤ 7293034; omega⟩ rfl rfl rfl rfl rfl dL_law_198 ?_
  refine z_iload C 1 dL_law_201 rfl ?_
  refine z_icmp_eq (tgt := 208) C dL_law_203 (by decide) (fun _ => ?_) (fun q => absurd hk q)
  refine z_iload C 1 dL_law_208 rfl ?_
  have jend : zG p l e room_1 s m #[.ref b] below meth c D 9 (aN s) (cells + mc + 0 + 0) (slots + ms + 0 + 0) Q 225 [(6, .int r), (5, .int k), (0, .ref b), (1, .ref (hh 0)), (2, .ref (gg 0)), (3, .ref o), (4, .int (nI (4 * t)))] [] (wL hh gg cI cZ cJ o v2 f2 u2) := z_goto (tgt := 1557) C dL_law_225 (by decide) (z_sub (L' := [(0, .ref b), (1, .ref (hh 0)), (2, .ref (gg 0)), (3, .ref o), (4, .int (nI (4 * t)))]) [2, 3, 4, 5, 6] rfl (z_more (by omega) (by omega) kk))
  refine z_if_ne (tgt := 225) C dL_law_210 (by decide) (fun _ => jend) (fun hk0 => ?_)
  refine z_aload_n C 5 dL_law_213 rfl rfl ?_
  refine z_iconst (v := 0) C dL_law_214 (by decide) ?_
  refine z_lald (f := f2) C 8 2 rfl rfl 0 rfl (by decide) (by decide) dL_law_215 ?_
  refine z_iload C 0 dL_law_216 rfl ?_
  refine z_i2l (v := r.toInt64) C dL_law_218 rfl ?_
  refine z_lcmp C dL_law_219 ?_
  refine z_if_eq (tgt := 225) C dL_law_220 (by decide) (fun _ => jend) (fun q => absurd (by rw [hr hk0]; exact lg_self _) q)
