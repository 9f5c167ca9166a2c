section ZM
/-- a return with the answer rv -/
def zQ (rv : Option Value) (B : State → Prop) (A : Nat → Prop) : Array Value → State → Outcome → State → Prop := fun _ st oc t => (oc = .returned rv ∧ B t) ∧ va_F A st t
def zP (D : va_G) (tys : List (ClassId × FieldType)) (w : va_W) (sz : Nat) (U : State) : Prop := U.heap.size = sz ∧ va_P D vwCl w U.heap ∧ va_K D vwCl tys U ∧ va_D (fun _ => True) w
/-- a contract: from the world w the method y returns rv and leaves the world w' -/
def zM (l : Launch) (y : MethodName) (ws : List Cond) (fr lo mc ms : Nat) (av : List Value) (tys : List (ClassId × FieldType)) (D : va_G) (w w' : va_W) (rv : Option Value) : Prop :=
  ∀ sz : Nat, Met l y ws ({ frames := fr, cells := mc, slots := ms, locals := lo } : Room) (va_Pc av (zP D tys w sz)) (zQ rv (fun t => va_P D vwCl w' t.heap) (va_A w sz)) mc ms (va_A w sz)
theorem z_met {l : Launch} {y : MethodName} {ws ws' : List Cond} {fr lo mc ms : Nat} {av : List Value} {tys : List (ClassId × FieldType)} {D : va_G} {w w' : va_W} {rv : Option Value} {cc : ByteArray} {maxL : Nat} {ret : Option FieldType} (hy : plainName y.cls = true) (hw : ws = Cond.code y cc maxL ret :: ws') (hlen : (lg_sl av).length ≤ maxL)
    (body : ∀ (p : Program) (e : Env) (s : State) (m : MethodId) (args : Array Value) (below : List Frame) (meth : Method) (c : Code) (A : Nat → Prop), zC p s m args c cc maxL y.cls ws D tys A → meth.sig.returnType = ret → meth.locks = false →
      zG p l e ({ frames := fr, cells := mc, slots := ms, locals := lo } : Room) s m args below meth c D maxL A 0 0 (MQ below (zQ rv (fun t => va_P D vwCl w' t.heap) A) args s mc ms A) 0 (lv_args 0 av) [] w) : zM l y ws fr lo mc ms av tys D w w' rv := by
  intro sz
  refine Met.ofW (cc := cc) (maxL := maxL) (ret := ret) hy hw ?_
  intro p e s m args below meth c s₁ B hml hv
  obtain ⟨rfl, hsz, hP, hK, hD0⟩ := hv
  have hts := atoms_spec (ws := ws) B.pre
  have hown : s.vm.findClass y.cls = some m.cls := findClass_of_methodNamed B.named
  subst hsz
  have hD := hD0.self (sz := s.heap.size)
  have hl := lv_entry av (n := maxL) hlen
  rw [lg_entry_eq]
  exact body p e s m _ below meth c (va_A w s.heap.size) ⟨⟨B.exec, B.bytes, hml, hown, hts⟩, hK, fun q h => Or.inr h⟩ B.returns B.notSynchronized s.heap [] _ hl hP hD va_S.rf
theorem z_Dfst {A : Nat → Prop} {ws ws' : va_W} (h : ws.map Prod.fst = ws'.map Prod.fst) (hD : va_D A ws) : va_D A ws' := by
  have key : ∀ (k : Nat) (q : Nat × va_E), ws'[k]? = some q → ∃ q0, ws[k]? = some q0 ∧ q0.1 = q.1 := by
    intro k q hq
    have h1 : (ws'.map Prod.fst)[k]? = some q.1 := by rw [List.getElem?_map, hq]; rfl
    rw [← h, List.getElem?_map] at h1
    cases h2 : ws[k]? with
    | none => rw [h2] at h1; cases h1
    | some q0 => rw [h2] at h1; exact ⟨q0, rfl, Option.some.inj h1⟩
  refine ⟨fun i j x y hi hj hxy => ?_, fun k q hk => ?_⟩
  · obtain ⟨a, a1, a2⟩ := key i x hi
    obtain ⟨b, b1, b2⟩ := key j y hj
    exact hD.1 i j a b a1 b1 (by rw [a2, b2, hxy])
  · obtain ⟨a, a1, a2⟩ := key k q hk
    rw [← a2]; exact hD.2 k a a1
theorem z_join {A0 : Nat → Prop} {D : va_G} {cl : List vw_C} {w1 wc w2 wc' : va_W} {H H1 : Heap} (hP : va_P D cl (w1 ++ wc ++ w2) H) (hD : va_D A0 (w1 ++ wc ++ w2)) (hk : ∀ q : Nat, q < H.size → ¬ va_A wc H.size q → H1[q]? = H[q]?) (hP1 : va_P D cl wc' H1) (ha : wc.map Prod.fst = wc'.map Prod.fst) : va_P D cl (w1 ++ wc' ++ w2) H1 ∧ va_D A0 (w1 ++ wc' ++ w2) := by
  have hlen : wc.length = wc'.length := by simpa using congrArg List.length ha
  refine ⟨fun k q hq => ?_, z_Dfst (by simp only [List.map_append, ha]) hD⟩
  have key : wc'[k - w1.length]? = some q ∨ ((k < w1.length ∨ w1.length + wc.length ≤ k) ∧ (w1 ++ wc ++ w2)[k]? = some q) := by
    rcases Nat.lt_or_ge k w1.length with h | h
    · refine Or.inr ⟨Or.inl h, ?_⟩
      rw [List.append_assoc, List.getElem?_append_left h] at hq ⊢
      exact hq
    · rcases Nat.lt_or_ge k (w1.length + wc.length) with h2 | h2
      · rw [List.append_assoc, List.getElem?_append_right h, List.getElem?_append_left (by omega)] at hq
        exact Or.inl hq
      · refine Or.inr ⟨Or.inr h2, ?_⟩
        rw [List.append_assoc, List.getElem?_append_right h, List.getElem?_append_right (by omega)] at hq ⊢
        rw [hlen]; exact hq
  rcases key with h | ⟨hk1, h⟩
  · exact hP1 _ q h
  · have hlt := (hP k q h).lt
    refine (hP k q h).kept (hk q.1 hlt (fun hA => ?_))
    rcases hA with ⟨j, e, hj⟩ | hge
    · have hjl : j < wc.length := (List.getElem?_eq_some_iff.mp hj).1
      have h3 : (w1 ++ wc ++ w2)[w1.length + j]? = some (q.1, e) := by
        rw [List.append_assoc, List.getElem?_append_right (by omega), Nat.add_sub_cancel_left, List.getElem?_append_left hjl]; exact hj
      have := hD.1 k (w1.length + j) q (q.1, e) h h3 rfl
      omega
    · omega
theorem z_mid {w1 wc w2 : va_W} {k : Nat} {q : Nat × va_E} (h : wc[k]? = some q) : (w1 ++ wc ++ w2)[w1.length + k]? = some q := by
  have hkl : k < wc.length := (List.getElem?_eq_some_iff.mp h).1
  rw [List.append_assoc, List.getElem?_append_right (by omega), Nat.add_sub_cancel_left, List.getElem?_append_left hkl]; exact h
theorem z_midP {D : va_G} {w1 wc w2 : va_W} {H : Heap} (h : va_P D vwCl (w1 ++ wc ++ w2) H) : va_P D vwCl wc H := fun _ q hk => h _ q (z_mid hk)
theorem z_midD {A B : Nat → Prop} {w1 wc w2 : va_W} (h : va_D A (w1 ++ wc ++ w2)) (hB : ∀ q, A q → B q) : va_D B wc := ⟨fun i j x y hi hj hxy => by have := h.1 _ _ x y (z_mid hi) (z_mid hj) hxy; omega, fun k q hk => hB _ (h.2 _ q (z_mid hk))⟩
theorem zP.blind {D : va_G} {tys : List (ClassId × FieldType)} {w : va_W} {sz : Nat} {U : State} {g : JFrame} {mk : MethodId} {a : Array Value} (h : zP D tys w sz U) : zP D tys w sz (U.calling g mk a) := ⟨h.1, h.2.1, va_K.moved (u := U) (U := U.calling g mk a) (Vm.Alike.refl U.vm) h.2.2.1, h.2.2.2⟩
section ZR
variable {p : Program} {l : Launch} {e : Env} {R : Room} {s : State} {m : MethodId} {args : Array Value} {below : List Frame} {meth : Method} {c : Code}
variable {cc : ByteArray} {nL : Nat} {own : String} {Ts : List Cond} {D : va_G} {tys : List (ClassId × FieldType)} {A : Nat → Prop} {cells slots : Nat} {Q : State → Prop} {pc : Nat} {L : List (Nat × Value)} {st : List Value} {ws : va_W}
theorem z_iret (C : zC p s m args c cc nL own Ts D tys A) {v v' : Int32} {w' : va_W} {mc ms : Nat} (hr : meth.sig.returnType = some .int) (hlocks : meth.locks = false) (hc : cells ≤ mc) (hs : slots ≤ ms) (hdg : decode cc pc = .ok (.ireturn, 1)) (e1 : v = v') (e2 : ws = w') : zG p l e R s m args below meth c D nL A cells slots (MQ below (zQ (some (.int v')) (fun t => va_P D vwCl w' t.heap) A) args s mc ms A) (pc) L ([.int v]) ws := by
  subst e1; subst e2
  intro H locs ls hl hP hD hS
  exact W.widen hc hs (W.iret C.exec C.code hr (fun t ht hW => ⟨⟨rfl, by show va_P D vwCl _ t.heap; rw [ht]; exact hP⟩, hS.F ht⟩) hS.2.2 hdg hlocks)
theorem z_lret (C : zC p s m args c cc nL own Ts D tys A) {v v' : Int64} {w' : va_W} {mc ms : Nat} (hr : meth.sig.returnType = some .long) (hlocks : meth.locks = false) (hc : cells ≤ mc) (hs : slots ≤ ms) (hdg : decode cc pc = .ok (.lreturn, 1)) (e1 : v = v') (e2 : ws = w') : zG p l e R s m args below meth c D nL A cells slots (MQ below (zQ (some (.long v')) (fun t => va_P D vwCl w' t.heap) A) args s mc ms A) (pc) L ([.long v]) ws := by
  subst e1; subst e2
  intro H locs ls hl hP hD hS
  exact W.widen hc hs (W.lret C.exec C.code hr (fun t ht hW => ⟨⟨rfl, by show va_P D vwCl _ t.heap; rw [ht]; exact hP⟩, hS.F ht⟩) hS.2.2 hdg hlocks)
theorem z_dret (C : zC p s m args c cc nL own Ts D tys A) {v v' : UInt64} {w' : va_W} {mc ms : Nat} (hr : meth.sig.returnType = some .double) (hlocks : meth.locks = false) (hc : cells ≤ mc) (hs : slots ≤ ms) (hdg : decode cc pc = .ok (.dreturn, 1)) (e1 : v = v') (e2 : ws = w') : zG p l e R s m args below meth c D nL A cells slots (MQ below (zQ (some (.double v')) (fun t => va_P D vwCl w' t.heap) A) args s mc ms A) (pc) L ([.double v]) ws := by
  subst e1; subst e2
  intro H locs ls hl hP hD hS
  exact W.widen hc hs (W.dret C.exec C.code hr (fun t ht hW => ⟨⟨rfl, by show va_P D vwCl _ t.heap; rw [ht]; exact hP⟩, hS.F ht⟩) hS.2.2 hdg hlocks)
theorem z_zret (C : zC p s m args c cc nL own Ts D tys A) {v v' : Int32} {w' : va_W} {mc ms : Nat} (hr : meth.sig.returnType = some .boolean) (hlocks : meth.locks = false) (hc : cells ≤ mc) (hs : slots ≤ ms) (hv : v = 0 ∨ v = 1) (hdg : decode cc pc = .ok (.ireturn, 1)) (e1 : v = v') (e2 : ws = w') : zG p l e R s m args below meth c D nL A cells slots (MQ below (zQ (some (.int v')) (fun t => va_P D vwCl w' t.heap) A) args s mc ms A) (pc) L ([.int v]) ws := by
  subst e1; subst e2
  intro H locs ls hl hP hD hS
  exact W.widen hc hs (W.zret C.exec C.code hr (by rcases hv with h | h <;> rw [h] <;> rfl) (fun t ht hW => ⟨⟨rfl, by show va_P D vwCl _ t.heap; rw [ht]; exact hP⟩, hS.F ht⟩) hS.2.2 hdg hlocks)
theorem z_vret (C : zC p s m args c cc nL own Ts D tys A) {w' : va_W} {mc ms : Nat} (hr : meth.sig.returnType = none) (hlocks : meth.locks = false) (hc : cells ≤ mc) (hs : slots ≤ ms) (hdg : decode cc pc = .ok (.return_, 1)) (e2 : ws = w') : zG p l e R s m args below meth c D nL A cells slots (MQ below (zQ none (fun t => va_P D vwCl w' t.heap) A) args s mc ms A) (pc) L ([]) ws := by
  subst e2
  intro H locs ls hl hP hD hS
  exact W.widen hc hs (W.vret C.exec C.code hr (fun t ht hW => ⟨⟨rfl, by show va_P D vwCl _ t.heap; rw [ht]; exact hP⟩, hS.F ht⟩) hS.2.2 hdg hlocks)
theorem z_part (is : List Nat) {ws' : va_W} (hn : va_nd is = true) (h1 : is.filterMap (fun i => ws[i]?) = ws') (h2 : is.map (fun i => ws[i]?) = ws'.map some) (k : zG p l e R s m args below meth c D nL A cells slots Q (pc) L (st) ws') : zG p l e R s m args below meth c D nL A cells slots Q (pc) L (st) ws := fun H locs ls hl hP hD hS => k H locs ls hl (hP.sub is h1) (hD.sub is hn h2) hS
theorem z_callV (C : zC p s m args c cc nL own Ts D tys A) {y : MethodName} {bytes : ByteArray} {maxL index : Nat} {ret : Option FieldType} {ws2 : List Cond} {fr lo mc ms : Nat} {As : List Value} {rv : Option Value} {w w' w1 w2 ws' : va_W} {tys2 : List (ClassId × FieldType)} {rest st' : List Value} {n : Nat} {b q0 ci : Nat} {C2 : String} {fs : List Value} {r : vw_C} (hM : zM l y ws2 fr lo mc ms (.ref b :: As) tys2 D w w' rv) (cw : CallW R s args own C2 index y bytes maxL ret ws2 ({ frames := fr, cells := mc, slots := ms, locals := lo } : Room) mc ms n) (hq : w[q0]? = some (b, .inr (ci, fs))) (hc : vwCl[ci]? = some r) (hr : r.1 = C2) (is : List Nat) (ht : is.filterMap (fun i => tys[i]?) = tys2) (hn : As.length = n) (hroom : (rest.map fun v => v.category).sum ≤ 8) (hf : cells + mc ≤ R.cells ∧ slots + ms ≤ R.slots) (hw : ws = w1 ++ w ++ w2) (hw' : w1 ++ w' ++ w2 = ws') (ha : w.map Prod.fst = w'.map Prod.fst) (hst : st = As.reverse ++ .ref b :: rest) (hst' : rv.toList ++ rest = st') (hdg : decode cc pc = .ok (.invokevirtual index, 3)) (kk : zG p l e R s m args below meth c D nL A (cells + mc) (slots + ms) Q (pc + 3) L (st') ws') : zG p l e R s m args below meth c D nL A cells slots Q (pc) L (st) ws := by
  intro H locs ls hl hP hD hS T hT X
  subst hw; subst hst; subst hst'
  have hPc : va_P D vwCl w H := z_midP hP
  have hDc : va_D (fun _ => True) w := z_midD hD (fun _ _ => trivial)
  have hKc := C.known.sub is ht
  have hFc : ∀ q, va_A w H.size q → A q := by
    rintro q (⟨k, e, h⟩ | h)
    · exact hD.2 _ (q, e) (z_mid h)
    · exact C.new q (Nat.le_trans hS.1 h)
  obtain ⟨v, st₀, t, T', L', h0, X', hL, e1, e2, ⟨⟨hv, hb⟩, hz, hkk⟩, stp⟩ := va_runV (As := As) (rest := rest) (g := F0 m pc ls (As.reverse ++ .ref b :: rest)) C.1 (hM H.size) cw ⟨fun a U g mk q => ⟨q.1, q.2.blind⟩, by rw [← hr]; exact va_recv hKc hPc hc hq, fun U hU hW => ⟨rfl, by rw [hU], by rw [hU]; exact hPc, va_K.moved hW.alike hKc, hDc⟩⟩ rfl hn hl.1 rfl (lv_room (pc := pc) (ls := ls) (rest := As.reverse ++ .ref b :: rest) hroom) hdg hf T hT X
  have hv : v = rv := by injection hv
  subst hv
  rw [h0] at hz hkk
  obtain ⟨hP', hD'⟩ := z_join hP hD (H1 := T'.heap) (fun q h1 h2 => by rw [e1]; exact hkk q h1 h2) (by rw [e1]; exact hb) ha
  subst hw'
  obtain ⟨t2, a1, b1⟩ := kk T'.heap (locs ++ L') ls hl hP' hD' ⟨Nat.le_trans hS.1 (by rw [e1]; exact hz), fun q h1 h2 => by rw [e1, hkk q (Nat.lt_of_lt_of_le h1 hS.1) (fun z => h2 (hFc q z))]; exact hS.2.1 q h1 h2, fun q hq => by
    rcases List.mem_append.mp hq with h | h
    · exact hS.2.2 q h
    · exact hFc _ (hL q h)⟩ T' rfl X'
  exact ⟨t2, stp t2 a1, b1⟩
theorem z_callS (C : zC p s m args c cc nL own Ts D tys A) {y : MethodName} {bytes : ByteArray} {maxL index : Nat} {ret : Option FieldType} {ws2 : List Cond} {fr lo mc ms : Nat} {As : List Value} {rv : Option Value} {w w' w1 w2 ws' : va_W} {tys2 : List (ClassId × FieldType)} {rest st' : List Value} {n : Nat} (hM : zM l y ws2 fr lo mc ms As tys2 D w w' rv) (cw : CallB R s args own index y bytes maxL ret ws2 ({ frames := fr, cells := mc, slots := ms, locals := lo } : Room) mc ms n ∧ (Cond.static y).before args s = true) (is : List Nat) (ht : is.filterMap (fun i => tys[i]?) = tys2) (hn : As.length = n) (hroom : (rest.map fun v => v.category).sum ≤ 8) (hf : cells + mc ≤ R.cells ∧ slots + ms ≤ R.slots) (hw : ws = w1 ++ w ++ w2) (hw' : w1 ++ w' ++ w2 = ws') (ha : w.map Prod.fst = w'.map Prod.fst) (hst : st = As.reverse ++ rest) (hst' : rv.toList ++ rest = st') (hdg : decode cc pc = .ok (.invokestatic index, 3)) (kk : zG p l e R s m args below meth c D nL A (cells + mc) (slots + ms) Q (pc + 3) L (st') ws') : zG p l e R s m args below meth c D nL A cells slots Q (pc) L (st) ws := by
  intro H locs ls hl hP hD hS T hT X
  subst hw; subst hst; subst hst'
  have hPc : va_P D vwCl w H := z_midP hP
  have hDc : va_D (fun _ => True) w := z_midD hD (fun _ _ => trivial)
  have hKc := C.known.sub is ht
  have hFc : ∀ q, va_A w H.size q → A q := by
    rintro q (⟨k, e, h⟩ | h)
    · exact hD.2 _ (q, e) (z_mid h)
    · exact C.new q (Nat.le_trans hS.1 h)
  obtain ⟨v, st₀, t, T', L', h0, X', hL, e1, e2, ⟨⟨hv, hb⟩, hz, hkk⟩, stp⟩ := va_runS (As := As) (rest := rest) (g := F0 m pc ls (As.reverse ++ rest)) C.1 (hM H.size) cw ⟨fun a U g mk q => ⟨q.1, q.2.blind⟩, fun U hU hW => ⟨rfl, by rw [hU], by rw [hU]; exact hPc, va_K.moved hW.alike hKc, hDc⟩⟩ rfl hn hl.1 rfl (lv_room (pc := pc) (ls := ls) (rest := As.reverse ++ rest) hroom) hdg hf T hT X
  have hv : v = rv := by injection hv
  subst hv
  rw [h0] at hz hkk
  obtain ⟨hP', hD'⟩ := z_join hP hD (H1 := T'.heap) (fun q h1 h2 => by rw [e1]; exact hkk q h1 h2) (by rw [e1]; exact hb) ha
  subst hw'
  obtain ⟨t2, a1, b1⟩ := kk T'.heap (locs ++ L') ls hl hP' hD' ⟨Nat.le_trans hS.1 (by rw [e1]; exact hz), fun q h1 h2 => by rw [e1, hkk q (Nat.lt_of_lt_of_le h1 hS.1) (fun z => h2 (hFc q z))]; exact hS.2.1 q h1 h2, fun q hq => by
    rcases List.mem_append.mp hq with h | h
    · exact hS.2.2 q h
    · exact hFc _ (hL q h)⟩ T' rfl X'
  exact ⟨t2, stp t2 a1, b1⟩
end ZR
end ZM
