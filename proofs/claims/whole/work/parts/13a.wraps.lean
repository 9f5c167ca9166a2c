/-! the law's own static methods: what is thrown is caught -/
def zN (U : State) : Prop := va_Nc zA zI U ∧ va_Nc zS zI U ∧ va_Nc zS zA U
theorem zN.moved {u U : State} (hvm : u.vm.Alike U.vm) (h : zN u) : zN U := ⟨va_Nc.moved hvm h.1, va_Nc.moved hvm h.2.1, va_Nc.moved hvm h.2.2⟩
/-- a contract that may rest on what a throw needs -/
def zMT (l : Launch) (y : MethodName) (ws : List Cond) (fr lo mc ms : Nat) (av : List Value) (tys : List (ClassId × FieldType)) (D : va_G) (w w' : va_W) (rv : Option Value) : Prop :=
  ∀ sz : Nat, Met l y ws ({ frames := fr, cells := mc, slots := ms, locals := lo } : Room) (va_Pc av (fun U => zP D tys w sz U ∧ zT (va_A w sz) U U.heap ∧ zN U)) (zQ rv (fun t => va_P D vwCl w' t.heap) (va_A w sz)) mc ms (va_A w sz)
section ZW
variable {p : Program} {l : Launch} {e : Env} {R : Room} {s : State} {m : MethodId} {args : Array Value} {below : List Frame} {meth : Method} {c : Code}
variable {cc : ByteArray} {nL : Nat} {own : String} {Ts : List Cond} {D : va_G} {tys : List (ClassId × FieldType)} {A : Nat → Prop} {cells slots : Nat} {Q : State → Prop} {pc : Nat} {L : List (Nat × Value)} {st : List Value} {ws : va_W}
theorem z_tmet {y : MethodName} {wd wd' : List Cond} {fr lo mc ms : Nat} {av : List Value} {w w' : va_W} {rv : Option Value} {maxL : Nat} {ret : Option FieldType} {hx : List (Nat × Nat × Nat × Nat)} (hy : plainName y.cls = true) (hw : wd = Cond.codeWith y cc maxL ret hx :: wd') (hlen : (lg_sl av).length ≤ maxL)
    (body : ∀ (p : Program) (e : Env) (s : State) (m : MethodId) (args : Array Value) (below : List Frame) (meth : Method) (c : Code) (A : Nat → Prop), zC p s m args c cc maxL y.cls wd D tys A → zT A s s.heap → zN s → c.exceptionTable.toList = tableOf hx → meth.sig.returnType = ret → meth.locks = false →
      zG p l e ({ frames := fr, cells := mc, slots := ms, locals := lo } : Room) s m args below meth c D maxL A 0 0 (MQ below (zQ rv (fun t => va_P D vwCl w' t.heap) A) args s mc ms A) 0 (lv_args 0 av) [] w) : zMT l y wd fr lo mc ms av tys D w w' rv := by
  intro sz
  refine va_MetW (cc := cc) (maxL := maxL) (ret := ret) (hh := hx) hy hw ?_
  intro p e s m args below meth c s₁ B hml hv
  obtain ⟨rfl, ⟨hsz, hP, hK, hD0⟩, hT, hN⟩ := hv
  have hts := atoms_spec (ws := wd) B.pre
  have hown : s.vm.findClass y.cls = some m.cls := findClass_of_methodNamed B.named
  subst hsz
  have hD := hD0.self (sz := s.heap.size)
  have hl := lv_entry av (n := maxL) hlen
  rw [lg_entry_eq]
  exact body p e s m _ below meth c (va_A w s.heap.size) ⟨⟨B.exec, B.bytes, hml, hown, hts⟩, hK, fun q h => Or.inr h⟩ hT hN (vx_table (x := y) B (hts _ (by rw [hw]; exact List.mem_cons_self))) B.returns B.notSynchronized s.heap [] _ hl hP hD va_S.rf
/-- a call that throws E, caught by this method's own row x -/
theorem z_xcatch (C : zC p s m args c cc nL own Ts D tys A) {y : MethodName} {bytes : ByteArray} {maxL index : Nat} {ret : Option FieldType} {wd : List Cond} {fr lo : Nat} {As : List Value} {w w1 w2 : va_W} {tys2 : List (ClassId × FieldType)} {rest : List Value} {n : Nat} {b q0 ci : Nat} {C2 E : String} {fs : List Value} {r : vw_C} (hT : zT A s s.heap) (hM : zX l y wd fr lo (.ref b :: As) tys2 D w E) (cw : CallW R s args own C2 index y bytes maxL ret wd ({ frames := fr, cells := 1, slots := 6, locals := lo } : Room) 1 6 n) (hq : w[q0]? = some (b, .inr (ci, fs))) (hc : vwCl[ci]? = some r) (hr : r.1 = C2) (is : List Nat) (ht : is.filterMap (fun i => tys[i]?) = tys2) (hn : As.length = n) (hroom : (rest.map fun v => v.category).sum ≤ 8) (hf : cells + 1 ≤ R.cells ∧ slots + 6 ≤ R.slots) (hw : ws = w1 ++ w ++ w2) (hst : st = As.reverse ++ .ref b :: rest)
    {pre suf : List ExceptionTableEntry} {x : ExceptionTableEntry} {hpc : Nat} (htab : c.exceptionTable.toList = pre ++ x :: suf) (hpass : ∀ z ∈ pre, covers z pc = false ∨ (z.catchType ≠ 0 ∧ ∃ nm : String, Cond.classLink own z.catchType nm ∈ Ts ∧ va_Nc E nm s)) (hx : covers x pc = true) (h0 : x.catchType ≠ 0) (hlink : Cond.classLink own x.catchType E ∈ Ts) (hcast : Cond.castable E E ∈ zxw) (hh : x.handlerPc = hpc)
    (hdg : decode cc pc = .ok (.invokevirtual index, 3)) (kk : ∀ q : Nat, zG p l e R s m args below meth c D nL A (cells + 1) (slots + 6) Q hpc L [.ref q] ws) : zG p l e R s m args below meth c D nL A cells slots Q pc L st ws := by
  intro H locs ls hl hP hD hS T hT' X
  subst hw; subst hst; subst hh
  have hPc : va_P D vwCl w H := z_midP hP
  have hDc : va_D (fun _ => True) w := z_midD hD (fun _ _ => trivial)
  have hKc := C.known.sub is ht
  have hFc : ∀ q, va_A w H.size q → A q := by
    rintro q (⟨k, e, h⟩ | h)
    · exact hD.2 _ (q, e) (z_mid h)
    · exact C.new q (Nat.le_trans hS.1 h)
  rcases vx_runV (As := As) (rest := rest) (g := F0 m pc ls (As.reverse ++ .ref b :: rest)) C.1 (hM H.size) cw ⟨fun a U g mk q => ⟨q.1, q.2.1.blind, q.2.2.blind⟩, by rw [← hr]; exact va_recv hKc hPc hc hq, fun U hU hW => ⟨rfl, ⟨by rw [hU], by rw [hU]; exact hPc, va_K.moved hW.alike hKc, hDc⟩, by rw [hU]; exact hT.to hS.2.1 hFc hW⟩⟩ rfl hn hl.1 rfl (lv_room (pc := pc) (ls := ls) (rest := As.reverse ++ .ref b :: rest) hroom) hdg hf T hT' X with ⟨v, st₀, t, T', L', h1, X', hL, e1, e2, hF, stp⟩ | ⟨q, st₀, t, T', L', E', ce, h1, X', hL, e1, e2, ⟨⟨rfl, hb⟩, hz, hkk⟩, hce, hcv, hcl, stp⟩
  · exact hF.elim
  · rw [h1] at hz hkk
    obtain ⟨hP', hD'⟩ := z_join hP hD (H1 := T'.heap) (fun q h1 h2 => by rw [e1]; exact hkk q h1 h2) (by rw [e1]; exact hb) rfl
    have hS' : va_S A s.heap T'.heap (locs ++ L') := ⟨Nat.le_trans hS.1 (by rw [e1]; exact hz), fun q h1 h2 => by rw [e1, hkk q (Nat.lt_of_lt_of_le h1 hS.1) (fun z => h2 (hFc q z))]; exact hS.2.1 q h1 h2, fun q hq => by
      rcases List.mem_append.mp hq with h | h
      · exact hS.2.2 q h
      · exact hFc _ (hL q h)⟩
    obtain ⟨t2, a1, b1⟩ := vx_catch (pc := pc) (ls := ls) (rest := rest) C.here pre x suf htab (fun z hz => (hpass z hz).imp id (fun h => ⟨h.1, h.2.choose, C.words _ h.2.choose_spec.1, h.2.choose_spec.2⟩)) hx h0 (C.words _ hlink) (va_tabs (zxw_tab hcast).1 rfl (hT.2.2.1 _ hcast)) (by rw [e1]; exact hce) hcv hcl (kk q T'.heap (locs ++ L') ls hl hP' hD' hS') T' rfl X'
    exact ⟨t2, stp.trans a1, b1⟩
theorem z_callT (C : zC p s m args c cc nL own Ts D tys A) (hT : zT A s s.heap) (hN : zN s) {y : MethodName} {bytes : ByteArray} {maxL index : Nat} {ret : Option FieldType} {hx : List (Nat × Nat × Nat × Nat)} {wd : List Cond} {fr lo mc ms : Nat} {As : List Value} {rv : Option Value} {w w' w1 w2 ws' : va_W} {tys2 : List (ClassId × FieldType)} {rest st' : List Value} {n : Nat} (hM : zMT l y wd fr lo mc ms As tys2 D w w' rv) (cw : vx_CSW R s args own index y bytes maxL ret hx wd ({ frames := fr, cells := mc, slots := ms, locals := lo } : Room) mc ms n) (is : List Nat) (ht : is.filterMap (fun i => tys[i]?) = tys2) (hn : As.length = n) (hroom : (rest.map fun v => v.category).sum ≤ 8) (hf : cells + mc ≤ R.cells ∧ slots + ms ≤ R.slots) (hw : ws = w1 ++ w ++ w2) (hw' : w1 ++ w' ++ w2 = ws') (ha : w.map Prod.fst = w'.map Prod.fst) (hst : st = As.reverse ++ rest) (hst' : rv.toList ++ rest = st') (hdg : decode cc pc = .ok (.invokestatic index, 3)) (kk : zG p l e R s m args below meth c D nL A (cells + mc) (slots + ms) Q (pc + 3) L (st') ws') : zG p l e R s m args below meth c D nL A cells slots Q (pc) L (st) ws := by
  intro H locs ls hl hP hD hS T hT' X
  subst hw; subst hst; subst hst'
  have hPc : va_P D vwCl w H := z_midP hP
  have hDc : va_D (fun _ => True) w := z_midD hD (fun _ _ => trivial)
  have hKc := C.known.sub is ht
  have hFc : ∀ q, va_A w H.size q → A q := by
    rintro q (⟨k, e, h⟩ | h)
    · exact hD.2 _ (q, e) (z_mid h)
    · exact C.new q (Nat.le_trans hS.1 h)
  obtain ⟨v, st₀, t, T', L', h0, X', hL, e1, e2, ⟨⟨hv, hb⟩, hz, hkk⟩, stp⟩ := vx_runSW (As := As) (rest := rest) (g := F0 m pc ls (As.reverse ++ rest)) C.1 (hM H.size) cw ⟨fun a U g mk q => ⟨q.1, q.2.1.blind, q.2.2.1.blind, zN.moved (u := U) (U := U.calling g mk a) (Vm.Alike.refl U.vm) q.2.2.2⟩, fun U hU hW => ⟨rfl, ⟨by rw [hU], by rw [hU]; exact hPc, va_K.moved hW.alike hKc, hDc⟩, by rw [hU]; exact hT.to hS.2.1 hFc hW, zN.moved hW.alike hN⟩⟩ rfl hn hl.1 rfl (lv_room (pc := pc) (ls := ls) (rest := As.reverse ++ rest) hroom) hdg hf T hT' X
  have hv : v = rv := by injection hv
  subst hv
  rw [h0] at hz hkk
  obtain ⟨hP', hD'⟩ := z_join hP hD (H1 := T'.heap) (fun q h1 h2 => by rw [e1]; exact hkk q h1 h2) (by rw [e1]; exact hb) ha
  subst hw'
  obtain ⟨t2, a1, b1⟩ := kk T'.heap (locs ++ L') ls hl hP' hD' ⟨Nat.le_trans hS.1 (by rw [e1]; exact hz), fun q h1 h2 => by rw [e1, hkk q (Nat.lt_of_lt_of_le h1 hS.1) (fun z => h2 (hFc q z))]; exact hS.2.1 q h1 h2, fun q hq => by
    rcases List.mem_append.mp hq with h | h
    · exact hS.2.2 q h
    · exact hFc _ (hL q h)⟩ T' rfl X'
  exact ⟨t2, stp t2 a1, b1⟩
end ZW
theorem zx_cI : Cond.castable zI zI ∈ zxw := by decide +kernel
theorem zx_cA : Cond.castable zA zA ∈ zxw := by decide +kernel
theorem zx_cS : Cond.castable zS zS ∈ zxw := by decide +kernel
abbrev wO (o : Nat) (cJ : ClassId) (f : Nat → Int64) : va_W := [(o, .inl (cJ, 1, .inr (.inl f)))]
