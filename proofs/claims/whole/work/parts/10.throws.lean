/-! what a method that throws owes; the throw itself, and a call whose exception goes on to the caller -/
def znm : List String := ["java/lang/RuntimeException", "java/lang/Exception"]
abbrev zI : String := "java/lang/IndexOutOfBoundsException"
abbrev zA : String := "java/lang/IllegalArgumentException"
abbrev zS : String := "java/lang/IllegalStateException"
def zxwS : List Cond := Cond.classLink RX0 48 zS :: Cond.initialized zS :: vx_atS RX0 52 zS znm
def zxwI : List Cond := Cond.classLink RX0 195 zI :: Cond.initialized zI :: vx_atS RX0 199 zI znm
def zxwA : List Cond := Cond.classLink RX0 204 zA :: Cond.initialized zA :: vx_atS RX0 208 zA znm
def zxw : List Cond := zxwS ++ (zxwI ++ zxwA)
theorem zxw_ok : zxw.all (fun w => w.onTables && w.keepsFace) = true := by decide +kernel
theorem zxw_tab {w : Cond} (h : w ∈ zxw) : w.onTables = true ∧ w.keepsFace = true := by
  have h1 := List.all_eq_true.mp zxw_ok w h
  rw [Bool.and_eq_true] at h1
  exact h1
def zstr : List (Nat × String) := [(50, "the order is full"), (197, "no such member"), (200, "no such shoulder"), (202, "no such throw"), (206, "too few or too many"), (209, "the cellar has less salt"), (211, "the ledger is full")]
/-- what a throw needs of the start: the two statics of Throwable, the words of the constructors, the texts -/
def zT (A : Nat → Prop) (U : State) (H : Heap) : Prop := vx_Zq Bundle.tN "UNASSIGNED_STACK" Bundle.steD A U H ∧ vx_Zq Bundle.tN "SUPPRESSED_SENTINEL" Bundle.listD A U H ∧ (∀ w ∈ zxw, w.before #[] U = true) ∧ ∀ q ∈ zstr, ∃ a, vk_R RX0 q.1 q.2 a U
theorem zT.to {A B : Nat → Prop} {U V : State} {H : Heap} (h : zT A U U.heap) (hq : ∀ a : Nat, a < U.heap.size → ¬ A a → H[a]? = U.heap[a]?) (hAB : ∀ q, B q → A q) (hW : U.WarmedH V.vm) : zT B V H := by
  obtain ⟨h1, h2, h3, h4⟩ := h
  refine ⟨((h1.moved hW.alike).kept hq).narrow hAB, ((h2.moved hW.alike).kept hq).narrow hAB, fun w hw => ?_, fun q hq => ?_⟩
  · have e := Cond.before_shiftedFace (State.Shifted.of_warmed hW) w (zxw_tab hw).2 (h3 w hw)
    exact va_tabs (zxw_tab hw).1 (u := U.setVm V.vm) rfl e
  · obtain ⟨a, ha⟩ := h4 q hq
    exact ⟨a, vk_R.warm hW ha⟩
def zXC (E : String) (D : va_G) (w : va_W) (A : Nat → Prop) : String → State → State → Prop := fun E' st t => (E' = E ∧ va_P D vwCl w t.heap) ∧ va_F A st t
/-- a contract: from the world w the method y throws E, and w stays -/
def zX (l : Launch) (y : MethodName) (ws : List Cond) (fr lo : Nat) (av : List Value) (tys : List (ClassId × FieldType)) (D : va_G) (w : va_W) (E : String) : Prop :=
  ∀ sz : Nat, vx_Met l y ws ({ frames := fr, cells := 1, slots := 6, locals := lo } : Room) (va_Pc av (fun U => zP D tys w sz U ∧ zT (va_A w sz) U U.heap)) (fun _ _ _ _ => False) (zXC E D w (va_A w sz)) 1 6 (va_A w sz)
theorem zT.blind {A : Nat → Prop} {U : State} {g : JFrame} {mk : MethodId} {a : Array Value} (h : zT A U U.heap) : zT A (U.calling g mk a) (U.calling g mk a).heap := h.to (V := U.calling g mk a) (fun _ _ _ => rfl) (fun _ h => h) (State.WarmedH.refl U)
section ZX
variable {p : Program} {l : Launch} {e : Env} {R : Room} {s : State} {m : MethodId} {args : Array Value} {below : List Frame} {meth : Method} {c : Code}
variable {cc : ByteArray} {nL : Nat} {own : String} {Ts : List Cond} {D : va_G} {tys : List (ClassId × FieldType)} {A : Nat → Prop} {cells slots : Nat} {Q : State → Prop} {pc : Nat} {L : List (Nat × Value)} {st : List Value} {ws : va_W}
theorem z_xmet {y : MethodName} {wd wd' : List Cond} {fr lo : Nat} {av : List Value} {w : va_W} {E : String} {maxL : Nat} {ret : Option FieldType} (hy : plainName y.cls = true) (hw : wd = Cond.code y cc maxL ret :: wd') (hlen : (lg_sl av).length ≤ maxL)
    (body : ∀ (p : Program) (e : Env) (s : State) (m : MethodId) (args : Array Value) (below : List Frame) (meth : Method) (c : Code) (A : Nat → Prop), zC p s m args c cc maxL y.cls wd D tys A → zT A s s.heap → meth.locks = false → (∀ x ∈ c.exceptionTable.toList, False) →
      zG p l e ({ frames := fr, cells := 1, slots := 6, locals := lo } : Room) s m args below meth c D maxL A 0 0 (vx_MQ below (fun _ _ _ _ => False) (zXC E D w A) args s 1 6 A) 0 (lv_args 0 av) [] w) : zX l y wd fr lo av tys D w E := by
  intro sz
  refine vx_ofW (cc := cc) (maxL := maxL) (ret := ret) hy hw ?_
  intro p e s m args below meth c s₁ B hml hex hv
  obtain ⟨rfl, ⟨hsz, hP, hK, hD0⟩, hT⟩ := hv
  have hts := atoms_spec (ws := wd) B.pre
  have hown : s.vm.findClass y.cls = some m.cls := findClass_of_methodNamed B.named
  subst hsz
  have hD := hD0.self (sz := s.heap.size)
  have hl := lv_entry av (n := maxL) hlen
  rw [lg_entry_eq]
  exact body p e s m _ below meth c (va_A w s.heap.size) ⟨⟨B.exec, B.bytes, hml, hown, hts⟩, hK, fun q h => Or.inr h⟩ hT B.notSynchronized hex s.heap [] _ hl hP hD va_S.rf
theorem z_throw {E text : String} {ik is ic : Nat} (C : zC p s m args c cc nL RX0 Ts D tys A) (hT : zT A s s.heap) (hl : l.stackTraces = false) (hq : (is, text) ∈ zstr) (hE : Bundle.fit E = true) (hw : ∀ w ∈ Cond.classLink RX0 ik E :: Cond.initialized E :: vx_atS RX0 ic E znm, w ∈ zxw)
    (d0 : decode cc pc = .ok (.new ik, 3)) (d3 : decode cc (pc + 3) = .ok (.dup, 1)) (d4 : decode cc (pc + 4) = .ok (.ldc is, 2)) (d6 : decode cc (pc + 6) = .ok (.invokespecial ic, 3)) (d9 : decode cc (pc + 9) = .ok (.athrow, 1))
    (hout : ∀ x ∈ c.exceptionTable.toList, False) (hlocks : meth.locks = false) (hfr : 5 < R.frames) (hlo : (st.map fun v => v.category).sum + 82 ≤ R.locals) (hrc : cells + 1 ≤ R.cells) (hrs : slots + 6 ≤ R.slots) (hc : cells + 1 ≤ 1) (hs : slots + 6 ≤ 6) :
    zG p l e R s m args below meth c D nL A cells slots (vx_MQ below (fun _ _ _ _ => False) (zXC E D ws A) args s 1 6 A) pc L st ws := by
  intro H locs ls hl' hP hD hS
  obtain ⟨sa, hstr⟩ := hT.2.2.2 _ hq
  have hb : ∀ w ∈ zxw, w.before args s = true := fun w h => va_tabs (zxw_tab h).1 rfl (hT.2.2.1 w h)
  exact vx_throwS (own := RX0) (cls := E) (text := text) (names := znm) (ik := ik) (is := is) (ic := ic) (A := A) C.exec C.code hl C.here hE (by decide) (hb _ (hw _ List.mem_cons_self)) (hb _ (hw _ (List.mem_cons_of_mem _ List.mem_cons_self))) hstr (fun w h => hb _ (hw _ (List.mem_cons_of_mem _ (List.mem_cons_of_mem _ h))))
    (fun w h => by
      have h1 := (zxw_tab (hw w h)).1
      unfold vx_ot
      rw [h1]; rfl) hT.1 hT.2.1 hS (hl'.1.trans C.maxl.symm) d0 d3 d4 d6 d9 (fun x hx => (hout x hx).elim) hfr hlo hrc hrs hlocks
    (fun t ha hz hk => ⟨⟨rfl, hP.kept (fun k q hq => hk q.1 (hP k q hq).lt)⟩, Nat.le_trans hS.1 hz, fun q h1 h2 => (hk q (Nat.lt_of_lt_of_le h1 hS.1)).trans (hS.2.1 q h1 h2)⟩) hS.2.2 hc hs
theorem z_xout {w w1 w2 : va_W} {H : Heap} {locs : List Loc} {ls : Array Slot} {cells' slots' : Nat} {E : String} {rest : List Value} {pc' : Nat} {T' : State} {q : Addr} {ce : Cell} {L' : List Loc} (hP : va_P D vwCl (w1 ++ w ++ w2) H) (hD : va_D A (w1 ++ w ++ w2)) (hS : va_S A s.heap H locs) (hFc : ∀ q, va_A w H.size q → A q)
    (hz : H.size ≤ T'.heap.size) (hkk : ∀ q : Nat, q < H.size → ¬ va_A w H.size q → T'.heap[q]? = H[q]?) (hb : va_P D vwCl w T'.heap) (hL : ∀ z ∈ L', va_A w H.size z.base) (hce : T'.heap[q]? = some ce) (hcv : ce.vm = .none) (hcl : s.vm.findClass E = some ce.cls) (hout : ∀ x ∈ c.exceptionTable.toList, False) (hlocks : meth.locks = false) (hc : cells' ≤ 1) (hs : slots' ≤ 6) :
    vx_W p l e R s m args below meth c T'.heap (locs ++ L') cells' slots' (vx_MQ below (fun _ _ _ _ => False) (zXC E D (w1 ++ w ++ w2) A) args s 1 6 A) (F0 m pc' ls rest) q := by
  obtain ⟨hP', hD'⟩ := z_join hP hD (H1 := T'.heap) hkk hb rfl
  refine vx_out (fun x hx => (hout x hx).elim) hlocks hce hcv hcl (fun t ht ha => ⟨⟨rfl, by rw [ht]; exact hP'⟩, by rw [ht]; exact Nat.le_trans hS.1 hz, fun q h1 h2 => by rw [ht, hkk q (Nat.lt_of_lt_of_le h1 hS.1) (fun z => h2 (hFc q z))]; exact hS.2.1 q h1 h2⟩) (fun z hz => ?_) hc hs
  rcases List.mem_append.mp hz with h | h
  · exact hS.2.2 z h
  · exact hFc _ (hL z h)
theorem z_xcallV (C : zC p s m args c cc nL own Ts D tys A) {y : MethodName} {bytes : ByteArray} {maxL index : Nat} {ret : Option FieldType} {wd : List Cond} {fr lo : Nat} {As : List Value} {w w1 w2 : va_W} {tys2 : List (ClassId × FieldType)} {rest : List Value} {n : Nat} {b q0 ci : Nat} {C2 E : String} {fs : List Value} {r : vw_C} (hT : zT A s s.heap) (hM : zX l y wd fr lo (.ref b :: As) tys2 D w E) (cw : CallW R s args own C2 index y bytes maxL ret wd ({ frames := fr, cells := 1, slots := 6, locals := lo } : Room) 1 6 n) (hq : w[q0]? = some (b, .inr (ci, fs))) (hc : vwCl[ci]? = some r) (hr : r.1 = C2) (is : List Nat) (ht : is.filterMap (fun i => tys[i]?) = tys2) (hn : As.length = n) (hroom : (rest.map fun v => v.category).sum ≤ 8) (hf : cells + 1 ≤ R.cells ∧ slots + 6 ≤ R.slots) (hw : ws = w1 ++ w ++ w2) (hst : st = As.reverse ++ .ref b :: rest) (hout : ∀ x ∈ c.exceptionTable.toList, False) (hlocks : meth.locks = false) (hcc : cells + 1 ≤ 1) (hss : slots + 6 ≤ 6) (hdg : decode cc pc = .ok (.invokevirtual index, 3)) :
    zG p l e R s m args below meth c D nL A cells slots (vx_MQ below (fun _ _ _ _ => False) (zXC E D ws A) args s 1 6 A) pc L st ws := by
  intro H locs ls hl hP hD hS T hT' X
  subst hw; subst hst
  have hPc : va_P D vwCl w H := z_midP hP
  have hDc : va_D (fun _ => True) w := z_midD hD (fun _ _ => trivial)
  have hKc := C.known.sub is ht
  have hFc : ∀ q, va_A w H.size q → A q := by
    rintro q (⟨k, e, h⟩ | h)
    · exact hD.2 _ (q, e) (z_mid h)
    · exact C.new q (Nat.le_trans hS.1 h)
  rcases vx_runV (As := As) (rest := rest) (g := F0 m pc ls (As.reverse ++ .ref b :: rest)) C.1 (hM H.size) cw ⟨fun a U g mk q => ⟨q.1, q.2.1.blind, q.2.2.blind⟩, by rw [← hr]; exact va_recv hKc hPc hc hq, fun U hU hW => ⟨rfl, ⟨by rw [hU], by rw [hU]; exact hPc, va_K.moved hW.alike hKc, hDc⟩, by rw [hU]; exact hT.to hS.2.1 hFc hW⟩⟩ rfl hn hl.1 rfl (lv_room (pc := pc) (ls := ls) (rest := As.reverse ++ .ref b :: rest) hroom) hdg hf T hT' X with ⟨v, st₀, t, T', L', h0, X', hL, e1, e2, hF, stp⟩ | ⟨q, st₀, t, T', L', E', ce, h0, X', hL, e1, e2, ⟨⟨rfl, hb⟩, hz, hkk⟩, hce, hcv, hcl, stp⟩
  · exact hF.elim
  · rw [h0] at hz hkk
    obtain ⟨t2, a1, b1⟩ := z_xout (T' := T') (pc' := pc) (ls := ls) (rest := rest) hP hD hS hFc (by rw [e1]; exact hz) (fun q h1 h2 => by rw [e1]; exact hkk q h1 h2) (by rw [e1]; exact hb) hL (by rw [e1]; exact hce) hcv hcl hout hlocks hcc hss T' rfl X'
    exact ⟨t2, stp.trans a1, b1⟩
theorem z_xcallS (C : zC p s m args c cc nL own Ts D tys A) {y : MethodName} {bytes : ByteArray} {maxL index : Nat} {ret : Option FieldType} {wd : List Cond} {fr lo : Nat} {As : List Value} {w w1 w2 : va_W} {tys2 : List (ClassId × FieldType)} {rest : List Value} {n : Nat} {E : String} (hT : zT A s s.heap) (hM : zX l y wd fr lo As tys2 D w E) (cw : CallB R s args own index y bytes maxL ret wd ({ frames := fr, cells := 1, slots := 6, locals := lo } : Room) 1 6 n ∧ (Cond.static y).before args s = true) (is : List Nat) (ht : is.filterMap (fun i => tys[i]?) = tys2) (hn : As.length = n) (hroom : (rest.map fun v => v.category).sum ≤ 8) (hf : cells + 1 ≤ R.cells ∧ slots + 6 ≤ R.slots) (hw : ws = w1 ++ w ++ w2) (hst : st = As.reverse ++ rest) (hout : ∀ x ∈ c.exceptionTable.toList, False) (hlocks : meth.locks = false) (hcc : cells + 1 ≤ 1) (hss : slots + 6 ≤ 6) (hdg : decode cc pc = .ok (.invokestatic index, 3)) :
    zG p l e R s m args below meth c D nL A cells slots (vx_MQ below (fun _ _ _ _ => False) (zXC E D ws A) args s 1 6 A) pc L st ws := by
  intro H locs ls hl hP hD hS T hT' X
  subst hw; subst hst
  have hPc : va_P D vwCl w H := z_midP hP
  have hDc : va_D (fun _ => True) w := z_midD hD (fun _ _ => trivial)
  have hKc := C.known.sub is ht
  have hFc : ∀ q, va_A w H.size q → A q := by
    rintro q (⟨k, e, h⟩ | h)
    · exact hD.2 _ (q, e) (z_mid h)
    · exact C.new q (Nat.le_trans hS.1 h)
  rcases vx_runS (As := As) (rest := rest) (g := F0 m pc ls (As.reverse ++ rest)) C.1 (hM H.size) cw ⟨fun a U g mk q => ⟨q.1, q.2.1.blind, q.2.2.blind⟩, fun U hU hW => ⟨rfl, ⟨by rw [hU], by rw [hU]; exact hPc, va_K.moved hW.alike hKc, hDc⟩, by rw [hU]; exact hT.to hS.2.1 hFc hW⟩⟩ rfl hn hl.1 rfl (lv_room (pc := pc) (ls := ls) (rest := As.reverse ++ rest) hroom) hdg hf T hT' X with ⟨v, st₀, t, T', L', h0, X', hL, e1, e2, hF, stp⟩ | ⟨q, st₀, t, T', L', E', ce, h0, X', hL, e1, e2, ⟨⟨rfl, hb⟩, hz, hkk⟩, hce, hcv, hcl, stp⟩
  · exact hF.elim
  · rw [h0] at hz hkk
    obtain ⟨t2, a1, b1⟩ := z_xout (T' := T') (pc' := pc) (ls := ls) (rest := rest) hP hD hS hFc (by rw [e1]; exact hz) (fun q h1 h2 => by rw [e1]; exact hkk q h1 h2) (by rw [e1]; exact hb) hL (by rw [e1]; exact hce) hcv hcl hout hlocks hcc hss T' rfl X'
    exact ⟨t2, stp.trans a1, b1⟩
end ZX
theorem zw_I : ∀ w ∈ Cond.classLink RX0 195 zI :: Cond.initialized zI :: vx_atS RX0 199 zI znm, w ∈ zxw := fun _ h => List.mem_append_right _ (List.mem_append_left _ h)
theorem zw_A : ∀ w ∈ Cond.classLink RX0 204 zA :: Cond.initialized zA :: vx_atS RX0 208 zA znm, w ∈ zxw := fun _ h => List.mem_append_right _ (List.mem_append_right _ h)
theorem zw_S : ∀ w ∈ Cond.classLink RX0 48 zS :: Cond.initialized zS :: vx_atS RX0 52 zS znm, w ∈ zxw := fun _ h => List.mem_append_left _ h
