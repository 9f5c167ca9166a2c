/-! the constructors -/
def x00 : S0 := (fun _ => 0, fun _ => 0, fun _ => 0, 0, fun _ => 0, fun _ => 0, fun _ => 0, fun _ => 0, 0, 100, 0, 0, 0, 0)
/-- a constructor's contract: the object at b and its new arrays hold the world P hh, hh 0 = b -/
def zMI (l : Launch) (y : MethodName) (ws : List Cond) (fr lo mc ms : Nat) (b : Nat) (tys : List (ClassId × FieldType)) (D : va_G) (w : va_W) (P : (Nat → Nat) → va_W) : Prop :=
  ∀ sz : Nat, Met l y ws ({ frames := fr, cells := mc, slots := ms, locals := lo } : Room) (va_Pc [.ref b] (zP D tys w sz)) (zQ none (fun t => ∃ hh : Nat → Nat, hh 0 = b ∧ va_P D vwCl (P hh) t.heap ∧ va_D (va_A w sz) (P hh)) (va_A w sz)) mc ms (va_A w sz)
section ZI
variable {p : Program} {l : Launch} {e : Env} {R : Room} {s : State} {m : MethodId} {args : Array Value} {below : List Frame} {meth : Method} {c : Code}
variable {cc : ByteArray} {nL : Nat} {own : String} {Ts : List Cond} {D : va_G} {tys : List (ClassId × FieldType)} {A : Nat → Prop} {cells slots : Nat} {Q : State → Prop} {pc : Nat} {L : List (Nat × Value)} {st : List Value} {ws : va_W}
theorem z_imet {y : MethodName} {wd wd' : List Cond} {fr lo mc ms b : Nat} {w : va_W} {P : (Nat → Nat) → va_W} {maxL : Nat} (hy : plainName y.cls = true) (hn : y.name = "<init>") (hw : wd = Cond.code y cc maxL none :: wd') (hlen : (lg_sl [.ref b]).length ≤ maxL)
    (body : ∀ (p : Program) (e : Env) (s : State) (m : MethodId) (args : Array Value) (below : List Frame) (meth : Method) (c : Code) (A : Nat → Prop), zC p s m args c cc maxL y.cls wd D tys A → meth.sig.returnType = none → meth.locks = false → meth.name = "<init>" →
      zG p l e ({ frames := fr, cells := mc, slots := ms, locals := lo } : Room) s m args below meth c D maxL A 0 0 (MQ below (zQ none (fun t => ∃ hh : Nat → Nat, hh 0 = b ∧ va_P D vwCl (P hh) t.heap ∧ va_D A (P hh)) A) args s mc ms A) 0 (lv_args 0 [.ref b]) [] w) : zMI l y wd fr lo mc ms b tys D w P := by
  intro sz
  refine Met.ofW (cc := cc) (maxL := maxL) (ret := none) hy hw ?_
  intro p e s m args below meth c s₁ B hml hv
  obtain ⟨rfl, hsz, hP, hK, hD0⟩ := hv
  have hts := atoms_spec (ws := wd) B.pre
  have hown : s.vm.findClass y.cls = some m.cls := findClass_of_methodNamed B.named
  subst hsz
  have hD := hD0.self (sz := s.heap.size)
  have hl := lv_entry [.ref b] (n := maxL) hlen
  rw [lg_entry_eq]
  exact body p e s m _ below meth c (va_A w s.heap.size) ⟨⟨B.exec, B.bytes, hml, hown, hts⟩, hK, fun q h => Or.inr h⟩ B.returns B.notSynchronized ((name_of_methodNamed B.named B.method).1.trans hn) s.heap [] _ hl hP hD va_S.rf
theorem z_ivret (C : zC p s m args c cc nL own Ts D tys A) {mc ms b : Nat} {P : (Nat → Nat) → va_W} (hh : Nat → Nat) (hb : hh 0 = b) (hr : meth.sig.returnType = none) (hlocks : meth.locks = false) (hc : cells ≤ mc) (hs : slots ≤ ms) (hdg : decode cc pc = .ok (.return_, 1)) (e2 : ws = P hh) : zG p l e R s m args below meth c D nL A cells slots (MQ below (zQ none (fun t => ∃ hh : Nat → Nat, hh 0 = b ∧ va_P D vwCl (P hh) t.heap ∧ va_D A (P hh)) A) args s mc ms A) (pc) L ([]) ws := by
  subst e2
  intro H locs ls hl hP hD hS
  exact W.widen hc hs (W.vret C.exec C.code hr (fun t ht hW => ⟨⟨rfl, ⟨hh, hb, by rw [ht]; exact hP, hD⟩⟩, hS.F ht⟩) hS.2.2 hdg hlocks)
theorem z_objInit (C : zC p s m args c cc nL own Ts D tys A) {idx a : Nat} (h1 : Cond.methodLink own idx Lib.objectInit ∈ Ts) (h2 : Cond.instanceMethod Lib.objectInit ∈ Ts) (h3 : Cond.code Lib.objectInit ⟨#[0xb1]⟩ 1 none ∈ Ts) (hfr : 1 ≤ R.frames) (hlo : (st.map fun v => v.category).sum + 12 ≤ R.locals) (hdg : decode cc pc = .ok (.invokespecial idx, 3)) (kk : zG p l e R s m args below meth c D nL A cells slots Q (pc + 3) L (st) ws) : zG p l e R s m args below meth c D nL A cells slots Q (pc) L (.ref a :: st) ws := fun H locs ls hl hP hD hS => W.objInit C.exec C.code C.here (C.words _ h1) (C.words _ h2) (C.words _ h3) rfl (hl.1.trans C.maxl.symm) rfl hdg hfr (by show 2 * 0 + _ + 12 ≤ _; omega) (W.eq (g2 := F0 m (pc + 3) ls st) rfl (kk H locs ls hl hP hD hS))
theorem z_callI (C : zC p s m args c cc nL own Ts D tys A) {y : MethodName} {bytes : ByteArray} {maxL index : Nat} {wd : List Cond} {fr lo mc ms b : Nat} {w wr : va_W} {P : (Nat → Nat) → va_W} {tys2 : List (ClassId × FieldType)} {rest : List Value} (hM : zMI l y wd fr lo mc ms b tys2 D w P) (cw : CallB R s args own index y bytes maxL none wd ({ frames := fr, cells := mc, slots := ms, locals := lo } : Room) mc ms 0 ∧ y.name = "<init>" ∧ (Cond.instanceMethod y).before args s = true) (is : List Nat) (ht : is.filterMap (fun i => tys[i]?) = tys2) (hroom : (rest.map fun v => v.category).sum ≤ 8) (hf : cells + mc ≤ R.cells ∧ slots + ms ≤ R.slots)
    (isC isR : List Nat) (hC1 : isC.filterMap (fun i => ws[i]?) = w) (hC : isC.map (fun i => ws[i]?) = w.map some) (hR : isR.map (fun i => ws[i]?) = wr.map some) (hnC : va_nd isC = true) (hnR : va_nd isR = true) (hdis : ∀ i ∈ isR, i ∉ isC) (hst : st = .ref b :: rest) (hdg : decode cc pc = .ok (.invokespecial index, 3)) (kk : ∀ hh : Nat → Nat, hh 0 = b → zG p l e R s m args below meth c D nL A (cells + mc) (slots + ms) Q (pc + 3) L (rest) (wr ++ P hh)) : zG p l e R s m args below meth c D nL A cells slots Q (pc) L (st) ws := by
  intro H locs ls hl hP hD hS T hT X
  subst hst
  have hPc : va_P D vwCl w H := hP.sub isC hC1
  have hDc : va_D (fun _ => True) w := (hD.sub isC hnC hC).weaken (fun _ _ _ _ => trivial)
  have hKc := C.known.sub is ht
  have hFc := va_free hD hS C.new isC hC
  obtain ⟨v, st₀, t, T', L', h0, X', hL, e1, e2, ⟨⟨hv, hh, hb0, hb, hDb⟩, hz, hkk⟩, stp⟩ := va_runI (As := []) (rest := rest) (g := F0 m pc ls (.ref b :: rest)) C.1 (hM H.size) cw ⟨fun a U g mk q => ⟨q.1, q.2.blind⟩, fun U hU hW => ⟨rfl, by rw [hU], by rw [hU]; exact hPc, va_K.moved hW.alike hKc, hDc⟩⟩ rfl rfl hl.1 rfl (lv_room (pc := pc) (ls := ls) (rest := .ref b :: rest) hroom) hdg hf T hT X
  have hv : v = none := by injection hv
  subst hv
  rw [h0] at hz hkk
  obtain ⟨hP', hD'⟩ := va_join hP hD isC isR hC hR hnR hdis (H1 := T'.heap) (fun q h1 h2 => by rw [e1]; exact hkk q h1 h2) hFc (by rw [e1]; exact hb) hDb
  obtain ⟨t2, a1, b1⟩ := kk hh hb0 T'.heap (locs ++ L') ls hl hP' hD' ⟨Nat.le_trans hS.1 (by rw [e1]; exact hz), fun q h1 h2 => by rw [e1, hkk q (Nat.lt_of_lt_of_le h1 hS.1) (fun z => h2 (hFc q z))]; exact hS.2.1 q h1 h2, fun q hq => by
    rcases List.mem_append.mp hq with h | h
    · exact hS.2.2 q h
    · exact hFc _ (hL q h)⟩ T' rfl X'
  exact ⟨t2, stp t2 a1, b1⟩
end ZI
set_option maxHeartbeats 4000000 in
set_option maxRecDepth 100000 in
theorem c_X0_init (l : Launch) (D : va_G) (cI cZ : ClassId) (b : Nat) : zMI l yX0_init wsX0_init 1 12 7 147 b [(cI, .int), (cZ, .boolean)] D [(b, .inr (0, [.null, .null, .null, .int 0, .null, .null, .null, .null, .int 0, .int 0, .int 0, .int 0, .int 0, .int 0]))] (fun hh => wX0 hh cI cZ x00) := by
  refine z_imet (cc := cX0_init) (maxL := 1) (by decide) rfl rfl (Nat.le_of_ble_eq_true rfl) ?_
  intro p e s m args below meth c A C hr hlocks hin
  have inl : ∀ w ∈ u_ws RX0 TX0 14, w ∈ wsX0_init := by decide +kernel
  refine z_sub (L' := [(0, .ref b)]) [0] rfl ?_
  refine z_aload_n C 0 dX0_init_0 rfl rfl ?_
  refine z_objInit C (by decide +kernel : Cond.methodLink RX0 3 Lib.objectInit ∈ wsX0_init) (by decide +kernel) (by decide +kernel) (Nat.le_of_ble_eq_true rfl) (Nat.le_of_ble_eq_true rfl) dX0_init_1 ?_
  refine z_aload_n C 0 dX0_init_4 rfl rfl ?_
  refine z_bipush (v := 9) C dX0_init_5 (by decide) ?_
  refine z_newi (N := 9) C 0 rfl (by decide +kernel : Cond.arrayClass .int ∈ wsX0_init) (by decide) (by decide) (by decide) (Nat.le_of_ble_eq_true rfl) (Nat.le_of_ble_eq_true rfl) dX0_init_7 (fun q1 => ?_)
  refine z_putq0 (ty := .array .int) (ws' := ([(b, .inr (0, [.ref q1, .null, .null, .int 0, .null, .null, .null, .null, .int 0, .int 0, .int 0, .int 0, .int 0, .int 0]))] ++ [(q1, .inl (cI, 9, .inl (fun _ => 0)))] : va_W)) C inl hin 0 0 (by decide) rfl rfl (by decide) (by decide) (by decide +kernel) rfl rfl rfl (by decide +kernel : Cond.fieldLink RX0 9 "SaltOrder" "luck" "[I" ∈ wsX0_init) dX0_init_9 ?_
  refine z_aload_n C 0 dX0_init_12 rfl rfl ?_
  refine z_bipush (v := 9) C dX0_init_13 (by decide) ?_
  refine z_newi (N := 9) C 0 rfl (by decide +kernel : Cond.arrayClass .int ∈ wsX0_init) (by decide) (by decide) (by decide) (Nat.le_of_ble_eq_true rfl) (Nat.le_of_ble_eq_true rfl) dX0_init_15 (fun q2 => ?_)
  refine z_putq0 (ty := .array .int) (ws' := ([(b, .inr (0, [.ref q1, .ref q2, .null, .int 0, .null, .null, .null, .null, .int 0, .int 0, .int 0, .int 0, .int 0, .int 0]))] ++ [(q1, .inl (cI, 9, .inl (fun _ => 0)))] ++ [(q2, .inl (cI, 9, .inl (fun _ => 0)))] : va_W)) C inl hin 0 1 (by decide) rfl rfl (by decide) (by decide) (by decide +kernel) rfl rfl rfl (by decide +kernel : Cond.fieldLink RX0 13 "SaltOrder" "arrears" "[I" ∈ wsX0_init) dX0_init_17 ?_
  refine z_aload_n C 0 dX0_init_20 rfl rfl ?_
  refine z_bipush (v := 9) C dX0_init_21 (by decide) ?_
  refine z_newi (N := 9) C 0 rfl (by decide +kernel : Cond.arrayClass .int ∈ wsX0_init) (by decide) (by decide) (by decide) (Nat.le_of_ble_eq_true rfl) (Nat.le_of_ble_eq_true rfl) dX0_init_23 (fun q3 => ?_)
  refine z_putq0 (ty := .array .int) (ws' := ([(b, .inr (0, [.ref q1, .ref q2, .ref q3, .int 0, .null, .null, .null, .null, .int 0, .int 0, .int 0, .int 0, .int 0, .int 0]))] ++ [(q1, .inl (cI, 9, .inl (fun _ => 0)))] ++ [(q2, .inl (cI, 9, .inl (fun _ => 0)))] ++ [(q3, .inl (cI, 9, .inl (fun _ => 0)))] : va_W)) C inl hin 0 2 (by decide) rfl rfl (by decide) (by decide) (by decide +kernel) rfl rfl rfl (by decide +kernel : Cond.fieldLink RX0 16 "SaltOrder" "toEat" "[I" ∈ wsX0_init) dX0_init_25 ?_
  refine z_aload_n C 0 dX0_init_28 rfl rfl ?_
  refine z_bipush (v := 30) C dX0_init_29 (by decide) ?_
  refine z_newi (N := 30) C 0 rfl (by decide +kernel : Cond.arrayClass .int ∈ wsX0_init) (by decide) (by decide) (by decide) (Nat.le_of_ble_eq_true rfl) (Nat.le_of_ble_eq_true rfl) dX0_init_31 (fun q4 => ?_)
  refine z_putq0 (ty := .array .int) (ws' := ([(b, .inr (0, [.ref q1, .ref q2, .ref q3, .int 0, .ref q4, .null, .null, .null, .int 0, .int 0, .int 0, .int 0, .int 0, .int 0]))] ++ [(q1, .inl (cI, 9, .inl (fun _ => 0)))] ++ [(q2, .inl (cI, 9, .inl (fun _ => 0)))] ++ [(q3, .inl (cI, 9, .inl (fun _ => 0)))] ++ [(q4, .inl (cI, 30, .inl (fun _ => 0)))] : va_W)) C inl hin 0 4 (by decide) rfl rfl (by decide) (by decide) (by decide +kernel) rfl rfl rfl (by decide +kernel : Cond.fieldLink RX0 19 "SaltOrder" "throwers" "[I" ∈ wsX0_init) dX0_init_33 ?_
  refine z_aload_n C 0 dX0_init_36 rfl rfl ?_
  refine z_bipush (v := 30) C dX0_init_37 (by decide) ?_
  refine z_newz (N := 30) C 1 rfl (by decide +kernel : Cond.arrayClass .boolean ∈ wsX0_init) (by decide) (by decide) (by decide) (Nat.le_of_ble_eq_true rfl) (Nat.le_of_ble_eq_true rfl) dX0_init_39 (fun q5 => ?_)
  refine z_putq0 (ty := .array .boolean) (ws' := ([(b, .inr (0, [.ref q1, .ref q2, .ref q3, .int 0, .ref q4, .ref q5, .null, .null, .int 0, .int 0, .int 0, .int 0, .int 0, .int 0]))] ++ [(q1, .inl (cI, 9, .inl (fun _ => 0)))] ++ [(q2, .inl (cI, 9, .inl (fun _ => 0)))] ++ [(q3, .inl (cI, 9, .inl (fun _ => 0)))] ++ [(q4, .inl (cI, 30, .inl (fun _ => 0)))] ++ [(q5, .inl (cZ, 30, .inl (fun _ => 0)))] : va_W)) C inl hin 0 5 (by decide) rfl rfl (by decide) (by decide) (by decide +kernel) rfl rfl rfl (by decide +kernel : Cond.fieldLink RX0 22 "SaltOrder" "lefts" "[Z" ∈ wsX0_init) dX0_init_41 ?_
  refine z_aload_n C 0 dX0_init_44 rfl rfl ?_
  refine z_bipush (v := 30) C dX0_init_45 (by decide) ?_
  refine z_newi (N := 30) C 0 rfl (by decide +kernel : Cond.arrayClass .int ∈ wsX0_init) (by decide) (by decide) (by decide) (Nat.le_of_ble_eq_true rfl) (Nat.le_of_ble_eq_true rfl) dX0_init_47 (fun q6 => ?_)
  refine z_putq0 (ty := .array .int) (ws' := ([(b, .inr (0, [.ref q1, .ref q2, .ref q3, .int 0, .ref q4, .ref q5, .ref q6, .null, .int 0, .int 0, .int 0, .int 0, .int 0, .int 0]))] ++ [(q1, .inl (cI, 9, .inl (fun _ => 0)))] ++ [(q2, .inl (cI, 9, .inl (fun _ => 0)))] ++ [(q3, .inl (cI, 9, .inl (fun _ => 0)))] ++ [(q4, .inl (cI, 30, .inl (fun _ => 0)))] ++ [(q5, .inl (cZ, 30, .inl (fun _ => 0)))] ++ [(q6, .inl (cI, 30, .inl (fun _ => 0)))] : va_W)) C inl hin 0 6 (by decide) rfl rfl (by decide) (by decide) (by decide +kernel) rfl rfl rfl (by decide +kernel : Cond.fieldLink RX0 26 "SaltOrder" "thrown" "[I" ∈ wsX0_init) dX0_init_49 ?_
  refine z_aload_n C 0 dX0_init_52 rfl rfl ?_
  refine z_bipush (v := 30) C dX0_init_53 (by decide) ?_
  refine z_newi (N := 30) C 0 rfl (by decide +kernel : Cond.arrayClass .int ∈ wsX0_init) (by decide) (by decide) (by decide) (Nat.le_of_ble_eq_true rfl) (Nat.le_of_ble_eq_true rfl) dX0_init_55 (fun q7 => ?_)
  refine z_putq0 (ty := .array .int) (ws' := ([(b, .inr (0, [.ref q1, .ref q2, .ref q3, .int 0, .ref q4, .ref q5, .ref q6, .ref q7, .int 0, .int 0, .int 0, .int 0, .int 0, .int 0]))] ++ [(q1, .inl (cI, 9, .inl (fun _ => 0)))] ++ [(q2, .inl (cI, 9, .inl (fun _ => 0)))] ++ [(q3, .inl (cI, 9, .inl (fun _ => 0)))] ++ [(q4, .inl (cI, 30, .inl (fun _ => 0)))] ++ [(q5, .inl (cZ, 30, .inl (fun _ => 0)))] ++ [(q6, .inl (cI, 30, .inl (fun _ => 0)))] ++ [(q7, .inl (cI, 30, .inl (fun _ => 0)))] : va_W)) C inl hin 0 7 (by decide) rfl rfl (by decide) (by decide) (by decide +kernel) rfl rfl rfl (by decide +kernel : Cond.fieldLink RX0 29 "SaltOrder" "excesses" "[I" ∈ wsX0_init) dX0_init_57 ?_
  refine z_aload_n C 0 dX0_init_60 rfl rfl ?_
  refine z_iconst (v := 0) C dX0_init_61 (by decide) ?_
  refine z_put0 (ws' := ([(b, .inr (0, [.ref q1, .ref q2, .ref q3, .int 0, .ref q4, .ref q5, .ref q6, .ref q7, .int 0, .int 0, .int 0, .int 0, .int 0, .int 0]))] ++ [(q1, .inl (cI, 9, .inl (fun _ => 0)))] ++ [(q2, .inl (cI, 9, .inl (fun _ => 0)))] ++ [(q3, .inl (cI, 9, .inl (fun _ => 0)))] ++ [(q4, .inl (cI, 30, .inl (fun _ => 0)))] ++ [(q5, .inl (cZ, 30, .inl (fun _ => 0)))] ++ [(q6, .inl (cI, 30, .inl (fun _ => 0)))] ++ [(q7, .inl (cI, 30, .inl (fun _ => 0)))] : va_W)) C inl 0 3 (by decide) rfl rfl (by decide) rfl (by decide +kernel : Cond.fieldLink RX0 32 "SaltOrder" "memberCount" "I" ∈ wsX0_init) dX0_init_62 ?_
  refine z_aload_n C 0 dX0_init_65 rfl rfl ?_
  refine z_iconst (v := 0) C dX0_init_66 (by decide) ?_
  refine z_put0 (ws' := ([(b, .inr (0, [.ref q1, .ref q2, .ref q3, .int 0, .ref q4, .ref q5, .ref q6, .ref q7, .int 0, .int 0, .int 0, .int 0, .int 0, .int 0]))] ++ [(q1, .inl (cI, 9, .inl (fun _ => 0)))] ++ [(q2, .inl (cI, 9, .inl (fun _ => 0)))] ++ [(q3, .inl (cI, 9, .inl (fun _ => 0)))] ++ [(q4, .inl (cI, 30, .inl (fun _ => 0)))] ++ [(q5, .inl (cZ, 30, .inl (fun _ => 0)))] ++ [(q6, .inl (cI, 30, .inl (fun _ => 0)))] ++ [(q7, .inl (cI, 30, .inl (fun _ => 0)))] : va_W)) C inl 0 8 (by decide) rfl rfl (by decide) rfl (by decide +kernel : Cond.fieldLink RX0 36 "SaltOrder" "throwCount" "I" ∈ wsX0_init) dX0_init_67 ?_
  refine z_aload_n C 0 dX0_init_70 rfl rfl ?_
  refine z_bipush (v := 100) C dX0_init_71 (by decide) ?_
  refine z_put0 (ws' := ([(b, .inr (0, [.ref q1, .ref q2, .ref q3, .int 0, .ref q4, .ref q5, .ref q6, .ref q7, .int 0, .int 100, .int 0, .int 0, .int 0, .int 0]))] ++ [(q1, .inl (cI, 9, .inl (fun _ => 0)))] ++ [(q2, .inl (cI, 9, .inl (fun _ => 0)))] ++ [(q3, .inl (cI, 9, .inl (fun _ => 0)))] ++ [(q4, .inl (cI, 30, .inl (fun _ => 0)))] ++ [(q5, .inl (cZ, 30, .inl (fun _ => 0)))] ++ [(q6, .inl (cI, 30, .inl (fun _ => 0)))] ++ [(q7, .inl (cI, 30, .inl (fun _ => 0)))] : va_W)) C inl 0 9 (by decide) rfl rfl (by decide) rfl (by decide +kernel : Cond.fieldLink RX0 39 "SaltOrder" "cellar" "I" ∈ wsX0_init) dX0_init_73 ?_
  refine z_aload_n C 0 dX0_init_76 rfl rfl ?_
  refine z_iconst (v := 0) C dX0_init_77 (by decide) ?_
  refine z_put0 (ws' := ([(b, .inr (0, [.ref q1, .ref q2, .ref q3, .int 0, .ref q4, .ref q5, .ref q6, .ref q7, .int 0, .int 100, .int 0, .int 0, .int 0, .int 0]))] ++ [(q1, .inl (cI, 9, .inl (fun _ => 0)))] ++ [(q2, .inl (cI, 9, .inl (fun _ => 0)))] ++ [(q3, .inl (cI, 9, .inl (fun _ => 0)))] ++ [(q4, .inl (cI, 30, .inl (fun _ => 0)))] ++ [(q5, .inl (cZ, 30, .inl (fun _ => 0)))] ++ [(q6, .inl (cI, 30, .inl (fun _ => 0)))] ++ [(q7, .inl (cI, 30, .inl (fun _ => 0)))] : va_W)) C inl 0 10 (by decide) rfl rfl (by decide) rfl (by decide +kernel : Cond.fieldLink RX0 42 "SaltOrder" "today" "I" ∈ wsX0_init) dX0_init_78 ?_
  refine z_aload_n C 0 dX0_init_81 rfl rfl ?_
  refine z_iconst (v := 0) C dX0_init_82 (by decide) ?_
  refine z_put0 (ws' := ([(b, .inr (0, [.ref q1, .ref q2, .ref q3, .int 0, .ref q4, .ref q5, .ref q6, .ref q7, .int 0, .int 100, .int 0, .int 0, .int 0, .int 0]))] ++ [(q1, .inl (cI, 9, .inl (fun _ => 0)))] ++ [(q2, .inl (cI, 9, .inl (fun _ => 0)))] ++ [(q3, .inl (cI, 9, .inl (fun _ => 0)))] ++ [(q4, .inl (cI, 30, .inl (fun _ => 0)))] ++ [(q5, .inl (cZ, 30, .inl (fun _ => 0)))] ++ [(q6, .inl (cI, 30, .inl (fun _ => 0)))] ++ [(q7, .inl (cI, 30, .inl (fun _ => 0)))] : va_W)) C inl 0 11 (by decide) rfl rfl (by decide) rfl (by decide +kernel : Cond.fieldLink RX0 45 "SaltOrder" "found" "I" ∈ wsX0_init) dX0_init_83 ?_
  exact z_ivret C (fun k => [b, q1, q2, q3, q4, q5, q6, q7].getD k 0) rfl hr hlocks (Nat.le_of_ble_eq_true rfl) (Nat.le_of_ble_eq_true rfl) dX0_init_86 rfl
