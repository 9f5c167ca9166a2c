/-! arrays of arrays, worlds of any length, calls that may make cells -/
/-- the class int[][] is there, over the class int[] -/
def zAA (U : State) : Prop := (Cond.arrayOver (.array .int)).before #[] U = true
theorem zAA.of {A : Array Value} {U : State} (h : (Cond.arrayOver (.array .int)).before A U = true) : zAA U := h
theorem zAA.use {A : Array Value} {U : State} (h : zAA U) : (Cond.arrayOver (.array .int)).before A U = true := h
theorem zAA.moved {u U : State} (hvm : u.vm.Alike U.vm) (h : zAA u) : zAA U := by
  obtain ⟨comp, c, k, h1, h2, h3, h4, h5⟩ := arrayOverA_spec h
  obtain ⟨k', hk', he⟩ := hvm.2.2 _ _ h3
  have hi : (U.vm.classes.findIdx? fun (x : Class) => match x.kind with | .array component _ => component == comp | _ => false) = some c := by
    rw [hvm.findIdx?_eq _ (fun _ => rfl)]
    exact h2
  have hkind : k'.kind = .array comp (.array .int) := by rw [he]; exact h4
  have f1 : U.vm.findClass (FieldType.array .int).toString = some comp := by rw [hvm.findClass]; exact h1
  have f2 : U.vm.findClass ("[" ++ (FieldType.array .int).toString) = some c := by rw [hvm.findClass]; exact h5
  unfold zAA Cond.before Cond.holds
  simp only [Cond.value]
  rw [f1, Option.bind_some]
  refine (congrArg (fun o : Option Nat => (o.bind (fun c => (U.vm.classes[c]?).map fun (k : Class) => match k.kind with | .array _ ty => decide (ty = FieldType.array .int) && decide (U.vm.findClass ("[" ++ (FieldType.array .int).toString) = some c) | _ => false) == some true)) hi).trans ?_
  simp [hk', hkind, f2]
theorem zAA.facts {U : State} {D : va_G} {tys : List (ClassId × FieldType)} {cI cP : ClassId} {t0 t1 : Nat} (h : zAA U) (hK : va_K D vwCl tys U) (hI : tys[t0]? = some (cI, .int)) (hQ : tys[t1]? = some (cP, .array .int)) : ∃ kA kI : Class, U.vm.classes[cP]? = some kA ∧ kA.kind = .array cI (.array .int) ∧ U.vm.classes[cI]? = some kI ∧ U.vm.assignable cI cI = true := by
  obtain ⟨comp, c, k, h1, h2, h3, h4, h5⟩ := arrayOverA_spec h
  have e1 : U.vm.findClass ("[" ++ (FieldType.array .int).toString) = some cP := (hK.2 t1 _ hQ).2
  have e2 : U.vm.findClass ("[" ++ (FieldType.int).toString) = some cI := (hK.2 t0 _ hI).2
  have h1b : U.vm.findClass ("[" ++ (FieldType.int).toString) = some comp := h1
  cases h5.symm.trans e1
  cases h1b.symm.trans e2
  obtain ⟨kI, hkI, -⟩ := Vm.findClass_spec e2
  refine ⟨k, kI, h3, h4, hkI, ?_⟩
  show Vm.assignableAux U.vm (255 + 1) cI cI = true
  unfold Vm.assignableAux
  rw [beq_self_eq_true]
  rfl
/-! places in two lists, one behind the other -/
theorem z_apl {a b : va_W} {k : Nat} {q : Nat × va_E} (h : a[k]? = some q) : (a ++ b)[k]? = some q := by
  have hk : k < a.length := (List.getElem?_eq_some_iff.mp h).1
  rw [List.getElem?_append_left hk]; exact h
theorem z_apr {a b : va_W} {k : Nat} {q : Nat × va_E} (h : b[k]? = some q) : (a ++ b)[a.length + k]? = some q := by
  rw [List.getElem?_append_right (by omega), Nat.add_sub_cancel_left]; exact h
theorem z_apc {a b : va_W} {k : Nat} {q : Nat × va_E} (h : (a ++ b)[k]? = some q) : a[k]? = some q ∨ ∃ j, k = a.length + j ∧ b[j]? = some q := by
  rcases Nat.lt_or_ge k a.length with hk | hk
  · rw [List.getElem?_append_left hk] at h; exact Or.inl h
  · rw [List.getElem?_append_right hk] at h; exact Or.inr ⟨k - a.length, by omega, h⟩
theorem z_stl {a b : va_W} {k : Nat} {q y : Nat × va_E} (h : a[k]? = some q) : (a ++ b).set k y = a.set k y ++ b := List.set_append_left _ _ (List.getElem?_eq_some_iff.mp h).1
theorem z_str {a b : va_W} {k : Nat} {y : Nat × va_E} : (a ++ b).set (a.length + k) y = a ++ b.set k y := by
  rw [List.set_append_right _ _ (by omega), Nat.add_sub_cancel_left]
theorem z_Dl {A : Nat → Prop} {a b : va_W} (h : va_D A (a ++ b)) : va_D A a := ⟨fun i j x y hi hj e => h.1 i j x y (z_apl hi) (z_apl hj) e, fun k q hk => h.2 k q (z_apl hk)⟩
theorem z_Dr {A : Nat → Prop} {a b : va_W} (h : va_D A (a ++ b)) : va_D A b := ⟨fun i j x y hi hj e => by have := h.1 _ _ x y (z_apr hi) (z_apr hj) e; omega, fun k q hk => h.2 _ q (z_apr hk)⟩
theorem z_Dx {A : Nat → Prop} {a b : va_W} (h : va_D A (a ++ b)) {i j : Nat} {x y : Nat × va_E} (hi : a[i]? = some x) (hj : b[j]? = some y) : x.1 ≠ y.1 := fun e => by
  have h1 := h.1 _ _ x y (z_apl hi) (z_apr hj) e
  have h2 := (List.getElem?_eq_some_iff.mp hi).1
  omega
theorem z_Pl {D : va_G} {a b : va_W} {H : Heap} (h : va_P D vwCl (a ++ b) H) : va_P D vwCl a H := fun k q hk => h k q (z_apl hk)
theorem z_Pr {D : va_G} {a b : va_W} {H : Heap} (h : va_P D vwCl (a ++ b) H) : va_P D vwCl b H := fun _ q hk => h _ q (z_apr hk)
/-- a callee's new world beside what it could not reach -/
theorem z_joinX {A0 : Nat → Prop} {D : va_G} {w1 wc w2 wn : va_W} {H H1 : Heap} (hP : va_P D vwCl ((w1 ++ wc) ++ w2) H) (hD : va_D A0 ((w1 ++ wc) ++ w2)) (hk : ∀ q : Nat, q < H.size → ¬ va_A wc H.size q → H1[q]? = H[q]?) (hF : ∀ q, va_A wc H.size q → A0 q) (hP1 : va_P D vwCl wn H1) (hD1 : va_D (va_A wc H.size) wn) : va_P D vwCl ((w1 ++ wn) ++ w2) H1 ∧ va_D A0 ((w1 ++ wn) ++ w2) := by
  have x1 : ∀ (i j : Nat) (x y : Nat × va_E), w1[i]? = some x → wn[j]? = some y → x.1 ≠ y.1 := by
    intro i j x y hi hj exy
    rcases hD1.2 j y hj with ⟨k, e, h⟩ | h
    · exact z_Dx (z_Dl hD) hi h exy
    · have := (hP i x (z_apl (z_apl hi))).lt
      omega
  have x2 : ∀ (i j : Nat) (x y : Nat × va_E), wn[i]? = some x → w2[j]? = some y → x.1 ≠ y.1 := by
    intro i j x y hi hj exy
    rcases hD1.2 i x hi with ⟨k, e, h⟩ | h
    · exact z_Dx hD (z_apr h) hj exy
    · have := (hP _ y (z_apr hj)).lt
      omega
  have k1 : ∀ (k : Nat) (q : Nat × va_E), w1[k]? = some q → H1[q.1]? = H[q.1]? := by
    intro k q hq
    have hlt := (hP k q (z_apl (z_apl hq))).lt
    refine hk q.1 hlt (fun hA => ?_)
    rcases hA with ⟨j, e, h⟩ | h
    · exact z_Dx (z_Dl hD) hq h rfl
    · omega
  have k2 : ∀ (k : Nat) (q : Nat × va_E), w2[k]? = some q → H1[q.1]? = H[q.1]? := by
    intro k q hq
    have hlt := (hP _ q (z_apr hq)).lt
    refine hk q.1 hlt (fun hA => ?_)
    rcases hA with ⟨j, e, h⟩ | h
    · exact z_Dx hD (z_apr h) hq rfl
    · omega
  refine ⟨((z_Pl (z_Pl hP)).kept k1 |>.app hP1).app ((z_Pr hP).kept k2), va_D.app (va_D.app (z_Dl (z_Dl hD)) (hD1.weaken (fun _ q _ h => hF q.1 h)) x1) (z_Dr hD) ?_⟩
  intro i j x y hi hj
  rcases z_apc hi with h | ⟨k, -, h⟩
  · exact z_Dx hD (z_apl h) hj
  · exact x2 k j x y h hj
section ZX
variable {p : Program} {l : Launch} {e : Env} {R : Room} {s : State} {m : MethodId} {args : Array Value} {below : List Frame} {meth : Method} {c : Code}
variable {cc : ByteArray} {nL : Nat} {own : String} {Ts : List Cond} {D : va_G} {tys : List (ClassId × FieldType)} {A : Nat → Prop} {cells slots : Nat} {Q : State → Prop} {pc : Nat} {L : List (Nat × Value)} {st : List Value} {ws : va_W}
theorem z_swap {a b d : va_W} (k : zG p l e R s m args below meth c D nL A cells slots Q pc L st ((a ++ d) ++ b)) : zG p l e R s m args below meth c D nL A cells slots Q pc L st ((a ++ b) ++ d) := fun H locs ls hl hP hD hS => k H locs ls hl hP.swap hD.swap hS
theorem z_drop {a b : va_W} (k : zG p l e R s m args below meth c D nL A cells slots Q pc L st a) : zG p l e R s m args below meth c D nL A cells slots Q pc L st (a ++ b) := fun H locs ls hl hP hD hS => k H locs ls hl (z_Pl hP) (z_Dl hD) hS
theorem z_dropM {a b d : va_W} (k : zG p l e R s m args below meth c D nL A cells slots Q pc L st (a ++ d)) : zG p l e R s m args below meth c D nL A cells slots Q pc L st ((a ++ b) ++ d) := z_swap (z_drop k)
theorem z_st {st' : List Value} (h : st = st') (k : zG p l e R s m args below meth c D nL A cells slots Q pc L st' ws) : zG p l e R s m args below meth c D nL A cells slots Q pc L st ws := h ▸ k
theorem z_qset (C : zC p s m args c cc nL own Ts D tys A) (t0 : Nat) {cI : ClassId} (ht : tys[t0]? = some (cI, .int)) {X : va_W} {q n : Nat} {f : Nat → Int32} {i x : Int32} (j : Nat) (hi : i = nI j) (hj : j < n) (hn : n < 2 ^ 31) (hdg : decode cc pc = .ok (.iastore, 1)) (k : zG p l e R s m args below meth c D nL A cells slots Q (pc + 1) L st (X ++ [(q, .inl (cI, n, .inl (upd f j x)))])) : zG p l e R s m args below meth c D nL A cells slots Q pc L (.int x :: .int i :: .ref q :: st) (X ++ [(q, .inl (cI, n, .inl f))]) := z_iast C (X.length + 0) t0 (z_apr rfl) ht j hi hj hn (by rw [z_str]; rfl) hdg k
theorem z_tabIn (C : zC p s m args c cc nL own Ts D tys A) {dflt lo hi : Int} {offs : Array Int} {len : Nat} {x : Int32} {off : Int} {tgt : Nat} (hdg : decode cc pc = .ok (.tableswitch dflt lo hi offs, len)) (h1 : ¬ x.toInt < lo) (h2 : ¬ hi < x.toInt) (ho : offs[(x.toInt - lo).toNat]? = some off) (ht : (pc : Int) + off = (tgt : Int)) (kk : zG p l e R s m args below meth c D nL A cells slots Q tgt L st ws) : zG p l e R s m args below meth c D nL A cells slots Q (pc) L (.int x :: st) ws := fun H locs ls hl hP hD hS => lv_tableIn C.exec C.code hdg h1 h2 ho ht (kk H locs ls hl hP hD hS)
theorem z_tabOut (C : zC p s m args c cc nL own Ts D tys A) {dflt lo hi : Int} {offs : Array Int} {len : Nat} {x : Int32} {tgt : Nat} (hdg : decode cc pc = .ok (.tableswitch dflt lo hi offs, len)) (h : x.toInt < lo ∨ hi < x.toInt) (ht : (pc : Int) + dflt = (tgt : Int)) (kk : zG p l e R s m args below meth c D nL A cells slots Q tgt L st ws) : zG p l e R s m args below meth c D nL A cells slots Q (pc) L (.int x :: st) ws := fun H locs ls hl hP hD hS => lv_tableOut C.exec C.code hdg h ht (kk H locs ls hl hP hD hS)
theorem z_ishr (C : zC p s m args c cc nL own Ts D tys A) {x y : Int32} (hdg : decode cc pc = .ok (.ishr, 1)) (k : zG p l e R s m args below meth c D nL A cells slots Q (pc + 1) L (.int (x >>> (y &&& 31)) :: st) ws) : zG p l e R s m args below meth c D nL A cells slots Q pc L (.int y :: .int x :: st) ws := fun H locs ls hl hP hD hS => lv_ishr C.exec C.code hdg (k H locs ls hl hP hD hS)
theorem z_ldc (C : zC p s m args c cc nL own Ts D tys A) {index : Nat} {v : Int32} (hc : (Cond.constant own index v) ∈ Ts) (hdg : decode cc pc = .ok (.ldc index, 2)) (k : zG p l e R s m args below meth c D nL A cells slots Q (pc + 2) L (.int v :: st) ws) : zG p l e R s m args below meth c D nL A cells slots Q pc L st ws := fun H locs ls hl hP hD hS => lv_ldc C.exec C.code C.here (C.words _ hc) hdg (k H locs ls hl hP hD hS)
theorem z_nonnull (C : zC p s m args c cc nL own Ts D tys A) {x : Nat} {off : Int} {tgt : Nat} (hdg : decode cc pc = .ok (.ifnonnull off, 3)) (ht : (pc : Int) + off = (tgt : Int)) (k : zG p l e R s m args below meth c D nL A cells slots Q tgt L st ws) : zG p l e R s m args below meth c D nL A cells slots Q pc L (.ref x :: st) ws := fun H locs ls hl hP hD hS => lv_ifnonnull C.exec C.code hdg ht (k H locs ls hl hP hD hS)
theorem z_aald (C : zC p s m args c cc nL own Ts D tys A) {a : Nat} (q0 t0 : Nat) {cA : ClassId} {n b : Nat} {f : Nat → Option Nat} (ha : ws[q0]? = some (a, .inl (cA, n, .inr (.inr (.inr (.inr f)))))) (ht : tys[t0]? = some (cA, .array .int)) {i : Int32} (j : Nat) (hi : i = nI j) (hj : j < n) (hn : n < 2 ^ 31) (hb : f j = some b) (hdg : decode cc pc = .ok (.aaload, 1)) (kk : zG p l e R s m args below meth c D nL A cells slots Q (pc + 1) L (.ref b :: st) ws) : zG p l e R s m args below meth c D nL A cells slots Q pc L (.int i :: .ref a :: st) ws := by
  intro H locs ls hl hP hD hS
  exact W.aald (v := .ref b) (ty := .array .int) C.exec C.code (hP q0 _ ha) ((C.known.2 t0 _ ht).1 n (fun j => va_rf (f j))) rfl (fun q => by cases q) (by show ¬ (i < 0 ∨ (arrV _ _ _).slots.size ≤ _); rw [arrV_size]; exact (z_cl hi hj hn).1) (by show (arrV _ _ _).slots[_]? = _; rw [(z_cl hi hj hn).2, arrV_read _ _ hj, hb]; rfl) rfl rfl hdg (kk H locs ls hl hP hD hS)
theorem z_aast (C : zC p s m args c cc nL own Ts D tys A) (hAA : zAA s) {a : Nat} (q0 qk t0 t1 : Nat) {cA cI : ClassId} {n v nn : Nat} {f : Nat → Option Nat} {g : Nat → Int32} {ws' : va_W} (ha : ws[q0]? = some (a, .inl (cA, n, .inr (.inr (.inr (.inr f)))))) (htI : tys[t0]? = some (cI, .int)) (ht : tys[t1]? = some (cA, .array .int)) (hv : ws[qk]? = some (v, .inl (cI, nn, .inl g))) {i : Int32} (j : Nat) (hi : i = nI j) (hj : j < n) (hn : n < 2 ^ 31) (hws : ws.set q0 (a, .inl (cA, n, .inr (.inr (.inr (.inr (va_up f j (some v))))))) = ws') (hdg : decode cc pc = .ok (.aastore, 1)) (kk : zG p l e R s m args below meth c D nL A cells slots Q (pc + 1) L st ws') : zG p l e R s m args below meth c D nL A cells slots Q pc L (.ref v :: .int i :: .ref a :: st) ws := by
  intro H locs ls hl hP hD hS
  obtain ⟨kA, kI, f1, f2, f3, f4⟩ := hAA.facts C.known htI ht
  obtain ⟨hin, hcl⟩ := z_cl hi hj hn
  have hlt : i.toNatClampNeg < n := Nat.not_le.mp fun q => hin (Or.inr q)
  have h0 : ¬ i < 0 := fun q => hin (Or.inl q)
  refine W.aast (k := kA) (kv := kI) (kcomp := kI) (comp := cI) (t := .array .int) C.exec C.code (hP q0 _ ha) (fun q h => by cases h) (fun h => by cases h) f1 f2 rfl f3 ⟨h0, by show _ < (arrV _ _ _).slots.size; rw [arrV_size]; exact hlt⟩ (hP qk _ hv) (fun q h => by cases h) f3 f4 rfl rfl hdg fun H1 e z oq => ?_
  subst hws
  refine kk H1 _ ls hl (hP.set hD ha ?_ oq) (hD.set ha) (hS.put z oq (hD.2 q0 _ ha))
  show H1[a]? = some (vp_cell _ _)
  rw [e]
  rw [vp_cell_q, vp_cell_q, arrV_store, hcl]
  congr 2
  funext q
  by_cases hq : q = j
  · subst hq
    simp [updV, va_up, va_rf]
  · simp [updV, va_up, hq]
theorem z_anew (C : zC p s m args c cc nL own Ts D tys A) (hAA : zAA s) (t1 : Nat) {cP : ClassId} {index : Nat} {n : Int32} {N : Nat} (ht : tys[t1]? = some (cP, .array .int)) (hcl : Cond.classLink own index "[I" ∈ Ts) (hn : ¬ n < 0) (hN : n.toNatClampNeg = N) (hb : N ≤ 1000) (hcells : cells + 1 ≤ R.cells) (hslots : slots + N ≤ R.slots) (hdg : decode cc pc = .ok (.anewarray index, 3)) (kk : ∀ q : Nat, zG p l e R s m args below meth c D nL A (cells + 1) (slots + N) Q (pc + 3) L (.ref q :: st) (ws ++ [(q, .inl (cP, N, .inr (.inr (.inr (.inr (fun _ => none))))))])) : zG p l e R s m args below meth c D nL A cells slots Q pc L (.int n :: st) ws := by
  subst hN
  intro H locs ls hl hP hD hS
  refine W.anewA (t := .int) C.exec C.code C.here (C.words _ hcl) hAA.use rfl hdg rfl hn (by omega) hcells hslots fun cA kA comp f1 f2 f3 f4 => ?_
  have e : cA = cP := Option.some.inj (f1.symm.trans (C.known.2 t1 _ ht).2)
  subst e
  generalize hH1 : H.push ({ cls := cA, slots := Array.replicate n.toNatClampNeg .null, vm := .none } : Cell) = H1
  have z1 : H1.size = H.size + 1 := by rw [← hH1, Array.size_push]
  have e1 : H1[H.size]? = some (arrV cA n.toNatClampNeg (fun _ => .null)) := by rw [← hH1, Array.getElem?_push_size, ← arrV_new]
  have o1 : ∀ q : Nat, q < H.size → H1[q]? = H[q]? := fun q hq => by rw [← hH1, Array.getElem?_push, if_neg (Nat.ne_of_lt hq)]
  have hk : ∀ (k : Nat) (x : Nat × va_E), ws[k]? = some x → H1[x.1]? = H[x.1]? := fun k x hx => o1 x.1 ((hP k x hx).lt)
  refine kk H.size H1 locs ls hl ((hP.kept hk).app (fun k x hx => ?_)) (hD.push hP rfl (C.new _ hS.1)) ⟨Nat.le_trans hS.1 (by omega), fun x h1 h2 => (o1 x (Nat.lt_of_lt_of_le h1 hS.1)).trans (hS.2.1 x h1 h2), hS.2.2⟩
  have hz : k < 1 := (List.getElem?_eq_some_iff.mp hx).1
  rw [show k = 0 by omega] at hx
  cases hx
  show H1[H.size]? = some (vp_cell _ _)
  rw [vp_cell_q]
  exact e1
/-! contracts of methods that may make cells: the end's world is P x, for some x of a kind -/
def zQX {α : Type} (φ : α → Prop) (rv : α → Option Value) (P : α → va_W) (D : va_G) (A : Nat → Prop) : Array Value → State → Outcome → State → Prop := fun _ st oc t => (∃ x : α, φ x ∧ oc = .returned (rv x) ∧ va_P D vwCl (P x) t.heap ∧ va_D A (P x)) ∧ va_F A st t
def zMX {α : Type} (l : Launch) (y : MethodName) (wd : List Cond) (fr lo mc ms : Nat) (av : List Value) (tys : List (ClassId × FieldType)) (D : va_G) (w : va_W) (E : State → Prop) (φ : α → Prop) (rv : α → Option Value) (P : α → va_W) : Prop :=
  ∀ sz : Nat, Met l y wd ({ frames := fr, cells := mc, slots := ms, locals := lo } : Room) (va_Pc av (fun U => zP D tys w sz U ∧ E U)) (zQX φ rv P D (va_A w sz)) mc ms (va_A w sz)
theorem z_metX {α : Type} {y : MethodName} {wd wd' : List Cond} {fr lo mc ms : Nat} {av : List Value} {w : va_W} {E : State → Prop} {φ : α → Prop} {rv : α → Option Value} {P : α → va_W} {maxL : Nat} {ret : Option FieldType} (hy : plainName y.cls = true) (hw : wd = Cond.code y cc maxL ret :: wd') (hlen : (lg_sl av).length ≤ maxL)
    (body : ∀ (p : Program) (e : Env) (s : State) (m : MethodId) (args : Array Value) (below : List Frame) (meth : Method) (c : Code) (A : Nat → Prop), A = va_A w s.heap.size → E s → zC p s m args c cc maxL y.cls wd D tys A → meth.sig.returnType = ret → meth.locks = false →
      zG p l e ({ frames := fr, cells := mc, slots := ms, locals := lo } : Room) s m args below meth c D maxL A 0 0 (MQ below (zQX φ rv P D A) args s mc ms A) 0 (lv_args 0 av) [] w) : zMX l y wd fr lo mc ms av tys D w E φ rv P := by
  intro sz
  refine Met.ofW (cc := cc) (maxL := maxL) (ret := ret) hy hw ?_
  intro p e s m args below meth c s₁ B hml hv
  obtain ⟨rfl, ⟨hsz, hP, hK, hD0⟩, hE⟩ := hv
  have hts := atoms_spec (ws := wd) B.pre
  have hown : s.vm.findClass y.cls = some m.cls := findClass_of_methodNamed B.named
  subst hsz
  have hD := hD0.self (sz := s.heap.size)
  have hl := lv_entry av (n := maxL) hlen
  rw [lg_entry_eq]
  exact body p e s m _ below meth c (va_A w s.heap.size) rfl hE ⟨⟨B.exec, B.bytes, hml, hown, hts⟩, hK, fun q h => Or.inr h⟩ B.returns B.notSynchronized s.heap [] _ hl hP hD va_S.rf
section ZXR
variable {α : Type} {φ : α → Prop} {rv : α → Option Value} {P : α → va_W}
theorem z_iretX (C : zC p s m args c cc nL own Ts D tys A) (x : α) (hφ : φ x) {v : Int32} {mc ms : Nat} (hr : meth.sig.returnType = some .int) (hlocks : meth.locks = false) (hc : cells ≤ mc) (hs : slots ≤ ms) (hdg : decode cc pc = .ok (.ireturn, 1)) (e1 : some (Value.int v) = rv x) (e2 : ws = P x) : zG p l e R s m args below meth c D nL A cells slots (MQ below (zQX φ rv P D A) args s mc ms A) pc L ([.int v]) ws := by
  subst e2
  intro H locs ls hl hP hD hS
  exact W.widen hc hs (W.iret C.exec C.code hr (fun t ht hW => ⟨⟨x, hφ, by rw [← e1], by rw [ht]; exact hP, hD⟩, hS.F ht⟩) hS.2.2 hdg hlocks)
theorem z_zretX (C : zC p s m args c cc nL own Ts D tys A) (x : α) (hφ : φ x) {v : Int32} {mc ms : Nat} (hr : meth.sig.returnType = some .boolean) (hlocks : meth.locks = false) (hc : cells ≤ mc) (hs : slots ≤ ms) (hv : v = 0 ∨ v = 1) (hdg : decode cc pc = .ok (.ireturn, 1)) (e1 : some (Value.int v) = rv x) (e2 : ws = P x) : zG p l e R s m args below meth c D nL A cells slots (MQ below (zQX φ rv P D A) args s mc ms A) pc L ([.int v]) ws := by
  subst e2
  intro H locs ls hl hP hD hS
  exact W.widen hc hs (W.zret C.exec C.code hr (by rcases hv with h | h <;> rw [h] <;> rfl) (fun t ht hW => ⟨⟨x, hφ, by rw [← e1], by rw [ht]; exact hP, hD⟩, hS.F ht⟩) hS.2.2 hdg hlocks)
theorem z_vretX (C : zC p s m args c cc nL own Ts D tys A) (x : α) (hφ : φ x) {mc ms : Nat} (hr : meth.sig.returnType = none) (hlocks : meth.locks = false) (hc : cells ≤ mc) (hs : slots ≤ ms) (hdg : decode cc pc = .ok (.return_, 1)) (e1 : none = rv x) (e2 : ws = P x) : zG p l e R s m args below meth c D nL A cells slots (MQ below (zQX φ rv P D A) args s mc ms A) pc L ([]) ws := by
  subst e2
  intro H locs ls hl hP hD hS
  exact W.widen hc hs (W.vret C.exec C.code hr (fun t ht hW => ⟨⟨x, hφ, by rw [← e1], by rw [ht]; exact hP, hD⟩, hS.F ht⟩) hS.2.2 hdg hlocks)
theorem z_aretX (C : zC p s m args c cc nL own Ts D tys A) (x : α) (hφ : φ x) {v : Nat} {mc ms : Nat} {rt : FieldType} (hr : meth.sig.returnType = some rt) (hrt : (∃ n, rt = .object n) ∨ ∃ t, rt = .array t) (hlocks : meth.locks = false) (hc : cells ≤ mc) (hs : slots ≤ ms) (hdg : decode cc pc = .ok (.areturn, 1)) (e1 : some (Value.ref v) = rv x) (e2 : ws = P x) : zG p l e R s m args below meth c D nL A cells slots (MQ below (zQX φ rv P D A) args s mc ms A) pc L ([.ref v]) ws := by
  subst e2
  intro H locs ls hl hP hD hS
  exact W.widen hc hs (W.aret C.exec C.code hr hrt (Or.inr ⟨v, rfl⟩) (fun t ht hW => ⟨⟨x, hφ, by rw [← e1], by rw [ht]; exact hP, hD⟩, hS.F ht⟩) hS.2.2 hdg hlocks)
end ZXR
/-! calls -/
section ZXC
variable {α : Type} {φ : α → Prop} {rv : α → Option Value} {P : α → va_W} {y : MethodName} {bytes : ByteArray} {maxL index : Nat} {ret : Option FieldType} {ws2 : List Cond} {fr lo mc ms : Nat} {As rest : List Value} {E : State → Prop} {w w1 w2 : va_W} {tys2 : List (ClassId × FieldType)} {n : Nat}
theorem z_callVX (C : zC p s m args c cc nL own Ts D tys A) {b q0 ci : Nat} {C2 : String} {fs : List Value} {r : vw_C} (hM : zMX l y ws2 fr lo mc ms (.ref b :: As) tys2 D w E φ rv P) (hE : ∀ (H : Heap) (locs : List Loc) (U : State), va_S A s.heap H locs → U.heap = H → s.WarmedH U.vm → E U) (hEb : ∀ (U : State) (g : JFrame) (mk : MethodId) (a : Array Value), E U → E (U.calling g mk a)) (cw : CallW R s args own C2 index y bytes maxL ret ws2 ({ frames := fr, cells := mc, slots := ms, locals := lo } : Room) mc ms n) (hq : w[q0]? = some (b, .inr (ci, fs))) (hc : vwCl[ci]? = some r) (hr : r.1 = C2) (is : List Nat) (ht : is.filterMap (fun i => tys[i]?) = tys2) (hn : As.length = n) (hroom : (rest.map fun v => v.category).sum ≤ 8) (hf : cells + mc ≤ R.cells ∧ slots + ms ≤ R.slots) (hw : ws = (w1 ++ w) ++ w2) (hst : st = As.reverse ++ .ref b :: rest) (hdg : decode cc pc = .ok (.invokevirtual index, 3)) (kk : ∀ x : α, φ x → zG p l e R s m args below meth c D nL A (cells + mc) (slots + ms) Q (pc + 3) L ((rv x).toList ++ rest) ((w1 ++ P x) ++ w2)) : zG p l e R s m args below meth c D nL A cells slots Q pc L st ws := by
  intro H locs ls hl hP hD hS T hT X
  subst hw; subst hst
  have hPc : va_P D vwCl w H := z_Pr (z_Pl hP)
  have hDc : va_D (fun _ => True) w := (z_Dr (z_Dl hD)).weaken (fun _ _ _ _ => trivial)
  have hKc := C.known.sub is ht
  have hFc : ∀ q, va_A w H.size q → A q := by
    rintro q (⟨k, e, h⟩ | h)
    · exact (z_Dr (z_Dl hD)).2 _ (q, e) h
    · exact C.new q (Nat.le_trans hS.1 h)
  obtain ⟨v, st₀, t, T', L', h0, X', hL, e1, e2, ⟨⟨x, hφ, hv, hb, hDb⟩, hz, hkk⟩, stp⟩ := va_runV (As := As) (rest := rest) (g := F0 m pc ls (As.reverse ++ .ref b :: rest)) C.1 (hM H.size) cw ⟨fun a U g mk q => ⟨q.1, q.2.1.blind, hEb U g mk a q.2.2⟩, by rw [← hr]; exact va_recv hKc hPc hc hq, fun U hU hW => ⟨rfl, ⟨by rw [hU], by rw [hU]; exact hPc, va_K.moved hW.alike hKc, hDc⟩, hE H locs U hS hU hW⟩⟩ rfl hn hl.1 rfl (lv_room (pc := pc) (ls := ls) (rest := As.reverse ++ .ref b :: rest) hroom) hdg hf T hT X
  have hv : v = rv x := by injection hv
  subst hv
  rw [h0] at hz hkk
  obtain ⟨hP', hD'⟩ := z_joinX hP hD (H1 := T'.heap) (fun q h1 h2 => by rw [e1]; exact hkk q h1 h2) hFc (by rw [e1]; exact hb) hDb
  obtain ⟨t2, a1, b1⟩ := kk x hφ T'.heap (locs ++ L') ls hl hP' hD' ⟨Nat.le_trans hS.1 (by rw [e1]; exact hz), fun q h1 h2 => by rw [e1, hkk q (Nat.lt_of_lt_of_le h1 hS.1) (fun z => h2 (hFc q z))]; exact hS.2.1 q h1 h2, fun q hq => by
    rcases List.mem_append.mp hq with h | h
    · exact hS.2.2 q h
    · exact hFc _ (hL q h)⟩ T' rfl X'
  exact ⟨t2, stp t2 a1, b1⟩
theorem z_callSX (C : zC p s m args c cc nL own Ts D tys A) (hM : zMX l y ws2 fr lo mc ms As tys2 D w E φ rv P) (hE : ∀ (H : Heap) (locs : List Loc) (U : State), va_S A s.heap H locs → U.heap = H → s.WarmedH U.vm → E U) (hEb : ∀ (U : State) (g : JFrame) (mk : MethodId) (a : Array Value), E U → E (U.calling g mk a)) (cw : CallB R s args own index y bytes maxL ret ws2 ({ frames := fr, cells := mc, slots := ms, locals := lo } : Room) mc ms n ∧ (Cond.static y).before args s = true) (is : List Nat) (ht : is.filterMap (fun i => tys[i]?) = tys2) (hn : As.length = n) (hroom : (rest.map fun v => v.category).sum ≤ 8) (hf : cells + mc ≤ R.cells ∧ slots + ms ≤ R.slots) (hw : ws = (w1 ++ w) ++ w2) (hst : st = As.reverse ++ rest) (hdg : decode cc pc = .ok (.invokestatic index, 3)) (kk : ∀ x : α, φ x → zG p l e R s m args below meth c D nL A (cells + mc) (slots + ms) Q (pc + 3) L ((rv x).toList ++ rest) ((w1 ++ P x) ++ w2)) : zG p l e R s m args below meth c D nL A cells slots Q pc L st ws := by
  intro H locs ls hl hP hD hS T hT X
  subst hw; subst hst
  have hPc : va_P D vwCl w H := z_Pr (z_Pl hP)
  have hDc : va_D (fun _ => True) w := (z_Dr (z_Dl hD)).weaken (fun _ _ _ _ => trivial)
  have hKc := C.known.sub is ht
  have hFc : ∀ q, va_A w H.size q → A q := by
    rintro q (⟨k, e, h⟩ | h)
    · exact (z_Dr (z_Dl hD)).2 _ (q, e) h
    · exact C.new q (Nat.le_trans hS.1 h)
  obtain ⟨v, st₀, t, T', L', h0, X', hL, e1, e2, ⟨⟨x, hφ, hv, hb, hDb⟩, hz, hkk⟩, stp⟩ := va_runS (As := As) (rest := rest) (g := F0 m pc ls (As.reverse ++ rest)) C.1 (hM H.size) cw ⟨fun a U g mk q => ⟨q.1, q.2.1.blind, hEb U g mk a q.2.2⟩, fun U hU hW => ⟨rfl, ⟨by rw [hU], by rw [hU]; exact hPc, va_K.moved hW.alike hKc, hDc⟩, hE H locs U hS hU hW⟩⟩ rfl hn hl.1 rfl (lv_room (pc := pc) (ls := ls) (rest := As.reverse ++ rest) hroom) hdg hf T hT X
  have hv : v = rv x := by injection hv
  subst hv
  rw [h0] at hz hkk
  obtain ⟨hP', hD'⟩ := z_joinX hP hD (H1 := T'.heap) (fun q h1 h2 => by rw [e1]; exact hkk q h1 h2) hFc (by rw [e1]; exact hb) hDb
  obtain ⟨t2, a1, b1⟩ := kk x hφ T'.heap (locs ++ L') ls hl hP' hD' ⟨Nat.le_trans hS.1 (by rw [e1]; exact hz), fun q h1 h2 => by rw [e1, hkk q (Nat.lt_of_lt_of_le h1 hS.1) (fun z => h2 (hFc q z))]; exact hS.2.1 q h1 h2, fun q hq => by
    rcases List.mem_append.mp hq with h | h
    · exact hS.2.2 q h
    · exact hFc _ (hL q h)⟩ T' rfl X'
  exact ⟨t2, stp t2 a1, b1⟩
theorem z_callNX (C : zC p s m args c cc nL own Ts D tys A) {b : Nat} {host : String} (hM : zMX l y ws2 fr lo mc ms [.ref b] tys2 D w E φ rv P) (hE : ∀ (H : Heap) (locs : List Loc) (U : State), va_S A s.heap H locs → U.heap = H → s.WarmedH U.vm → E U) (hEb : ∀ (U : State) (g : JFrame) (mk : MethodId) (a : Array Value), E U → E (U.calling g mk a)) (cw : va_CN R s args own index y host bytes maxL none ws2 ({ frames := fr, cells := mc, slots := ms, locals := lo } : Room) mc ms 0 ∧ y.name = "<init>" ∧ (Cond.instanceMethod y).before args s = true) (is : List Nat) (ht : is.filterMap (fun i => tys[i]?) = tys2) (hroom : (rest.map fun v => v.category).sum ≤ 8) (hf : cells + mc ≤ R.cells ∧ slots + ms ≤ R.slots) (hw : ws = (w1 ++ w) ++ w2) (hst : st = .ref b :: rest) (hdg : decode cc pc = .ok (.invokespecial index, 3)) (kk : ∀ x : α, φ x → zG p l e R s m args below meth c D nL A (cells + mc) (slots + ms) Q (pc + 3) L ((rv x).toList ++ rest) ((w1 ++ P x) ++ w2)) : zG p l e R s m args below meth c D nL A cells slots Q pc L st ws := by
  intro H locs ls hl hP hD hS T hT X
  subst hw; subst hst
  have hPc : va_P D vwCl w H := z_Pr (z_Pl hP)
  have hDc : va_D (fun _ => True) w := (z_Dr (z_Dl hD)).weaken (fun _ _ _ _ => trivial)
  have hKc := C.known.sub is ht
  have hFc : ∀ q, va_A w H.size q → A q := by
    rintro q (⟨k, e, h⟩ | h)
    · exact (z_Dr (z_Dl hD)).2 _ (q, e) h
    · exact C.new q (Nat.le_trans hS.1 h)
  obtain ⟨v, st₀, t, T', L', h0, X', hL, e1, e2, ⟨⟨x, hφ, hv, hb, hDb⟩, hz, hkk⟩, stp⟩ := va_runIN (As := []) (rest := rest) (g := F0 m pc ls (.ref b :: rest)) C.1 (hM H.size) cw ⟨fun a U g mk q => ⟨q.1, q.2.1.blind, hEb U g mk a q.2.2⟩, fun U hU hW => ⟨rfl, ⟨by rw [hU], by rw [hU]; exact hPc, va_K.moved hW.alike hKc, hDc⟩, hE H locs U hS hU hW⟩⟩ rfl rfl hl.1 rfl (lv_room (pc := pc) (ls := ls) (rest := .ref b :: rest) hroom) hdg hf T hT X
  have hv : v = rv x := by injection hv
  subst hv
  rw [h0] at hz hkk
  obtain ⟨hP', hD'⟩ := z_joinX hP hD (H1 := T'.heap) (fun q h1 h2 => by rw [e1]; exact hkk q h1 h2) hFc (by rw [e1]; exact hb) hDb
  obtain ⟨t2, a1, b1⟩ := kk x hφ T'.heap (locs ++ L') ls hl hP' hD' ⟨Nat.le_trans hS.1 (by rw [e1]; exact hz), fun q h1 h2 => by rw [e1, hkk q (Nat.lt_of_lt_of_le h1 hS.1) (fun z => h2 (hFc q z))]; exact hS.2.1 q h1 h2, fun q hq => by
    rcases List.mem_append.mp hq with h | h
    · exact hS.2.2 q h
    · exact hFc _ (hL q h)⟩ T' rfl X'
  exact ⟨t2, stp t2 a1, b1⟩
end ZXC
theorem zAA.call {s : State} (h : zAA s) (A : Nat → Prop) : ∀ (H : Heap) (locs : List Loc) (U : State), va_S A s.heap H locs → U.heap = H → s.WarmedH U.vm → zAA U := fun _ _ _ _ _ hW => h.moved hW.alike
theorem zAA.blind : ∀ (U : State) (g : JFrame) (mk : MethodId) (a : Array Value), zAA U → zAA (U.calling g mk a) := fun U g mk a h => zAA.moved (u := U) (U := U.calling g mk a) (Vm.Alike.refl U.vm) h
end ZX
