section
-- ===== PART A: goes FIRST, ahead of the names: the tables' words, and 'selects' of the private methods out of them =====
/-- a private method of a class that the tables say can be made, by its rows of tables_1 -/
def lw_okq (q : MethodName × Nat) : Prop := (q.1.cls ≠ "java/lang/invoke/MethodHandle" ∧ q.1.cls ≠ "java/lang/invoke/VarHandle") ∧ Cond.instantiable q.1.cls q.2 ∈ tables_1 ∧ Cond.privateMethod q.1 ∈ tables_1 ∧ Cond.instanceMethod q.1 ∈ tables_1
theorem lw_p0 : lw_okq (⟨"java/lang/Throwable", "fillInStackTrace", "(I)Ljava/lang/Throwable;"⟩, 6) := ⟨⟨by decide +kernel, by decide +kernel⟩, List.mem_of_getElem? (i := 107) (by decide +kernel), List.mem_of_getElem? (i := 105) (by decide +kernel), List.mem_of_getElem? (i := 106) (by decide +kernel)⟩
theorem lw_p1 : lw_okq (⟨"SaltOrder", "passOneDay", "()I"⟩, 14) := ⟨⟨by decide +kernel, by decide +kernel⟩, List.mem_of_getElem? (i := 11) (by decide +kernel), List.mem_of_getElem? (i := 137) (by decide +kernel), List.mem_of_getElem? (i := 138) (by decide +kernel)⟩
theorem lw_p2 : lw_okq (⟨"SaltOrder", "debtOf", "(I)I"⟩, 14) := ⟨⟨by decide +kernel, by decide +kernel⟩, List.mem_of_getElem? (i := 11) (by decide +kernel), List.mem_of_getElem? (i := 152) (by decide +kernel), List.mem_of_getElem? (i := 153) (by decide +kernel)⟩
theorem lw_p3 : lw_okq (⟨"SaltOrder", "addArrears", "(II)V"⟩, 14) := ⟨⟨by decide +kernel, by decide +kernel⟩, List.mem_of_getElem? (i := 11) (by decide +kernel), List.mem_of_getElem? (i := 156) (by decide +kernel), List.mem_of_getElem? (i := 157) (by decide +kernel)⟩
theorem lw_p4 : lw_okq (⟨"SaltOrder", "eatOrFeelLuck", "(I)V"⟩, 14) := ⟨⟨by decide +kernel, by decide +kernel⟩, List.mem_of_getElem? (i := 11) (by decide +kernel), List.mem_of_getElem? (i := 163) (by decide +kernel), List.mem_of_getElem? (i := 164) (by decide +kernel)⟩
theorem lw_p5 : lw_okq (⟨"SaltOrder", "lessenArrears", "(II)V"⟩, 14) := ⟨⟨by decide +kernel, by decide +kernel⟩, List.mem_of_getElem? (i := 11) (by decide +kernel), List.mem_of_getElem? (i := 167) (by decide +kernel), List.mem_of_getElem? (i := 168) (by decide +kernel)⟩
theorem lw_p6 : lw_okq (⟨"SaltOrder", "lossOf", "(I)I"⟩, 14) := ⟨⟨by decide +kernel, by decide +kernel⟩, List.mem_of_getElem? (i := 11) (by decide +kernel), List.mem_of_getElem? (i := 174) (by decide +kernel), List.mem_of_getElem? (i := 175) (by decide +kernel)⟩
theorem lw_p7 : lw_okq (⟨"SaltOrder", "checkMember", "(I)V"⟩, 14) := ⟨⟨by decide +kernel, by decide +kernel⟩, List.mem_of_getElem? (i := 11) (by decide +kernel), List.mem_of_getElem? (i := 190) (by decide +kernel), List.mem_of_getElem? (i := 191) (by decide +kernel)⟩
theorem lw_p8 : lw_okq (⟨"SaltOrder", "checkEntry", "(I)V"⟩, 14) := ⟨⟨by decide +kernel, by decide +kernel⟩, List.mem_of_getElem? (i := 11) (by decide +kernel), List.mem_of_getElem? (i := 246) (by decide +kernel), List.mem_of_getElem? (i := 247) (by decide +kernel)⟩
theorem lw_p9 : lw_okq (⟨"SaltOrder", "checkCellar", "(I)V"⟩, 14) := ⟨⟨by decide +kernel, by decide +kernel⟩, List.mem_of_getElem? (i := 11) (by decide +kernel), List.mem_of_getElem? (i := 361) (by decide +kernel), List.mem_of_getElem? (i := 362) (by decide +kernel)⟩
theorem lw_p10 : lw_okq (⟨"SaltOrder", "checkLedgerHasRoom", "()V"⟩, 14) := ⟨⟨by decide +kernel, by decide +kernel⟩, List.mem_of_getElem? (i := 11) (by decide +kernel), List.mem_of_getElem? (i := 374) (by decide +kernel), List.mem_of_getElem? (i := 375) (by decide +kernel)⟩
theorem lw_p11 : lw_okq (⟨"SaltOrder", "leftExcess", "(II)I"⟩, 14) := ⟨⟨by decide +kernel, by decide +kernel⟩, List.mem_of_getElem? (i := 11) (by decide +kernel), List.mem_of_getElem? (i := 379) (by decide +kernel), List.mem_of_getElem? (i := 380) (by decide +kernel)⟩
theorem lw_p12 : lw_okq (⟨"SaltOrder", "writeThrow", "(IZII)V"⟩, 14) := ⟨⟨by decide +kernel, by decide +kernel⟩, List.mem_of_getElem? (i := 11) (by decide +kernel), List.mem_of_getElem? (i := 383) (by decide +kernel), List.mem_of_getElem? (i := 384) (by decide +kernel)⟩
theorem lw_p13 : lw_okq (⟨"SaltOrder", "addLumps", "(II)V"⟩, 14) := ⟨⟨by decide +kernel, by decide +kernel⟩, List.mem_of_getElem? (i := 11) (by decide +kernel), List.mem_of_getElem? (i := 396) (by decide +kernel), List.mem_of_getElem? (i := 397) (by decide +kernel)⟩
def lw_privs_1 : List (MethodName × Nat) := [(⟨"java/lang/Throwable", "fillInStackTrace", "(I)Ljava/lang/Throwable;"⟩, 6), (⟨"SaltOrder", "passOneDay", "()I"⟩, 14), (⟨"SaltOrder", "debtOf", "(I)I"⟩, 14), (⟨"SaltOrder", "addArrears", "(II)V"⟩, 14), (⟨"SaltOrder", "eatOrFeelLuck", "(I)V"⟩, 14), (⟨"SaltOrder", "lessenArrears", "(II)V"⟩, 14), (⟨"SaltOrder", "lossOf", "(I)I"⟩, 14), (⟨"SaltOrder", "checkMember", "(I)V"⟩, 14), (⟨"SaltOrder", "checkEntry", "(I)V"⟩, 14), (⟨"SaltOrder", "checkCellar", "(I)V"⟩, 14), (⟨"SaltOrder", "checkLedgerHasRoom", "()V"⟩, 14), (⟨"SaltOrder", "leftExcess", "(II)I"⟩, 14), (⟨"SaltOrder", "writeThrow", "(IZII)V"⟩, 14), (⟨"SaltOrder", "addLumps", "(II)V"⟩, 14)]
theorem lw_r1 : ∀ q ∈ lw_privs_1, lw_okq q := List.forall_mem_cons.mpr ⟨lw_p0, List.forall_mem_cons.mpr ⟨lw_p1, List.forall_mem_cons.mpr ⟨lw_p2, List.forall_mem_cons.mpr ⟨lw_p3, List.forall_mem_cons.mpr ⟨lw_p4, List.forall_mem_cons.mpr ⟨lw_p5, List.forall_mem_cons.mpr ⟨lw_p6, List.forall_mem_cons.mpr ⟨lw_p7, List.forall_mem_cons.mpr ⟨lw_p8, List.forall_mem_cons.mpr ⟨lw_p9, List.forall_mem_cons.mpr ⟨lw_p10, List.forall_mem_cons.mpr ⟨lw_p11, List.forall_mem_cons.mpr ⟨lw_p12, List.forall_mem_cons.mpr ⟨lw_p13, fun _ h => absurd h List.not_mem_nil⟩⟩⟩⟩⟩⟩⟩⟩⟩⟩⟩⟩⟩⟩
def lw_privs : List (MethodName × Nat) := lw_privs_1
def lw_tbl : List Cond := k2_sels lw_privs ++ tables_1
theorem lw_privs_ok : ∀ q ∈ lw_privs, lw_okq q := lw_r1
/-- the streams that the claim lets the run draw from -/
abbrev lw_cs : List Choice := [Jvm.Choice.named "NaN.bits"]
theorem lw_bits : nanBits ∈ lw_cs := by first | decide | exact List.mem_cons_self | simp [lw_cs, nanBits]
end
section
/-! ===== BEGIN words of one list among another's, by their places ===== -/
theorem goodIn_r {big : List Cond} (ws : List Cond) (ps : List Nat) (hp : ws = ps.filterMap (fun i => big[i]?)) (h : ws.all goodWord = true) : GoodIn big ws := by
  intro w hw
  have h1 := List.all_eq_true.mp h w hw
  rw [hp] at hw
  obtain ⟨i, -, hi⟩ := List.mem_filterMap.mp hw
  have hm : w ∈ big := by first | exact List.mem_of_getElem? hi | exact List.getElem?_mem hi
  exact ⟨hm, good_of_word h1⟩
theorem goodIn_app {big a b : List Cond} (ha : GoodIn big a) (hb : GoodIn big b) : GoodIn big (a ++ b) := fun w h => (List.mem_append.mp h).elim (ha w) (hb w)
theorem goodIn_ca {big a b : List Cond} {c : Cond} (ha : GoodIn big (c :: a)) (hb : GoodIn big b) : GoodIn big (c :: (a ++ b)) := fun w h => (List.mem_cons.mp h).elim (fun e => ha w (List.mem_cons.mpr (Or.inl e))) (fun h => (List.mem_append.mp h).elim (fun h => ha w (List.mem_cons.mpr (Or.inr h))) (hb w))
theorem goodIn_sub {big ws : List Cond} (hm : ∀ w ∈ ws, w ∈ big) (h : ws.all goodWord = true) : GoodIn big ws := fun w hw => ⟨hm w hw, good_of_word (List.all_eq_true.mp h w hw)⟩
/-! ===== END ===== -/

/-! ===== BEGIN exceptions that leave a method, and their catching by the caller (launches without stack traces) ===== -/
section VXA
/-! The laws vx_back, vx_callV, vx_callS, vx_callSW, vx_throw0, vx_throwS follow proofs of the library, with one case more: JvmDerived/Free/Laws.lean (Back.of_free), Shelf42/LK1.lean (callV, callS), Shelf/KitTraced.lean (throwNew0V, throwNewS). -/
/-- where a method has thrown q: the class by its name, the cell, what was written, the world -/
def vx_T (XC : String → State → State → Prop) (st : State) (q : Addr) (t : State) (mc ms : Nat) (free : Addr → Prop) : Prop :=
  ∃ (E : String) (ce : Cell) (L : List Loc), XC E st t ∧ t.heap[q]? = some ce ∧ ce.vm = .none ∧ st.vm.findClass E = some ce.cls ∧ st.WarmedH t.vm ∧ st.sameButNew ({ t with vm := st.vm } : State) L mc ms ∧ ∀ z ∈ L, free z.base
def vx_Q (Qc : Array Value → State → Outcome → State → Prop) (XC : String → State → State → Prop) (mc ms : Nat) (free : Addr → Prop) : Array Value → State → Outcome → State → Prop := fun a st o t =>
  (Qc a st o t ∧ ∃ L, FrameEnd st o t L mc ms ∧ ∀ q ∈ L, free q.base) ∨ ∃ q, o = .threw q ∧ vx_T XC st q t mc ms free
/-- a callee that returns or throws -/
def vx_Met (l : Launch) (y : MethodName) (ws : List Cond) (rm : Room) (Pc : Array Value → State → Prop) (Qc : Array Value → State → Outcome → State → Prop) (XC : String → State → State → Prop) (mc ms : Nat) (free : Addr → Prop) : Prop :=
  MetFree l y (headSpec ws rm) Pc (fun _ _ _ _ _ => True) (vx_Q Qc XC mc ms free)
def vx_Post (XC : String → State → State → Prop) (mc ms : Nat) (free : Addr → Prop) : Pt → Array Value → Addr → Pt → Prop := fun A a q B =>
  ∃ (g : JFrame) (mk : MethodId) (t : State) (L : List Loc) (E : String) (ce : Cell), B.U.heap = t.heap ∧ B.U.vm = t.vm ∧ XC E (A.U.calling g mk a) t ∧ t.heap[q]? = some ce ∧ ce.vm = .none ∧ A.U.vm.findClass E = some ce.cls ∧ B.locs = A.locs ++ L ∧ (∀ z ∈ L, free z.base) ∧ B.cells = A.cells + mc ∧ B.slots = A.slots + ms
def vx_Back (l : Launch) (R : Room) (p : Program) (e : Env) (below : List Frame) (s : State) (sargs : Array Value) (y : MethodName) (len W9 : Nat)
    (Pre : Pt → Array Value → Prop) (Post : Pt → Array Value → Option Value → Pt → Prop) (PostX : Pt → Array Value → Addr → Pt → Prop) : Prop :=
  ∀ (m : MethodId) (meth : Method) (c : Code) (A : Pt) (g : JFrame) (ig : Instr) (mk : MethodId) (a : Array Value),
    Stand p l e R s m sargs below meth c A.U A.locs A.cells A.slots → g.method = m → g.locals.size = c.maxLocals → decode c.code g.pc = .ok (ig, len) →
    2 * g.monitorRoom + (g.stack.map fun v => v.category).sum ≤ W9 → A.U.methodNamed? y = some mk → Pre A a →
    (∃ (v : Option Value) (B : Pt), Stand p l e R s m sargs below meth c B.U B.locs B.cells B.slots ∧ Post A a v B ∧
      Steps p.tables e below (doInvoke e (A.U.setTop g) [] mk a).1 (B.U.setTop { g with pc := g.pc + len, stack := v.toList ++ g.stack })) ∨
    (∃ (q : Addr) (B : Pt), Stand p l e R s m sargs below meth c B.U B.locs B.cells B.slots ∧ PostX A a q B ∧
      Steps p.tables e below (doInvoke e (A.U.setTop g) [] mk a).1 ((B.U.setTop g).pushFrame (.throwing q)))
section Payer
variable {l : Launch} {R : Room} {p : Program} {e : Env} {below : List Frame} {s : State} {sargs : Array Value} {y : MethodName} {len W9 : Nat}
theorem vx_back {ws : List Cond} {rm : Room} {Pc : Array Value → State → Prop} {Qc : Array Value → State → Outcome → State → Prop} {XC : String → State → State → Prop} {mc ms : Nat} {free : Addr → Prop} {bytes : ByteArray} {maxL : Nat} {ret : Option FieldType}
    (hM : vx_Met l y ws rm Pc Qc XC mc ms free) (hblind : FrameBlind Pc) (hrc : rm.cells = mc) (hrs : rm.slots = ms)
    (hframes : rm.frames + 1 ≤ R.frames) (hlocals : W9 + (maxL + 11) + rm.locals ≤ R.locals)
    (hws : ∀ w ∈ ws, ∀ a' U, s.WarmedH U.vm → w.before a' U = true) (hcode : Cond.code y bytes maxL ret ∈ ws) (hinit : ∀ a' U, s.WarmedH U.vm → (Cond.initialized y.cls).before a' U = true) :
    vx_Back l R p e below s sargs y len W9 (PreOf R mc ms Pc) (PostOf Qc mc ms free) (vx_Post XC mc ms free) := by
  intro m meth c A g ig mk a X hg hsize hdg hW hn hp
  have h1 : (headSpec ws rm).pre.before a A.U = true := atoms_intro fun w hw => hws w hw _ _ X.warmed
  have h2 : (Cond.code y bytes maxL ret).before a A.U = true := hws _ hcode _ _ X.warmed
  have h3 : (Cond.initialized y.cls).before a A.U = true := hinit _ _ X.warmed
  have h4 : A.cells + (headSpec ws rm).room.cells ≤ R.cells := by rw [show (headSpec ws rm).room.cells = mc from hrc]; exact hp.1
  have h5 : A.slots + (headSpec ws rm).room.slots ≤ R.slots := by rw [show (headSpec ws rm).room.slots = ms from hrs]; exact hp.2.1
  have hPc : Pc a (A.U.calling g mk a) := hblind _ _ _ _ hp.2.2
  obtain ⟨U, Ls, c0, s0⟩ := A
  dsimp only [Pt.U, Pt.locs, Pt.cells, Pt.slots] at h1 h2 h3 h4 h5 X hn hPc ⊢
  obtain ⟨methY, cY, hmY, hcY, -, hlY, -, -, -, -⟩ := Cond.code_spec hn h2
  obtain ⟨kY, hkY, -⟩ := className_of_methodNamed hn
  have hinitY : kY.init = .initialized := Cond.initialized_spec (findClass_of_methodNamed hn) hkY h3
  have h : At U g.method c below := by rw [hg]; exact X.here
  have hlocals9 : W9 + (maxL + 11) + (headSpec ws rm).room.locals ≤ R.locals := hlocals
  have happ : (headSpec ws rm).appliesLoose y e.platform (U.calling g mk a) = true :=
    Spec.appliesLoose_calling (g := g) h hdg hn hkY hinitY
      (X.room_calling (g := g) (R' := (headSpec ws rm).room) hsize hmY hcY hframes (by rw [hlY]; omega) h4 h5) h1
  obtain ⟨mid, hmid⟩ := h.above
  have hfr : (U.setTop g).frames = (.java g :: mid) ++ below := by rw [State.frames_setTop' g h.top, hmid]; rfl
  obtain ⟨o, s₂, hsteps, -, hend, hq⟩ := Steps.callFree hM p X.admits X.cas X.clock (acts := []) hfr happ hPc trivial
  have hq' : vx_Q Qc XC mc ms free a (U.calling g mk a) o s₂ := hq
  rw [State.frames_setTop' g h.top] at hend
  obtain ⟨g₀, hg0⟩ := Option.isSome_iff_exists.mp h.top
  obtain ⟨r, hr⟩ := State.topJava?_eq_some.mp hg0
  have hr' : (({ U with heap := s₂.heap, slotsUsed := s₂.slotsUsed } : State).setVm s₂.vm).frames = .java g₀ :: r := hr
  rcases hq' with ⟨hqc, L, hfe, hL⟩ | ⟨q, rfl, E, ce, L, hx, hce, hcv, hcl, hW₂, hsm, hL⟩
  · obtain ⟨⟨v, rfl⟩, hW₂, e2, q2, q3, q4, q5, q6⟩ := id hfe
    have e3 : s₂ = ({ (U.calling g mk a).setFrames s₂.frames with heap := s₂.heap, slotsUsed := s₂.slotsUsed } : State).setVm s₂.vm := by
      have : s₂ = ({ s₂ with vm := (U.calling g mk a).vm } : State).setVm s₂.vm := rfl
      rw [e2] at this
      exact this
    obtain ⟨c₂, i₂, len₂, hc₂, hd₂, hf₂⟩ := hend
    have hW' : U.WarmedH s₂.vm := hW₂
    have hcc : c₂ = c := by
      have h1 : s₂.code? g.method = U.code? g.method := by
        rw [State.code?_eq, State.code?_eq, hW'.alike.method?]
      exact Option.some.inj (hc₂.symm.trans (h1.trans h.code))
    subst hcc
    have hlen : len₂ = len := by rw [hdg] at hd₂; cases hd₂; rfl
    subst hlen
    have hs₂ : s₂ = (({ U with heap := s₂.heap, slotsUsed := s₂.slotsUsed } : State).setVm s₂.vm).setTop { g with pc := g.pc + len₂, stack := v.toList ++ g.stack } := by
      refine e3.trans ?_
      rw [hf₂, State.calling_eq h.top, State.setFrames_setFrames, State.setTop_of_frames _ hr', hr]
      rfl
    have hsame : U.sameButNew ({ U with heap := s₂.heap, slotsUsed := s₂.slotsUsed } : State) L mc ms := by
      refine ⟨?_, q2, q3, q4, q5, q6⟩
      obtain ⟨t, ht, -⟩ := State.frames_cons hr
      show ({ U with heap := s₂.heap, slotsUsed := s₂.slotsUsed } : State) = { U.setFrames U.frames with heap := s₂.heap, slotsUsed := s₂.slotsUsed }
      rw [State.setFrames_self ht]
    subst hg
    refine Or.inl ⟨v, ⟨(({ U with heap := s₂.heap, slotsUsed := s₂.slotsUsed } : State).setVm s₂.vm), Ls ++ L, c0 + mc, s0 + ms⟩,
      ⟨X.admits, X.cas, X.clock, X.frames, X.room, X.hears, X.method, X.code, (X.here.setHeapUsed s₂.heap s₂.slotsUsed).setVm hW'.alike, X.tail, State.WarmedH.trans X.warmed hW', X.limits, X.bytes, X.same.trans (hsame.setVm s.vm)⟩,
      ⟨g, mk, s₂, L, rfl, rfl, hqc, rfl, hL, rfl, rfl⟩, ?_⟩
    show Steps p.tables e below _ ((({ U with heap := s₂.heap, slotsUsed := s₂.slotsUsed } : State).setVm s₂.vm).setTop { g with pc := g.pc + len₂, stack := v.toList ++ g.stack })
    rw [← hs₂]
    exact hsteps
  · obtain ⟨e2, q2, q3, q4, q5, q6⟩ := id hsm
    have e3 : s₂ = ({ (U.calling g mk a).setFrames s₂.frames with heap := s₂.heap, slotsUsed := s₂.slotsUsed } : State).setVm s₂.vm := by
      have : s₂ = ({ s₂ with vm := (U.calling g mk a).vm } : State).setVm s₂.vm := rfl
      rw [e2] at this
      exact this
    have hf₂ : s₂.frames = .throwing q :: .java g :: U.frames.tail := hend
    have hW' : U.WarmedH s₂.vm := hW₂
    have hs₂ : s₂ = ((({ U with heap := s₂.heap, slotsUsed := s₂.slotsUsed } : State).setVm s₂.vm).setTop g).pushFrame (.throwing q) := by
      refine e3.trans ?_
      rw [hf₂, State.calling_eq h.top, State.setFrames_setFrames, State.pushFrame, State.frames_setTop _ hr', State.setTop_of_frames _ hr', State.setFrames_setFrames, hr]
      rfl
    have hsame : U.sameButNew ({ U with heap := s₂.heap, slotsUsed := s₂.slotsUsed } : State) L mc ms := by
      refine ⟨?_, q2, q3, q4, q5, q6⟩
      obtain ⟨t, ht, -⟩ := State.frames_cons hr
      show ({ U with heap := s₂.heap, slotsUsed := s₂.slotsUsed } : State) = { U.setFrames U.frames with heap := s₂.heap, slotsUsed := s₂.slotsUsed }
      rw [State.setFrames_self ht]
    subst hg
    refine Or.inr ⟨q, ⟨(({ U with heap := s₂.heap, slotsUsed := s₂.slotsUsed } : State).setVm s₂.vm), Ls ++ L, c0 + mc, s0 + ms⟩,
      ⟨X.admits, X.cas, X.clock, X.frames, X.room, X.hears, X.method, X.code, (X.here.setHeapUsed s₂.heap s₂.slotsUsed).setVm hW'.alike, X.tail, State.WarmedH.trans X.warmed hW', X.limits, X.bytes, X.same.trans (hsame.setVm s.vm)⟩,
      ⟨g, mk, s₂, L, E, ce, rfl, rfl, hx, hce, hcv, hcl, rfl, hL, rfl, rfl⟩, ?_⟩
    show Steps p.tables e below _ (((({ U with heap := s₂.heap, slotsUsed := s₂.slotsUsed } : State).setVm s₂.vm).setTop g).pushFrame (.throwing q))
    rw [← hs₂]
    exact hsteps
end Payer
section Calls
variable {p : Program} {l : Launch} {e : Env} {R : Room} {s : State} {m : MethodId} {args : Array Value} {below : List Frame} {meth : Method} {c : Code} {T : State} {locs : List Loc} {cells slots : Nat}
theorem vx_callV (X : Stand p l e R s m args below meth c T locs cells slots) (hexec : p.tables.exec = Jvm.exec) {own C : String} {index : Nat} {y : MethodName} {bytes : ByteArray} {maxL : Nat} {ret : Option FieldType}
    (hown : s.vm.findClass own = some m.cls) (hlink : (Cond.methodLink own index y).before args s = true) (hinst : (Cond.instanceMethod y).before args s = true) (hsel : (Cond.selects C y y).before args s = true)
    (hcode : (Cond.code y bytes maxL ret).before args s = true) (hy : y.cls ≠ "java/lang/invoke/MethodHandle" ∧ y.cls ≠ "java/lang/invoke/VarHandle")
    {W9 : Nat} {Pre : Pt → Array Value → Prop} {Post : Pt → Array Value → Option Value → Pt → Prop} {PostX : Pt → Array Value → Addr → Pt → Prop} (hK : vx_Back l R p e below s args y 3 W9 Pre Post PostX)
    {b : Addr} {cellB : Cell} (hcell : T.heap[b]? = some cellB) (hobj : cellB.vm.isStatics = false) (hcls : s.vm.findClass C = some cellB.cls)
    {g : JFrame} (hg : g.method = m) (hsize : g.locals.size = c.maxLocals) {argsL rest : List Value} (hlen : ∀ sig, parseMethodDescriptor y.desc = some sig → argsL.length = sig.parameters.length)
    (hstack : g.stack = argsL.reverse ++ .ref b :: rest) (hW : 2 * g.monitorRoom + (rest.map fun v => v.category).sum ≤ W9) (hdg : decode c.code g.pc = .ok (.invokevirtual index, 3))
    (hpre : ∀ vm₁, s.WarmedH vm₁ → Pre ⟨T.setVm vm₁, locs, cells, slots⟩ (Value.ref b :: argsL).toArray) :
    (∃ (v : Option Value) (vm₁ : Vm) (B : Pt), s.WarmedH vm₁ ∧ Stand p l e R s m args below meth c B.U B.locs B.cells B.slots ∧ Post ⟨T.setVm vm₁, locs, cells, slots⟩ (Value.ref b :: argsL).toArray v B ∧
      ∀ target, Steps p.tables e below (B.U.setTop { g with pc := g.pc + 3, stack := v.toList ++ rest }) target → Steps p.tables e below (T.setTop g) target) ∨
    (∃ (q : Addr) (vm₁ : Vm) (B : Pt), s.WarmedH vm₁ ∧ Stand p l e R s m args below meth c B.U B.locs B.cells B.slots ∧ PostX ⟨T.setVm vm₁, locs, cells, slots⟩ (Value.ref b :: argsL).toArray q B ∧
      Steps p.tables e below (T.setTop g) ((B.U.setTop { g with stack := rest }).pushFrame (.throwing q))) := by
  obtain ⟨mk, methM, hnamed, hmethM, hstM, habM⟩ := Cond.instanceMethod_spec hinst
  obtain ⟨methM', cM, hmethM', -, -, -, -, -, -, hsigM⟩ := Cond.code_spec hnamed hcode
  cases hmethM.symm.trans hmethM'
  obtain ⟨c2, r2, m2, q1, q2, q3, q4, kP, hkP, hkPi⟩ := Cond.selects_spec hsel
  cases hcls.symm.trans q1
  cases (State.methodFound?_of_named hnamed hy).symm.trans q2
  cases hnamed.symm.trans q3
  have hselP : selectMethod e.platform s.vm cellB.cls mk = .method mk := by rw [Launch.admits_selectMethod X.admits]; exact q4
  obtain ⟨vm₁, X₁, hstep₁⟩ := X.invokevirtual hexec hown hlink hnamed hmethM hstM hkP hkPi hy (a := b) (cell := cellB) hcell
    (fun z h => by rw [h] at hobj; cases hobj) hselP hmethM habM hkP hkPi (g := g) hg (argsL := argsL) (rest := rest) (hlen _ hsigM) hstack hdg
  rcases hK m meth c ⟨T.setVm vm₁, locs, cells, slots⟩ { g with stack := rest } (.invokevirtual index) mk (Value.ref b :: argsL).toArray X₁ hg hsize hdg hW (X₁.named hnamed) (hpre vm₁ X₁.warmed) with ⟨v, B, X', hpost, hsteps⟩ | ⟨q, B, X', hpost, hsteps⟩
  · exact Or.inl ⟨v, vm₁, B, X₁.warmed, X', hpost, fun target h => hstep₁ _ fun acts => by rw [doInvoke_state]; exact hsteps.trans h⟩
  · exact Or.inr ⟨q, vm₁, B, X₁.warmed, X', hpost, hstep₁ _ fun acts => by rw [doInvoke_state]; exact hsteps⟩
theorem vx_callS (X : Stand p l e R s m args below meth c T locs cells slots) (hexec : p.tables.exec = Jvm.exec) {own : String} {index : Nat} {y : MethodName} {bytes : ByteArray} {maxL : Nat} {ret : Option FieldType}
    (hown : s.vm.findClass own = some m.cls) (hlink : (Cond.methodLink own index y).before args s = true) (hstat : (Cond.static y).before args s = true) (hinit : (Cond.initialized y.cls).before args s = true)
    (hcode : (Cond.code y bytes maxL ret).before args s = true) (hy : y.cls ≠ "java/lang/invoke/MethodHandle" ∧ y.cls ≠ "java/lang/invoke/VarHandle")
    {W9 : Nat} {Pre : Pt → Array Value → Prop} {Post : Pt → Array Value → Option Value → Pt → Prop} {PostX : Pt → Array Value → Addr → Pt → Prop} (hK : vx_Back l R p e below s args y 3 W9 Pre Post PostX)
    {g : JFrame} (hg : g.method = m) (hsize : g.locals.size = c.maxLocals) {argsL rest : List Value} (hlen : ∀ sig, parseMethodDescriptor y.desc = some sig → argsL.length = sig.parameters.length)
    (hstack : g.stack = argsL.reverse ++ rest) (hW : 2 * g.monitorRoom + (rest.map fun v => v.category).sum ≤ W9) (hdg : decode c.code g.pc = .ok (.invokestatic index, 3))
    (hpre : ∀ vm₁, s.WarmedH vm₁ → Pre ⟨T.setVm vm₁, locs, cells, slots⟩ argsL.toArray) :
    (∃ (v : Option Value) (vm₁ : Vm) (B : Pt), s.WarmedH vm₁ ∧ Stand p l e R s m args below meth c B.U B.locs B.cells B.slots ∧ Post ⟨T.setVm vm₁, locs, cells, slots⟩ argsL.toArray v B ∧
      ∀ target, Steps p.tables e below (B.U.setTop { g with pc := g.pc + 3, stack := v.toList ++ rest }) target → Steps p.tables e below (T.setTop g) target) ∨
    (∃ (q : Addr) (vm₁ : Vm) (B : Pt), s.WarmedH vm₁ ∧ Stand p l e R s m args below meth c B.U B.locs B.cells B.slots ∧ PostX ⟨T.setVm vm₁, locs, cells, slots⟩ argsL.toArray q B ∧
      Steps p.tables e below (T.setTop g) ((B.U.setTop { g with stack := rest }).pushFrame (.throwing q))) := by
  obtain ⟨mk, hnamed⟩ := Cond.code_named hcode
  obtain ⟨methM, cM, hmethM, -, -, -, -, -, -, hsigM⟩ := Cond.code_spec hnamed hcode
  have hstatic : methM.isStatic = true := Cond.static_spec hnamed hmethM hstat
  obtain ⟨kP, hkP, -⟩ := className_of_methodNamed hnamed
  have hinitP : kP.init = .initialized := Cond.initialized_spec (findClass_of_methodNamed hnamed) hkP hinit
  obtain ⟨vm₁, X₁, hstep₁⟩ := X.invokestatic hexec hown hlink hnamed hmethM hstatic hkP hinitP hy (g := g) hg (argsL := argsL) (rest := rest) (hlen _ hsigM) hstack hdg
  rcases hK m meth c ⟨T.setVm vm₁, locs, cells, slots⟩ { g with stack := rest } (.invokestatic index) mk argsL.toArray X₁ hg hsize hdg hW (X₁.named hnamed) (hpre vm₁ X₁.warmed) with ⟨v, B, X', hpost, hsteps⟩ | ⟨q, B, X', hpost, hsteps⟩
  · exact Or.inl ⟨v, vm₁, B, X₁.warmed, X', hpost, fun target h => hstep₁ _ fun acts => by rw [doInvoke_state]; exact hsteps.trans h⟩
  · exact Or.inr ⟨q, vm₁, B, X₁.warmed, X', hpost, hstep₁ _ fun acts => by rw [doInvoke_state]; exact hsteps⟩
end Calls
theorem vx_cls {s : State} {T : State} {vm₁ : Vm} {E : String} {k : ClassId} (hW : s.WarmedH vm₁) (h : (T.setVm vm₁).vm.findClass E = some k) : s.vm.findClass E = some k := by
  have h1 : vm₁.findClass E = some k := h
  rw [hW.alike.findClass] at h1
  exact h1
/-- the method's frame g, with q thrown over it -/
def vx_W (p : Program) (l : Launch) (e : Env) (R : Room) (s : State) (m : MethodId) (args : Array Value) (below : List Frame) (meth : Method) (c : Code) (H : Heap) (locs : List Loc) (cells slots : Nat) (Q : State → Prop) (g : JFrame) (q : Addr) : Prop :=
  ∀ T : State, T.heap = H → Stand p l e R s m args below meth c T locs cells slots → ∃ t, Steps p.tables e below ((T.setTop g).pushFrame (.throwing q)) t ∧ Q t
def vx_Run (p : Program) (l : Launch) (e : Env) (R : Room) (s : State) (m : MethodId) (args : Array Value) (below : List Frame) (meth : Method) (c : Code) (H : Heap) (locs : List Loc) (cells slots mc ms : Nat) (g : JFrame) (rest : List Value) (Qa : State → Outcome → State → Prop) (XC : String → State → State → Prop) (free : Addr → Prop) : Prop :=
  ∀ T : State, T.heap = H → Stand p l e R s m args below meth c T locs cells slots →
    (∃ (v : Option Value) (st₀ t T' : State) (L : List Loc), st₀.heap = H ∧ Stand p l e R s m args below meth c T' (locs ++ L) (cells + mc) (slots + ms) ∧ (∀ q ∈ L, free q.base) ∧ T'.heap = t.heap ∧ T'.vm = t.vm ∧ Qa st₀ (.returned v) t ∧
      Goes p e below T g T' { g with pc := g.pc + 3, stack := v.toList ++ rest }) ∨
    (∃ (q : Addr) (st₀ t T' : State) (L : List Loc) (E : String) (ce : Cell), st₀.heap = H ∧ Stand p l e R s m args below meth c T' (locs ++ L) (cells + mc) (slots + ms) ∧ (∀ z ∈ L, free z.base) ∧ T'.heap = t.heap ∧ T'.vm = t.vm ∧ XC E st₀ t ∧ t.heap[q]? = some ce ∧ ce.vm = .none ∧ s.vm.findClass E = some ce.cls ∧
      Steps p.tables e below (T.setTop g) ((T'.setTop { g with stack := rest }).pushFrame (.throwing q)))
def vx_X {S : Type} (px : S → Prop) (B : String → S → State → Prop) (A : Nat → Prop) : String → State → State → Prop := fun E st t => ∃ u : S, px u ∧ B E u t ∧ va_F A st t
section Runs
variable {p : Program} {l : Launch} {e : Env} {R : Room} {s : State} {m : MethodId} {args : Array Value} {below : List Frame} {meth : Method} {c : Code} {H : Heap} {locs : List Loc} {cells slots : Nat}
variable {y : MethodName} {bytes cc : ByteArray} {maxL nL mc ms n index : Nat} {ret : Option FieldType} {ws : List Cond} {rm : Room} {Pc : Array Value → State → Prop} {Qc : Array Value → State → Outcome → State → Prop} {XC : String → State → State → Prop} {free : Addr → Prop} {Ts : List Cond} {own C : String} {b : Addr} {As rest : List Value} {g : JFrame}
theorem vx_callBack (cb : CallB R s args own index y bytes maxL ret ws rm mc ms n) (hM : vx_Met l y ws rm Pc Qc XC mc ms free) (hbl : FrameBlind Pc) : vx_Back l R p e below s args y 3 8 (PreOf R mc ms Pc) (PostOf Qc mc ms free) (vx_Post XC mc ms free) := by
  obtain ⟨hrc, hrs, hfr, hlo, hws, hcw, -, hini, -⟩ := cb
  exact vx_back (bytes := bytes) (maxL := maxL) (ret := ret) hM hbl hrc hrs hfr hlo hws hcw (fun a' U hW => word_at hW (Or.inl (by first | rfl | simp [Cond.onTables, Cond.keeps, Cond.steady])) hini)
theorem vx_runV (S : CallFix p m c cc nL s args Ts own) (hM : vx_Met l y ws rm Pc Qc XC mc ms free) (cw : CallW R s args own C index y bytes maxL ret ws rm mc ms n) (hp : PreV s H C b Pc As)
    (hg : g.method = m) (hn : As.length = n) (hsize : g.locals.size = nL) (hstack : g.stack = As.reverse ++ .ref b :: rest) (hW : 2 * g.monitorRoom + (rest.map fun v => v.category).sum ≤ 8) (hdg : decode cc g.pc = .ok (.invokevirtual index, 3)) (hf : cells + mc ≤ R.cells ∧ slots + ms ≤ R.slots) :
    vx_Run p l e R s m args below meth c H locs cells slots mc ms g rest (Qc (Value.ref b :: As).toArray) XC free := by
  have hK : vx_Back l R p e below s args y 3 8 (PreOf R mc ms Pc) (PostOf Qc mc ms free) (vx_Post XC mc ms free) := vx_callBack cw.1 hM hp.1
  obtain ⟨⟨-, -, -, -, -, -, hcode, -, hy, hlen, hl⟩, hin, hse⟩ := cw
  obtain ⟨hx, hb, hml, ho, -⟩ := S
  obtain ⟨-, ⟨cellB, hcB, hoB, hclB⟩, hPc⟩ := hp
  intro T hT X
  rcases vx_callV X hx (C := C) (bytes := bytes) (maxL := maxL) (ret := ret) ho hl hin hse hcode hy hK (by rw [hT]; exact hcB) hoB hclB hg (hsize.trans hml.symm) (argsL := As) (rest := rest) (fun sig h => hn.trans (hlen sig h)) hstack hW (by rw [hb]; exact hdg)
    (fun vm₁ hW₁ => ⟨hf.1, hf.2, hPc (T.setVm vm₁) hT hW₁⟩) with ⟨v, vm₁, ⟨U', l2, c2, s2⟩, hW₁, X', ⟨g', mk, t, L, e1, e2, hq, h1, hL, h2, h3⟩, st⟩ | ⟨q, vm₁, ⟨U', l2, c2, s2⟩, hW₁, X', ⟨g', mk, t, L, E, ce, e1, e2, hq, hce, hcv, hcl, h1, hL, h2, h3⟩, st⟩
  · dsimp only [Pt.U, Pt.locs, Pt.cells, Pt.slots] at X' e1 e2 h1 h2 h3 st
    subst h1; subst h2; subst h3
    exact Or.inl ⟨v, (T.setVm vm₁).calling g' mk (Value.ref b :: As).toArray, t, U', L, hT, X', hL, e1, e2, hq, st⟩
  · dsimp only [Pt.U, Pt.locs, Pt.cells, Pt.slots] at X' e1 e2 h1 h2 h3 st hcl
    subst h1; subst h2; subst h3
    exact Or.inr ⟨q, (T.setVm vm₁).calling g' mk (Value.ref b :: As).toArray, t, U', L, E, ce, hT, X', hL, e1, e2, hq, hce, hcv, vx_cls hW₁ hcl, st⟩
theorem vx_runS (S : CallFix p m c cc nL s args Ts own) (hM : vx_Met l y ws rm Pc Qc XC mc ms free) (cw : CallB R s args own index y bytes maxL ret ws rm mc ms n ∧ (Cond.static y).before args s = true) (hp : PreS s H Pc As)
    (hg : g.method = m) (hn : As.length = n) (hsize : g.locals.size = nL) (hstack : g.stack = As.reverse ++ rest) (hW : 2 * g.monitorRoom + (rest.map fun v => v.category).sum ≤ 8) (hdg : decode cc g.pc = .ok (.invokestatic index, 3)) (hf : cells + mc ≤ R.cells ∧ slots + ms ≤ R.slots) :
    vx_Run p l e R s m args below meth c H locs cells slots mc ms g rest (Qc As.toArray) XC free := by
  have hK : vx_Back l R p e below s args y 3 8 (PreOf R mc ms Pc) (PostOf Qc mc ms free) (vx_Post XC mc ms free) := vx_callBack cw.1 hM hp.1
  obtain ⟨⟨-, -, -, -, -, -, hcode, hini, hy, hlen, hl⟩, hstt⟩ := cw
  obtain ⟨hx, hb, hml, ho, -⟩ := S
  intro T hT X
  rcases vx_callS X hx (bytes := bytes) (maxL := maxL) (ret := ret) ho hl hstt hini hcode hy hK hg (hsize.trans hml.symm) (argsL := As) (rest := rest) (fun sig h => hn.trans (hlen sig h)) hstack hW (by rw [hb]; exact hdg)
    (fun vm₁ hW₁ => ⟨hf.1, hf.2, hp.2 (T.setVm vm₁) hT hW₁⟩) with ⟨v, vm₁, ⟨U', l2, c2, s2⟩, hW₁, X', ⟨g', mk, t, L, e1, e2, hq, h1, hL, h2, h3⟩, st⟩ | ⟨q, vm₁, ⟨U', l2, c2, s2⟩, hW₁, X', ⟨g', mk, t, L, E, ce, e1, e2, hq, hce, hcv, hcl, h1, hL, h2, h3⟩, st⟩
  · dsimp only [Pt.U, Pt.locs, Pt.cells, Pt.slots] at X' e1 e2 h1 h2 h3 st
    subst h1; subst h2; subst h3
    exact Or.inl ⟨v, (T.setVm vm₁).calling g' mk As.toArray, t, U', L, hT, X', hL, e1, e2, hq, st⟩
  · dsimp only [Pt.U, Pt.locs, Pt.cells, Pt.slots] at X' e1 e2 h1 h2 h3 st hcl
    subst h1; subst h2; subst h3
    exact Or.inr ⟨q, (T.setVm vm₁).calling g' mk As.toArray, t, U', L, E, ce, hT, X', hL, e1, e2, hq, hce, hcv, vx_cls hW₁ hcl, st⟩
end Runs
section Rows
variable {p : Program} {l : Launch} {e : Env} {R : Room} {s : State} {m : MethodId} {args : Array Value} {below : List Frame} {meth : Method} {c : Code} {H : Heap} {locs : List Loc} {cells slots : Nat} {Q : State → Prop}
variable {mc ms : Nat} {free : Addr → Prop} {A0 A1 : Nat → Prop} {H0 : Heap} {a : Array Value} {pc : Nat} {ls : Array Slot} {st0 rest : List Value}
theorem vx_keep {st₀ t T' : State} {L : List Loc} (h0 : st₀.heap = H) (e1 : T'.heap = t.heap) (hS : va_S A0 H0 H locs) (hA : ∀ q, q < H.size → A1 q → A0 q) (hf : ∀ q, free q → A0 q) (hL : ∀ q ∈ L, free q.base) (hF : va_F A1 st₀ t) :
    H.size ≤ T'.heap.size ∧ (∀ q : Nat, q < H.size → ¬ A1 q → T'.heap[q]? = H[q]?) ∧ va_S A0 H0 T'.heap (locs ++ L) := by
  obtain ⟨hz, hk⟩ := hF
  rw [h0] at hz hk
  exact ⟨by rw [e1]; exact hz, fun q h1 h2 => by rw [e1]; exact hk q h1 h2,
    ⟨Nat.le_trans hS.1 (by rw [e1]; exact hz), fun q h1 h2 => by rw [e1, hk q (Nat.lt_of_lt_of_le h1 hS.1) (fun z => h2 (hA q (Nat.lt_of_lt_of_le h1 hS.1) z))]; exact hS.2.1 q h1 h2, fun q hq => by
      rcases List.mem_append.mp hq with h | h
      · exact hS.2.2 q h
      · exact hf _ (hL q h)⟩⟩
theorem vx_calli {S SX : Type} {post : Int32 → S → Prop} {px : SX → Prop} {B : S → State → Prop} {BX : String → SX → State → Prop} {AX : Nat → Prop} (hr : vx_Run p l e R s m args below meth c H locs cells slots mc ms (F0 m pc ls st0) rest (va_Qi post B A1 a) (vx_X px BX AX) free) (hS : va_S A0 H0 H locs) (hA : ∀ q, q < H.size → A1 q → A0 q) (hf : ∀ q, free q → A0 q) (hAX : ∀ q, q < H.size → AX q → A0 q)
    (kx : ∀ (E : String) (ce : Cell) (q9 : Addr) (u : SX) (t : State) (H1 : Heap) (locs1 : List Loc), t.heap = H1 → s.vm.Alike t.vm → px u → BX E u t → H.size ≤ H1.size → (∀ q : Nat, q < H.size → ¬ AX q → H1[q]? = H[q]?) → va_S A0 H0 H1 locs1 → H1[q9]? = some ce → ce.vm = .none → s.vm.findClass E = some ce.cls → vx_W p l e R s m args below meth c H1 locs1 (cells + mc) (slots + ms) Q (F0 m pc ls rest) q9)
    (kk : ∀ (r : Int32) (u : S) (t : State) (H1 : Heap) (locs1 : List Loc), t.heap = H1 → s.vm.Alike t.vm → post r u → B u t → H.size ≤ H1.size → (∀ q : Nat, q < H.size → ¬ A1 q → H1[q]? = H[q]?) → va_S A0 H0 H1 locs1 → W p l e R s m args below meth c H1 locs1 (cells + mc) (slots + ms) Q (F0 m (pc + 3) ls (.int r :: rest))) : W p l e R s m args below meth c H locs cells slots Q (F0 m pc ls st0) := by
  intro T hT X
  rcases hr T hT X with ⟨v, st₀, t, T', L, h0, X', hL, e1, e2, ⟨⟨r, u, hv, hp, hb⟩, hF⟩, st⟩ | ⟨q, st₀, t, T', L, E, ce, h0, X', hL, e1, e2, ⟨u, hp, hb, hF⟩, hce, hcv, hcl, st⟩
  · cases hv
    obtain ⟨k1, k2, k3⟩ := vx_keep h0 e1 hS hA hf hL hF
    obtain ⟨t2, a1, b1⟩ := kk r u t T'.heap (locs ++ L) e1.symm (by rw [← e2]; exact X'.warmed.alike) hp hb k1 k2 k3 T' rfl X'
    exact ⟨t2, st t2 a1, b1⟩
  · obtain ⟨k1, k2, k3⟩ := vx_keep h0 e1 hS hAX hf hL hF
    obtain ⟨t2, a1, b1⟩ := kx E ce q u t T'.heap (locs ++ L) e1.symm (by rw [← e2]; exact X'.warmed.alike) hp hb k1 k2 k3 (by rw [e1]; exact hce) hcv hcl T' rfl X'
    exact ⟨t2, st.trans a1, b1⟩
theorem vx_calll {S SX : Type} {post : Int64 → S → Prop} {px : SX → Prop} {B : S → State → Prop} {BX : String → SX → State → Prop} {AX : Nat → Prop} (hr : vx_Run p l e R s m args below meth c H locs cells slots mc ms (F0 m pc ls st0) rest (va_Ql post B A1 a) (vx_X px BX AX) free) (hS : va_S A0 H0 H locs) (hA : ∀ q, q < H.size → A1 q → A0 q) (hf : ∀ q, free q → A0 q) (hAX : ∀ q, q < H.size → AX q → A0 q)
    (kx : ∀ (E : String) (ce : Cell) (q9 : Addr) (u : SX) (t : State) (H1 : Heap) (locs1 : List Loc), t.heap = H1 → s.vm.Alike t.vm → px u → BX E u t → H.size ≤ H1.size → (∀ q : Nat, q < H.size → ¬ AX q → H1[q]? = H[q]?) → va_S A0 H0 H1 locs1 → H1[q9]? = some ce → ce.vm = .none → s.vm.findClass E = some ce.cls → vx_W p l e R s m args below meth c H1 locs1 (cells + mc) (slots + ms) Q (F0 m pc ls rest) q9)
    (kk : ∀ (r : Int64) (u : S) (t : State) (H1 : Heap) (locs1 : List Loc), t.heap = H1 → s.vm.Alike t.vm → post r u → B u t → H.size ≤ H1.size → (∀ q : Nat, q < H.size → ¬ A1 q → H1[q]? = H[q]?) → va_S A0 H0 H1 locs1 → W p l e R s m args below meth c H1 locs1 (cells + mc) (slots + ms) Q (F0 m (pc + 3) ls (.long r :: rest))) : W p l e R s m args below meth c H locs cells slots Q (F0 m pc ls st0) := by
  intro T hT X
  rcases hr T hT X with ⟨v, st₀, t, T', L, h0, X', hL, e1, e2, ⟨⟨r, u, hv, hp, hb⟩, hF⟩, st⟩ | ⟨q, st₀, t, T', L, E, ce, h0, X', hL, e1, e2, ⟨u, hp, hb, hF⟩, hce, hcv, hcl, st⟩
  · cases hv
    obtain ⟨k1, k2, k3⟩ := vx_keep h0 e1 hS hA hf hL hF
    obtain ⟨t2, a1, b1⟩ := kk r u t T'.heap (locs ++ L) e1.symm (by rw [← e2]; exact X'.warmed.alike) hp hb k1 k2 k3 T' rfl X'
    exact ⟨t2, st t2 a1, b1⟩
  · obtain ⟨k1, k2, k3⟩ := vx_keep h0 e1 hS hAX hf hL hF
    obtain ⟨t2, a1, b1⟩ := kx E ce q u t T'.heap (locs ++ L) e1.symm (by rw [← e2]; exact X'.warmed.alike) hp hb k1 k2 k3 (by rw [e1]; exact hce) hcv hcl T' rfl X'
    exact ⟨t2, st.trans a1, b1⟩
theorem vx_callf {S SX : Type} {post : UInt32 → S → Prop} {px : SX → Prop} {B : S → State → Prop} {BX : String → SX → State → Prop} {AX : Nat → Prop} (hr : vx_Run p l e R s m args below meth c H locs cells slots mc ms (F0 m pc ls st0) rest (va_Qf post B A1 a) (vx_X px BX AX) free) (hS : va_S A0 H0 H locs) (hA : ∀ q, q < H.size → A1 q → A0 q) (hf : ∀ q, free q → A0 q) (hAX : ∀ q, q < H.size → AX q → A0 q)
    (kx : ∀ (E : String) (ce : Cell) (q9 : Addr) (u : SX) (t : State) (H1 : Heap) (locs1 : List Loc), t.heap = H1 → s.vm.Alike t.vm → px u → BX E u t → H.size ≤ H1.size → (∀ q : Nat, q < H.size → ¬ AX q → H1[q]? = H[q]?) → va_S A0 H0 H1 locs1 → H1[q9]? = some ce → ce.vm = .none → s.vm.findClass E = some ce.cls → vx_W p l e R s m args below meth c H1 locs1 (cells + mc) (slots + ms) Q (F0 m pc ls rest) q9)
    (kk : ∀ (r : UInt32) (u : S) (t : State) (H1 : Heap) (locs1 : List Loc), t.heap = H1 → s.vm.Alike t.vm → post r u → B u t → H.size ≤ H1.size → (∀ q : Nat, q < H.size → ¬ A1 q → H1[q]? = H[q]?) → va_S A0 H0 H1 locs1 → W p l e R s m args below meth c H1 locs1 (cells + mc) (slots + ms) Q (F0 m (pc + 3) ls (.float r :: rest))) : W p l e R s m args below meth c H locs cells slots Q (F0 m pc ls st0) := by
  intro T hT X
  rcases hr T hT X with ⟨v, st₀, t, T', L, h0, X', hL, e1, e2, ⟨⟨r, u, hv, hp, hb⟩, hF⟩, st⟩ | ⟨q, st₀, t, T', L, E, ce, h0, X', hL, e1, e2, ⟨u, hp, hb, hF⟩, hce, hcv, hcl, st⟩
  · cases hv
    obtain ⟨k1, k2, k3⟩ := vx_keep h0 e1 hS hA hf hL hF
    obtain ⟨t2, a1, b1⟩ := kk r u t T'.heap (locs ++ L) e1.symm (by rw [← e2]; exact X'.warmed.alike) hp hb k1 k2 k3 T' rfl X'
    exact ⟨t2, st t2 a1, b1⟩
  · obtain ⟨k1, k2, k3⟩ := vx_keep h0 e1 hS hAX hf hL hF
    obtain ⟨t2, a1, b1⟩ := kx E ce q u t T'.heap (locs ++ L) e1.symm (by rw [← e2]; exact X'.warmed.alike) hp hb k1 k2 k3 (by rw [e1]; exact hce) hcv hcl T' rfl X'
    exact ⟨t2, st.trans a1, b1⟩
theorem vx_calld {S SX : Type} {post : UInt64 → S → Prop} {px : SX → Prop} {B : S → State → Prop} {BX : String → SX → State → Prop} {AX : Nat → Prop} (hr : vx_Run p l e R s m args below meth c H locs cells slots mc ms (F0 m pc ls st0) rest (va_Qd post B A1 a) (vx_X px BX AX) free) (hS : va_S A0 H0 H locs) (hA : ∀ q, q < H.size → A1 q → A0 q) (hf : ∀ q, free q → A0 q) (hAX : ∀ q, q < H.size → AX q → A0 q)
    (kx : ∀ (E : String) (ce : Cell) (q9 : Addr) (u : SX) (t : State) (H1 : Heap) (locs1 : List Loc), t.heap = H1 → s.vm.Alike t.vm → px u → BX E u t → H.size ≤ H1.size → (∀ q : Nat, q < H.size → ¬ AX q → H1[q]? = H[q]?) → va_S A0 H0 H1 locs1 → H1[q9]? = some ce → ce.vm = .none → s.vm.findClass E = some ce.cls → vx_W p l e R s m args below meth c H1 locs1 (cells + mc) (slots + ms) Q (F0 m pc ls rest) q9)
    (kk : ∀ (r : UInt64) (u : S) (t : State) (H1 : Heap) (locs1 : List Loc), t.heap = H1 → s.vm.Alike t.vm → post r u → B u t → H.size ≤ H1.size → (∀ q : Nat, q < H.size → ¬ A1 q → H1[q]? = H[q]?) → va_S A0 H0 H1 locs1 → W p l e R s m args below meth c H1 locs1 (cells + mc) (slots + ms) Q (F0 m (pc + 3) ls (.double r :: rest))) : W p l e R s m args below meth c H locs cells slots Q (F0 m pc ls st0) := by
  intro T hT X
  rcases hr T hT X with ⟨v, st₀, t, T', L, h0, X', hL, e1, e2, ⟨⟨r, u, hv, hp, hb⟩, hF⟩, st⟩ | ⟨q, st₀, t, T', L, E, ce, h0, X', hL, e1, e2, ⟨u, hp, hb, hF⟩, hce, hcv, hcl, st⟩
  · cases hv
    obtain ⟨k1, k2, k3⟩ := vx_keep h0 e1 hS hA hf hL hF
    obtain ⟨t2, a1, b1⟩ := kk r u t T'.heap (locs ++ L) e1.symm (by rw [← e2]; exact X'.warmed.alike) hp hb k1 k2 k3 T' rfl X'
    exact ⟨t2, st t2 a1, b1⟩
  · obtain ⟨k1, k2, k3⟩ := vx_keep h0 e1 hS hAX hf hL hF
    obtain ⟨t2, a1, b1⟩ := kx E ce q u t T'.heap (locs ++ L) e1.symm (by rw [← e2]; exact X'.warmed.alike) hp hb k1 k2 k3 (by rw [e1]; exact hce) hcv hcl T' rfl X'
    exact ⟨t2, st.trans a1, b1⟩
theorem vx_callv {S SX : Type} {post : S → Prop} {px : SX → Prop} {B : S → State → Prop} {BX : String → SX → State → Prop} {AX : Nat → Prop} (hr : vx_Run p l e R s m args below meth c H locs cells slots mc ms (F0 m pc ls st0) rest (va_Qv post B A1 a) (vx_X px BX AX) free) (hS : va_S A0 H0 H locs) (hA : ∀ q, q < H.size → A1 q → A0 q) (hf : ∀ q, free q → A0 q) (hAX : ∀ q, q < H.size → AX q → A0 q)
    (kx : ∀ (E : String) (ce : Cell) (q9 : Addr) (u : SX) (t : State) (H1 : Heap) (locs1 : List Loc), t.heap = H1 → s.vm.Alike t.vm → px u → BX E u t → H.size ≤ H1.size → (∀ q : Nat, q < H.size → ¬ AX q → H1[q]? = H[q]?) → va_S A0 H0 H1 locs1 → H1[q9]? = some ce → ce.vm = .none → s.vm.findClass E = some ce.cls → vx_W p l e R s m args below meth c H1 locs1 (cells + mc) (slots + ms) Q (F0 m pc ls rest) q9)
    (kk : ∀ (u : S) (t : State) (H1 : Heap) (locs1 : List Loc), t.heap = H1 → s.vm.Alike t.vm → post u → B u t → H.size ≤ H1.size → (∀ q : Nat, q < H.size → ¬ A1 q → H1[q]? = H[q]?) → va_S A0 H0 H1 locs1 → W p l e R s m args below meth c H1 locs1 (cells + mc) (slots + ms) Q (F0 m (pc + 3) ls (rest))) : W p l e R s m args below meth c H locs cells slots Q (F0 m pc ls st0) := by
  intro T hT X
  rcases hr T hT X with ⟨v, st₀, t, T', L, h0, X', hL, e1, e2, ⟨⟨u, hv, hp, hb⟩, hF⟩, st⟩ | ⟨q, st₀, t, T', L, E, ce, h0, X', hL, e1, e2, ⟨u, hp, hb, hF⟩, hce, hcv, hcl, st⟩
  · cases hv
    obtain ⟨k1, k2, k3⟩ := vx_keep h0 e1 hS hA hf hL hF
    obtain ⟨t2, a1, b1⟩ := kk u t T'.heap (locs ++ L) e1.symm (by rw [← e2]; exact X'.warmed.alike) hp hb k1 k2 k3 T' rfl X'
    exact ⟨t2, st t2 a1, b1⟩
  · obtain ⟨k1, k2, k3⟩ := vx_keep h0 e1 hS hAX hf hL hF
    obtain ⟨t2, a1, b1⟩ := kx E ce q u t T'.heap (locs ++ L) e1.symm (by rw [← e2]; exact X'.warmed.alike) hp hb k1 k2 k3 (by rw [e1]; exact hce) hcv hcl T' rfl X'
    exact ⟨t2, st.trans a1, b1⟩
/-- caught by the row x of this method's table; the rows ahead don't take it -/
theorem vx_catch {own name : String} {E : String} {ce : Cell} {q : Addr} (hown : s.vm.findClass own = some m.cls) (pre : List ExceptionTableEntry) (x : ExceptionTableEntry) (suf : List ExceptionTableEntry) (hsplit : c.exceptionTable.toList = pre ++ x :: suf)
    (hpass : ∀ z ∈ pre, covers z pc = false ∨ (z.catchType ≠ 0 ∧ ∃ nm : String, (Cond.classLink own z.catchType nm).before args s = true ∧ va_Nc E nm s)) (hx : covers x pc = true) (h0 : x.catchType ≠ 0)
    (hlink : (Cond.classLink own x.catchType name).before args s = true) (hcast : (Cond.castable E name).before args s = true) (hcell : H[q]? = some ce) (hv : ce.vm = .none) (hcl : s.vm.findClass E = some ce.cls)
    (kk : W p l e R s m args below meth c H locs cells slots Q (F0 m x.handlerPc ls [.ref q])) : vx_W p l e R s m args below meth c H locs cells slots Q (F0 m pc ls rest) q := by
  intro T hT X
  have hpl : e.platform.magicAccessors = ({} : Platform).magicAccessors := by rw [X.admits.platform]
  obtain ⟨c3, c4, hc3, hc4, hasg⟩ := Cond.castable_spec hcast
  cases Option.some.inj (hc3.symm.trans hcl)
  obtain ⟨c5, hc5, hcl5⟩ := Cond.classLink_spec hown hlink e.platform hpl
  cases Option.some.inj (hc4.symm.trans hc5)
  obtain ⟨vm', X', st⟩ := X.thenCaughtThrough q (g := F0 m pc ls rest) rfl (Steps.refl _) (by rw [hT]; exact hcell) (by rw [hv]; rfl) (by obtain ⟨k9, h9, -⟩ := Vm.findClass_spec hcl; exact ⟨k9, h9⟩) pre x suf hsplit
    (fun z hz => by
      rcases hpass z hz with h | ⟨hz0, nm, hl1, hn1⟩
      · exact Or.inl h
      · obtain ⟨c6, hc6, hcl6⟩ := Cond.classLink_spec hown hl1 e.platform hpl
        obtain ⟨a8, b8, h1, h2, h3⟩ := hn1
        cases Option.some.inj (h1.symm.trans hcl)
        cases Option.some.inj (h2.symm.trans hc6)
        exact Or.inr ⟨hz0, _, hcl6, h3⟩) hx (Or.inr ⟨h0, c4, hcl5, hasg⟩)
  obtain ⟨t, a1, b1⟩ := kk (T.setVm vm') hT X'
  exact ⟨t, st.trans a1, b1⟩
end Rows
section Ends
variable {p : Program} {l : Launch} {e : Env} {R : Room} {s : State} {m : MethodId} {args : Array Value} {below : List Frame} {meth : Method} {c : Code} {H : Heap} {locs : List Loc} {cells slots : Nat} {Q : State → Prop}
variable {mc ms : Nat} {free : Addr → Prop} {A0 A1 : Nat → Prop} {H0 : Heap} {a : Array Value} {ls : Array Slot} {st0 rest : List Value}
variable {Qc : Array Value → State → Outcome → State → Prop} {XC : String → State → State → Prop}
/-- what a body that may throw owes at its end -/
def vx_MQ (below : List Frame) (Qc : Array Value → State → Outcome → State → Prop) (XC : String → State → State → Prop) (a : Array Value) (s : State) (mc ms : Nat) (free : Addr → Prop) : State → Prop := fun t =>
  ∃ o, t.status = .running ∧ Ended t below o ∧ vx_Q Qc XC mc ms free a s o t
theorem vx_ret {g : JFrame} {mc ms : Nat} (k : W p l e R s m args below meth c H locs cells slots (MQ below Qc args s mc ms free) g) : W p l e R s m args below meth c H locs cells slots (vx_MQ below Qc XC args s mc ms free) g := by
  intro T hT X
  obtain ⟨t, a1, o, b1, b2, b3, b4⟩ := k T hT X
  exact ⟨t, a1, o, b1, b2, Or.inl ⟨b3, b4⟩⟩
/-- not caught here: it goes on to the caller -/
theorem vx_widen {g : JFrame} {q : Addr} {k n : Nat} (h1 : cells ≤ k) (h2 : slots ≤ n) (kk : vx_W p l e R s m args below meth c H locs k n Q g q) : vx_W p l e R s m args below meth c H locs cells slots Q g q := fun T hT X => kk T hT (stand_widen X h1 h2)
theorem vx_out {pc : Nat} {E : String} {ce : Cell} {q : Addr} {mc ms : Nat} (hout : ∀ x ∈ c.exceptionTable.toList, covers x pc = false) (hlocks : meth.locks = false) (hcell : H[q]? = some ce) (hv : ce.vm = .none) (hcl : s.vm.findClass E = some ce.cls)
    (hx : ∀ t : State, t.heap = H → s.vm.Alike t.vm → XC E s t) (hf : ∀ z ∈ locs, free z.base) (hc : cells ≤ mc) (hs : slots ≤ ms) :
    vx_W p l e R s m args below meth c H locs cells slots (vx_MQ below Qc XC args s mc ms free) (F0 m pc ls rest) q := by
  intro T hT X
  obtain ⟨st1, hrun, hend, hW, hsm⟩ := X.leaveThrown q (g := F0 m pc ls rest) rfl rfl rfl hout hlocks
  have hcell9 : (T.setFrames (.throwing q :: below)).heap[q]? = some ce := by
    show T.heap[q]? = some ce
    rw [hT]; exact hcell
  exact ⟨_, st1, .threw q, hrun, hend, Or.inr ⟨q, rfl, E, ce, locs, hx _ hT hW.alike, hcell9, hv, hcl, hW, hsm.mono hc hs, hf⟩⟩
theorem vx_frame {U : State} {k n : Nat} (h : s.sameButNew ({ U with vm := s.vm } : State) locs k n) : s.heap.size ≤ U.heap.size ∧ ∀ q : Nat, q < s.heap.size → (∀ z ∈ locs, z.base ≠ q) → U.heap[q]? = s.heap[q]? := by
  obtain ⟨-, h2, -, -, -, h6⟩ := h
  refine ⟨h2, fun q hq hz => ?_⟩
  obtain ⟨c9, e1, e2, e3, e4⟩ := h6 q _ (Array.getElem?_eq_getElem hq)
  have hs : c9.slots = (s.heap[q]).slots := Array.ext_getElem? fun i => e4 i fun hm => hz _ hm rfl
  have h9 : c9 = s.heap[q] := by
    rw [hs] at e2
    exact e2
  have e5 : U.heap[q]? = some c9 := e1
  rw [e5, h9, Array.getElem?_eq_getElem hq]
/-- the words of a throw but the four that speak of the heap -/
def vx_no (w : Cond) : Bool := decide (w ≠ .isRef (.static Bundle.tN "UNASSIGNED_STACK" Bundle.steD)) && decide (w ≠ .isRef (.static Bundle.tN "SUPPRESSED_SENTINEL" Bundle.listD)) && decide (w ≠ .laysStatic Bundle.tN "UNASSIGNED_STACK" Bundle.steD) && decide (w ≠ .laysStatic Bundle.tN "SUPPRESSED_SENTINEL" Bundle.listD)
def vx_at0 (own : String) (ic : Nat) (X : String) (names : List String) : List Cond := (Bundle.ownAtoms0 own ic X names).filter vx_no
def vx_atS (own : String) (ic : Nat) (X : String) (names : List String) : List Cond := (Bundle.ownAtoms own ic X names).filter vx_no
/-- a word that the tables alone decide, or a good one -/
def vx_ot (w : Cond) : Bool := w.onTables || goodWord w
theorem vx_ot_at {args a' : Array Value} {s U : State} {w : Cond} (hW : s.WarmedH U.vm) (hvm : s.vm = U.vm) (hg : vx_ot w = true) (h : w.before args s = true) : w.before a' U = true := by
  simp only [vx_ot, Bool.or_eq_true] at hg
  rcases hg with hg | hg
  · exact va_tabs hg hvm h
  · exact word_at hW (good_of_word hg) h
/-- a list's words: the good ones out of the method's own list, the others by premises of their own -/
theorem vx_hat {args : Array Value} {s : State} {L B : List Cond} (h1 : ∀ w ∈ L.filter goodWord, w.before args s = true) (h2 : ∀ w ∈ L.filter (fun w => !goodWord w), w ∈ B) (h3 : ∀ w ∈ B, w.before args s = true) : ∀ w ∈ L, w.before args s = true := by
  intro w hw
  by_cases g : goodWord w = true
  · exact h1 w (List.mem_filter.mpr ⟨hw, g⟩)
  · refine h3 w (h2 w (List.mem_filter.mpr ⟨hw, ?_⟩))
    show (!goodWord w) = true
    cases hgw : goodWord w
    · rfl
    · exact absurd hgw g
theorem vx_c {args : Array Value} {s : State} {w : Cond} {B : List Cond} (h : w.before args s = true) (t : ∀ w ∈ B, w.before args s = true) : ∀ w' ∈ w :: B, w'.before args s = true := fun w' h' => (List.mem_cons.mp h').elim (fun e => by rw [e]; exact h) (t w')
theorem vx_n {args : Array Value} {s : State} : ∀ w ∈ ([] : List Cond), w.before args s = true := fun _ h => nomatch h
theorem vx_own {args : Array Value} {s : State} {L : List Cond} (h1 : ∀ w ∈ L.filter vx_no, w.before args s = true)
    (hU : (Cond.isRef (.static Bundle.tN "UNASSIGNED_STACK" Bundle.steD)).before args s = true) (hN : (Cond.isRef (.static Bundle.tN "SUPPRESSED_SENTINEL" Bundle.listD)).before args s = true)
    (lU : (Cond.laysStatic Bundle.tN "UNASSIGNED_STACK" Bundle.steD).before args s = true) (lN : (Cond.laysStatic Bundle.tN "SUPPRESSED_SENTINEL" Bundle.listD).before args s = true) : ∀ w ∈ L, w.before args s = true := by
  intro w hw
  by_cases e1 : w = .isRef (.static Bundle.tN "UNASSIGNED_STACK" Bundle.steD)
  · rw [e1]; exact hU
  · by_cases e2 : w = .isRef (.static Bundle.tN "SUPPRESSED_SENTINEL" Bundle.listD)
    · rw [e2]; exact hN
    · by_cases e3 : w = .laysStatic Bundle.tN "UNASSIGNED_STACK" Bundle.steD
      · rw [e3]; exact lU
      · by_cases e4 : w = .laysStatic Bundle.tN "SUPPRESSED_SENTINEL" Bundle.listD
        · rw [e4]; exact lN
        · exact h1 w (List.mem_filter.mpr ⟨hw, by unfold vx_no; rw [decide_eq_true e1, decide_eq_true e2, decide_eq_true e3, decide_eq_true e4]; rfl⟩)
/-- where a static field lies, its class's statics cell in H -/
def vx_L (C n d : String) (A : Nat → Prop) (U : State) (H : Heap) : Prop := ∃ (c : ClassId) (k : Class) (i : Nat) (f : Field) (a : Nat) (cell : Cell), U.vm.findClass C = some c ∧ U.fieldFound? C n d = some (c, k, i, f) ∧ f.isStatic = true ∧ k.statics = some a ∧ H[a]? = some cell ∧ cell.vm.isStatics = true ∧ cell.cls = c ∧ f.slot < cell.slots.size ∧ k.staticTypes[f.slot]? = some f.type ∧ ¬ A a
theorem vx_L.moved {C n d : String} {A : Nat → Prop} {u U : State} {H : Heap} (hvm : u.vm.Alike U.vm) (h : vx_L C n d A u H) : vx_L C n d A U H := by
  obtain ⟨c, k, i, f, a, cell, h1, h2, h3, h4, h5, h6, h7, h8, h9, h10⟩ := h
  obtain ⟨k', hi', he⟩ := State.fieldFound?_setVm hvm h2
  exact ⟨c, k', i, f, a, cell, by rw [hvm.findClass]; exact h1, hi', h3, by rw [he]; exact h4, h5, h6, h7, h8, by rw [he]; exact h9, h10⟩
theorem vx_L.kept {C n d : String} {A : Nat → Prop} {U : State} {H H1 : Heap} (h : vx_L C n d A U H) (hq : ∀ a : Nat, a < H.size → ¬ A a → H1[a]? = H[a]?) : vx_L C n d A U H1 := by
  obtain ⟨c, k, i, f, a, cell, h1, h2, h3, h4, h5, h6, h7, h8, h9, h10⟩ := h
  exact ⟨c, k, i, f, a, cell, h1, h2, h3, h4, by rw [hq a (Array.getElem?_eq_some_iff.mp h5).1 h10]; exact h5, h6, h7, h8, h9, h10⟩
theorem vx_L.narrow {C n d : String} {A B : Nat → Prop} {U : State} {H : Heap} (h : vx_L C n d A U H) (hAB : ∀ q, B q → A q) : vx_L C n d B U H := by
  obtain ⟨c, k, i, f, a, cell, h1, h2, h3, h4, h5, h6, h7, h8, h9, h10⟩ := h
  exact ⟨c, k, i, f, a, cell, h1, h2, h3, h4, h5, h6, h7, h8, h9, fun z => h10 (hAB _ z)⟩
theorem vx_L.word {C n d : String} {A : Nat → Prop} {s : State} {args : Array Value} (h : vx_L C n d A s s.heap) : (Cond.laysStatic C n d).before args s = true := by
  obtain ⟨c, k, i, f, a, cell, h1, h2, h3, h4, h5, h6, h7, h8, h9, -⟩ := h
  show (Cond.laysStatic C n d).holds args s none s [] = true
  exact Cond.laysStatic_of h1 h2 h3 h4 h5 h6 h7 h8 h9
/-- .. and what it holds: null or some reference -/
def vx_Zq (C n d : String) (A : Nat → Prop) (U : State) (H : Heap) : Prop := va_Zq C n d A U H ∧ vx_L C n d A U H
theorem vx_Zq.moved {C n d : String} {A : Nat → Prop} {u U : State} {H : Heap} (hvm : u.vm.Alike U.vm) (h : vx_Zq C n d A u H) : vx_Zq C n d A U H := ⟨va_Zq.moved hvm h.1, vx_L.moved hvm h.2⟩
theorem vx_Zq.kept {C n d : String} {A : Nat → Prop} {U : State} {H H1 : Heap} (h : vx_Zq C n d A U H) (hq : ∀ a : Nat, a < H.size → ¬ A a → H1[a]? = H[a]?) : vx_Zq C n d A U H1 := ⟨va_Zq.kept h.1 hq, vx_L.kept h.2 hq⟩
theorem vx_Zq.narrow {C n d : String} {A B : Nat → Prop} {U : State} {H : Heap} (h : vx_Zq C n d A U H) (hAB : ∀ q, B q → A q) : vx_Zq C n d B U H := ⟨va_Zq.narrow h.1 hAB, vx_L.narrow h.2 hAB⟩
theorem vx_Zqof {args : Array Value} {s : State} {C n d : String} {A : Nat → Prop} (hl : (Cond.laysStatic C n d).before args s = true) (hini : (Cond.initialized C).before args s = true) (h : (Cond.isRef (.static C n d)).before args s = true) (hA : ∀ a : Nat, a < s.heap.size → ¬ A a) : vx_Zq C n d A s s.heap := by
  refine ⟨va_Zqof hl hini h hA, ?_⟩
  obtain ⟨c, k, i, f, a, cell, h1, h2, h3, h4, h5, h6, h7, h8, h9⟩ := Cond.laysStatic_spec hl
  exact ⟨c, k, i, f, a, cell, h1, h2, h3, h4, h5, h6, h7, h8, h9, hA a (Array.getElem?_eq_some_iff.mp h5).1⟩
theorem vx_isRef {C n d : String} {v : Value} {A : Nat → Prop} {s : State} {args : Array Value} (h : va_Z C n d v A s s.heap) (hv : v.isRef = true) : (Cond.isRef (.static C n d)).before args s = true := by
  obtain ⟨cf, kf, fi, f, a, cell, h1, h2, h3, h4, h5, h6, h7, -⟩ := h
  have he : (Term.static C n d).eval args s none [] s = some v := by
    simp [Term.eval, State.fieldNamed?, h1, h2, h4, h5, h6, h7]
  simp only [Cond.before, Cond.holds, Cond.value, he]
  cases v <;> simp_all [Value.isRef]
theorem vx_isRefq {C n d : String} {A : Nat → Prop} {s : State} {args : Array Value} (h : va_Zq C n d A s s.heap) : (Cond.isRef (.static C n d)).before args s = true := by
  rcases h with h | ⟨t, h⟩
  · exact vx_isRef h rfl
  · exact vx_isRef h rfl
/-- the same frame, seen from here: as if the method were called anew in this heap -/
theorem vx_rebase {T : State} (X : Stand p l e R s m args below meth c T locs cells slots) {R' : Room} (hf : R'.frames ≤ R.frames) (hl : R'.locals ≤ R.locals) (hc : cells + R'.cells ≤ R.cells) (hs : slots + R'.slots ≤ R.slots) :
    Stand p l e R' ((T.setVm s.vm).setFrames (.invoking m args :: below)) m args below meth c T [] 0 0 := by
  have htop : (T.setVm s.vm).topJava?.isSome := X.here.top
  have hF : ((T.setVm s.vm).setFrames (.invoking m args :: below)).frames = .invoking m args :: below := State.frames_setFrames _ (State.cur_lt_of_top htop)
  obtain ⟨g₀, hg0⟩ := Option.isSome_iff_exists.mp htop
  obtain ⟨r, hr⟩ := State.topJava?_eq_some.mp hg0
  have hl9 : e.platform.stackLimits (T.setVm s.vm).me = e.platform.stackLimits s.me := X.limits
  have hb9 : (T.setVm s.vm).me.stackBytes = s.me.stackBytes := X.bytes
  refine ⟨X.admits, X.cas, X.clock, hF, ?_, X.hears, X.method, X.code, X.here, X.tail, X.warmed, ?_, ?_, ?_⟩
  · have h := X.room
    have hU : ((T.setVm s.vm).setFrames (.invoking m args :: below)).localsInUse = s.localsInUse := by
      rw [State.localsInUse_invoking hF (meth := meth) (c := c) X.method X.code, State.localsInUse_invoking X.frames X.method X.code]
    simp only [State.hasRoom, Bool.and_eq_true, decide_eq_true_eq] at h ⊢
    obtain ⟨⟨⟨⟨h1, h2, h3, h4, h5, h6⟩, h7⟩, h8⟩, h9⟩ := h
    rw [X.frames, List.length_cons] at h2 h3
    have q1 := X.heapSize
    have q2 := X.used
    simp only [hF, hU, List.length_cons, State.stackLimits_setFrames, State.stackBytes_setFrames, hl9, hb9]
    refine ⟨⟨⟨⟨by omega, by omega, by omega, by omega, by omega, h6⟩, ?_⟩, ?_⟩, X.book⟩
    · show T.heap.size + R'.cells ≤ e.platform.maxCells
      omega
    · show T.slotsUsed + R'.slots ≤ e.platform.maxSlots
      omega
  · rw [State.stackLimits_setFrames]; rfl
  · rw [State.stackBytes_setFrames]; rfl
  · refine ⟨?_, Nat.le_refl _, Nat.le_refl _, ?_, ?_, fun a c9 h9 => ⟨c9, h9, rfl, rfl, fun _ _ => rfl⟩⟩
    · obtain ⟨t, ht, -⟩ := State.frames_cons hr
      show T.setVm s.vm = { ((T.setVm s.vm).setFrames (.invoking m args :: below)).setFrames (T.setVm s.vm).frames with heap := T.heap, slotsUsed := T.slotsUsed }
      rw [State.setFrames_setFrames, State.setFrames_self ht]
      rfl
    · show T.slotsUsed = T.slotsUsed + ((T.heap.toList.drop T.heap.size).map (·.slots.size)).sum
      rw [List.drop_eq_nil_of_le (Nat.le_of_eq Array.length_toList)]
      rfl
    · show ((T.heap.toList.drop T.heap.size).map (·.slots.size)).sum ≤ 0
      rw [List.drop_eq_nil_of_le (Nat.le_of_eq Array.length_toList)]
      exact Nat.le_refl _
/-- 'throw new E()': new; dup; invokespecial; athrow -/
theorem vx_throw0 {cc : ByteArray} {pc : Nat} (hexec : p.tables.exec = Jvm.exec) (hb : c.code = cc) (hl : l.stackTraces = false) {own cls : String} {names : List String} {ik ic mc ms : Nat} {A : Nat → Prop}
    (hown : s.vm.findClass own = some m.cls) (hcls : Bundle.fit cls = true) (hnames : ∀ n ∈ names, Bundle.fit n = true)
    (hk : (Cond.classLink own ik cls).before args s = true) (hini : (Cond.initialized cls).before args s = true) (hat : ∀ w ∈ vx_at0 own ic cls names, w.before args s = true)
    (hgood : ∀ w ∈ Cond.classLink own ik cls :: Cond.initialized cls :: vx_at0 own ic cls names, vx_ot w = true)
    (hU : vx_Zq Bundle.tN "UNASSIGNED_STACK" Bundle.steD A s s.heap) (hN : vx_Zq Bundle.tN "SUPPRESSED_SENTINEL" Bundle.listD A s s.heap) (hS : va_S A s.heap H locs) (hsize : ls.size = c.maxLocals)
    (d0 : decode cc pc = .ok (.new ik, 3)) (d3 : decode cc (pc + 3) = .ok (.dup, 1)) (d4 : decode cc (pc + 4) = .ok (.invokespecial ic, 3)) (d7 : decode cc (pc + 7) = .ok (.athrow, 1))
    (hout : ∀ x ∈ c.exceptionTable.toList, covers x (pc + 7) = false)
    (hRframes : names.length + 3 < R.frames) (hRlocals : (rest.map fun v => v.category).sum + (13 * (names.length + 1) + 42) ≤ R.locals) (hRcells : cells + 1 ≤ R.cells) (hRslots : slots + 6 ≤ R.slots) (hlocks : meth.locks = false)
    (hx : ∀ t : State, s.vm.Alike t.vm → H.size ≤ t.heap.size → (∀ q : Nat, q < H.size → t.heap[q]? = H[q]?) → XC cls s t)
    (hf : ∀ z ∈ locs, free z.base) (hc : cells + 1 ≤ mc) (hs : slots + 6 ≤ ms) :
    W p l e R s m args below meth c H locs cells slots (vx_MQ below Qc XC args s mc ms free) (F0 m pc ls rest) := by
  intro T hT X
  have htr : e.platform.stackTraces = false := (show e.platform.stackTraces = l.stackTraces by rw [X.admits.platform]).trans hl
  have Y := vx_rebase X (R' := { frames := R.frames, locals := R.locals, cells := 1, slots := 6 }) (Nat.le_refl _) (Nat.le_refl _) hRcells hRslots
  obtain ⟨s', hA⟩ : ∃ z, z = (T.setVm s.vm).setFrames (.invoking m args :: below) := ⟨_, rfl⟩
  rw [← hA] at Y
  have hvm : s'.vm = s.vm := by rw [hA]; rfl
  have hhp : s'.heap = H := by rw [hA]; exact hT
  have hW0 : s.WarmedH s'.vm := by rw [hvm]; exact State.WarmedH.refl s
  have hat' : ∀ w ∈ vx_at0 own ic cls names, w.before args s' = true := fun w hw => vx_ot_at hW0 hvm.symm (hgood w (List.mem_cons_of_mem _ (List.mem_cons_of_mem _ hw))) (hat w hw)
  have hk' : (Cond.classLink own ik cls).before args s' = true := vx_ot_at hW0 hvm.symm (hgood _ List.mem_cons_self) hk
  have hini' : (Cond.initialized cls).before args s' = true := vx_ot_at hW0 hvm.symm (hgood _ (List.mem_cons_of_mem _ List.mem_cons_self)) hini
  have hU' : vx_Zq Bundle.tN "UNASSIGNED_STACK" Bundle.steD A s' s'.heap := by rw [hhp]; exact vx_Zq.moved hW0.alike (hU.kept hS.2.1)
  have hN' : vx_Zq Bundle.tN "SUPPRESSED_SENTINEL" Bundle.listD A s' s'.heap := by rw [hhp]; exact vx_Zq.moved hW0.alike (hN.kept hS.2.1)
  have h : ∀ w ∈ Bundle.ownAtoms0 own ic cls names, w.before args s' = true := vx_own hat' (vx_isRefq hU'.1) (vx_isRefq hN'.1) hU'.2.word hN'.2.word
  have hown' : s'.vm.findClass own = some m.cls := by rw [hvm]; exact hown
  have hins : (Cond.instantiable cls 6).before args s' = true := h _ (by simp [Bundle.ownAtoms0])
  obtain ⟨vm₁, cX, kX, hfX, hkX, -, -, X₁, st1⟩ := Y.newCold hexec (own := own) (C := cls) (index := ik) (n := 6) hown' hk' hins hini'
    (g := F0 m pc ls rest) rfl (by rw [hb]; exact d0) (Nat.le_refl _) (Nat.le_refl _)
  generalize hT1 : (T.setVm vm₁).pushCell { cls := cX, slots := kX.instanceTypes.map defaultValue, vm := .none } = T1 at X₁ st1
  have hcat : (Value.ref T.heap.size).category = 1 := rfl
  have hcellA : T1.heap[T.heap.size]? = some (freshCell cX kX) := by rw [← hT1]; exact State.heap_pushCell_size _ _
  have d3' : decode c.code (pc + 3) = .ok (.dup, 1) := by rw [hb]; exact d3
  obtain ⟨U, hsteps, hrun, hend, hW, hsame, ce, hce, hO⟩ := X₁.ctorThrow0 hexec htr (own := own) (cls := cls) (names := names) (ic := ic) hown' hcls hnames h (fun x hx => nomatch hx) hfX hkX hcellA (by rw [hhp, hT]; exact Nat.le_refl _)
    (g := { method := m, pc := pc + 4, locals := ls, stack := .ref T.heap.size :: .ref T.heap.size :: rest, locked := none }) rfl hsize rfl rfl (rest := rest) rfl
    (by rw [hb]; exact d4) (by rw [hb]; exact d7) hout hRframes (by simp only [List.map_cons, List.sum_cons, hcat]; omega) hlocks
  obtain ⟨f1, f2⟩ := vx_frame hsame
  rw [hhp] at f1 f2
  have hWs : s.WarmedH U.vm := State.WarmedH.trans hW0 hW
  have hcl : s.vm.findClass cls = some ce.cls := by
    have h9 := hO.cls
    rw [hvm] at h9
    exact h9
  have hall : s.sameButNew ({ U with vm := s.vm } : State) locs mc ms := by
    subst hA
    obtain ⟨e1, e2⟩ := hsame
    rw [State.setFrames_setFrames] at e1
    have h2 : (T.setVm s.vm).sameButNew ({ U with vm := s.vm } : State) [] (0 + 1) (0 + 6) := ⟨e1, e2⟩
    have h3 := X.same.trans h2
    rw [List.append_nil] at h3
    exact h3.mono hc hs
  refine ⟨U, ?_, .threw T.heap.size, hrun, hend, Or.inr ⟨T.heap.size, rfl, cls, ce, locs, hx U hWs.alike f1 (fun q hq => f2 q hq (fun z hz => nomatch hz)), hce, hO.vm, hcl, hWs, hall, hf⟩⟩
  refine st1 _ ?_
  show Steps p.tables e below (T1.setTop { method := m, pc := pc + 3, locals := ls, stack := .ref T.heap.size :: rest, locked := none }) _
  jvm_step X₁.here [X₁.here.top, hexec, d3', Value.category]
  exact hsteps
/-- 'throw new E("text")': new; dup; ldc; invokespecial; athrow -/
theorem vx_throwS {cc : ByteArray} {pc : Nat} (hexec : p.tables.exec = Jvm.exec) (hb : c.code = cc) (hl : l.stackTraces = false) {own cls text : String} {names : List String} {ik is ic mc ms sa : Nat} {A : Nat → Prop}
    (hown : s.vm.findClass own = some m.cls) (hcls : Bundle.fit cls = true) (hnames : ∀ n ∈ names, Bundle.fit n = true)
    (hk : (Cond.classLink own ik cls).before args s = true) (hini : (Cond.initialized cls).before args s = true) (hstr : vk_R own is text sa s) (hat : ∀ w ∈ vx_atS own ic cls names, w.before args s = true)
    (hgood : ∀ w ∈ Cond.classLink own ik cls :: Cond.initialized cls :: vx_atS own ic cls names, vx_ot w = true)
    (hU : vx_Zq Bundle.tN "UNASSIGNED_STACK" Bundle.steD A s s.heap) (hN : vx_Zq Bundle.tN "SUPPRESSED_SENTINEL" Bundle.listD A s s.heap) (hS : va_S A s.heap H locs) (hsize : ls.size = c.maxLocals)
    (d0 : decode cc pc = .ok (.new ik, 3)) (d3 : decode cc (pc + 3) = .ok (.dup, 1)) (d4 : decode cc (pc + 4) = .ok (.ldc is, 2)) (d6 : decode cc (pc + 6) = .ok (.invokespecial ic, 3)) (d9 : decode cc (pc + 9) = .ok (.athrow, 1))
    (hout : ∀ x ∈ c.exceptionTable.toList, covers x (pc + 9) = false)
    (hRframes : names.length + 3 < R.frames) (hRlocals : (rest.map fun v => v.category).sum + (13 * (names.length + 1) + 43) ≤ R.locals) (hRcells : cells + 1 ≤ R.cells) (hRslots : slots + 6 ≤ R.slots) (hlocks : meth.locks = false)
    (hx : ∀ t : State, s.vm.Alike t.vm → H.size ≤ t.heap.size → (∀ q : Nat, q < H.size → t.heap[q]? = H[q]?) → XC cls s t)
    (hf : ∀ z ∈ locs, free z.base) (hc : cells + 1 ≤ mc) (hs : slots + 6 ≤ ms) :
    W p l e R s m args below meth c H locs cells slots (vx_MQ below Qc XC args s mc ms free) (F0 m pc ls rest) := by
  intro T hT X
  have htr : e.platform.stackTraces = false := (show e.platform.stackTraces = l.stackTraces by rw [X.admits.platform]).trans hl
  have Y := vx_rebase X (R' := { frames := R.frames, locals := R.locals, cells := 1, slots := 6 }) (Nat.le_refl _) (Nat.le_refl _) hRcells hRslots
  obtain ⟨s', hA⟩ : ∃ z, z = (T.setVm s.vm).setFrames (.invoking m args :: below) := ⟨_, rfl⟩
  rw [← hA] at Y
  have hvm : s'.vm = s.vm := by rw [hA]; rfl
  have hhp : s'.heap = H := by rw [hA]; exact hT
  have hW0 : s.WarmedH s'.vm := by rw [hvm]; exact State.WarmedH.refl s
  have hat' : ∀ w ∈ vx_atS own ic cls names, w.before args s' = true := fun w hw => vx_ot_at hW0 hvm.symm (hgood w (List.mem_cons_of_mem _ (List.mem_cons_of_mem _ hw))) (hat w hw)
  have hk' : (Cond.classLink own ik cls).before args s' = true := vx_ot_at hW0 hvm.symm (hgood _ List.mem_cons_self) hk
  have hini' : (Cond.initialized cls).before args s' = true := vx_ot_at hW0 hvm.symm (hgood _ (List.mem_cons_of_mem _ List.mem_cons_self)) hini
  have hU' : vx_Zq Bundle.tN "UNASSIGNED_STACK" Bundle.steD A s' s'.heap := by rw [hhp]; exact vx_Zq.moved hW0.alike (hU.kept hS.2.1)
  have hN' : vx_Zq Bundle.tN "SUPPRESSED_SENTINEL" Bundle.listD A s' s'.heap := by rw [hhp]; exact vx_Zq.moved hW0.alike (hN.kept hS.2.1)
  have h : ∀ w ∈ Bundle.ownAtoms own ic cls names, w.before args s' = true := vx_own hat' (vx_isRefq hU'.1) (vx_isRefq hN'.1) hU'.2.word hN'.2.word
  have hown' : s'.vm.findClass own = some m.cls := by rw [hvm]; exact hown
  have hins : (Cond.instantiable cls 6).before args s' = true := h _ (by simp [Bundle.ownAtoms])
  obtain ⟨vm₁, cX, kX, hfX, hkX, -, -, X₁, st1⟩ := Y.newCold hexec (own := own) (C := cls) (index := ik) (n := 6) hown' hk' hins hini'
    (g := F0 m pc ls rest) rfl (by rw [hb]; exact d0) (Nat.le_refl _) (Nat.le_refl _)
  generalize hT1 : (T.setVm vm₁).pushCell { cls := cX, slots := kX.instanceTypes.map defaultValue, vm := .none } = T1 at X₁ st1
  have hcat : (Value.ref T.heap.size).category = 1 := rfl
  have hcellA : T1.heap[T.heap.size]? = some (freshCell cX kX) := by rw [← hT1]; exact State.heap_pushCell_size _ _
  have d3' : decode c.code (pc + 3) = .ok (.dup, 1) := by rw [hb]; exact d3
  have d4' : decode c.code (pc + 4) = .ok (.ldc is, 2) := by rw [hb]; exact d4
  have hstr' : vk_R own is text sa s' := vk_R.warm hW0 hstr
  obtain ⟨U, hsteps, hrun, hend, hW, hsame, ce, hce, hO⟩ := X₁.ctorThrowS hexec htr (own := own) (cls := cls) (names := names) (ic := ic) hown' hcls hnames h (fun x hx => nomatch hx) hfX hkX hcellA (by rw [hhp, hT]; exact Nat.le_refl _) (msg := .ref sa) rfl
    (g := { method := m, pc := pc + 6, locals := ls, stack := .ref sa :: .ref T.heap.size :: .ref T.heap.size :: rest, locked := none }) rfl hsize rfl rfl (rest := rest) rfl
    (by rw [hb]; exact d6) (by rw [hb]; exact d9) hout hRframes (by simp only [List.map_cons, List.sum_cons, hcat]; omega) hlocks
  obtain ⟨f1, f2⟩ := vx_frame hsame
  rw [hhp] at f1 f2
  have hWs : s.WarmedH U.vm := State.WarmedH.trans hW0 hW
  have hcl : s.vm.findClass cls = some ce.cls := by
    have h9 := hO.cls
    rw [hvm] at h9
    exact h9
  have hall : s.sameButNew ({ U with vm := s.vm } : State) locs mc ms := by
    subst hA
    obtain ⟨e1, e2⟩ := hsame
    rw [State.setFrames_setFrames] at e1
    have h2 : (T.setVm s.vm).sameButNew ({ U with vm := s.vm } : State) [] (0 + 1) (0 + 6) := ⟨e1, e2⟩
    have h3 := X.same.trans h2
    rw [List.append_nil] at h3
    exact h3.mono hc hs
  refine ⟨U, ?_, .threw T.heap.size, hrun, hend, Or.inr ⟨T.heap.size, rfl, cls, ce, locs, hx U hWs.alike f1 (fun q hq => f2 q hq (fun z hz => nomatch hz)), hce, hO.vm, hcl, hWs, hall, hf⟩⟩
  refine st1 _ ?_
  show Steps p.tables e below (T1.setTop { method := m, pc := pc + 3, locals := ls, stack := .ref T.heap.size :: rest, locked := none }) _
  jvm_step X₁.here [X₁.here.top, hexec, d3', Value.category]
  exact X₁.ldcString hexec (own := own) (text := text) (index := is) (a := sa) hown' hstr'.1 hstr'.2
    (g := { method := m, pc := pc + 4, locals := ls, stack := .ref T.heap.size :: .ref T.heap.size :: rest, locked := none }) rfl d4' _ hsteps
/-- 'throw new E("text")', the text by a wide index -/
theorem vx_throwSW {cc : ByteArray} {pc : Nat} (hexec : p.tables.exec = Jvm.exec) (hb : c.code = cc) (hl : l.stackTraces = false) {own cls text : String} {names : List String} {ik is ic mc ms sa : Nat} {A : Nat → Prop}
    (hown : s.vm.findClass own = some m.cls) (hcls : Bundle.fit cls = true) (hnames : ∀ n ∈ names, Bundle.fit n = true)
    (hk : (Cond.classLink own ik cls).before args s = true) (hini : (Cond.initialized cls).before args s = true) (hstr : vk_R own is text sa s) (hat : ∀ w ∈ vx_atS own ic cls names, w.before args s = true)
    (hgood : ∀ w ∈ Cond.classLink own ik cls :: Cond.initialized cls :: vx_atS own ic cls names, vx_ot w = true)
    (hU : vx_Zq Bundle.tN "UNASSIGNED_STACK" Bundle.steD A s s.heap) (hN : vx_Zq Bundle.tN "SUPPRESSED_SENTINEL" Bundle.listD A s s.heap) (hS : va_S A s.heap H locs) (hsize : ls.size = c.maxLocals)
    (d0 : decode cc pc = .ok (.new ik, 3)) (d3 : decode cc (pc + 3) = .ok (.dup, 1)) (d4 : decode cc (pc + 4) = .ok (.ldc_w is, 3)) (d7 : decode cc (pc + 7) = .ok (.invokespecial ic, 3)) (d10 : decode cc (pc + 10) = .ok (.athrow, 1))
    (hout : ∀ x ∈ c.exceptionTable.toList, covers x (pc + 10) = false)
    (hRframes : names.length + 3 < R.frames) (hRlocals : (rest.map fun v => v.category).sum + (13 * (names.length + 1) + 43) ≤ R.locals) (hRcells : cells + 1 ≤ R.cells) (hRslots : slots + 6 ≤ R.slots) (hlocks : meth.locks = false)
    (hx : ∀ t : State, s.vm.Alike t.vm → H.size ≤ t.heap.size → (∀ q : Nat, q < H.size → t.heap[q]? = H[q]?) → XC cls s t)
    (hf : ∀ z ∈ locs, free z.base) (hc : cells + 1 ≤ mc) (hs : slots + 6 ≤ ms) :
    W p l e R s m args below meth c H locs cells slots (vx_MQ below Qc XC args s mc ms free) (F0 m pc ls rest) := by
  intro T hT X
  have htr : e.platform.stackTraces = false := (show e.platform.stackTraces = l.stackTraces by rw [X.admits.platform]).trans hl
  have Y := vx_rebase X (R' := { frames := R.frames, locals := R.locals, cells := 1, slots := 6 }) (Nat.le_refl _) (Nat.le_refl _) hRcells hRslots
  obtain ⟨s', hA⟩ : ∃ z, z = (T.setVm s.vm).setFrames (.invoking m args :: below) := ⟨_, rfl⟩
  rw [← hA] at Y
  have hvm : s'.vm = s.vm := by rw [hA]; rfl
  have hhp : s'.heap = H := by rw [hA]; exact hT
  have hW0 : s.WarmedH s'.vm := by rw [hvm]; exact State.WarmedH.refl s
  have hat' : ∀ w ∈ vx_atS own ic cls names, w.before args s' = true := fun w hw => vx_ot_at hW0 hvm.symm (hgood w (List.mem_cons_of_mem _ (List.mem_cons_of_mem _ hw))) (hat w hw)
  have hk' : (Cond.classLink own ik cls).before args s' = true := vx_ot_at hW0 hvm.symm (hgood _ List.mem_cons_self) hk
  have hini' : (Cond.initialized cls).before args s' = true := vx_ot_at hW0 hvm.symm (hgood _ (List.mem_cons_of_mem _ List.mem_cons_self)) hini
  have hU' : vx_Zq Bundle.tN "UNASSIGNED_STACK" Bundle.steD A s' s'.heap := by rw [hhp]; exact vx_Zq.moved hW0.alike (hU.kept hS.2.1)
  have hN' : vx_Zq Bundle.tN "SUPPRESSED_SENTINEL" Bundle.listD A s' s'.heap := by rw [hhp]; exact vx_Zq.moved hW0.alike (hN.kept hS.2.1)
  have h : ∀ w ∈ Bundle.ownAtoms own ic cls names, w.before args s' = true := vx_own hat' (vx_isRefq hU'.1) (vx_isRefq hN'.1) hU'.2.word hN'.2.word
  have hown' : s'.vm.findClass own = some m.cls := by rw [hvm]; exact hown
  have hins : (Cond.instantiable cls 6).before args s' = true := h _ (by simp [Bundle.ownAtoms])
  obtain ⟨vm₁, cX, kX, hfX, hkX, -, -, X₁, st1⟩ := Y.newCold hexec (own := own) (C := cls) (index := ik) (n := 6) hown' hk' hins hini'
    (g := F0 m pc ls rest) rfl (by rw [hb]; exact d0) (Nat.le_refl _) (Nat.le_refl _)
  generalize hT1 : (T.setVm vm₁).pushCell { cls := cX, slots := kX.instanceTypes.map defaultValue, vm := .none } = T1 at X₁ st1
  have hcat : (Value.ref T.heap.size).category = 1 := rfl
  have hcellA : T1.heap[T.heap.size]? = some (freshCell cX kX) := by rw [← hT1]; exact State.heap_pushCell_size _ _
  have d3' : decode c.code (pc + 3) = .ok (.dup, 1) := by rw [hb]; exact d3
  have d4' : decode c.code (pc + 4) = .ok (.ldc_w is, 3) := by rw [hb]; exact d4
  have hstr' : vk_R own is text sa s' := vk_R.warm hW0 hstr
  obtain ⟨U, hsteps, hrun, hend, hW, hsame, ce, hce, hO⟩ := X₁.ctorThrowS hexec htr (own := own) (cls := cls) (names := names) (ic := ic) hown' hcls hnames h (fun x hx => nomatch hx) hfX hkX hcellA (by rw [hhp, hT]; exact Nat.le_refl _) (msg := .ref sa) rfl
    (g := { method := m, pc := pc + 7, locals := ls, stack := .ref sa :: .ref T.heap.size :: .ref T.heap.size :: rest, locked := none }) rfl hsize rfl rfl (rest := rest) rfl
    (by rw [hb]; exact d7) (by rw [hb]; exact d10) hout hRframes (by simp only [List.map_cons, List.sum_cons, hcat]; omega) hlocks
  obtain ⟨f1, f2⟩ := vx_frame hsame
  rw [hhp] at f1 f2
  have hWs : s.WarmedH U.vm := State.WarmedH.trans hW0 hW
  have hcl : s.vm.findClass cls = some ce.cls := by
    have h9 := hO.cls
    rw [hvm] at h9
    exact h9
  have hall : s.sameButNew ({ U with vm := s.vm } : State) locs mc ms := by
    subst hA
    obtain ⟨e1, e2⟩ := hsame
    rw [State.setFrames_setFrames] at e1
    have h2 : (T.setVm s.vm).sameButNew ({ U with vm := s.vm } : State) [] (0 + 1) (0 + 6) := ⟨e1, e2⟩
    have h3 := X.same.trans h2
    rw [List.append_nil] at h3
    exact h3.mono hc hs
  refine ⟨U, ?_, .threw T.heap.size, hrun, hend, Or.inr ⟨T.heap.size, rfl, cls, ce, locs, hx U hWs.alike f1 (fun q hq => f2 q hq (fun z hz => nomatch hz)), hce, hO.vm, hcl, hWs, hall, hf⟩⟩
  refine st1 _ ?_
  show Steps p.tables e below (T1.setTop { method := m, pc := pc + 3, locals := ls, stack := .ref T.heap.size :: rest, locked := none }) _
  jvm_step X₁.here [X₁.here.top, hexec, d3', Value.category]
  exact X₁.ldcStringW hexec (own := own) (text := text) (index := is) (a := sa) hown' hstr'.1 hstr'.2
    (g := { method := m, pc := pc + 4, locals := ls, stack := .ref T.heap.size :: .ref T.heap.size :: rest, locked := none }) rfl d4' _ hsteps
end Ends
section Bodies
variable {l : Launch}
theorem vx_ofW {y : MethodName} {ws ws' : List Cond} {rm : Room} {Pc : Array Value → State → Prop} {Qc : Array Value → State → Outcome → State → Prop} {XC : String → State → State → Prop} {mc ms : Nat} {free : Addr → Prop} {cc : ByteArray} {maxL : Nat} {ret : Option FieldType}
    (hy : plainName y.cls = true) (hw : ws = Cond.code y cc maxL ret :: ws')
    (body : ∀ p e s m args below meth c s₁, BodyLoose p l y (headSpec ws rm) cc maxL ret e s m args below meth c s₁ → c.maxLocals = maxL → (∀ x ∈ c.exceptionTable.toList, False) → Pc args s →
      W p l e (headSpec ws rm).room s m args below meth c s.heap [] 0 0 (vx_MQ below Qc XC args s mc ms free) (entryFrame m args maxL)) : vx_Met l y ws rm Pc Qc XC mc ms free := by
  refine MetFree.of_bodyS (code := cc) (maxLocals := maxL) (ret := ret) hy ?_ ?_
  · intro args s m h hn
    obtain ⟨meth, c, h1, h2, h3, h4, h5, h6, -, -⟩ := Cond.code_spec hn (atoms_spec (ws := ws) h _ (by rw [hw]; exact List.mem_cons_self))
    exact ⟨meth, c, h1, h2, h3, h4, h5, h6⟩
  · intro p e s m args below meth c s₁ B hml hP _
    have hh0 : s₁.heap = s.heap := by rw [B.state]; rfl
    have ht : ∀ x ∈ c.exceptionTable.toList, False := by
      obtain ⟨meth9, c9, h1, h2, -, -, -, -, h7, -⟩ := Cond.code_spec B.named (atoms_spec (ws := ws) B.pre _ (by rw [hw]; exact List.mem_cons_self))
      cases Option.some.inj (h1.symm.trans B.method)
      cases Option.some.inj (h2.symm.trans (Stand.of_body B).code)
      intro x hx
      rw [Array.isEmpty_iff.mp h7] at hx
      cases hx
    obtain ⟨t, a1, o, b1, b2, b3⟩ := body p e s m args below meth c s₁ B hml ht hP s₁ hh0 (Stand.of_body B)
    exact ⟨t, o, a1, b1, b2, b3⟩
/-- the table of a body with handlers -/
theorem vx_table {p : Program} {x y : MethodName} {S : Spec} {cc bytes : ByteArray} {maxL maxL' : Nat} {ret ret' : Option FieldType} {e : Env} {s s₁ : State} {m : MethodId} {args : Array Value} {below : List Frame} {meth : Method} {c : Code} {hh : List (Nat × Nat × Nat × Nat)}
    (B : BodyLoose p l y S cc maxL ret e s m args below meth c s₁) (h : (Cond.codeWith y bytes maxL' ret' hh).before args s = true) : c.exceptionTable.toList = tableOf hh := by
  obtain ⟨m9, meth9, c9, hn9, h1, h2, -, -, h6, -⟩ := Cond.codeWith_spec h
  cases Option.some.inj (hn9.symm.trans B.named)
  cases Option.some.inj (h1.symm.trans B.method)
  cases Option.some.inj (h2.symm.trans (Stand.of_body B).code)
  rw [← h6, table_eq]
end Bodies
end VXA
/-! ===== END ===== -/
/-! ===== BEGIN a static call of a method with an exception table ===== -/
section VXS
variable {p : Program} {l : Launch} {e : Env} {R : Room} {s : State} {m : MethodId} {args : Array Value} {below : List Frame} {meth : Method} {c : Code} {T : State} {H : Heap} {locs : List Loc} {cells slots : Nat}
abbrev vx_CSW (R : Room) (s : State) (args : Array Value) (own : String) (index : Nat) (y : MethodName) (bytes : ByteArray) (maxL : Nat) (ret : Option FieldType) (hh : List (Nat × Nat × Nat × Nat)) (ws : List Cond) (rm : Room) (mc ms n : Nat) : Prop :=
  (rm.cells = mc ∧ rm.slots = ms ∧ rm.frames + 1 ≤ R.frames ∧ 8 + (maxL + 11) + rm.locals ≤ R.locals ∧ (∀ w ∈ ws, ∀ (a' : Array Value) (U : State), s.WarmedH U.vm → w.before a' U = true) ∧ Cond.codeWith y bytes maxL ret hh ∈ ws) ∧
  (Cond.codeWith y bytes maxL ret hh).before args s = true ∧ (Cond.initialized y.cls).before args s = true ∧ (y.cls ≠ "java/lang/invoke/MethodHandle" ∧ y.cls ≠ "java/lang/invoke/VarHandle") ∧
  (∀ sig, parseMethodDescriptor y.desc = some sig → n = sig.parameters.length) ∧ (Cond.methodLink own index y).before args s = true ∧ (Cond.static y).before args s = true
theorem vx_cwSW {own : String} {index maxL mc ms : Nat} {y : MethodName} {bytes : ByteArray} {ret : Option FieldType} {hh : List (Nat × Nat × Nat × Nat)} {Ts ws ws' : List Cond} {rm : Room} (n : Nat) (ht : ∀ w ∈ Ts, w.before args s = true) (hT : GoodIn Ts (va_wsS own index y ws)) (hw : ws = Cond.codeWith y bytes maxL ret hh :: ws') (hrc : rm.cells = mc) (hrs : rm.slots = ms)
    (hd : y.cls ≠ "java/lang/invoke/MethodHandle" ∧ y.cls ≠ "java/lang/invoke/VarHandle" ∧ (parseMethodDescriptor y.desc).map (fun d => d.parameters.length) = some n) (hR : rm.frames + 1 ≤ R.frames ∧ 8 + (maxL + 11) + rm.locals ≤ R.locals) :
    vx_CSW R s args own index y bytes maxL ret hh ws rm mc ms n := by
  have ok : ∀ w ∈ va_wsS own index y ws, w.before args s = true := fun w h => ht w (hT w h).1
  have hG : GoodIn Ts ws := fun w h => hT w (by unfold va_wsS; exact List.mem_append_right _ h)
  have hc : Cond.codeWith y bytes maxL ret hh ∈ ws := by rw [hw]; exact List.mem_cons_self
  refine ⟨⟨hrc, hrs, hR.1, hR.2, pay_in ht hG, hc⟩, ht _ (hG _ hc).1, ok _ (by simp [va_wsS]), ⟨hd.1, hd.2.1⟩, fun sig h => ?_, ok _ (by simp [va_wsS]), ok _ (by simp [va_wsS])⟩
  have h2 := hd.2.2
  rw [h] at h2
  exact (Option.some.inj h2).symm
theorem vx_callSW (X : Stand p l e R s m args below meth c T locs cells slots) (hexec : p.tables.exec = Jvm.exec) {own : String} {index : Nat} {y : MethodName} {bytes : ByteArray} {maxL : Nat} {ret : Option FieldType} {hh : List (Nat × Nat × Nat × Nat)}
    (hown : s.vm.findClass own = some m.cls) (hlink : (Cond.methodLink own index y).before args s = true) (hstat : (Cond.static y).before args s = true) (hinit : (Cond.initialized y.cls).before args s = true)
    (hcode : (Cond.codeWith y bytes maxL ret hh).before args s = true) (hy : y.cls ≠ "java/lang/invoke/MethodHandle" ∧ y.cls ≠ "java/lang/invoke/VarHandle")
    {W9 : Nat} {Pre : Pt → Array Value → Prop} {Post : Pt → Array Value → Option Value → Pt → Prop} (hK : Back l R p e below s args y 3 W9 Pre Post)
    {g : JFrame} (hg : g.method = m) (hsize : g.locals.size = c.maxLocals) {argsL rest : List Value} (hlen : ∀ sig, parseMethodDescriptor y.desc = some sig → argsL.length = sig.parameters.length)
    (hstack : g.stack = argsL.reverse ++ rest) (hW : 2 * g.monitorRoom + (rest.map fun v => v.category).sum ≤ W9) (hdg : decode c.code g.pc = .ok (.invokestatic index, 3))
    (hpre : ∀ vm₁, s.WarmedH vm₁ → Pre ⟨T.setVm vm₁, locs, cells, slots⟩ argsL.toArray) :
    ∃ (v : Option Value) (vm₁ : Vm) (B : Pt), s.WarmedH vm₁ ∧ Stand p l e R s m args below meth c B.U B.locs B.cells B.slots ∧ Post ⟨T.setVm vm₁, locs, cells, slots⟩ argsL.toArray v B ∧
      ∀ target, Steps p.tables e below (B.U.setTop { g with pc := g.pc + 3, stack := v.toList ++ rest }) target → Steps p.tables e below (T.setTop g) target := by
  obtain ⟨mk, methM, cM, hnamed, hmethM, -, -, -, -, -, -, hsigM⟩ := Cond.codeWith_spec hcode
  have hstatic : methM.isStatic = true := Cond.static_spec hnamed hmethM hstat
  obtain ⟨kP, hkP, -⟩ := className_of_methodNamed hnamed
  have hinitP : kP.init = .initialized := Cond.initialized_spec (findClass_of_methodNamed hnamed) hkP hinit
  obtain ⟨vm₁, X₁, hstep₁⟩ := X.invokestatic hexec hown hlink hnamed hmethM hstatic hkP hinitP hy (g := g) hg (argsL := argsL) (rest := rest) (hlen _ hsigM) hstack hdg
  obtain ⟨v, B, X', hpost, hsteps⟩ := hK m meth c ⟨T.setVm vm₁, locs, cells, slots⟩ { g with stack := rest } (.invokestatic index) mk argsL.toArray X₁ hg hsize hdg hW (X₁.named hnamed) (hpre vm₁ X₁.warmed)
  exact ⟨v, vm₁, B, X₁.warmed, X', hpost, fun target h => hstep₁ _ fun acts => by rw [doInvoke_state]; exact hsteps.trans h⟩
theorem vx_runSW {y : MethodName} {bytes cc : ByteArray} {maxL nL mc ms n index : Nat} {ret : Option FieldType} {hh : List (Nat × Nat × Nat × Nat)} {ws : List Cond} {rm : Room} {Pc : Array Value → State → Prop} {Qc : Array Value → State → Outcome → State → Prop} {free : Addr → Prop} {Ts : List Cond} {own : String} {As rest : List Value} {g : JFrame}
    (S : CallFix p m c cc nL s args Ts own) (hM : Met l y ws rm Pc Qc mc ms free) (cw : vx_CSW R s args own index y bytes maxL ret hh ws rm mc ms n) (hp : PreS s H Pc As)
    (hg : g.method = m) (hn : As.length = n) (hsize : g.locals.size = nL) (hstack : g.stack = As.reverse ++ rest) (hW : 2 * g.monitorRoom + (rest.map fun v => v.category).sum ≤ 8) (hdg : decode cc g.pc = .ok (.invokestatic index, 3)) (hf : cells + mc ≤ R.cells ∧ slots + ms ≤ R.slots) :
    va_Run p l e R s m args below meth c H locs cells slots mc ms g rest (Qc As.toArray) (free) := by
  obtain ⟨⟨hrc, hrs, hfr, hlo, hws, hcw⟩, hcode, hini, hy, hlen, hl, hstt⟩ := cw
  have hK : Back l R p e below s args y 3 8 (PreOf R mc ms Pc) (PostOf Qc mc ms free) := va_backW (hh := hh) (bytes := bytes) (maxL := maxL) (ret := ret) hM hp.1 hrc hrs hfr hlo hws hcw (fun a' U hW => word_at hW (Or.inl (by first | rfl | simp [Cond.onTables, Cond.keeps, Cond.steady])) hini)
  obtain ⟨hx, hb, hml, ho, -⟩ := S
  intro T hT X
  obtain ⟨v, vm₁, ⟨U', l2, c2, s2⟩, hW₁, X', ⟨g', mk, t, L, e1, e2, hq, h1, hL, h2, h3⟩, st⟩ := vx_callSW X hx (hh := hh) (bytes := bytes) (maxL := maxL) (ret := ret) ho hl hstt hini hcode hy hK hg (hsize.trans hml.symm) (argsL := As) (rest := rest) (fun sig h => hn.trans (hlen sig h)) hstack hW (by rw [hb]; exact hdg)
    (fun vm₁ hW₁ => ⟨hf.1, hf.2, hp.2 (T.setVm vm₁) hT hW₁⟩)
  dsimp only [Pt.U, Pt.locs, Pt.cells, Pt.slots] at X' e1 e2 h1 h2 h3 st
  subst h1; subst h2; subst h3
  exact ⟨v, (T.setVm vm₁).calling g' mk As.toArray, t, U', L, hT, X', hL, e1, e2, hq, st⟩
/-- not caught here, past rows that name other classes: it goes on to the caller -/
theorem vx_outP {p : Program} {l : Launch} {e : Env} {R : Room} {s : State} {m : MethodId} {args : Array Value} {below : List Frame} {meth : Method} {c : Code} {H : Heap} {locs : List Loc} {cells slots : Nat} {free : Addr → Prop} {ls : Array Slot} {rest : List Value} {Qc : Array Value → State → Outcome → State → Prop} {XC : String → State → State → Prop}
    {pc : Nat} {own E : String} {ce : Cell} {q : Addr} {mc ms : Nat} (hown : s.vm.findClass own = some m.cls) (hlocks : meth.locks = false)
    (hpass : ∀ z ∈ c.exceptionTable.toList, covers z pc = false ∨ (z.catchType ≠ 0 ∧ ∃ nm : String, (Cond.classLink own z.catchType nm).before args s = true ∧ va_Nc E nm s)) (hcell : H[q]? = some ce) (hv : ce.vm = .none) (hcl : s.vm.findClass E = some ce.cls)
    (hx : ∀ t : State, t.heap = H → s.vm.Alike t.vm → XC E s t) (hf : ∀ z ∈ locs, free z.base) (hc : cells ≤ mc) (hs : slots ≤ ms) :
    vx_W p l e R s m args below meth c H locs cells slots (vx_MQ below Qc XC args s mc ms free) (F0 m pc ls rest) q := by
  intro T hT X
  have hpl : e.platform.magicAccessors = ({} : Platform).magicAccessors := by rw [X.admits.platform]
  obtain ⟨vm', hW', X', st⟩ := X.outThrough hlocks q (g := F0 m pc ls rest) rfl rfl rfl (cell := ce) (by rw [hT]; exact hcell) (by rw [hv]; rfl)
    (by obtain ⟨k9, h9, -⟩ := Vm.findClass_spec hcl; exact ⟨k9, h9⟩) (fun z hz => by
      rcases hpass z hz with h | ⟨hz0, nm, hl1, hn1⟩
      · exact Or.inl h
      · obtain ⟨c6, hc6, hcl6⟩ := Cond.classLink_spec hown hl1 e.platform hpl
        obtain ⟨a8, b8, h1, h2, h3⟩ := hn1
        cases Option.some.inj (h1.symm.trans hcl)
        cases Option.some.inj (h2.symm.trans hc6)
        exact Or.inr ⟨hz0, _, hcl6, h3⟩)
  obtain ⟨g₀, hfr⟩ := X'.frames_eq
  have hcell9 : ((T.setVm vm').setFrames (.throwing q :: below)).heap[q]? = some ce := by
    show T.heap[q]? = some ce
    rw [hT]; exact hcell
  have hend : Ended ((T.setVm vm').setFrames (.throwing q :: below)) below (.threw q) := State.frames_setFrames _ (State.cur_lt_of_frames hfr)
  refine ⟨(T.setVm vm').setFrames (.throwing q :: below), ?_, .threw q, X'.here.running, hend, Or.inr ⟨q, rfl, E, ce, locs, hx _ hT (X'.ends _).1.alike, hcell9, hv, hcl, (X'.ends _).1, (X'.ends _).2.mono hc hs, hf⟩⟩
  rw [X.pushThrowing_eq]
  exact st
/-- a thing of a world lies in the heap -/
theorem vx_lt {D : va_G} {cl : List vw_C} {ws : va_W} {H1 : Heap} (h : va_P D cl ws H1) {k : Nat} {q : Nat × va_E} (hk : ws[k]? = some q) : q.1 < H1.size := (h k q hk).lt
end VXS
/-! ===== END ===== -/
/-! ===== BEGIN methods with a table of their own: called by a name, returning or throwing ===== -/
section VXH
/-! vx_backW, vx_callVX, vx_callSX, vx_callVW, vx_runVW, vx_runVX, vx_runSX, vx_ofWH follow the same proofs as their sisters above (Free/Laws.lean, Shelf42/LK1.lean); vx_outP calls Shelf42/NT130.lean (outThrough). -/
section
variable {l : Launch} {R : Room} {p : Program} {e : Env} {below : List Frame} {s : State} {sargs : Array Value} {y : MethodName} {len W9 : Nat}
theorem vx_backW {ws : List Cond} {rm : Room} {Pc : Array Value → State → Prop} {Qc : Array Value → State → Outcome → State → Prop} {XC : String → State → State → Prop} {mc ms : Nat} {free : Addr → Prop} {bytes : ByteArray} {maxL : Nat} {ret : Option FieldType} {hh : List (Nat × Nat × Nat × Nat)}
    (hM : vx_Met l y ws rm Pc Qc XC mc ms free) (hblind : FrameBlind Pc) (hrc : rm.cells = mc) (hrs : rm.slots = ms)
    (hframes : rm.frames + 1 ≤ R.frames) (hlocals : W9 + (maxL + 11) + rm.locals ≤ R.locals)
    (hws : ∀ w ∈ ws, ∀ a' U, s.WarmedH U.vm → w.before a' U = true) (hcode : Cond.codeWith y bytes maxL ret hh ∈ ws) (hinit : ∀ a' U, s.WarmedH U.vm → (Cond.initialized y.cls).before a' U = true) :
    vx_Back l R p e below s sargs y len W9 (PreOf R mc ms Pc) (PostOf Qc mc ms free) (vx_Post XC mc ms free) := by
  intro m meth c A g ig mk a X hg hsize hdg hW hn hp
  have h1 : (headSpec ws rm).pre.before a A.U = true := atoms_intro fun w hw => hws w hw _ _ X.warmed
  have h2 : (Cond.codeWith y bytes maxL ret hh).before a A.U = true := hws _ hcode _ _ X.warmed
  have h3 : (Cond.initialized y.cls).before a A.U = true := hinit _ _ X.warmed
  have h4 : A.cells + (headSpec ws rm).room.cells ≤ R.cells := by rw [show (headSpec ws rm).room.cells = mc from hrc]; exact hp.1
  have h5 : A.slots + (headSpec ws rm).room.slots ≤ R.slots := by rw [show (headSpec ws rm).room.slots = ms from hrs]; exact hp.2.1
  have hPc : Pc a (A.U.calling g mk a) := hblind _ _ _ _ hp.2.2
  obtain ⟨U, Ls, c0, s0⟩ := A
  dsimp only [Pt.U, Pt.locs, Pt.cells, Pt.slots] at h1 h2 h3 h4 h5 X hn hPc ⊢
  obtain ⟨m9, methY, cY, hn9, hmY, hcY, -, hlY, -⟩ := Cond.codeWith_spec h2
  cases Option.some.inj (hn9.symm.trans hn)
  obtain ⟨kY, hkY, -⟩ := className_of_methodNamed hn
  have hinitY : kY.init = .initialized := Cond.initialized_spec (findClass_of_methodNamed hn) hkY h3
  have h : At U g.method c below := by rw [hg]; exact X.here
  have hlocals9 : W9 + (maxL + 11) + (headSpec ws rm).room.locals ≤ R.locals := hlocals
  have happ : (headSpec ws rm).appliesLoose y e.platform (U.calling g mk a) = true :=
    Spec.appliesLoose_calling (g := g) h hdg hn hkY hinitY
      (X.room_calling (g := g) (R' := (headSpec ws rm).room) hsize hmY hcY hframes (by rw [hlY]; omega) h4 h5) h1
  obtain ⟨mid, hmid⟩ := h.above
  have hfr : (U.setTop g).frames = (.java g :: mid) ++ below := by rw [State.frames_setTop' g h.top, hmid]; rfl
  obtain ⟨o, s₂, hsteps, -, hend, hq⟩ := Steps.callFree hM p X.admits X.cas X.clock (acts := []) hfr happ hPc trivial
  have hq' : vx_Q Qc XC mc ms free a (U.calling g mk a) o s₂ := hq
  rw [State.frames_setTop' g h.top] at hend
  obtain ⟨g₀, hg0⟩ := Option.isSome_iff_exists.mp h.top
  obtain ⟨r, hr⟩ := State.topJava?_eq_some.mp hg0
  have hr' : (({ U with heap := s₂.heap, slotsUsed := s₂.slotsUsed } : State).setVm s₂.vm).frames = .java g₀ :: r := hr
  rcases hq' with ⟨hqc, L, hfe, hL⟩ | ⟨q, rfl, E, ce, L, hx, hce, hcv, hcl, hW₂, hsm, hL⟩
  · obtain ⟨⟨v, rfl⟩, hW₂, e2, q2, q3, q4, q5, q6⟩ := id hfe
    have e3 : s₂ = ({ (U.calling g mk a).setFrames s₂.frames with heap := s₂.heap, slotsUsed := s₂.slotsUsed } : State).setVm s₂.vm := by
      have : s₂ = ({ s₂ with vm := (U.calling g mk a).vm } : State).setVm s₂.vm := rfl
      rw [e2] at this
      exact this
    obtain ⟨c₂, i₂, len₂, hc₂, hd₂, hf₂⟩ := hend
    have hW' : U.WarmedH s₂.vm := hW₂
    have hcc : c₂ = c := by
      have h1 : s₂.code? g.method = U.code? g.method := by
        rw [State.code?_eq, State.code?_eq, hW'.alike.method?]
      exact Option.some.inj (hc₂.symm.trans (h1.trans h.code))
    subst hcc
    have hlen : len₂ = len := by rw [hdg] at hd₂; cases hd₂; rfl
    subst hlen
    have hs₂ : s₂ = (({ U with heap := s₂.heap, slotsUsed := s₂.slotsUsed } : State).setVm s₂.vm).setTop { g with pc := g.pc + len₂, stack := v.toList ++ g.stack } := by
      refine e3.trans ?_
      rw [hf₂, State.calling_eq h.top, State.setFrames_setFrames, State.setTop_of_frames _ hr', hr]
      rfl
    have hsame : U.sameButNew ({ U with heap := s₂.heap, slotsUsed := s₂.slotsUsed } : State) L mc ms := by
      refine ⟨?_, q2, q3, q4, q5, q6⟩
      obtain ⟨t, ht, -⟩ := State.frames_cons hr
      show ({ U with heap := s₂.heap, slotsUsed := s₂.slotsUsed } : State) = { U.setFrames U.frames with heap := s₂.heap, slotsUsed := s₂.slotsUsed }
      rw [State.setFrames_self ht]
    subst hg
    refine Or.inl ⟨v, ⟨(({ U with heap := s₂.heap, slotsUsed := s₂.slotsUsed } : State).setVm s₂.vm), Ls ++ L, c0 + mc, s0 + ms⟩,
      ⟨X.admits, X.cas, X.clock, X.frames, X.room, X.hears, X.method, X.code, (X.here.setHeapUsed s₂.heap s₂.slotsUsed).setVm hW'.alike, X.tail, State.WarmedH.trans X.warmed hW', X.limits, X.bytes, X.same.trans (hsame.setVm s.vm)⟩,
      ⟨g, mk, s₂, L, rfl, rfl, hqc, rfl, hL, rfl, rfl⟩, ?_⟩
    show Steps p.tables e below _ ((({ U with heap := s₂.heap, slotsUsed := s₂.slotsUsed } : State).setVm s₂.vm).setTop { g with pc := g.pc + len₂, stack := v.toList ++ g.stack })
    rw [← hs₂]
    exact hsteps
  · obtain ⟨e2, q2, q3, q4, q5, q6⟩ := id hsm
    have e3 : s₂ = ({ (U.calling g mk a).setFrames s₂.frames with heap := s₂.heap, slotsUsed := s₂.slotsUsed } : State).setVm s₂.vm := by
      have : s₂ = ({ s₂ with vm := (U.calling g mk a).vm } : State).setVm s₂.vm := rfl
      rw [e2] at this
      exact this
    have hf₂ : s₂.frames = .throwing q :: .java g :: U.frames.tail := hend
    have hW' : U.WarmedH s₂.vm := hW₂
    have hs₂ : s₂ = ((({ U with heap := s₂.heap, slotsUsed := s₂.slotsUsed } : State).setVm s₂.vm).setTop g).pushFrame (.throwing q) := by
      refine e3.trans ?_
      rw [hf₂, State.calling_eq h.top, State.setFrames_setFrames, State.pushFrame, State.frames_setTop _ hr', State.setTop_of_frames _ hr', State.setFrames_setFrames, hr]
      rfl
    have hsame : U.sameButNew ({ U with heap := s₂.heap, slotsUsed := s₂.slotsUsed } : State) L mc ms := by
      refine ⟨?_, q2, q3, q4, q5, q6⟩
      obtain ⟨t, ht, -⟩ := State.frames_cons hr
      show ({ U with heap := s₂.heap, slotsUsed := s₂.slotsUsed } : State) = { U.setFrames U.frames with heap := s₂.heap, slotsUsed := s₂.slotsUsed }
      rw [State.setFrames_self ht]
    subst hg
    refine Or.inr ⟨q, ⟨(({ U with heap := s₂.heap, slotsUsed := s₂.slotsUsed } : State).setVm s₂.vm), Ls ++ L, c0 + mc, s0 + ms⟩,
      ⟨X.admits, X.cas, X.clock, X.frames, X.room, X.hears, X.method, X.code, (X.here.setHeapUsed s₂.heap s₂.slotsUsed).setVm hW'.alike, X.tail, State.WarmedH.trans X.warmed hW', X.limits, X.bytes, X.same.trans (hsame.setVm s.vm)⟩,
      ⟨g, mk, s₂, L, E, ce, rfl, rfl, hx, hce, hcv, hcl, rfl, hL, rfl, rfl⟩, ?_⟩
    show Steps p.tables e below _ (((({ U with heap := s₂.heap, slotsUsed := s₂.slotsUsed } : State).setVm s₂.vm).setTop g).pushFrame (.throwing q))
    rw [← hs₂]
    exact hsteps
end
variable {p : Program} {l : Launch} {e : Env} {R : Room} {s : State} {m : MethodId} {args : Array Value} {below : List Frame} {meth : Method} {c : Code} {T : State} {H : Heap} {locs : List Loc} {cells slots : Nat}
theorem vx_callVX (X : Stand p l e R s m args below meth c T locs cells slots) (hexec : p.tables.exec = Jvm.exec) {own C : String} {index : Nat} {y : MethodName} {bytes : ByteArray} {maxL : Nat} {ret : Option FieldType} {hh : List (Nat × Nat × Nat × Nat)}
    (hown : s.vm.findClass own = some m.cls) (hlink : (Cond.methodLink own index y).before args s = true) (hinst : (Cond.instanceMethod y).before args s = true) (hsel : (Cond.selects C y y).before args s = true)
    (hcode : (Cond.codeWith y bytes maxL ret hh).before args s = true) (hy : y.cls ≠ "java/lang/invoke/MethodHandle" ∧ y.cls ≠ "java/lang/invoke/VarHandle")
    {W9 : Nat} {Pre : Pt → Array Value → Prop} {Post : Pt → Array Value → Option Value → Pt → Prop} {PostX : Pt → Array Value → Addr → Pt → Prop} (hK : vx_Back l R p e below s args y 3 W9 Pre Post PostX)
    {b : Addr} {cellB : Cell} (hcell : T.heap[b]? = some cellB) (hobj : cellB.vm.isStatics = false) (hcls : s.vm.findClass C = some cellB.cls)
    {g : JFrame} (hg : g.method = m) (hsize : g.locals.size = c.maxLocals) {argsL rest : List Value} (hlen : ∀ sig, parseMethodDescriptor y.desc = some sig → argsL.length = sig.parameters.length)
    (hstack : g.stack = argsL.reverse ++ .ref b :: rest) (hW : 2 * g.monitorRoom + (rest.map fun v => v.category).sum ≤ W9) (hdg : decode c.code g.pc = .ok (.invokevirtual index, 3))
    (hpre : ∀ vm₁, s.WarmedH vm₁ → Pre ⟨T.setVm vm₁, locs, cells, slots⟩ (Value.ref b :: argsL).toArray) :
    (∃ (v : Option Value) (vm₁ : Vm) (B : Pt), s.WarmedH vm₁ ∧ Stand p l e R s m args below meth c B.U B.locs B.cells B.slots ∧ Post ⟨T.setVm vm₁, locs, cells, slots⟩ (Value.ref b :: argsL).toArray v B ∧
      ∀ target, Steps p.tables e below (B.U.setTop { g with pc := g.pc + 3, stack := v.toList ++ rest }) target → Steps p.tables e below (T.setTop g) target) ∨
    (∃ (q : Addr) (vm₁ : Vm) (B : Pt), s.WarmedH vm₁ ∧ Stand p l e R s m args below meth c B.U B.locs B.cells B.slots ∧ PostX ⟨T.setVm vm₁, locs, cells, slots⟩ (Value.ref b :: argsL).toArray q B ∧
      Steps p.tables e below (T.setTop g) ((B.U.setTop { g with stack := rest }).pushFrame (.throwing q))) := by
  obtain ⟨mk, methM, hnamed, hmethM, hstM, habM⟩ := Cond.instanceMethod_spec hinst
  obtain ⟨m8, methM', cM, hn8, hmethM', -, -, -, -, -, -, hsigM⟩ := Cond.codeWith_spec hcode
  cases Option.some.inj (hn8.symm.trans hnamed)
  cases hmethM.symm.trans hmethM'
  obtain ⟨c2, r2, m2, q1, q2, q3, q4, kP, hkP, hkPi⟩ := Cond.selects_spec hsel
  cases hcls.symm.trans q1
  cases (State.methodFound?_of_named hnamed hy).symm.trans q2
  cases hnamed.symm.trans q3
  have hselP : selectMethod e.platform s.vm cellB.cls mk = .method mk := by rw [Launch.admits_selectMethod X.admits]; exact q4
  obtain ⟨vm₁, X₁, hstep₁⟩ := X.invokevirtual hexec hown hlink hnamed hmethM hstM hkP hkPi hy (a := b) (cell := cellB) hcell
    (fun z h => by rw [h] at hobj; cases hobj) hselP hmethM habM hkP hkPi (g := g) hg (argsL := argsL) (rest := rest) (hlen _ hsigM) hstack hdg
  rcases hK m meth c ⟨T.setVm vm₁, locs, cells, slots⟩ { g with stack := rest } (.invokevirtual index) mk (Value.ref b :: argsL).toArray X₁ hg hsize hdg hW (X₁.named hnamed) (hpre vm₁ X₁.warmed) with ⟨v, B, X', hpost, hsteps⟩ | ⟨q, B, X', hpost, hsteps⟩
  · exact Or.inl ⟨v, vm₁, B, X₁.warmed, X', hpost, fun target h => hstep₁ _ fun acts => by rw [doInvoke_state]; exact hsteps.trans h⟩
  · exact Or.inr ⟨q, vm₁, B, X₁.warmed, X', hpost, hstep₁ _ fun acts => by rw [doInvoke_state]; exact hsteps⟩
theorem vx_callSX (X : Stand p l e R s m args below meth c T locs cells slots) (hexec : p.tables.exec = Jvm.exec) {own : String} {index : Nat} {y : MethodName} {bytes : ByteArray} {maxL : Nat} {ret : Option FieldType} {hh : List (Nat × Nat × Nat × Nat)}
    (hown : s.vm.findClass own = some m.cls) (hlink : (Cond.methodLink own index y).before args s = true) (hstat : (Cond.static y).before args s = true) (hinit : (Cond.initialized y.cls).before args s = true)
    (hcode : (Cond.codeWith y bytes maxL ret hh).before args s = true) (hy : y.cls ≠ "java/lang/invoke/MethodHandle" ∧ y.cls ≠ "java/lang/invoke/VarHandle")
    {W9 : Nat} {Pre : Pt → Array Value → Prop} {Post : Pt → Array Value → Option Value → Pt → Prop} {PostX : Pt → Array Value → Addr → Pt → Prop} (hK : vx_Back l R p e below s args y 3 W9 Pre Post PostX)
    {g : JFrame} (hg : g.method = m) (hsize : g.locals.size = c.maxLocals) {argsL rest : List Value} (hlen : ∀ sig, parseMethodDescriptor y.desc = some sig → argsL.length = sig.parameters.length)
    (hstack : g.stack = argsL.reverse ++ rest) (hW : 2 * g.monitorRoom + (rest.map fun v => v.category).sum ≤ W9) (hdg : decode c.code g.pc = .ok (.invokestatic index, 3))
    (hpre : ∀ vm₁, s.WarmedH vm₁ → Pre ⟨T.setVm vm₁, locs, cells, slots⟩ argsL.toArray) :
    (∃ (v : Option Value) (vm₁ : Vm) (B : Pt), s.WarmedH vm₁ ∧ Stand p l e R s m args below meth c B.U B.locs B.cells B.slots ∧ Post ⟨T.setVm vm₁, locs, cells, slots⟩ argsL.toArray v B ∧
      ∀ target, Steps p.tables e below (B.U.setTop { g with pc := g.pc + 3, stack := v.toList ++ rest }) target → Steps p.tables e below (T.setTop g) target) ∨
    (∃ (q : Addr) (vm₁ : Vm) (B : Pt), s.WarmedH vm₁ ∧ Stand p l e R s m args below meth c B.U B.locs B.cells B.slots ∧ PostX ⟨T.setVm vm₁, locs, cells, slots⟩ argsL.toArray q B ∧
      Steps p.tables e below (T.setTop g) ((B.U.setTop { g with stack := rest }).pushFrame (.throwing q))) := by
  obtain ⟨mk, methM, cM, hnamed, hmethM, -, -, -, -, -, -, hsigM⟩ := Cond.codeWith_spec hcode
  have hstatic : methM.isStatic = true := Cond.static_spec hnamed hmethM hstat
  obtain ⟨kP, hkP, -⟩ := className_of_methodNamed hnamed
  have hinitP : kP.init = .initialized := Cond.initialized_spec (findClass_of_methodNamed hnamed) hkP hinit
  obtain ⟨vm₁, X₁, hstep₁⟩ := X.invokestatic hexec hown hlink hnamed hmethM hstatic hkP hinitP hy (g := g) hg (argsL := argsL) (rest := rest) (hlen _ hsigM) hstack hdg
  rcases hK m meth c ⟨T.setVm vm₁, locs, cells, slots⟩ { g with stack := rest } (.invokestatic index) mk argsL.toArray X₁ hg hsize hdg hW (X₁.named hnamed) (hpre vm₁ X₁.warmed) with ⟨v, B, X', hpost, hsteps⟩ | ⟨q, B, X', hpost, hsteps⟩
  · exact Or.inl ⟨v, vm₁, B, X₁.warmed, X', hpost, fun target h => hstep₁ _ fun acts => by rw [doInvoke_state]; exact hsteps.trans h⟩
  · exact Or.inr ⟨q, vm₁, B, X₁.warmed, X', hpost, hstep₁ _ fun acts => by rw [doInvoke_state]; exact hsteps⟩
theorem vx_callVW (X : Stand p l e R s m args below meth c T locs cells slots) (hexec : p.tables.exec = Jvm.exec) {own C : String} {index : Nat} {y : MethodName} {bytes : ByteArray} {maxL : Nat} {ret : Option FieldType} {hh : List (Nat × Nat × Nat × Nat)}
    (hown : s.vm.findClass own = some m.cls) (hlink : (Cond.methodLink own index y).before args s = true) (hinst : (Cond.instanceMethod y).before args s = true) (hsel : (Cond.selects C y y).before args s = true)
    (hcode : (Cond.codeWith y bytes maxL ret hh).before args s = true) (hy : y.cls ≠ "java/lang/invoke/MethodHandle" ∧ y.cls ≠ "java/lang/invoke/VarHandle")
    {W9 : Nat} {Pre : Pt → Array Value → Prop} {Post : Pt → Array Value → Option Value → Pt → Prop} (hK : Back l R p e below s args y 3 W9 Pre Post)
    {b : Addr} {cellB : Cell} (hcell : T.heap[b]? = some cellB) (hobj : cellB.vm.isStatics = false) (hcls : s.vm.findClass C = some cellB.cls)
    {g : JFrame} (hg : g.method = m) (hsize : g.locals.size = c.maxLocals) {argsL rest : List Value} (hlen : ∀ sig, parseMethodDescriptor y.desc = some sig → argsL.length = sig.parameters.length)
    (hstack : g.stack = argsL.reverse ++ .ref b :: rest) (hW : 2 * g.monitorRoom + (rest.map fun v => v.category).sum ≤ W9) (hdg : decode c.code g.pc = .ok (.invokevirtual index, 3))
    (hpre : ∀ vm₁, s.WarmedH vm₁ → Pre ⟨T.setVm vm₁, locs, cells, slots⟩ (Value.ref b :: argsL).toArray) :
    ∃ (v : Option Value) (vm₁ : Vm) (B : Pt), s.WarmedH vm₁ ∧ Stand p l e R s m args below meth c B.U B.locs B.cells B.slots ∧ Post ⟨T.setVm vm₁, locs, cells, slots⟩ (Value.ref b :: argsL).toArray v B ∧
      ∀ target, Steps p.tables e below (B.U.setTop { g with pc := g.pc + 3, stack := v.toList ++ rest }) target → Steps p.tables e below (T.setTop g) target := by
  obtain ⟨mk, methM, hnamed, hmethM, hstM, habM⟩ := Cond.instanceMethod_spec hinst
  obtain ⟨m8, methM', cM, hn8, hmethM', -, -, -, -, -, -, hsigM⟩ := Cond.codeWith_spec hcode
  cases Option.some.inj (hn8.symm.trans hnamed)
  cases hmethM.symm.trans hmethM'
  obtain ⟨c2, r2, m2, q1, q2, q3, q4, kP, hkP, hkPi⟩ := Cond.selects_spec hsel
  cases hcls.symm.trans q1
  cases (State.methodFound?_of_named hnamed hy).symm.trans q2
  cases hnamed.symm.trans q3
  have hselP : selectMethod e.platform s.vm cellB.cls mk = .method mk := by rw [Launch.admits_selectMethod X.admits]; exact q4
  obtain ⟨vm₁, X₁, hstep₁⟩ := X.invokevirtual hexec hown hlink hnamed hmethM hstM hkP hkPi hy (a := b) (cell := cellB) hcell
    (fun z h => by rw [h] at hobj; cases hobj) hselP hmethM habM hkP hkPi (g := g) hg (argsL := argsL) (rest := rest) (hlen _ hsigM) hstack hdg
  obtain ⟨v, B, X', hpost, hsteps⟩ := hK m meth c ⟨T.setVm vm₁, locs, cells, slots⟩ { g with stack := rest } (.invokevirtual index) mk (Value.ref b :: argsL).toArray X₁ hg hsize hdg hW (X₁.named hnamed) (hpre vm₁ X₁.warmed)
  exact ⟨v, vm₁, B, X₁.warmed, X', hpost, fun target h => hstep₁ _ fun acts => by rw [doInvoke_state]; exact hsteps.trans h⟩
abbrev vx_CVW (R : Room) (s : State) (args : Array Value) (own C : String) (index : Nat) (y : MethodName) (bytes : ByteArray) (maxL : Nat) (ret : Option FieldType) (hh : List (Nat × Nat × Nat × Nat)) (ws : List Cond) (rm : Room) (mc ms n : Nat) : Prop :=
  (rm.cells = mc ∧ rm.slots = ms ∧ rm.frames + 1 ≤ R.frames ∧ 8 + (maxL + 11) + rm.locals ≤ R.locals ∧ (∀ w ∈ ws, ∀ (a' : Array Value) (U : State), s.WarmedH U.vm → w.before a' U = true) ∧ Cond.codeWith y bytes maxL ret hh ∈ ws) ∧
  (Cond.codeWith y bytes maxL ret hh).before args s = true ∧ (Cond.initialized y.cls).before args s = true ∧ (y.cls ≠ "java/lang/invoke/MethodHandle" ∧ y.cls ≠ "java/lang/invoke/VarHandle") ∧
  (∀ sig, parseMethodDescriptor y.desc = some sig → n = sig.parameters.length) ∧ (Cond.methodLink own index y).before args s = true ∧ (Cond.instanceMethod y).before args s = true ∧ (Cond.selects C y y).before args s = true
theorem vx_cwVW {own C : String} {index maxL mc ms : Nat} {y : MethodName} {bytes : ByteArray} {ret : Option FieldType} {hh : List (Nat × Nat × Nat × Nat)} {Ts ws ws' : List Cond} {rm : Room} (n : Nat) (ht : ∀ w ∈ Ts, w.before args s = true) (hT : GoodIn Ts (wsV own index C y ws)) (hw : ws = Cond.codeWith y bytes maxL ret hh :: ws') (hrc : rm.cells = mc) (hrs : rm.slots = ms)
    (hd : y.cls = C ∧ y.cls ≠ "java/lang/invoke/MethodHandle" ∧ y.cls ≠ "java/lang/invoke/VarHandle" ∧ (parseMethodDescriptor y.desc).map (fun d => d.parameters.length) = some n) (hR : rm.frames + 1 ≤ R.frames ∧ 8 + (maxL + 11) + rm.locals ≤ R.locals) :
    vx_CVW R s args own C index y bytes maxL ret hh ws rm mc ms n := by
  obtain ⟨hC, hd⟩ := hd
  subst hC
  have ok : ∀ w ∈ wsV own index y.cls y ws, w.before args s = true := fun w h => ht w (hT w h).1
  have hG : GoodIn Ts ws := fun w h => hT w (by unfold wsV; exact List.mem_append_right _ h)
  have hc : Cond.codeWith y bytes maxL ret hh ∈ ws := by rw [hw]; exact List.mem_cons_self
  refine ⟨⟨hrc, hrs, hR.1, hR.2, pay_in ht hG, hc⟩, ht _ (hG _ hc).1, ok _ (by simp [wsV]), ⟨hd.1, hd.2.1⟩, fun sig h => ?_, ok _ (by simp [wsV]), ok _ (by simp [wsV]), ok _ (by simp [wsV])⟩
  have h2 := hd.2.2
  rw [h] at h2
  exact (Option.some.inj h2).symm
theorem vx_runVW {y : MethodName} {bytes cc : ByteArray} {maxL nL mc ms n index : Nat} {ret : Option FieldType} {hh : List (Nat × Nat × Nat × Nat)} {ws : List Cond} {rm : Room} {Pc : Array Value → State → Prop} {Qc : Array Value → State → Outcome → State → Prop} {free : Addr → Prop} {Ts : List Cond} {own C : String} {b : Addr} {As rest : List Value} {g : JFrame}
    (S : CallFix p m c cc nL s args Ts own) (hM : Met l y ws rm Pc Qc mc ms free) (cw : vx_CVW R s args own C index y bytes maxL ret hh ws rm mc ms n) (hp : PreV s H C b Pc As)
    (hg : g.method = m) (hn : As.length = n) (hsize : g.locals.size = nL) (hstack : g.stack = As.reverse ++ .ref b :: rest) (hW : 2 * g.monitorRoom + (rest.map fun v => v.category).sum ≤ 8) (hdg : decode cc g.pc = .ok (.invokevirtual index, 3)) (hf : cells + mc ≤ R.cells ∧ slots + ms ≤ R.slots) :
    va_Run p l e R s m args below meth c H locs cells slots mc ms g rest (Qc (Value.ref b :: As).toArray) free := by
  obtain ⟨⟨hrc, hrs, hfr, hlo, hws, hcw⟩, hcode, hini, hy, hlen, hl, hin, hse⟩ := cw
  have hK : Back l R p e below s args y 3 8 (PreOf R mc ms Pc) (PostOf Qc mc ms free) := va_backW (hh := hh) (bytes := bytes) (maxL := maxL) (ret := ret) hM hp.1 hrc hrs hfr hlo hws hcw (fun a' U hW => word_at hW (Or.inl (by first | rfl | simp [Cond.onTables, Cond.keeps, Cond.steady])) hini)
  obtain ⟨hx, hb, hml, ho, -⟩ := S
  obtain ⟨-, ⟨cellB, hcB, hoB, hclB⟩, hPc⟩ := hp
  intro T hT X
  obtain ⟨v, vm₁, ⟨U', l2, c2, s2⟩, hW₁, X', ⟨g', mk, t, L, e1, e2, hq, h1, hL, h2, h3⟩, st⟩ := vx_callVW X hx (C := C) (hh := hh) (bytes := bytes) (maxL := maxL) (ret := ret) ho hl hin hse hcode hy hK (by rw [hT]; exact hcB) hoB hclB hg (hsize.trans hml.symm) (argsL := As) (rest := rest) (fun sig h => hn.trans (hlen sig h)) hstack hW (by rw [hb]; exact hdg)
    (fun vm₁ hW₁ => ⟨hf.1, hf.2, hPc (T.setVm vm₁) hT hW₁⟩)
  dsimp only [Pt.U, Pt.locs, Pt.cells, Pt.slots] at X' e1 e2 h1 h2 h3 st
  subst h1; subst h2; subst h3
  exact ⟨v, (T.setVm vm₁).calling g' mk (Value.ref b :: As).toArray, t, U', L, hT, X', hL, e1, e2, hq, st⟩
section
variable {y : MethodName} {bytes cc : ByteArray} {maxL nL mc ms n index : Nat} {ret : Option FieldType} {ws : List Cond} {rm : Room} {Pc : Array Value → State → Prop} {Qc : Array Value → State → Outcome → State → Prop} {XC : String → State → State → Prop} {free : Addr → Prop} {Ts : List Cond} {own C : String} {b : Addr} {As rest : List Value} {g : JFrame}
theorem vx_runVX {hh : List (Nat × Nat × Nat × Nat)} (S : CallFix p m c cc nL s args Ts own) (hM : vx_Met l y ws rm Pc Qc XC mc ms free) (cw : vx_CVW R s args own C index y bytes maxL ret hh ws rm mc ms n) (hp : PreV s H C b Pc As)
    (hg : g.method = m) (hn : As.length = n) (hsize : g.locals.size = nL) (hstack : g.stack = As.reverse ++ .ref b :: rest) (hW : 2 * g.monitorRoom + (rest.map fun v => v.category).sum ≤ 8) (hdg : decode cc g.pc = .ok (.invokevirtual index, 3)) (hf : cells + mc ≤ R.cells ∧ slots + ms ≤ R.slots) :
    vx_Run p l e R s m args below meth c H locs cells slots mc ms g rest (Qc (Value.ref b :: As).toArray) XC free := by
  obtain ⟨⟨hrc, hrs, hfr, hlo, hws, hcw⟩, hcode, hini, hy, hlen, hl, hin, hse⟩ := cw
  have hK : vx_Back l R p e below s args y 3 8 (PreOf R mc ms Pc) (PostOf Qc mc ms free) (vx_Post XC mc ms free) := vx_backW (hh := hh) (bytes := bytes) (maxL := maxL) (ret := ret) hM hp.1 hrc hrs hfr hlo hws hcw (fun a' U hW => word_at hW (Or.inl (by first | rfl | simp [Cond.onTables, Cond.keeps, Cond.steady])) hini)
  obtain ⟨hx, hb, hml, ho, -⟩ := S
  obtain ⟨-, ⟨cellB, hcB, hoB, hclB⟩, hPc⟩ := hp
  intro T hT X
  rcases vx_callVX X hx (C := C) (hh := hh) (bytes := bytes) (maxL := maxL) (ret := ret) ho hl hin hse hcode hy hK (by rw [hT]; exact hcB) hoB hclB hg (hsize.trans hml.symm) (argsL := As) (rest := rest) (fun sig h => hn.trans (hlen sig h)) hstack hW (by rw [hb]; exact hdg)
    (fun vm₁ hW₁ => ⟨hf.1, hf.2, hPc (T.setVm vm₁) hT hW₁⟩) with ⟨v, vm₁, ⟨U', l2, c2, s2⟩, hW₁, X', ⟨g', mk, t, L, e1, e2, hq, h1, hL, h2, h3⟩, st⟩ | ⟨q, vm₁, ⟨U', l2, c2, s2⟩, hW₁, X', ⟨g', mk, t, L, E, ce, e1, e2, hq, hce, hcv, hcl, h1, hL, h2, h3⟩, st⟩
  · dsimp only [Pt.U, Pt.locs, Pt.cells, Pt.slots] at X' e1 e2 h1 h2 h3 st
    subst h1; subst h2; subst h3
    exact Or.inl ⟨v, (T.setVm vm₁).calling g' mk (Value.ref b :: As).toArray, t, U', L, hT, X', hL, e1, e2, hq, st⟩
  · dsimp only [Pt.U, Pt.locs, Pt.cells, Pt.slots] at X' e1 e2 h1 h2 h3 st hcl
    subst h1; subst h2; subst h3
    exact Or.inr ⟨q, (T.setVm vm₁).calling g' mk (Value.ref b :: As).toArray, t, U', L, E, ce, hT, X', hL, e1, e2, hq, hce, hcv, vx_cls hW₁ hcl, st⟩
theorem vx_runSX {hh : List (Nat × Nat × Nat × Nat)} (S : CallFix p m c cc nL s args Ts own) (hM : vx_Met l y ws rm Pc Qc XC mc ms free) (cw : vx_CSW R s args own index y bytes maxL ret hh ws rm mc ms n) (hp : PreS s H Pc As)
    (hg : g.method = m) (hn : As.length = n) (hsize : g.locals.size = nL) (hstack : g.stack = As.reverse ++ rest) (hW : 2 * g.monitorRoom + (rest.map fun v => v.category).sum ≤ 8) (hdg : decode cc g.pc = .ok (.invokestatic index, 3)) (hf : cells + mc ≤ R.cells ∧ slots + ms ≤ R.slots) :
    vx_Run p l e R s m args below meth c H locs cells slots mc ms g rest (Qc As.toArray) XC free := by
  obtain ⟨⟨hrc, hrs, hfr, hlo, hws, hcw⟩, hcode, hini, hy, hlen, hl, hstt⟩ := cw
  have hK : vx_Back l R p e below s args y 3 8 (PreOf R mc ms Pc) (PostOf Qc mc ms free) (vx_Post XC mc ms free) := vx_backW (hh := hh) (bytes := bytes) (maxL := maxL) (ret := ret) hM hp.1 hrc hrs hfr hlo hws hcw (fun a' U hW => word_at hW (Or.inl (by first | rfl | simp [Cond.onTables, Cond.keeps, Cond.steady])) hini)
  obtain ⟨hx, hb, hml, ho, -⟩ := S
  intro T hT X
  rcases vx_callSX X hx (hh := hh) (bytes := bytes) (maxL := maxL) (ret := ret) ho hl hstt hini hcode hy hK hg (hsize.trans hml.symm) (argsL := As) (rest := rest) (fun sig h => hn.trans (hlen sig h)) hstack hW (by rw [hb]; exact hdg)
    (fun vm₁ hW₁ => ⟨hf.1, hf.2, hp.2 (T.setVm vm₁) hT hW₁⟩) with ⟨v, vm₁, ⟨U', l2, c2, s2⟩, hW₁, X', ⟨g', mk, t, L, e1, e2, hq, h1, hL, h2, h3⟩, st⟩ | ⟨q, vm₁, ⟨U', l2, c2, s2⟩, hW₁, X', ⟨g', mk, t, L, E, ce, e1, e2, hq, hce, hcv, hcl, h1, hL, h2, h3⟩, st⟩
  · dsimp only [Pt.U, Pt.locs, Pt.cells, Pt.slots] at X' e1 e2 h1 h2 h3 st
    subst h1; subst h2; subst h3
    exact Or.inl ⟨v, (T.setVm vm₁).calling g' mk As.toArray, t, U', L, hT, X', hL, e1, e2, hq, st⟩
  · dsimp only [Pt.U, Pt.locs, Pt.cells, Pt.slots] at X' e1 e2 h1 h2 h3 st hcl
    subst h1; subst h2; subst h3
    exact Or.inr ⟨q, (T.setVm vm₁).calling g' mk As.toArray, t, U', L, E, ce, hT, X', hL, e1, e2, hq, hce, hcv, vx_cls hW₁ hcl, st⟩
end
end VXH
theorem vx_ofWH {l : Launch} {y : MethodName} {ws ws' : List Cond} {rm : Room} {Pc : Array Value → State → Prop} {Qc : Array Value → State → Outcome → State → Prop} {XC : String → State → State → Prop} {mc ms : Nat} {free : Addr → Prop} {cc : ByteArray} {maxL : Nat} {ret : Option FieldType} {hh : List (Nat × Nat × Nat × Nat)}
    (hy : plainName y.cls = true) (hw : ws = Cond.codeWith y cc maxL ret hh :: ws')
    (body : ∀ p e s m args below meth c s₁, BodyLoose p l y (headSpec ws rm) cc maxL ret e s m args below meth c s₁ → c.maxLocals = maxL → Pc args s →
      W p l e (headSpec ws rm).room s m args below meth c s.heap [] 0 0 (vx_MQ below Qc XC args s mc ms free) (entryFrame m args maxL)) : vx_Met l y ws rm Pc Qc XC mc ms free := by
  refine MetFree.of_bodyS (code := cc) (maxLocals := maxL) (ret := ret) hy ?_ ?_
  · intro args s m h hn
    obtain ⟨m9, meth, c, hn9, h1, h2, h3, h4, -, h5, h6, -⟩ := Cond.codeWith_spec (atoms_spec (ws := ws) h _ (by rw [hw]; exact List.mem_cons_self))
    cases hn.symm.trans hn9
    exact ⟨meth, c, h1, h2, h3, h4, h5, h6⟩
  · intro p e s m args below meth c s₁ B hml hP _
    have hh0 : s₁.heap = s.heap := by rw [B.state]; rfl
    obtain ⟨t, a1, o, b1, b2, b3⟩ := body p e s m args below meth c s₁ B hml hP s₁ hh0 (Stand.of_body B)
    exact ⟨t, o, a1, b1, b2, b3⟩
/-! ===== END ===== -/
end
section
/-! ===== BEGIN printed: names, fields, word lists, decode rows ===== -/
def RX0 : String := "SaltOrder"
def TX0 : u_T := fun k => match k with
  | 0 => ("SaltOrder", "luck", "[I", true)
  | 1 => ("SaltOrder", "arrears", "[I", true)
  | 2 => ("SaltOrder", "toEat", "[I", true)
  | 3 => ("SaltOrder", "memberCount", "I", false)
  | 4 => ("SaltOrder", "throwers", "[I", true)
  | 5 => ("SaltOrder", "lefts", "[Z", true)
  | 6 => ("SaltOrder", "thrown", "[I", true)
  | 7 => ("SaltOrder", "excesses", "[I", true)
  | 8 => ("SaltOrder", "throwCount", "I", false)
  | 9 => ("SaltOrder", "cellar", "I", false)
  | 10 => ("SaltOrder", "today", "I", false)
  | 11 => ("SaltOrder", "found", "I", false)
  | 12 => ("SaltOrder", "trialDay", "I", false)
  | _ => ("SaltOrder", "trialDebt", "I", false)
def tyX0 : Nat → FieldType := fun k => match k with
  | 0 => .array .int
  | 1 => .array .int
  | 2 => .array .int
  | 3 => .int
  | 4 => .array .int
  | 5 => .array .boolean
  | 6 => .array .int
  | 7 => .array .int
  | 8 => .int
  | 9 => .int
  | 10 => .int
  | 11 => .int
  | 12 => .int
  | _ => .int
abbrev wsX00 : List Cond := u_ws RX0 TX0 14
theorem nmX0 : ∀ a, a < 14 → ∀ b, b < 14 → a ≠ b → (TX0 a).2.1 ≠ (TX0 b).2.1 := by decide +kernel
theorem tyX0_ok : ∀ k, k < 14 → parseFieldDescriptor (TX0 k).2.2.1 = some (tyX0 k) := by decide +kernel
abbrev cX0_init : ByteArray := prog_1_method_1_code
def yX0_init : MethodName := ⟨RX0, "<init>", "()V"⟩
abbrev cX0_join : ByteArray := prog_1_method_2_code
def yX0_join : MethodName := ⟨RX0, "join", "()I"⟩
abbrev cX0_spill : ByteArray := prog_1_method_3_code
def yX0_spill : MethodName := ⟨RX0, "spill", "(II)I"⟩
abbrev cX0_throwSalt : ByteArray := prog_1_method_4_code
def yX0_throwSalt : MethodName := ⟨RX0, "throwSalt", "(III)I"⟩
abbrev cX0_doPenance : ByteArray := prog_1_method_5_code
def yX0_doPenance : MethodName := ⟨RX0, "doPenance", "(II)I"⟩
abbrev cX0_bringSalt : ByteArray := prog_1_method_6_code
def yX0_bringSalt : MethodName := ⟨RX0, "bringSalt", "(I)I"⟩
abbrev cX0_audit : ByteArray := prog_1_method_7_code
def yX0_audit : MethodName := ⟨RX0, "audit", "()I"⟩
abbrev cX0_pass : ByteArray := prog_1_method_8_code
def yX0_pass : MethodName := ⟨RX0, "pass", "(I)I"⟩
abbrev cX0_day : ByteArray := prog_1_method_9_code
def yX0_day : MethodName := ⟨RX0, "day", "()I"⟩
abbrev cX0_members : ByteArray := prog_1_method_10_code
def yX0_members : MethodName := ⟨RX0, "members", "()I"⟩
abbrev cX0_luckOf : ByteArray := prog_1_method_11_code
def yX0_luckOf : MethodName := ⟨RX0, "luckOf", "(I)I"⟩
abbrev cX0_arrearsOf : ByteArray := prog_1_method_12_code
def yX0_arrearsOf : MethodName := ⟨RX0, "arrearsOf", "(I)I"⟩
abbrev cX0_lumpsOf : ByteArray := prog_1_method_13_code
def yX0_lumpsOf : MethodName := ⟨RX0, "lumpsOf", "(I)I"⟩
abbrev cX0_dailyLoss : ByteArray := prog_1_method_14_code
def yX0_dailyLoss : MethodName := ⟨RX0, "dailyLoss", "(I)I"⟩
abbrev cX0_luckiest : ByteArray := prog_1_method_15_code
def yX0_luckiest : MethodName := ⟨RX0, "luckiest", "()I"⟩
abbrev cX0_allArrears : ByteArray := prog_1_method_16_code
def yX0_allArrears : MethodName := ⟨RX0, "allArrears", "()I"⟩
abbrev cX0_clearMembers : ByteArray := prog_1_method_17_code
def yX0_clearMembers : MethodName := ⟨RX0, "clearMembers", "()I"⟩
abbrev cX0_salt : ByteArray := prog_1_method_18_code
def yX0_salt : MethodName := ⟨RX0, "salt", "()I"⟩
abbrev cX0_ledger : ByteArray := prog_1_method_19_code
def yX0_ledger : MethodName := ⟨RX0, "ledger", "()I"⟩
abbrev cX0_memberOf : ByteArray := prog_1_method_20_code
def yX0_memberOf : MethodName := ⟨RX0, "memberOf", "(I)I"⟩
abbrev cX0_isLeft : ByteArray := prog_1_method_21_code
def yX0_isLeft : MethodName := ⟨RX0, "isLeft", "(I)Z"⟩
abbrev cX0_grainsOf : ByteArray := prog_1_method_22_code
def yX0_grainsOf : MethodName := ⟨RX0, "grainsOf", "(I)I"⟩
abbrev cX0_excessOf : ByteArray := prog_1_method_23_code
def yX0_excessOf : MethodName := ⟨RX0, "excessOf", "(I)I"⟩
abbrev cX0_faults : ByteArray := prog_1_method_24_code
def yX0_faults : MethodName := ⟨RX0, "faults", "()I"⟩
abbrev cX0_arrearsByAudit : ByteArray := prog_1_method_25_code
def yX0_arrearsByAudit : MethodName := ⟨RX0, "arrearsByAudit", "(I)I"⟩
abbrev cX0_daysUntilAudit : ByteArray := prog_1_method_26_code
def yX0_daysUntilAudit : MethodName := ⟨RX0, "daysUntilAudit", "()I"⟩
abbrev cX0_faultsFound : ByteArray := prog_1_method_27_code
def yX0_faultsFound : MethodName := ⟨RX0, "faultsFound", "()I"⟩
abbrev cX0_meanLuck : ByteArray := prog_1_method_33_code
def yX0_meanLuck : MethodName := ⟨RX0, "meanLuck", "()D"⟩
abbrev cX0_checkMember : ByteArray := prog_1_method_38_code
def yX0_checkMember : MethodName := ⟨RX0, "checkMember", "(I)V"⟩
abbrev cX0_checkShoulder : ByteArray := prog_1_method_39_code
def yX0_checkShoulder : MethodName := ⟨RX0, "checkShoulder", "(I)V"⟩
abbrev cX0_checkEntry : ByteArray := prog_1_method_40_code
def yX0_checkEntry : MethodName := ⟨RX0, "checkEntry", "(I)V"⟩
abbrev cX0_checkAmount : ByteArray := prog_1_method_41_code
def yX0_checkAmount : MethodName := ⟨RX0, "checkAmount", "(II)V"⟩
abbrev cX0_checkCellar : ByteArray := prog_1_method_42_code
def yX0_checkCellar : MethodName := ⟨RX0, "checkCellar", "(I)V"⟩
abbrev cX0_checkLedgerHasRoom : ByteArray := prog_1_method_43_code
def yX0_checkLedgerHasRoom : MethodName := ⟨RX0, "checkLedgerHasRoom", "()V"⟩
abbrev cX0_addArrears : ByteArray := prog_1_method_44_code
def yX0_addArrears : MethodName := ⟨RX0, "addArrears", "(II)V"⟩
abbrev cX0_lessenArrears : ByteArray := prog_1_method_45_code
def yX0_lessenArrears : MethodName := ⟨RX0, "lessenArrears", "(II)V"⟩
abbrev cX0_addLumps : ByteArray := prog_1_method_46_code
def yX0_addLumps : MethodName := ⟨RX0, "addLumps", "(II)V"⟩
abbrev cX0_leftExcess : ByteArray := prog_1_method_47_code
def yX0_leftExcess : MethodName := ⟨RX0, "leftExcess", "(II)I"⟩
abbrev cX0_lossOf : ByteArray := prog_1_method_48_code
def yX0_lossOf : MethodName := ⟨RX0, "lossOf", "(I)I"⟩
abbrev cX0_eatOrFeelLuck : ByteArray := prog_1_method_49_code
def yX0_eatOrFeelLuck : MethodName := ⟨RX0, "eatOrFeelLuck", "(I)V"⟩
abbrev cX0_passOneDay : ByteArray := prog_1_method_50_code
def yX0_passOneDay : MethodName := ⟨RX0, "passOneDay", "()I"⟩
abbrev cX0_isAuditDay : ByteArray := prog_1_method_51_code
def yX0_isAuditDay : MethodName := ⟨RX0, "isAuditDay", "(I)Z"⟩
abbrev cX0_writeThrow : ByteArray := prog_1_method_52_code
def yX0_writeThrow : MethodName := ⟨RX0, "writeThrow", "(IZII)V"⟩
abbrev cX0_debtOf : ByteArray := prog_1_method_53_code
def yX0_debtOf : MethodName := ⟨RX0, "debtOf", "(I)I"⟩
def RX1 : String := "SaltOrderLaw$Sim"
def TX1 : u_T := fun k => match k with
  | 0 => ("SaltOrderLaw$Sim", "day", "I", false)
  | 1 => ("SaltOrderLaw$Sim", "salt", "I", false)
  | 2 => ("SaltOrderLaw$Sim", "found", "I", false)
  | 3 => ("SaltOrderLaw$Sim", "members", "[[I", false)
  | _ => ("SaltOrderLaw$Sim", "ledger", "[[I", false)
def tyX1 : Nat → FieldType := fun k => match k with
  | 0 => .int
  | 1 => .int
  | 2 => .int
  | 3 => .array (.array .int)
  | _ => .array (.array .int)
abbrev wsX10 : List Cond := u_ws RX1 TX1 5
theorem nmX1 : ∀ a, a < 5 → ∀ b, b < 5 → a ≠ b → (TX1 a).2.1 ≠ (TX1 b).2.1 := by decide +kernel
theorem tyX1_ok : ∀ k, k < 5 → parseFieldDescriptor (TX1 k).2.2.1 = some (tyX1 k) := by decide +kernel
abbrev cX1_init : ByteArray := prog_3_method_1_code
def yX1_init : MethodName := ⟨RX1, "<init>", "()V"⟩
abbrev cX1_with : ByteArray := prog_3_method_2_code
def yX1_with : MethodName := ⟨RX1, "with", "([[I[I)[[I"⟩
abbrev cX1_cast : ByteArray := prog_3_method_3_code
def yX1_cast : MethodName := ⟨RX1, "cast", "(III)I"⟩
abbrev cX1_audit : ByteArray := prog_3_method_4_code
def yX1_audit : MethodName := ⟨RX1, "audit", "()I"⟩
abbrev cX1_pass : ByteArray := prog_3_method_5_code
def yX1_pass : MethodName := ⟨RX1, "pass", "()I"⟩
abbrev cX1_behind : ByteArray := prog_3_method_6_code
def yX1_behind : MethodName := ⟨RX1, "behind", "(I)I"⟩
abbrev cX1_faults : ByteArray := prog_3_method_8_code
def yX1_faults : MethodName := ⟨RX1, "faults", "()I"⟩
abbrev cX1_adds : ByteArray := prog_3_method_9_code
def yX1_adds : MethodName := ⟨RX1, "adds", "(I)I"⟩
abbrev cX1_isSame : ByteArray := prog_3_method_10_code
def yX1_isSame : MethodName := ⟨RX1, "isSame", "(LSaltOrder;)Z"⟩
def RX2 : String := "SaltOrderModel"
def TX2 : u_T := fun k => match k with
  | _ => ("", "", "", false)
def tyX2 : Nat → FieldType := fun k => match k with
  | _ => .int
abbrev wsX20 : List Cond := u_ws RX2 TX2 0
theorem nmX2 : ∀ a, a < 0 → ∀ b, b < 0 → a ≠ b → (TX2 a).2.1 ≠ (TX2 b).2.1 := by decide +kernel
theorem tyX2_ok : ∀ k, k < 0 → parseFieldDescriptor (TX2 k).2.2.1 = some (tyX2 k) := by decide +kernel
def RJ9 : String := "java/lang/Math"
def TJ9 : u_T := fun k => match k with
  | _ => ("", "", "", false)
def tyJ9 : Nat → FieldType := fun k => match k with
  | _ => .int
abbrev wsJ90 : List Cond := u_ws RJ9 TJ9 0
theorem nmJ9 : ∀ a, a < 0 → ∀ b, b < 0 → a ≠ b → (TJ9 a).2.1 ≠ (TJ9 b).2.1 := by decide +kernel
theorem tyJ9_ok : ∀ k, k < 0 → parseFieldDescriptor (TJ9 k).2.2.1 = some (tyJ9 k) := by decide +kernel
abbrev cJ9_max_7cf53 : ByteArray := prog_9_method_65_code
def yJ9_max_7cf53 : MethodName := ⟨RJ9, "max", "(II)I"⟩
abbrev cJ9_min_7cf53 : ByteArray := prog_9_method_69_code
def yJ9_min_7cf53 : MethodName := ⟨RJ9, "min", "(II)I"⟩
def RJ0 : String := "java/lang/String"
def TJ0 : u_T := fun k => match k with
  | _ => ("", "", "", false)
def tyJ0 : Nat → FieldType := fun k => match k with
  | _ => .int
abbrev wsJ00 : List Cond := u_ws RJ0 TJ0 0
theorem nmJ0 : ∀ a, a < 0 → ∀ b, b < 0 → a ≠ b → (TJ0 a).2.1 ≠ (TJ0 b).2.1 := by decide +kernel
theorem tyJ0_ok : ∀ k, k < 0 → parseFieldDescriptor (TJ0 k).2.2.1 = some (tyJ0 k) := by decide +kernel
def RL : String := "SaltOrderLaw"
abbrev cL_below : ByteArray := method_2_code
def yL_below : MethodName := ⟨RL, "below", "(II)I"⟩
abbrev cL_cell : ByteArray := method_3_code
def yL_cell : MethodName := ⟨RL, "cell", "([II)I"⟩
abbrev cL_act : ByteArray := method_4_code
def yL_act : MethodName := ⟨RL, "act", "(LSaltOrder;LSaltOrderLaw$Sim;I)Z"⟩
abbrev cL_build : ByteArray := method_5_code
def yL_build : MethodName := ⟨RL, "build", "(LSaltOrder;[I)LSaltOrderLaw$Sim;"⟩
abbrev cL_law : ByteArray := code
def yL_law : MethodName := ⟨RL, "law", "([I)Z"⟩
def wsX0_init : List Cond := .code yX0_init cX0_init 1 none :: ([.methodLink RX0 3 objectInit, .instanceMethod objectInit, .code objectInit ⟨#[0xb1]⟩ 1 none, .arrayClass .int, .fieldLink RX0 9 "SaltOrder" "luck" "[I", .fieldLink RX0 13 "SaltOrder" "arrears" "[I", .fieldLink RX0 16 "SaltOrder" "toEat" "[I", .fieldLink RX0 19 "SaltOrder" "throwers" "[I", .arrayClass .boolean, .fieldLink RX0 22 "SaltOrder" "lefts" "[Z", .fieldLink RX0 26 "SaltOrder" "thrown" "[I", .fieldLink RX0 29 "SaltOrder" "excesses" "[I", .fieldLink RX0 32 "SaltOrder" "memberCount" "I", .fieldLink RX0 36 "SaltOrder" "throwCount" "I", .fieldLink RX0 39 "SaltOrder" "cellar" "I", .fieldLink RX0 42 "SaltOrder" "today" "I", .fieldLink RX0 45 "SaltOrder" "found" "I"] ++ wsX00)
def wsX0_join : List Cond := .code yX0_join cX0_join 2 (some .int) :: ([.classLink RX0 48 "java/lang/IllegalStateException", .initialized "java/lang/IllegalStateException", .fieldLink RX0 32 "SaltOrder" "memberCount" "I", .fieldLink RX0 9 "SaltOrder" "luck" "[I", .fieldLink RX0 13 "SaltOrder" "arrears" "[I", .fieldLink RX0 16 "SaltOrder" "toEat" "[I"] ++ wsX00 ++ (vx_atS RX0 52 "java/lang/IllegalStateException" ["java/lang/RuntimeException", "java/lang/Exception"]).filter goodWord)
def wsX0_checkMember : List Cond := .code yX0_checkMember cX0_checkMember 2 none :: ([.classLink RX0 195 "java/lang/IndexOutOfBoundsException", .initialized "java/lang/IndexOutOfBoundsException", .fieldLink RX0 32 "SaltOrder" "memberCount" "I"] ++ wsX00 ++ (vx_atS RX0 199 "java/lang/IndexOutOfBoundsException" ["java/lang/RuntimeException", "java/lang/Exception"]).filter goodWord)
def wsX0_checkAmount : List Cond := .code yX0_checkAmount cX0_checkAmount 2 none :: ([.classLink RX0 204 "java/lang/IllegalArgumentException", .initialized "java/lang/IllegalArgumentException"] ++ (vx_atS RX0 208 "java/lang/IllegalArgumentException" ["java/lang/RuntimeException", "java/lang/Exception"]).filter goodWord)
def wsX0_checkCellar : List Cond := .code yX0_checkCellar cX0_checkCellar 2 none :: ([.classLink RX0 48 "java/lang/IllegalStateException", .initialized "java/lang/IllegalStateException", .fieldLink RX0 39 "SaltOrder" "cellar" "I"] ++ wsX00 ++ (vx_atS RX0 52 "java/lang/IllegalStateException" ["java/lang/RuntimeException", "java/lang/Exception"]).filter goodWord)
def wsX0_addArrears : List Cond := .code yX0_addArrears cX0_addArrears 3 none :: ([.fieldLink RX0 13 "SaltOrder" "arrears" "[I", .methodLink RX0 89 Lib.Math.min.name, .static Lib.Math.min.name, .initialized "java/lang/Math", .code Lib.Math.min.name Lib.Math.min.code 2 (some .int)] ++ wsX00)
def wsX0_spill_r1 : List Cond := [Cond.fieldLink RX0 39 "SaltOrder" "cellar" "I", Cond.fieldLink RX0 13 "SaltOrder" "arrears" "[I", Cond.methodLink RX0 55 yX0_checkMember, Cond.instanceMethod yX0_checkMember, Cond.selects RX0 yX0_checkMember yX0_checkMember, Cond.initialized RX0, Cond.code yX0_checkMember cX0_checkMember 2 none, Cond.classLink RX0 195 "java/lang/IndexOutOfBoundsException", Cond.initialized "java/lang/IndexOutOfBoundsException", Cond.fieldLink RX0 32 "SaltOrder" "memberCount" "I", Cond.methodLink RX0 59 yX0_checkAmount, Cond.static yX0_checkAmount, Cond.code yX0_checkAmount cX0_checkAmount 2 none, Cond.classLink RX0 204 "java/lang/IllegalArgumentException", Cond.initialized "java/lang/IllegalArgumentException", Cond.methodLink RX0 63 yX0_checkCellar, Cond.instanceMethod yX0_checkCellar, Cond.selects RX0 yX0_checkCellar yX0_checkCellar, Cond.code yX0_checkCellar cX0_checkCellar 2 none, Cond.classLink RX0 48 "java/lang/IllegalStateException", Cond.initialized "java/lang/IllegalStateException", Cond.methodLink RX0 66 yX0_addArrears, Cond.instanceMethod yX0_addArrears, Cond.selects RX0 yX0_addArrears yX0_addArrears]
def wsX0_spill_r2 : List Cond := [Cond.code yX0_addArrears cX0_addArrears 3 none, Cond.methodLink RX0 89 Lib.Math.min.name, Cond.static Lib.Math.min.name, Cond.initialized "java/lang/Math", Cond.code Lib.Math.min.name Lib.Math.min.code 2 (some .int)]
def wsX0_spill : List Cond := .code yX0_spill cX0_spill 3 (some .int) :: ((wsX0_spill_r1 ++ wsX0_spill_r2) ++ wsX00 ++ (vx_atS RX0 199 "java/lang/IndexOutOfBoundsException" ["java/lang/RuntimeException", "java/lang/Exception"]).filter goodWord ++ (vx_atS RX0 208 "java/lang/IllegalArgumentException" ["java/lang/RuntimeException", "java/lang/Exception"]).filter goodWord ++ (vx_atS RX0 52 "java/lang/IllegalStateException" ["java/lang/RuntimeException", "java/lang/Exception"]).filter goodWord)
def wsX0_checkShoulder : List Cond := .code yX0_checkShoulder cX0_checkShoulder 1 none :: ([.classLink RX0 195 "java/lang/IndexOutOfBoundsException", .initialized "java/lang/IndexOutOfBoundsException"] ++ (vx_atS RX0 199 "java/lang/IndexOutOfBoundsException" ["java/lang/RuntimeException", "java/lang/Exception"]).filter goodWord)
def wsX0_checkLedgerHasRoom : List Cond := .code yX0_checkLedgerHasRoom cX0_checkLedgerHasRoom 1 none :: ([.classLink RX0 48 "java/lang/IllegalStateException", .initialized "java/lang/IllegalStateException", .fieldLink RX0 36 "SaltOrder" "throwCount" "I"] ++ wsX00 ++ (vx_atS RX0 52 "java/lang/IllegalStateException" ["java/lang/RuntimeException", "java/lang/Exception"]).filter goodWord)
def wsX0_leftExcess : List Cond := .code yX0_leftExcess cX0_leftExcess 3 (some .int) :: ([.fieldLink RX0 13 "SaltOrder" "arrears" "[I", .methodLink RX0 213 Lib.Math.max.name, .static Lib.Math.max.name, .initialized "java/lang/Math", .code Lib.Math.max.name Lib.Math.max.code 2 (some .int)] ++ wsX00)
def wsX0_lessenArrears : List Cond := .code yX0_lessenArrears cX0_lessenArrears 3 none :: ([.fieldLink RX0 13 "SaltOrder" "arrears" "[I", .methodLink RX0 213 Lib.Math.max.name, .static Lib.Math.max.name, .initialized "java/lang/Math", .code Lib.Math.max.name Lib.Math.max.code 2 (some .int)] ++ wsX00)
def wsX0_writeThrow : List Cond := .code yX0_writeThrow cX0_writeThrow 5 none :: ([.fieldLink RX0 19 "SaltOrder" "throwers" "[I", .fieldLink RX0 36 "SaltOrder" "throwCount" "I", .fieldLink RX0 22 "SaltOrder" "lefts" "[Z", .fieldLink RX0 26 "SaltOrder" "thrown" "[I", .fieldLink RX0 29 "SaltOrder" "excesses" "[I"] ++ wsX00)
def wsX0_throwSalt_r1 : List Cond := [Cond.fieldLink RX0 39 "SaltOrder" "cellar" "I", Cond.methodLink RX0 55 yX0_checkMember, Cond.instanceMethod yX0_checkMember, Cond.selects RX0 yX0_checkMember yX0_checkMember, Cond.initialized RX0, Cond.code yX0_checkMember cX0_checkMember 2 none, Cond.classLink RX0 195 "java/lang/IndexOutOfBoundsException", Cond.initialized "java/lang/IndexOutOfBoundsException", Cond.fieldLink RX0 32 "SaltOrder" "memberCount" "I", Cond.methodLink RX0 69 yX0_checkShoulder, Cond.static yX0_checkShoulder, Cond.code yX0_checkShoulder cX0_checkShoulder 1 none, Cond.methodLink RX0 59 yX0_checkAmount, Cond.static yX0_checkAmount, Cond.code yX0_checkAmount cX0_checkAmount 2 none, Cond.classLink RX0 204 "java/lang/IllegalArgumentException", Cond.initialized "java/lang/IllegalArgumentException", Cond.methodLink RX0 63 yX0_checkCellar, Cond.instanceMethod yX0_checkCellar, Cond.selects RX0 yX0_checkCellar yX0_checkCellar, Cond.code yX0_checkCellar cX0_checkCellar 2 none, Cond.classLink RX0 48 "java/lang/IllegalStateException", Cond.initialized "java/lang/IllegalStateException", Cond.methodLink RX0 72 yX0_checkLedgerHasRoom]
def wsX0_throwSalt_r2 : List Cond := [Cond.instanceMethod yX0_checkLedgerHasRoom, Cond.selects RX0 yX0_checkLedgerHasRoom yX0_checkLedgerHasRoom, Cond.code yX0_checkLedgerHasRoom cX0_checkLedgerHasRoom 1 none, Cond.fieldLink RX0 36 "SaltOrder" "throwCount" "I", Cond.methodLink RX0 75 yX0_leftExcess, Cond.instanceMethod yX0_leftExcess, Cond.selects RX0 yX0_leftExcess yX0_leftExcess, Cond.code yX0_leftExcess cX0_leftExcess 3 (some .int), Cond.fieldLink RX0 13 "SaltOrder" "arrears" "[I", Cond.methodLink RX0 213 Lib.Math.max.name, Cond.static Lib.Math.max.name, Cond.initialized "java/lang/Math", Cond.code Lib.Math.max.name Lib.Math.max.code 2 (some .int), Cond.methodLink RX0 79 yX0_lessenArrears, Cond.instanceMethod yX0_lessenArrears, Cond.selects RX0 yX0_lessenArrears yX0_lessenArrears, Cond.code yX0_lessenArrears cX0_lessenArrears 3 none, Cond.methodLink RX0 82 yX0_writeThrow, Cond.instanceMethod yX0_writeThrow, Cond.selects RX0 yX0_writeThrow yX0_writeThrow, Cond.code yX0_writeThrow cX0_writeThrow 5 none, Cond.fieldLink RX0 19 "SaltOrder" "throwers" "[I", Cond.fieldLink RX0 22 "SaltOrder" "lefts" "[Z", Cond.fieldLink RX0 26 "SaltOrder" "thrown" "[I"]
def wsX0_throwSalt_r3 : List Cond := [Cond.fieldLink RX0 29 "SaltOrder" "excesses" "[I"]
def wsX0_throwSalt : List Cond := .code yX0_throwSalt cX0_throwSalt 6 (some .int) :: ((wsX0_throwSalt_r1 ++ (wsX0_throwSalt_r2 ++ wsX0_throwSalt_r3)) ++ wsX00 ++ (vx_atS RX0 199 "java/lang/IndexOutOfBoundsException" ["java/lang/RuntimeException", "java/lang/Exception"]).filter goodWord ++ (vx_atS RX0 208 "java/lang/IllegalArgumentException" ["java/lang/RuntimeException", "java/lang/Exception"]).filter goodWord ++ (vx_atS RX0 52 "java/lang/IllegalStateException" ["java/lang/RuntimeException", "java/lang/Exception"]).filter goodWord)
def wsX0_addLumps : List Cond := .code yX0_addLumps cX0_addLumps 3 none :: ([.fieldLink RX0 16 "SaltOrder" "toEat" "[I", .methodLink RX0 89 Lib.Math.min.name, .static Lib.Math.min.name, .initialized "java/lang/Math", .code Lib.Math.min.name Lib.Math.min.code 2 (some .int)] ++ wsX00)
def wsX0_doPenance : List Cond := .code yX0_doPenance cX0_doPenance 3 (some .int) :: ([.fieldLink RX0 16 "SaltOrder" "toEat" "[I", .methodLink RX0 55 yX0_checkMember, .instanceMethod yX0_checkMember, .selects RX0 yX0_checkMember yX0_checkMember, .initialized RX0, .code yX0_checkMember cX0_checkMember 2 none, .classLink RX0 195 "java/lang/IndexOutOfBoundsException", .initialized "java/lang/IndexOutOfBoundsException", .fieldLink RX0 32 "SaltOrder" "memberCount" "I", .methodLink RX0 59 yX0_checkAmount, .static yX0_checkAmount, .code yX0_checkAmount cX0_checkAmount 2 none, .classLink RX0 204 "java/lang/IllegalArgumentException", .initialized "java/lang/IllegalArgumentException", .methodLink RX0 86 yX0_addLumps, .instanceMethod yX0_addLumps, .selects RX0 yX0_addLumps yX0_addLumps, .code yX0_addLumps cX0_addLumps 3 none, .methodLink RX0 89 Lib.Math.min.name, .static Lib.Math.min.name, .initialized "java/lang/Math", .code Lib.Math.min.name Lib.Math.min.code 2 (some .int)] ++ wsX00 ++ (vx_atS RX0 199 "java/lang/IndexOutOfBoundsException" ["java/lang/RuntimeException", "java/lang/Exception"]).filter goodWord ++ (vx_atS RX0 208 "java/lang/IllegalArgumentException" ["java/lang/RuntimeException", "java/lang/Exception"]).filter goodWord)
def wsX0_bringSalt : List Cond := .code yX0_bringSalt cX0_bringSalt 2 (some .int) :: ([.fieldLink RX0 39 "SaltOrder" "cellar" "I", .methodLink RX0 89 Lib.Math.min.name, .static Lib.Math.min.name, .initialized "java/lang/Math", .code Lib.Math.min.name Lib.Math.min.code 2 (some .int), .methodLink RX0 59 yX0_checkAmount, .static yX0_checkAmount, .initialized RX0, .code yX0_checkAmount cX0_checkAmount 2 none, .classLink RX0 204 "java/lang/IllegalArgumentException", .initialized "java/lang/IllegalArgumentException"] ++ wsX00 ++ (vx_atS RX0 208 "java/lang/IllegalArgumentException" ["java/lang/RuntimeException", "java/lang/Exception"]).filter goodWord)
def wsX0_faults : List Cond := .code yX0_faults cX0_faults 3 (some .int) :: ([.fieldLink RX0 36 "SaltOrder" "throwCount" "I", .fieldLink RX0 29 "SaltOrder" "excesses" "[I"] ++ wsX00)
def wsX0_debtOf : List Cond := .code yX0_debtOf cX0_debtOf 4 (some .int) :: ([.fieldLink RX0 36 "SaltOrder" "throwCount" "I", .fieldLink RX0 19 "SaltOrder" "throwers" "[I", .fieldLink RX0 29 "SaltOrder" "excesses" "[I"] ++ wsX00)
def wsX0_audit : List Cond := .code yX0_audit cX0_audit 3 (some .int) :: ([.fieldLink RX0 32 "SaltOrder" "memberCount" "I", .fieldLink RX0 36 "SaltOrder" "throwCount" "I", .fieldLink RX0 45 "SaltOrder" "found" "I", .methodLink RX0 94 yX0_faults, .instanceMethod yX0_faults, .selects RX0 yX0_faults yX0_faults, .initialized RX0, .code yX0_faults cX0_faults 3 (some .int), .fieldLink RX0 29 "SaltOrder" "excesses" "[I", .methodLink RX0 98 yX0_debtOf, .instanceMethod yX0_debtOf, .selects RX0 yX0_debtOf yX0_debtOf, .code yX0_debtOf cX0_debtOf 4 (some .int), .fieldLink RX0 19 "SaltOrder" "throwers" "[I", .methodLink RX0 66 yX0_addArrears, .instanceMethod yX0_addArrears, .selects RX0 yX0_addArrears yX0_addArrears, .code yX0_addArrears cX0_addArrears 3 none, .fieldLink RX0 13 "SaltOrder" "arrears" "[I", .methodLink RX0 89 Lib.Math.min.name, .static Lib.Math.min.name, .initialized "java/lang/Math", .code Lib.Math.min.name Lib.Math.min.code 2 (some .int)] ++ wsX00)
def wsX0_isAuditDay : List Cond := .code yX0_isAuditDay cX0_isAuditDay 1 (some .boolean) :: ([])
def wsX0_lossOf : List Cond := .code yX0_lossOf cX0_lossOf 2 (some .int) :: ([.fieldLink RX0 16 "SaltOrder" "toEat" "[I", .fieldLink RX0 13 "SaltOrder" "arrears" "[I"] ++ wsX00)
def wsX0_eatOrFeelLuck : List Cond := .code yX0_eatOrFeelLuck cX0_eatOrFeelLuck 2 none :: ([.fieldLink RX0 16 "SaltOrder" "toEat" "[I", .fieldLink RX0 13 "SaltOrder" "arrears" "[I", .fieldLink RX0 9 "SaltOrder" "luck" "[I", .methodLink RX0 213 Lib.Math.max.name, .static Lib.Math.max.name, .initialized "java/lang/Math", .code Lib.Math.max.name Lib.Math.max.code 2 (some .int), .methodLink RX0 89 Lib.Math.min.name, .static Lib.Math.min.name, .code Lib.Math.min.name Lib.Math.min.code 2 (some .int), .methodLink RX0 79 yX0_lessenArrears, .instanceMethod yX0_lessenArrears, .selects RX0 yX0_lessenArrears yX0_lessenArrears, .initialized RX0, .code yX0_lessenArrears cX0_lessenArrears 3 none, .methodLink RX0 105 yX0_lossOf, .instanceMethod yX0_lossOf, .selects RX0 yX0_lossOf yX0_lossOf, .code yX0_lossOf cX0_lossOf 2 (some .int)] ++ wsX00)
def wsX0_passOneDay_r1 : List Cond := [Cond.fieldLink RX0 42 "SaltOrder" "today" "I", Cond.fieldLink RX0 32 "SaltOrder" "memberCount" "I", Cond.methodLink RX0 216 yX0_isAuditDay, Cond.static yX0_isAuditDay, Cond.initialized RX0, Cond.code yX0_isAuditDay cX0_isAuditDay 1 (some .boolean), Cond.methodLink RX0 219 yX0_audit, Cond.instanceMethod yX0_audit, Cond.selects RX0 yX0_audit yX0_audit, Cond.code yX0_audit cX0_audit 3 (some .int), Cond.fieldLink RX0 36 "SaltOrder" "throwCount" "I", Cond.fieldLink RX0 45 "SaltOrder" "found" "I", Cond.methodLink RX0 94 yX0_faults, Cond.instanceMethod yX0_faults, Cond.selects RX0 yX0_faults yX0_faults, Cond.code yX0_faults cX0_faults 3 (some .int), Cond.fieldLink RX0 29 "SaltOrder" "excesses" "[I", Cond.methodLink RX0 98 yX0_debtOf, Cond.instanceMethod yX0_debtOf, Cond.selects RX0 yX0_debtOf yX0_debtOf, Cond.code yX0_debtOf cX0_debtOf 4 (some .int), Cond.fieldLink RX0 19 "SaltOrder" "throwers" "[I", Cond.methodLink RX0 66 yX0_addArrears, Cond.instanceMethod yX0_addArrears]
def wsX0_passOneDay_r2 : List Cond := [Cond.selects RX0 yX0_addArrears yX0_addArrears, Cond.code yX0_addArrears cX0_addArrears 3 none, Cond.fieldLink RX0 13 "SaltOrder" "arrears" "[I", Cond.methodLink RX0 89 Lib.Math.min.name, Cond.static Lib.Math.min.name, Cond.initialized "java/lang/Math", Cond.code Lib.Math.min.name Lib.Math.min.code 2 (some .int), Cond.methodLink RX0 222 yX0_eatOrFeelLuck, Cond.instanceMethod yX0_eatOrFeelLuck, Cond.selects RX0 yX0_eatOrFeelLuck yX0_eatOrFeelLuck, Cond.code yX0_eatOrFeelLuck cX0_eatOrFeelLuck 2 none, Cond.fieldLink RX0 16 "SaltOrder" "toEat" "[I", Cond.fieldLink RX0 9 "SaltOrder" "luck" "[I", Cond.methodLink RX0 213 Lib.Math.max.name, Cond.static Lib.Math.max.name, Cond.code Lib.Math.max.name Lib.Math.max.code 2 (some .int), Cond.methodLink RX0 79 yX0_lessenArrears, Cond.instanceMethod yX0_lessenArrears, Cond.selects RX0 yX0_lessenArrears yX0_lessenArrears, Cond.code yX0_lessenArrears cX0_lessenArrears 3 none, Cond.methodLink RX0 105 yX0_lossOf, Cond.instanceMethod yX0_lossOf, Cond.selects RX0 yX0_lossOf yX0_lossOf, Cond.code yX0_lossOf cX0_lossOf 2 (some .int)]
def wsX0_passOneDay : List Cond := .code yX0_passOneDay cX0_passOneDay 3 (some .int) :: ((wsX0_passOneDay_r1 ++ wsX0_passOneDay_r2) ++ wsX00)
def wsX0_pass_r1 : List Cond := [Cond.methodLink RX0 59 yX0_checkAmount, Cond.static yX0_checkAmount, Cond.initialized RX0, Cond.code yX0_checkAmount cX0_checkAmount 2 none, Cond.classLink RX0 204 "java/lang/IllegalArgumentException", Cond.initialized "java/lang/IllegalArgumentException", Cond.methodLink RX0 102 yX0_passOneDay, Cond.instanceMethod yX0_passOneDay, Cond.selects RX0 yX0_passOneDay yX0_passOneDay, Cond.code yX0_passOneDay cX0_passOneDay 3 (some .int), Cond.fieldLink RX0 42 "SaltOrder" "today" "I", Cond.fieldLink RX0 32 "SaltOrder" "memberCount" "I", Cond.methodLink RX0 216 yX0_isAuditDay, Cond.static yX0_isAuditDay, Cond.code yX0_isAuditDay cX0_isAuditDay 1 (some .boolean), Cond.methodLink RX0 219 yX0_audit, Cond.instanceMethod yX0_audit, Cond.selects RX0 yX0_audit yX0_audit, Cond.code yX0_audit cX0_audit 3 (some .int), Cond.fieldLink RX0 36 "SaltOrder" "throwCount" "I", Cond.fieldLink RX0 45 "SaltOrder" "found" "I", Cond.methodLink RX0 94 yX0_faults, Cond.instanceMethod yX0_faults, Cond.selects RX0 yX0_faults yX0_faults]
def wsX0_pass_r2 : List Cond := [Cond.code yX0_faults cX0_faults 3 (some .int), Cond.fieldLink RX0 29 "SaltOrder" "excesses" "[I", Cond.methodLink RX0 98 yX0_debtOf, Cond.instanceMethod yX0_debtOf, Cond.selects RX0 yX0_debtOf yX0_debtOf, Cond.code yX0_debtOf cX0_debtOf 4 (some .int), Cond.fieldLink RX0 19 "SaltOrder" "throwers" "[I", Cond.methodLink RX0 66 yX0_addArrears, Cond.instanceMethod yX0_addArrears, Cond.selects RX0 yX0_addArrears yX0_addArrears, Cond.code yX0_addArrears cX0_addArrears 3 none, Cond.fieldLink RX0 13 "SaltOrder" "arrears" "[I", Cond.methodLink RX0 89 Lib.Math.min.name, Cond.static Lib.Math.min.name, Cond.initialized "java/lang/Math", Cond.code Lib.Math.min.name Lib.Math.min.code 2 (some .int), Cond.methodLink RX0 222 yX0_eatOrFeelLuck, Cond.instanceMethod yX0_eatOrFeelLuck, Cond.selects RX0 yX0_eatOrFeelLuck yX0_eatOrFeelLuck, Cond.code yX0_eatOrFeelLuck cX0_eatOrFeelLuck 2 none, Cond.fieldLink RX0 16 "SaltOrder" "toEat" "[I", Cond.fieldLink RX0 9 "SaltOrder" "luck" "[I", Cond.methodLink RX0 213 Lib.Math.max.name, Cond.static Lib.Math.max.name]
def wsX0_pass_r3 : List Cond := [Cond.code Lib.Math.max.name Lib.Math.max.code 2 (some .int), Cond.methodLink RX0 79 yX0_lessenArrears, Cond.instanceMethod yX0_lessenArrears, Cond.selects RX0 yX0_lessenArrears yX0_lessenArrears, Cond.code yX0_lessenArrears cX0_lessenArrears 3 none, Cond.methodLink RX0 105 yX0_lossOf, Cond.instanceMethod yX0_lossOf, Cond.selects RX0 yX0_lossOf yX0_lossOf, Cond.code yX0_lossOf cX0_lossOf 2 (some .int)]
def wsX0_pass : List Cond := .code yX0_pass cX0_pass 4 (some .int) :: ((wsX0_pass_r1 ++ (wsX0_pass_r2 ++ wsX0_pass_r3)) ++ wsX00 ++ (vx_atS RX0 208 "java/lang/IllegalArgumentException" ["java/lang/RuntimeException", "java/lang/Exception"]).filter goodWord)
def wsX0_day : List Cond := .code yX0_day cX0_day 1 (some .int) :: ([.fieldLink RX0 42 "SaltOrder" "today" "I"] ++ wsX00)
def wsX0_members : List Cond := .code yX0_members cX0_members 1 (some .int) :: ([.fieldLink RX0 32 "SaltOrder" "memberCount" "I"] ++ wsX00)
def wsX0_luckOf : List Cond := .code yX0_luckOf cX0_luckOf 2 (some .int) :: ([.fieldLink RX0 9 "SaltOrder" "luck" "[I", .methodLink RX0 55 yX0_checkMember, .instanceMethod yX0_checkMember, .selects RX0 yX0_checkMember yX0_checkMember, .initialized RX0, .code yX0_checkMember cX0_checkMember 2 none, .classLink RX0 195 "java/lang/IndexOutOfBoundsException", .initialized "java/lang/IndexOutOfBoundsException", .fieldLink RX0 32 "SaltOrder" "memberCount" "I"] ++ wsX00 ++ (vx_atS RX0 199 "java/lang/IndexOutOfBoundsException" ["java/lang/RuntimeException", "java/lang/Exception"]).filter goodWord)
def wsX0_arrearsOf : List Cond := .code yX0_arrearsOf cX0_arrearsOf 2 (some .int) :: ([.fieldLink RX0 13 "SaltOrder" "arrears" "[I", .methodLink RX0 55 yX0_checkMember, .instanceMethod yX0_checkMember, .selects RX0 yX0_checkMember yX0_checkMember, .initialized RX0, .code yX0_checkMember cX0_checkMember 2 none, .classLink RX0 195 "java/lang/IndexOutOfBoundsException", .initialized "java/lang/IndexOutOfBoundsException", .fieldLink RX0 32 "SaltOrder" "memberCount" "I"] ++ wsX00 ++ (vx_atS RX0 199 "java/lang/IndexOutOfBoundsException" ["java/lang/RuntimeException", "java/lang/Exception"]).filter goodWord)
def wsX0_lumpsOf : List Cond := .code yX0_lumpsOf cX0_lumpsOf 2 (some .int) :: ([.fieldLink RX0 16 "SaltOrder" "toEat" "[I", .methodLink RX0 55 yX0_checkMember, .instanceMethod yX0_checkMember, .selects RX0 yX0_checkMember yX0_checkMember, .initialized RX0, .code yX0_checkMember cX0_checkMember 2 none, .classLink RX0 195 "java/lang/IndexOutOfBoundsException", .initialized "java/lang/IndexOutOfBoundsException", .fieldLink RX0 32 "SaltOrder" "memberCount" "I"] ++ wsX00 ++ (vx_atS RX0 199 "java/lang/IndexOutOfBoundsException" ["java/lang/RuntimeException", "java/lang/Exception"]).filter goodWord)
def wsX0_dailyLoss : List Cond := .code yX0_dailyLoss cX0_dailyLoss 2 (some .int) :: ([.methodLink RX0 55 yX0_checkMember, .instanceMethod yX0_checkMember, .selects RX0 yX0_checkMember yX0_checkMember, .initialized RX0, .code yX0_checkMember cX0_checkMember 2 none, .classLink RX0 195 "java/lang/IndexOutOfBoundsException", .initialized "java/lang/IndexOutOfBoundsException", .fieldLink RX0 32 "SaltOrder" "memberCount" "I", .methodLink RX0 105 yX0_lossOf, .instanceMethod yX0_lossOf, .selects RX0 yX0_lossOf yX0_lossOf, .code yX0_lossOf cX0_lossOf 2 (some .int), .fieldLink RX0 16 "SaltOrder" "toEat" "[I", .fieldLink RX0 13 "SaltOrder" "arrears" "[I"] ++ wsX00 ++ (vx_atS RX0 199 "java/lang/IndexOutOfBoundsException" ["java/lang/RuntimeException", "java/lang/Exception"]).filter goodWord)
def wsX0_luckiest : List Cond := .code yX0_luckiest cX0_luckiest 4 (some .int) :: ([.fieldLink RX0 32 "SaltOrder" "memberCount" "I", .fieldLink RX0 9 "SaltOrder" "luck" "[I"] ++ wsX00)
def wsX0_allArrears : List Cond := .code yX0_allArrears cX0_allArrears 3 (some .int) :: ([.fieldLink RX0 32 "SaltOrder" "memberCount" "I", .fieldLink RX0 13 "SaltOrder" "arrears" "[I"] ++ wsX00)
def wsX0_clearMembers : List Cond := .code yX0_clearMembers cX0_clearMembers 3 (some .int) :: ([.fieldLink RX0 32 "SaltOrder" "memberCount" "I", .fieldLink RX0 13 "SaltOrder" "arrears" "[I"] ++ wsX00)
def wsX0_salt : List Cond := .code yX0_salt cX0_salt 1 (some .int) :: ([.fieldLink RX0 39 "SaltOrder" "cellar" "I"] ++ wsX00)
def wsX0_ledger : List Cond := .code yX0_ledger cX0_ledger 1 (some .int) :: ([.fieldLink RX0 36 "SaltOrder" "throwCount" "I"] ++ wsX00)
def wsX0_checkEntry : List Cond := .code yX0_checkEntry cX0_checkEntry 2 none :: ([.classLink RX0 195 "java/lang/IndexOutOfBoundsException", .initialized "java/lang/IndexOutOfBoundsException", .fieldLink RX0 36 "SaltOrder" "throwCount" "I"] ++ wsX00 ++ (vx_atS RX0 199 "java/lang/IndexOutOfBoundsException" ["java/lang/RuntimeException", "java/lang/Exception"]).filter goodWord)
def wsX0_memberOf : List Cond := .code yX0_memberOf cX0_memberOf 2 (some .int) :: ([.fieldLink RX0 19 "SaltOrder" "throwers" "[I", .methodLink RX0 108 yX0_checkEntry, .instanceMethod yX0_checkEntry, .selects RX0 yX0_checkEntry yX0_checkEntry, .initialized RX0, .code yX0_checkEntry cX0_checkEntry 2 none, .classLink RX0 195 "java/lang/IndexOutOfBoundsException", .initialized "java/lang/IndexOutOfBoundsException", .fieldLink RX0 36 "SaltOrder" "throwCount" "I"] ++ wsX00 ++ (vx_atS RX0 199 "java/lang/IndexOutOfBoundsException" ["java/lang/RuntimeException", "java/lang/Exception"]).filter goodWord)
def wsX0_isLeft : List Cond := .code yX0_isLeft cX0_isLeft 2 (some .boolean) :: ([.fieldLink RX0 22 "SaltOrder" "lefts" "[Z", .methodLink RX0 108 yX0_checkEntry, .instanceMethod yX0_checkEntry, .selects RX0 yX0_checkEntry yX0_checkEntry, .initialized RX0, .code yX0_checkEntry cX0_checkEntry 2 none, .classLink RX0 195 "java/lang/IndexOutOfBoundsException", .initialized "java/lang/IndexOutOfBoundsException", .fieldLink RX0 36 "SaltOrder" "throwCount" "I"] ++ wsX00 ++ (vx_atS RX0 199 "java/lang/IndexOutOfBoundsException" ["java/lang/RuntimeException", "java/lang/Exception"]).filter goodWord)
def wsX0_grainsOf : List Cond := .code yX0_grainsOf cX0_grainsOf 2 (some .int) :: ([.fieldLink RX0 26 "SaltOrder" "thrown" "[I", .methodLink RX0 108 yX0_checkEntry, .instanceMethod yX0_checkEntry, .selects RX0 yX0_checkEntry yX0_checkEntry, .initialized RX0, .code yX0_checkEntry cX0_checkEntry 2 none, .classLink RX0 195 "java/lang/IndexOutOfBoundsException", .initialized "java/lang/IndexOutOfBoundsException", .fieldLink RX0 36 "SaltOrder" "throwCount" "I"] ++ wsX00 ++ (vx_atS RX0 199 "java/lang/IndexOutOfBoundsException" ["java/lang/RuntimeException", "java/lang/Exception"]).filter goodWord)
def wsX0_excessOf : List Cond := .code yX0_excessOf cX0_excessOf 2 (some .int) :: ([.fieldLink RX0 29 "SaltOrder" "excesses" "[I", .methodLink RX0 108 yX0_checkEntry, .instanceMethod yX0_checkEntry, .selects RX0 yX0_checkEntry yX0_checkEntry, .initialized RX0, .code yX0_checkEntry cX0_checkEntry 2 none, .classLink RX0 195 "java/lang/IndexOutOfBoundsException", .initialized "java/lang/IndexOutOfBoundsException", .fieldLink RX0 36 "SaltOrder" "throwCount" "I"] ++ wsX00 ++ (vx_atS RX0 199 "java/lang/IndexOutOfBoundsException" ["java/lang/RuntimeException", "java/lang/Exception"]).filter goodWord)
def wsX0_arrearsByAudit : List Cond := .code yX0_arrearsByAudit cX0_arrearsByAudit 2 (some .int) :: ([.methodLink RX0 55 yX0_checkMember, .instanceMethod yX0_checkMember, .selects RX0 yX0_checkMember yX0_checkMember, .initialized RX0, .code yX0_checkMember cX0_checkMember 2 none, .classLink RX0 195 "java/lang/IndexOutOfBoundsException", .initialized "java/lang/IndexOutOfBoundsException", .fieldLink RX0 32 "SaltOrder" "memberCount" "I", .methodLink RX0 98 yX0_debtOf, .instanceMethod yX0_debtOf, .selects RX0 yX0_debtOf yX0_debtOf, .code yX0_debtOf cX0_debtOf 4 (some .int), .fieldLink RX0 36 "SaltOrder" "throwCount" "I", .fieldLink RX0 19 "SaltOrder" "throwers" "[I", .fieldLink RX0 29 "SaltOrder" "excesses" "[I"] ++ wsX00 ++ (vx_atS RX0 199 "java/lang/IndexOutOfBoundsException" ["java/lang/RuntimeException", "java/lang/Exception"]).filter goodWord)
def wsX0_daysUntilAudit : List Cond := .code yX0_daysUntilAudit cX0_daysUntilAudit 1 (some .int) :: ([.fieldLink RX0 42 "SaltOrder" "today" "I"] ++ wsX00)
def wsX0_faultsFound : List Cond := .code yX0_faultsFound cX0_faultsFound 1 (some .int) :: ([.fieldLink RX0 45 "SaltOrder" "found" "I"] ++ wsX00)
def wsX0_meanLuck : List Cond := .code yX0_meanLuck cX0_meanLuck 3 (some .double) :: ([.fieldLink RX0 32 "SaltOrder" "memberCount" "I", .fieldLink RX0 9 "SaltOrder" "luck" "[I"] ++ wsX00)
def wsX1_init : List Cond := .code yX1_init cX1_init 1 none :: ([.methodLink RX1 1 objectInit, .instanceMethod objectInit, .code objectInit ⟨#[0xb1]⟩ 1 none, .fieldLink RX1 7 "SaltOrderLaw$Sim" "salt" "I", .classLink RX1 13 "[I", .fieldLink RX1 15 "SaltOrderLaw$Sim" "members" "[[I", .fieldLink RX1 19 "SaltOrderLaw$Sim" "ledger" "[[I"] ++ wsX10)
def wsX1_with : List Cond := .code yX1_with cX1_with 4 (some (.array (.array .int))) :: ([.classLink RX1 13 "[I"])
def wsX1_cast : List Cond := .code yX1_cast cX1_cast 6 (some .int) :: ([.fieldLink RX1 15 "SaltOrderLaw$Sim" "members" "[[I", .fieldLink RX1 7 "SaltOrderLaw$Sim" "salt" "I", .fieldLink RX1 19 "SaltOrderLaw$Sim" "ledger" "[[I", .arrayClass .int, .methodLink RX1 22 yX1_with, .static yX1_with, .initialized RX1, .code yX1_with cX1_with 4 (some (.array (.array .int))), .classLink RX1 13 "[I"] ++ wsX10)
def wsX1_audit : List Cond := .code yX1_audit cX1_audit 7 (some .int) :: ([.fieldLink RX1 19 "SaltOrderLaw$Sim" "ledger" "[[I", .fieldLink RX1 15 "SaltOrderLaw$Sim" "members" "[[I", .classLink RX1 13 "[I", .fieldLink RX1 26 "SaltOrderLaw$Sim" "found" "I"] ++ wsX10)
def wsX1_pass : List Cond := .code yX1_pass cX1_pass 7 (some .int) :: ([.fieldLink RX1 29 "SaltOrderLaw$Sim" "day" "I", .fieldLink RX1 15 "SaltOrderLaw$Sim" "members" "[[I", .methodLink RX1 32 yX1_audit, .instanceMethod yX1_audit, .selects RX1 yX1_audit yX1_audit, .initialized RX1, .code yX1_audit cX1_audit 7 (some .int), .fieldLink RX1 19 "SaltOrderLaw$Sim" "ledger" "[[I", .classLink RX1 13 "[I", .fieldLink RX1 26 "SaltOrderLaw$Sim" "found" "I"] ++ wsX10)
def wsX1_behind : List Cond := .code yX1_behind cX1_behind 4 (some .int) :: ([.methodLink RX1 36 yX1_pass, .instanceMethod yX1_pass, .selects RX1 yX1_pass yX1_pass, .initialized RX1, .code yX1_pass cX1_pass 7 (some .int), .fieldLink RX1 29 "SaltOrderLaw$Sim" "day" "I", .fieldLink RX1 15 "SaltOrderLaw$Sim" "members" "[[I", .methodLink RX1 32 yX1_audit, .instanceMethod yX1_audit, .selects RX1 yX1_audit yX1_audit, .code yX1_audit cX1_audit 7 (some .int), .fieldLink RX1 19 "SaltOrderLaw$Sim" "ledger" "[[I", .classLink RX1 13 "[I", .fieldLink RX1 26 "SaltOrderLaw$Sim" "found" "I"] ++ wsX10)
def wsX1_faults : List Cond := .code yX1_faults cX1_faults 6 (some .int) :: ([.fieldLink RX1 19 "SaltOrderLaw$Sim" "ledger" "[[I"] ++ wsX10)
def wsX1_adds : List Cond := .code yX1_adds cX1_adds 7 (some .int) :: ([.fieldLink RX1 19 "SaltOrderLaw$Sim" "ledger" "[[I"] ++ wsX10)
def wsX1_isSame_r1 : List Cond := [Cond.fieldLink RX1 15 "SaltOrderLaw$Sim" "members" "[[I", Cond.fieldLink RX1 29 "SaltOrderLaw$Sim" "day" "I", Cond.fieldLink RX1 7 "SaltOrderLaw$Sim" "salt" "I", Cond.fieldLink RX1 19 "SaltOrderLaw$Sim" "ledger" "[[I", Cond.fieldLink RX1 26 "SaltOrderLaw$Sim" "found" "I", Cond.methodLink RX1 44 yX0_day, Cond.instanceMethod yX0_day, Cond.selects RX0 yX0_day yX0_day, Cond.initialized RX0, Cond.code yX0_day cX0_day 1 (some .int), Cond.fieldLink RX0 42 "SaltOrder" "today" "I", Cond.methodLink RX1 48 yX0_members, Cond.instanceMethod yX0_members, Cond.selects RX0 yX0_members yX0_members, Cond.code yX0_members cX0_members 1 (some .int), Cond.fieldLink RX0 32 "SaltOrder" "memberCount" "I", Cond.methodLink RX1 50 yX0_salt, Cond.instanceMethod yX0_salt, Cond.selects RX0 yX0_salt yX0_salt, Cond.code yX0_salt cX0_salt 1 (some .int), Cond.fieldLink RX0 39 "SaltOrder" "cellar" "I", Cond.methodLink RX1 52 yX0_ledger, Cond.instanceMethod yX0_ledger, Cond.selects RX0 yX0_ledger yX0_ledger]
def wsX1_isSame_r2 : List Cond := [Cond.code yX0_ledger cX0_ledger 1 (some .int), Cond.fieldLink RX0 36 "SaltOrder" "throwCount" "I", Cond.methodLink RX1 54 yX0_faults, Cond.instanceMethod yX0_faults, Cond.selects RX0 yX0_faults yX0_faults, Cond.code yX0_faults cX0_faults 3 (some .int), Cond.fieldLink RX0 29 "SaltOrder" "excesses" "[I", Cond.methodLink RX1 57 yX1_faults, Cond.instanceMethod yX1_faults, Cond.selects RX1 yX1_faults yX1_faults, Cond.initialized RX1, Cond.code yX1_faults cX1_faults 6 (some .int), Cond.methodLink RX1 58 yX0_faultsFound, Cond.instanceMethod yX0_faultsFound, Cond.selects RX0 yX0_faultsFound yX0_faultsFound, Cond.code yX0_faultsFound cX0_faultsFound 1 (some .int), Cond.fieldLink RX0 45 "SaltOrder" "found" "I", Cond.methodLink RX1 61 yX0_memberOf, Cond.instanceMethod yX0_memberOf, Cond.selects RX0 yX0_memberOf yX0_memberOf, Cond.code yX0_memberOf cX0_memberOf 2 (some .int), Cond.fieldLink RX0 19 "SaltOrder" "throwers" "[I", Cond.methodLink RX0 108 yX0_checkEntry, Cond.instanceMethod yX0_checkEntry]
def wsX1_isSame_r3 : List Cond := [Cond.selects RX0 yX0_checkEntry yX0_checkEntry, Cond.code yX0_checkEntry cX0_checkEntry 2 none, Cond.classLink RX0 195 "java/lang/IndexOutOfBoundsException", Cond.initialized "java/lang/IndexOutOfBoundsException", Cond.methodLink RX1 65 yX0_isLeft, Cond.instanceMethod yX0_isLeft, Cond.selects RX0 yX0_isLeft yX0_isLeft, Cond.code yX0_isLeft cX0_isLeft 2 (some .boolean), Cond.fieldLink RX0 22 "SaltOrder" "lefts" "[Z", Cond.methodLink RX1 69 yX0_grainsOf, Cond.instanceMethod yX0_grainsOf, Cond.selects RX0 yX0_grainsOf yX0_grainsOf, Cond.code yX0_grainsOf cX0_grainsOf 2 (some .int), Cond.fieldLink RX0 26 "SaltOrder" "thrown" "[I", Cond.methodLink RX1 72 yX0_excessOf, Cond.instanceMethod yX0_excessOf, Cond.selects RX0 yX0_excessOf yX0_excessOf, Cond.code yX0_excessOf cX0_excessOf 2 (some .int), Cond.methodLink RX1 75 yX0_luckOf, Cond.instanceMethod yX0_luckOf, Cond.selects RX0 yX0_luckOf yX0_luckOf, Cond.code yX0_luckOf cX0_luckOf 2 (some .int), Cond.fieldLink RX0 9 "SaltOrder" "luck" "[I", Cond.methodLink RX0 55 yX0_checkMember]
def wsX1_isSame_r4 : List Cond := [Cond.instanceMethod yX0_checkMember, Cond.selects RX0 yX0_checkMember yX0_checkMember, Cond.code yX0_checkMember cX0_checkMember 2 none, Cond.methodLink RX1 78 yX0_arrearsOf, Cond.instanceMethod yX0_arrearsOf, Cond.selects RX0 yX0_arrearsOf yX0_arrearsOf, Cond.code yX0_arrearsOf cX0_arrearsOf 2 (some .int), Cond.fieldLink RX0 13 "SaltOrder" "arrears" "[I", Cond.methodLink RX1 81 yX0_lumpsOf, Cond.instanceMethod yX0_lumpsOf, Cond.selects RX0 yX0_lumpsOf yX0_lumpsOf, Cond.code yX0_lumpsOf cX0_lumpsOf 2 (some .int), Cond.fieldLink RX0 16 "SaltOrder" "toEat" "[I", Cond.methodLink RX1 84 yX0_dailyLoss, Cond.instanceMethod yX0_dailyLoss, Cond.selects RX0 yX0_dailyLoss yX0_dailyLoss, Cond.code yX0_dailyLoss cX0_dailyLoss 2 (some .int), Cond.methodLink RX0 105 yX0_lossOf, Cond.instanceMethod yX0_lossOf, Cond.selects RX0 yX0_lossOf yX0_lossOf, Cond.code yX0_lossOf cX0_lossOf 2 (some .int), Cond.methodLink RX1 87 yX0_arrearsByAudit, Cond.instanceMethod yX0_arrearsByAudit, Cond.selects RX0 yX0_arrearsByAudit yX0_arrearsByAudit]
def wsX1_isSame_r5 : List Cond := [Cond.code yX0_arrearsByAudit cX0_arrearsByAudit 2 (some .int), Cond.methodLink RX0 98 yX0_debtOf, Cond.instanceMethod yX0_debtOf, Cond.selects RX0 yX0_debtOf yX0_debtOf, Cond.code yX0_debtOf cX0_debtOf 4 (some .int), Cond.methodLink RX1 90 yX1_adds, Cond.instanceMethod yX1_adds, Cond.selects RX1 yX1_adds yX1_adds, Cond.code yX1_adds cX1_adds 7 (some .int), Cond.methodLink RX1 93 yX0_luckiest, Cond.instanceMethod yX0_luckiest, Cond.selects RX0 yX0_luckiest yX0_luckiest, Cond.code yX0_luckiest cX0_luckiest 4 (some .int), Cond.methodLink RX1 96 yX0_allArrears, Cond.instanceMethod yX0_allArrears, Cond.selects RX0 yX0_allArrears yX0_allArrears, Cond.code yX0_allArrears cX0_allArrears 3 (some .int), Cond.methodLink RX1 99 yX0_clearMembers, Cond.instanceMethod yX0_clearMembers, Cond.selects RX0 yX0_clearMembers yX0_clearMembers, Cond.code yX0_clearMembers cX0_clearMembers 3 (some .int), Cond.methodLink RX1 102 yX0_daysUntilAudit, Cond.instanceMethod yX0_daysUntilAudit, Cond.selects RX0 yX0_daysUntilAudit yX0_daysUntilAudit]
def wsX1_isSame_r6 : List Cond := [Cond.code yX0_daysUntilAudit cX0_daysUntilAudit 1 (some .int), Cond.methodLink RX1 105 yX0_meanLuck, Cond.instanceMethod yX0_meanLuck, Cond.selects RX0 yX0_meanLuck yX0_meanLuck, Cond.code yX0_meanLuck cX0_meanLuck 3 (some .double)]
def wsX1_isSame : List Cond := .code yX1_isSame cX1_isSame 9 (some .boolean) :: ((wsX1_isSame_r1 ++ (wsX1_isSame_r2 ++ (wsX1_isSame_r3 ++ (wsX1_isSame_r4 ++ (wsX1_isSame_r5 ++ wsX1_isSame_r6))))) ++ wsX10 ++ wsX00 ++ (vx_atS RX0 199 "java/lang/IndexOutOfBoundsException" ["java/lang/RuntimeException", "java/lang/Exception"]).filter goodWord)
def wsJ9_max_7cf53 : List Cond := .code yJ9_max_7cf53 cJ9_max_7cf53 2 (some .int) :: ([])
def wsJ9_min_7cf53 : List Cond := .code yJ9_min_7cf53 cJ9_min_7cf53 2 (some .int) :: ([])
def wsL_below : List Cond := .code yL_below cL_below 2 (some .int) :: ([.constant RL 7 (2147483647)])
def wsL_cell : List Cond := .code yL_cell cL_cell 2 (some .int) :: ([.constant RL 8 (790386105)])
def wsL_act_r1 : List Cond := [Cond.fieldLink RL 9 "SaltOrderLaw$Sim" "members" "[[I", Cond.arrayClass .int, Cond.fieldLink RL 31 "SaltOrderLaw$Sim" "salt" "I", Cond.methodLink RL 35 Lib.Math.min.name, Cond.static Lib.Math.min.name, Cond.initialized "java/lang/Math", Cond.code Lib.Math.min.name Lib.Math.min.code 2 (some .int), Cond.fieldLink RL 43 "SaltOrderLaw$Sim" "ledger" "[[I", Cond.methodLink RL 15 yL_below, Cond.static yL_below, Cond.initialized RL, Cond.code yL_below cL_below 2 (some .int), Cond.constant RL 7 (2147483647), Cond.methodLink RL 21 yX1_with, Cond.static yX1_with, Cond.initialized RX1, Cond.code yX1_with cX1_with 4 (some (.array (.array .int))), Cond.classLink RX1 13 "[I", Cond.methodLink RL 25 yX0_join, Cond.instanceMethod yX0_join, Cond.selects RX0 yX0_join yX0_join, Cond.initialized RX0, Cond.code yX0_join cX0_join 2 (some .int), Cond.classLink RX0 48 "java/lang/IllegalStateException"]
def wsL_act_r2 : List Cond := [Cond.initialized "java/lang/IllegalStateException", Cond.fieldLink RX0 32 "SaltOrder" "memberCount" "I", Cond.fieldLink RX0 9 "SaltOrder" "luck" "[I", Cond.fieldLink RX0 13 "SaltOrder" "arrears" "[I", Cond.fieldLink RX0 16 "SaltOrder" "toEat" "[I", Cond.methodLink RL 40 yX0_spill, Cond.instanceMethod yX0_spill, Cond.selects RX0 yX0_spill yX0_spill, Cond.code yX0_spill cX0_spill 3 (some .int), Cond.fieldLink RX0 39 "SaltOrder" "cellar" "I", Cond.methodLink RX0 55 yX0_checkMember, Cond.instanceMethod yX0_checkMember, Cond.selects RX0 yX0_checkMember yX0_checkMember, Cond.code yX0_checkMember cX0_checkMember 2 none, Cond.classLink RX0 195 "java/lang/IndexOutOfBoundsException", Cond.initialized "java/lang/IndexOutOfBoundsException", Cond.methodLink RX0 59 yX0_checkAmount, Cond.static yX0_checkAmount, Cond.code yX0_checkAmount cX0_checkAmount 2 none, Cond.classLink RX0 204 "java/lang/IllegalArgumentException", Cond.initialized "java/lang/IllegalArgumentException", Cond.methodLink RX0 63 yX0_checkCellar, Cond.instanceMethod yX0_checkCellar, Cond.selects RX0 yX0_checkCellar yX0_checkCellar]
def wsL_act_r3 : List Cond := [Cond.code yX0_checkCellar cX0_checkCellar 2 none, Cond.methodLink RX0 66 yX0_addArrears, Cond.instanceMethod yX0_addArrears, Cond.selects RX0 yX0_addArrears yX0_addArrears, Cond.code yX0_addArrears cX0_addArrears 3 none, Cond.methodLink RX0 89 Lib.Math.min.name, Cond.methodLink RL 46 yX0_throwSalt, Cond.instanceMethod yX0_throwSalt, Cond.selects RX0 yX0_throwSalt yX0_throwSalt, Cond.code yX0_throwSalt cX0_throwSalt 6 (some .int), Cond.methodLink RX0 69 yX0_checkShoulder, Cond.static yX0_checkShoulder, Cond.code yX0_checkShoulder cX0_checkShoulder 1 none, Cond.methodLink RX0 72 yX0_checkLedgerHasRoom, Cond.instanceMethod yX0_checkLedgerHasRoom, Cond.selects RX0 yX0_checkLedgerHasRoom yX0_checkLedgerHasRoom, Cond.code yX0_checkLedgerHasRoom cX0_checkLedgerHasRoom 1 none, Cond.fieldLink RX0 36 "SaltOrder" "throwCount" "I", Cond.methodLink RX0 75 yX0_leftExcess, Cond.instanceMethod yX0_leftExcess, Cond.selects RX0 yX0_leftExcess yX0_leftExcess, Cond.code yX0_leftExcess cX0_leftExcess 3 (some .int), Cond.methodLink RX0 213 Lib.Math.max.name, Cond.static Lib.Math.max.name]
def wsL_act_r4 : List Cond := [Cond.code Lib.Math.max.name Lib.Math.max.code 2 (some .int), Cond.methodLink RX0 79 yX0_lessenArrears, Cond.instanceMethod yX0_lessenArrears, Cond.selects RX0 yX0_lessenArrears yX0_lessenArrears, Cond.code yX0_lessenArrears cX0_lessenArrears 3 none, Cond.methodLink RX0 82 yX0_writeThrow, Cond.instanceMethod yX0_writeThrow, Cond.selects RX0 yX0_writeThrow yX0_writeThrow, Cond.code yX0_writeThrow cX0_writeThrow 5 none, Cond.fieldLink RX0 19 "SaltOrder" "throwers" "[I", Cond.fieldLink RX0 22 "SaltOrder" "lefts" "[Z", Cond.fieldLink RX0 26 "SaltOrder" "thrown" "[I", Cond.fieldLink RX0 29 "SaltOrder" "excesses" "[I", Cond.methodLink RL 50 yX1_cast, Cond.instanceMethod yX1_cast, Cond.selects RX1 yX1_cast yX1_cast, Cond.code yX1_cast cX1_cast 6 (some .int), Cond.fieldLink RX1 15 "SaltOrderLaw$Sim" "members" "[[I", Cond.fieldLink RX1 7 "SaltOrderLaw$Sim" "salt" "I", Cond.fieldLink RX1 19 "SaltOrderLaw$Sim" "ledger" "[[I", Cond.methodLink RX1 22 yX1_with, Cond.methodLink RL 53 yX0_doPenance, Cond.instanceMethod yX0_doPenance, Cond.selects RX0 yX0_doPenance yX0_doPenance]
def wsL_act_r5 : List Cond := [Cond.code yX0_doPenance cX0_doPenance 3 (some .int), Cond.methodLink RX0 86 yX0_addLumps, Cond.instanceMethod yX0_addLumps, Cond.selects RX0 yX0_addLumps yX0_addLumps, Cond.code yX0_addLumps cX0_addLumps 3 none, Cond.methodLink RL 56 yX0_bringSalt, Cond.instanceMethod yX0_bringSalt, Cond.selects RX0 yX0_bringSalt yX0_bringSalt, Cond.code yX0_bringSalt cX0_bringSalt 2 (some .int), Cond.methodLink RL 60 yX0_audit, Cond.instanceMethod yX0_audit, Cond.selects RX0 yX0_audit yX0_audit, Cond.code yX0_audit cX0_audit 3 (some .int), Cond.fieldLink RX0 45 "SaltOrder" "found" "I", Cond.methodLink RX0 94 yX0_faults, Cond.instanceMethod yX0_faults, Cond.selects RX0 yX0_faults yX0_faults, Cond.code yX0_faults cX0_faults 3 (some .int), Cond.methodLink RX0 98 yX0_debtOf, Cond.instanceMethod yX0_debtOf, Cond.selects RX0 yX0_debtOf yX0_debtOf, Cond.code yX0_debtOf cX0_debtOf 4 (some .int), Cond.methodLink RL 63 yX1_audit, Cond.instanceMethod yX1_audit]
def wsL_act_r6 : List Cond := [Cond.selects RX1 yX1_audit yX1_audit, Cond.code yX1_audit cX1_audit 7 (some .int), Cond.fieldLink RX1 26 "SaltOrderLaw$Sim" "found" "I", Cond.methodLink RL 64 yX0_pass, Cond.instanceMethod yX0_pass, Cond.selects RX0 yX0_pass yX0_pass, Cond.code yX0_pass cX0_pass 4 (some .int), Cond.methodLink RX0 102 yX0_passOneDay, Cond.instanceMethod yX0_passOneDay, Cond.selects RX0 yX0_passOneDay yX0_passOneDay, Cond.code yX0_passOneDay cX0_passOneDay 3 (some .int), Cond.fieldLink RX0 42 "SaltOrder" "today" "I", Cond.methodLink RX0 216 yX0_isAuditDay, Cond.static yX0_isAuditDay, Cond.code yX0_isAuditDay cX0_isAuditDay 1 (some .boolean), Cond.methodLink RX0 219 yX0_audit, Cond.methodLink RX0 222 yX0_eatOrFeelLuck, Cond.instanceMethod yX0_eatOrFeelLuck, Cond.selects RX0 yX0_eatOrFeelLuck yX0_eatOrFeelLuck, Cond.code yX0_eatOrFeelLuck cX0_eatOrFeelLuck 2 none, Cond.methodLink RX0 105 yX0_lossOf, Cond.instanceMethod yX0_lossOf, Cond.selects RX0 yX0_lossOf yX0_lossOf, Cond.code yX0_lossOf cX0_lossOf 2 (some .int)]
def wsL_act_r7 : List Cond := [Cond.methodLink RL 67 yX1_behind, Cond.instanceMethod yX1_behind, Cond.selects RX1 yX1_behind yX1_behind, Cond.code yX1_behind cX1_behind 4 (some .int), Cond.methodLink RX1 36 yX1_pass, Cond.instanceMethod yX1_pass, Cond.selects RX1 yX1_pass yX1_pass, Cond.code yX1_pass cX1_pass 7 (some .int), Cond.fieldLink RX1 29 "SaltOrderLaw$Sim" "day" "I", Cond.methodLink RX1 32 yX1_audit]
def wsL_act : List Cond := .code yL_act cL_act 12 (some .boolean) :: ((wsL_act_r1 ++ (wsL_act_r2 ++ (wsL_act_r3 ++ (wsL_act_r4 ++ (wsL_act_r5 ++ (wsL_act_r6 ++ wsL_act_r7)))))) ++ wsX10 ++ wsX00 ++ (vx_atS RX0 52 "java/lang/IllegalStateException" ["java/lang/RuntimeException", "java/lang/Exception"]).filter goodWord ++ (vx_atS RX0 199 "java/lang/IndexOutOfBoundsException" ["java/lang/RuntimeException", "java/lang/Exception"]).filter goodWord ++ (vx_atS RX0 208 "java/lang/IllegalArgumentException" ["java/lang/RuntimeException", "java/lang/Exception"]).filter goodWord)
def wsL_build_r1 : List Cond := [Cond.classLink RL 10 RX1, Cond.instantiable RX1 5, Cond.initialized RX1, Cond.instanceMethod yX1_init, Cond.code yX1_init cX1_init 1 none, Cond.methodLink RX1 1 objectInit, Cond.instanceMethod objectInit, Cond.code objectInit ⟨#[0xb1]⟩ 1 none, Cond.fieldLink RX1 7 "SaltOrderLaw$Sim" "salt" "I", Cond.classLink RX1 13 "[I", Cond.fieldLink RX1 15 "SaltOrderLaw$Sim" "members" "[[I", Cond.fieldLink RX1 19 "SaltOrderLaw$Sim" "ledger" "[[I", Cond.methodLink RL 71 yL_cell, Cond.static yL_cell, Cond.initialized RL, Cond.code yL_cell cL_cell 2 (some .int), Cond.constant RL 8 (790386105), Cond.methodLink RL 15 yL_below, Cond.static yL_below, Cond.code yL_below cL_below 2 (some .int), Cond.constant RL 7 (2147483647), Cond.methodLink RL 75 yL_act, Cond.static yL_act, Cond.code yL_act cL_act 12 (some .boolean)]
def wsL_build_r2 : List Cond := [Cond.fieldLink RL 9 "SaltOrderLaw$Sim" "members" "[[I", Cond.arrayClass .int, Cond.fieldLink RL 31 "SaltOrderLaw$Sim" "salt" "I", Cond.methodLink RL 35 Lib.Math.min.name, Cond.static Lib.Math.min.name, Cond.initialized "java/lang/Math", Cond.code Lib.Math.min.name Lib.Math.min.code 2 (some .int), Cond.fieldLink RL 43 "SaltOrderLaw$Sim" "ledger" "[[I", Cond.methodLink RL 21 yX1_with, Cond.static yX1_with, Cond.code yX1_with cX1_with 4 (some (.array (.array .int))), Cond.methodLink RL 25 yX0_join, Cond.instanceMethod yX0_join, Cond.selects RX0 yX0_join yX0_join, Cond.initialized RX0, Cond.code yX0_join cX0_join 2 (some .int), Cond.classLink RX0 48 "java/lang/IllegalStateException", Cond.initialized "java/lang/IllegalStateException", Cond.fieldLink RX0 32 "SaltOrder" "memberCount" "I", Cond.fieldLink RX0 9 "SaltOrder" "luck" "[I", Cond.fieldLink RX0 13 "SaltOrder" "arrears" "[I", Cond.fieldLink RX0 16 "SaltOrder" "toEat" "[I", Cond.methodLink RL 40 yX0_spill, Cond.instanceMethod yX0_spill]
def wsL_build_r3 : List Cond := [Cond.selects RX0 yX0_spill yX0_spill, Cond.code yX0_spill cX0_spill 3 (some .int), Cond.fieldLink RX0 39 "SaltOrder" "cellar" "I", Cond.methodLink RX0 55 yX0_checkMember, Cond.instanceMethod yX0_checkMember, Cond.selects RX0 yX0_checkMember yX0_checkMember, Cond.code yX0_checkMember cX0_checkMember 2 none, Cond.classLink RX0 195 "java/lang/IndexOutOfBoundsException", Cond.initialized "java/lang/IndexOutOfBoundsException", Cond.methodLink RX0 59 yX0_checkAmount, Cond.static yX0_checkAmount, Cond.code yX0_checkAmount cX0_checkAmount 2 none, Cond.classLink RX0 204 "java/lang/IllegalArgumentException", Cond.initialized "java/lang/IllegalArgumentException", Cond.methodLink RX0 63 yX0_checkCellar, Cond.instanceMethod yX0_checkCellar, Cond.selects RX0 yX0_checkCellar yX0_checkCellar, Cond.code yX0_checkCellar cX0_checkCellar 2 none, Cond.methodLink RX0 66 yX0_addArrears, Cond.instanceMethod yX0_addArrears, Cond.selects RX0 yX0_addArrears yX0_addArrears, Cond.code yX0_addArrears cX0_addArrears 3 none, Cond.methodLink RX0 89 Lib.Math.min.name, Cond.methodLink RL 46 yX0_throwSalt]
def wsL_build_r4 : List Cond := [Cond.instanceMethod yX0_throwSalt, Cond.selects RX0 yX0_throwSalt yX0_throwSalt, Cond.code yX0_throwSalt cX0_throwSalt 6 (some .int), Cond.methodLink RX0 69 yX0_checkShoulder, Cond.static yX0_checkShoulder, Cond.code yX0_checkShoulder cX0_checkShoulder 1 none, Cond.methodLink RX0 72 yX0_checkLedgerHasRoom, Cond.instanceMethod yX0_checkLedgerHasRoom, Cond.selects RX0 yX0_checkLedgerHasRoom yX0_checkLedgerHasRoom, Cond.code yX0_checkLedgerHasRoom cX0_checkLedgerHasRoom 1 none, Cond.fieldLink RX0 36 "SaltOrder" "throwCount" "I", Cond.methodLink RX0 75 yX0_leftExcess, Cond.instanceMethod yX0_leftExcess, Cond.selects RX0 yX0_leftExcess yX0_leftExcess, Cond.code yX0_leftExcess cX0_leftExcess 3 (some .int), Cond.methodLink RX0 213 Lib.Math.max.name, Cond.static Lib.Math.max.name, Cond.code Lib.Math.max.name Lib.Math.max.code 2 (some .int), Cond.methodLink RX0 79 yX0_lessenArrears, Cond.instanceMethod yX0_lessenArrears, Cond.selects RX0 yX0_lessenArrears yX0_lessenArrears, Cond.code yX0_lessenArrears cX0_lessenArrears 3 none, Cond.methodLink RX0 82 yX0_writeThrow, Cond.instanceMethod yX0_writeThrow]
def wsL_build_r5 : List Cond := [Cond.selects RX0 yX0_writeThrow yX0_writeThrow, Cond.code yX0_writeThrow cX0_writeThrow 5 none, Cond.fieldLink RX0 19 "SaltOrder" "throwers" "[I", Cond.fieldLink RX0 22 "SaltOrder" "lefts" "[Z", Cond.fieldLink RX0 26 "SaltOrder" "thrown" "[I", Cond.fieldLink RX0 29 "SaltOrder" "excesses" "[I", Cond.methodLink RL 50 yX1_cast, Cond.instanceMethod yX1_cast, Cond.selects RX1 yX1_cast yX1_cast, Cond.code yX1_cast cX1_cast 6 (some .int), Cond.methodLink RX1 22 yX1_with, Cond.methodLink RL 53 yX0_doPenance, Cond.instanceMethod yX0_doPenance, Cond.selects RX0 yX0_doPenance yX0_doPenance, Cond.code yX0_doPenance cX0_doPenance 3 (some .int), Cond.methodLink RX0 86 yX0_addLumps, Cond.instanceMethod yX0_addLumps, Cond.selects RX0 yX0_addLumps yX0_addLumps, Cond.code yX0_addLumps cX0_addLumps 3 none, Cond.methodLink RL 56 yX0_bringSalt, Cond.instanceMethod yX0_bringSalt, Cond.selects RX0 yX0_bringSalt yX0_bringSalt, Cond.code yX0_bringSalt cX0_bringSalt 2 (some .int), Cond.methodLink RL 60 yX0_audit]
def wsL_build_r6 : List Cond := [Cond.instanceMethod yX0_audit, Cond.selects RX0 yX0_audit yX0_audit, Cond.code yX0_audit cX0_audit 3 (some .int), Cond.fieldLink RX0 45 "SaltOrder" "found" "I", Cond.methodLink RX0 94 yX0_faults, Cond.instanceMethod yX0_faults, Cond.selects RX0 yX0_faults yX0_faults, Cond.code yX0_faults cX0_faults 3 (some .int), Cond.methodLink RX0 98 yX0_debtOf, Cond.instanceMethod yX0_debtOf, Cond.selects RX0 yX0_debtOf yX0_debtOf, Cond.code yX0_debtOf cX0_debtOf 4 (some .int), Cond.methodLink RL 63 yX1_audit, Cond.instanceMethod yX1_audit, Cond.selects RX1 yX1_audit yX1_audit, Cond.code yX1_audit cX1_audit 7 (some .int), Cond.fieldLink RX1 26 "SaltOrderLaw$Sim" "found" "I", Cond.methodLink RL 64 yX0_pass, Cond.instanceMethod yX0_pass, Cond.selects RX0 yX0_pass yX0_pass, Cond.code yX0_pass cX0_pass 4 (some .int), Cond.methodLink RX0 102 yX0_passOneDay, Cond.instanceMethod yX0_passOneDay, Cond.selects RX0 yX0_passOneDay yX0_passOneDay]
def wsL_build_r7 : List Cond := [Cond.code yX0_passOneDay cX0_passOneDay 3 (some .int), Cond.fieldLink RX0 42 "SaltOrder" "today" "I", Cond.methodLink RX0 216 yX0_isAuditDay, Cond.static yX0_isAuditDay, Cond.code yX0_isAuditDay cX0_isAuditDay 1 (some .boolean), Cond.methodLink RX0 219 yX0_audit, Cond.methodLink RX0 222 yX0_eatOrFeelLuck, Cond.instanceMethod yX0_eatOrFeelLuck, Cond.selects RX0 yX0_eatOrFeelLuck yX0_eatOrFeelLuck, Cond.code yX0_eatOrFeelLuck cX0_eatOrFeelLuck 2 none, Cond.methodLink RX0 105 yX0_lossOf, Cond.instanceMethod yX0_lossOf, Cond.selects RX0 yX0_lossOf yX0_lossOf, Cond.code yX0_lossOf cX0_lossOf 2 (some .int), Cond.methodLink RL 67 yX1_behind, Cond.instanceMethod yX1_behind, Cond.selects RX1 yX1_behind yX1_behind, Cond.code yX1_behind cX1_behind 4 (some .int), Cond.methodLink RX1 36 yX1_pass, Cond.instanceMethod yX1_pass, Cond.selects RX1 yX1_pass yX1_pass, Cond.code yX1_pass cX1_pass 7 (some .int), Cond.fieldLink RX1 29 "SaltOrderLaw$Sim" "day" "I", Cond.methodLink RX1 32 yX1_audit]
def wsL_build : List Cond := .code yL_build cL_build 5 (some (.object "SaltOrderLaw$Sim")) :: ((wsL_build_r1 ++ (wsL_build_r2 ++ (wsL_build_r3 ++ (wsL_build_r4 ++ (wsL_build_r5 ++ (wsL_build_r6 ++ wsL_build_r7)))))) ++ wsX10 ++ wsX00 ++ (vx_atS RX0 52 "java/lang/IllegalStateException" ["java/lang/RuntimeException", "java/lang/Exception"]).filter goodWord ++ (vx_atS RX0 199 "java/lang/IndexOutOfBoundsException" ["java/lang/RuntimeException", "java/lang/Exception"]).filter goodWord ++ (vx_atS RX0 208 "java/lang/IllegalArgumentException" ["java/lang/RuntimeException", "java/lang/Exception"]).filter goodWord)
def wsL_law0_r1 : List Cond := [Cond.classLink RL 26 RX0, Cond.instantiable RX0 14, Cond.initialized RX0, Cond.arrayClass .int, Cond.methodLink RL 35 Lib.Math.min.name, Cond.static Lib.Math.min.name, Cond.initialized "java/lang/Math", Cond.code Lib.Math.min.name Lib.Math.min.code 2 (some .int), Cond.methodLink RL 145 Lib.Math.max.name, Cond.static Lib.Math.max.name, Cond.code Lib.Math.max.name Lib.Math.max.code 2 (some .int), Cond.methodLink RL 79 yX0_init, Cond.instanceMethod yX0_init, Cond.code yX0_init cX0_init 1 none, Cond.methodLink RX0 3 objectInit, Cond.instanceMethod objectInit, Cond.code objectInit ⟨#[0xb1]⟩ 1 none, Cond.fieldLink RX0 9 "SaltOrder" "luck" "[I", Cond.fieldLink RX0 13 "SaltOrder" "arrears" "[I", Cond.fieldLink RX0 16 "SaltOrder" "toEat" "[I", Cond.fieldLink RX0 19 "SaltOrder" "throwers" "[I", Cond.arrayClass .boolean, Cond.fieldLink RX0 22 "SaltOrder" "lefts" "[Z", Cond.fieldLink RX0 26 "SaltOrder" "thrown" "[I"]
def wsL_law0_r2 : List Cond := [Cond.fieldLink RX0 29 "SaltOrder" "excesses" "[I", Cond.fieldLink RX0 32 "SaltOrder" "memberCount" "I", Cond.fieldLink RX0 36 "SaltOrder" "throwCount" "I", Cond.fieldLink RX0 39 "SaltOrder" "cellar" "I", Cond.fieldLink RX0 42 "SaltOrder" "today" "I", Cond.fieldLink RX0 45 "SaltOrder" "found" "I", Cond.methodLink RL 80 yL_build, Cond.static yL_build, Cond.initialized RL, Cond.code yL_build cL_build 5 (some (.object "SaltOrderLaw$Sim")), Cond.classLink RL 10 RX1, Cond.instantiable RX1 5, Cond.initialized RX1, Cond.instanceMethod yX1_init, Cond.code yX1_init cX1_init 1 none, Cond.methodLink RX1 1 objectInit, Cond.fieldLink RX1 7 "SaltOrderLaw$Sim" "salt" "I", Cond.classLink RX1 13 "[I", Cond.fieldLink RX1 15 "SaltOrderLaw$Sim" "members" "[[I", Cond.fieldLink RX1 19 "SaltOrderLaw$Sim" "ledger" "[[I", Cond.methodLink RL 71 yL_cell, Cond.static yL_cell, Cond.code yL_cell cL_cell 2 (some .int), Cond.constant RL 8 (790386105)]
def wsL_law0_r3 : List Cond := [Cond.methodLink RL 15 yL_below, Cond.static yL_below, Cond.code yL_below cL_below 2 (some .int), Cond.constant RL 7 (2147483647), Cond.methodLink RL 75 yL_act, Cond.static yL_act, Cond.code yL_act cL_act 12 (some .boolean), Cond.fieldLink RL 9 "SaltOrderLaw$Sim" "members" "[[I", Cond.fieldLink RL 31 "SaltOrderLaw$Sim" "salt" "I", Cond.fieldLink RL 43 "SaltOrderLaw$Sim" "ledger" "[[I", Cond.methodLink RL 21 yX1_with, Cond.static yX1_with, Cond.code yX1_with cX1_with 4 (some (.array (.array .int))), Cond.methodLink RL 25 yX0_join, Cond.instanceMethod yX0_join, Cond.selects RX0 yX0_join yX0_join, Cond.code yX0_join cX0_join 2 (some .int), Cond.classLink RX0 48 "java/lang/IllegalStateException", Cond.initialized "java/lang/IllegalStateException", Cond.methodLink RL 40 yX0_spill, Cond.instanceMethod yX0_spill, Cond.selects RX0 yX0_spill yX0_spill, Cond.code yX0_spill cX0_spill 3 (some .int), Cond.methodLink RX0 55 yX0_checkMember]
def wsL_law0_r4 : List Cond := [Cond.instanceMethod yX0_checkMember, Cond.selects RX0 yX0_checkMember yX0_checkMember, Cond.code yX0_checkMember cX0_checkMember 2 none, Cond.classLink RX0 195 "java/lang/IndexOutOfBoundsException", Cond.initialized "java/lang/IndexOutOfBoundsException", Cond.methodLink RX0 59 yX0_checkAmount, Cond.static yX0_checkAmount, Cond.code yX0_checkAmount cX0_checkAmount 2 none, Cond.classLink RX0 204 "java/lang/IllegalArgumentException", Cond.initialized "java/lang/IllegalArgumentException", Cond.methodLink RX0 63 yX0_checkCellar, Cond.instanceMethod yX0_checkCellar, Cond.selects RX0 yX0_checkCellar yX0_checkCellar, Cond.code yX0_checkCellar cX0_checkCellar 2 none, Cond.methodLink RX0 66 yX0_addArrears, Cond.instanceMethod yX0_addArrears, Cond.selects RX0 yX0_addArrears yX0_addArrears, Cond.code yX0_addArrears cX0_addArrears 3 none, Cond.methodLink RX0 89 Lib.Math.min.name, Cond.methodLink RL 46 yX0_throwSalt, Cond.instanceMethod yX0_throwSalt, Cond.selects RX0 yX0_throwSalt yX0_throwSalt, Cond.code yX0_throwSalt cX0_throwSalt 6 (some .int), Cond.methodLink RX0 69 yX0_checkShoulder]
def wsL_law0_r5 : List Cond := [Cond.static yX0_checkShoulder, Cond.code yX0_checkShoulder cX0_checkShoulder 1 none, Cond.methodLink RX0 72 yX0_checkLedgerHasRoom, Cond.instanceMethod yX0_checkLedgerHasRoom, Cond.selects RX0 yX0_checkLedgerHasRoom yX0_checkLedgerHasRoom, Cond.code yX0_checkLedgerHasRoom cX0_checkLedgerHasRoom 1 none, Cond.methodLink RX0 75 yX0_leftExcess, Cond.instanceMethod yX0_leftExcess, Cond.selects RX0 yX0_leftExcess yX0_leftExcess, Cond.code yX0_leftExcess cX0_leftExcess 3 (some .int), Cond.methodLink RX0 213 Lib.Math.max.name, Cond.methodLink RX0 79 yX0_lessenArrears, Cond.instanceMethod yX0_lessenArrears, Cond.selects RX0 yX0_lessenArrears yX0_lessenArrears, Cond.code yX0_lessenArrears cX0_lessenArrears 3 none, Cond.methodLink RX0 82 yX0_writeThrow, Cond.instanceMethod yX0_writeThrow, Cond.selects RX0 yX0_writeThrow yX0_writeThrow, Cond.code yX0_writeThrow cX0_writeThrow 5 none, Cond.methodLink RL 50 yX1_cast, Cond.instanceMethod yX1_cast, Cond.selects RX1 yX1_cast yX1_cast, Cond.code yX1_cast cX1_cast 6 (some .int), Cond.methodLink RX1 22 yX1_with]
def wsL_law0_r6 : List Cond := [Cond.methodLink RL 53 yX0_doPenance, Cond.instanceMethod yX0_doPenance, Cond.selects RX0 yX0_doPenance yX0_doPenance, Cond.code yX0_doPenance cX0_doPenance 3 (some .int), Cond.methodLink RX0 86 yX0_addLumps, Cond.instanceMethod yX0_addLumps, Cond.selects RX0 yX0_addLumps yX0_addLumps, Cond.code yX0_addLumps cX0_addLumps 3 none, Cond.methodLink RL 56 yX0_bringSalt, Cond.instanceMethod yX0_bringSalt, Cond.selects RX0 yX0_bringSalt yX0_bringSalt, Cond.code yX0_bringSalt cX0_bringSalt 2 (some .int), Cond.methodLink RL 60 yX0_audit, Cond.instanceMethod yX0_audit, Cond.selects RX0 yX0_audit yX0_audit, Cond.code yX0_audit cX0_audit 3 (some .int), Cond.methodLink RX0 94 yX0_faults, Cond.instanceMethod yX0_faults, Cond.selects RX0 yX0_faults yX0_faults, Cond.code yX0_faults cX0_faults 3 (some .int), Cond.methodLink RX0 98 yX0_debtOf, Cond.instanceMethod yX0_debtOf, Cond.selects RX0 yX0_debtOf yX0_debtOf, Cond.code yX0_debtOf cX0_debtOf 4 (some .int)]
def wsL_law0_r7 : List Cond := [Cond.methodLink RL 63 yX1_audit, Cond.instanceMethod yX1_audit, Cond.selects RX1 yX1_audit yX1_audit, Cond.code yX1_audit cX1_audit 7 (some .int), Cond.fieldLink RX1 26 "SaltOrderLaw$Sim" "found" "I", Cond.methodLink RL 64 yX0_pass, Cond.instanceMethod yX0_pass, Cond.selects RX0 yX0_pass yX0_pass, Cond.code yX0_pass cX0_pass 4 (some .int), Cond.methodLink RX0 102 yX0_passOneDay, Cond.instanceMethod yX0_passOneDay, Cond.selects RX0 yX0_passOneDay yX0_passOneDay, Cond.code yX0_passOneDay cX0_passOneDay 3 (some .int), Cond.methodLink RX0 216 yX0_isAuditDay, Cond.static yX0_isAuditDay, Cond.code yX0_isAuditDay cX0_isAuditDay 1 (some .boolean), Cond.methodLink RX0 219 yX0_audit, Cond.methodLink RX0 222 yX0_eatOrFeelLuck, Cond.instanceMethod yX0_eatOrFeelLuck, Cond.selects RX0 yX0_eatOrFeelLuck yX0_eatOrFeelLuck, Cond.code yX0_eatOrFeelLuck cX0_eatOrFeelLuck 2 none, Cond.methodLink RX0 105 yX0_lossOf, Cond.instanceMethod yX0_lossOf, Cond.selects RX0 yX0_lossOf yX0_lossOf]
def wsL_law0_r8 : List Cond := [Cond.code yX0_lossOf cX0_lossOf 2 (some .int), Cond.methodLink RL 67 yX1_behind, Cond.instanceMethod yX1_behind, Cond.selects RX1 yX1_behind yX1_behind, Cond.code yX1_behind cX1_behind 4 (some .int), Cond.methodLink RX1 36 yX1_pass, Cond.instanceMethod yX1_pass, Cond.selects RX1 yX1_pass yX1_pass, Cond.code yX1_pass cX1_pass 7 (some .int), Cond.fieldLink RX1 29 "SaltOrderLaw$Sim" "day" "I", Cond.methodLink RX1 32 yX1_audit, Cond.methodLink RL 84 yX0_members, Cond.instanceMethod yX0_members, Cond.selects RX0 yX0_members yX0_members, Cond.code yX0_members cX0_members 1 (some .int), Cond.methodLink RL 86 yX0_ledger, Cond.instanceMethod yX0_ledger, Cond.selects RX0 yX0_ledger yX0_ledger, Cond.code yX0_ledger cX0_ledger 1 (some .int), Cond.methodLink RL 88 yX0_excessOf, Cond.instanceMethod yX0_excessOf, Cond.selects RX0 yX0_excessOf yX0_excessOf, Cond.code yX0_excessOf cX0_excessOf 2 (some .int), Cond.methodLink RX0 108 yX0_checkEntry]
def wsL_law0_r9 : List Cond := [Cond.instanceMethod yX0_checkEntry, Cond.selects RX0 yX0_checkEntry yX0_checkEntry, Cond.code yX0_checkEntry cX0_checkEntry 2 none, Cond.methodLink RL 91 yX0_grainsOf, Cond.instanceMethod yX0_grainsOf, Cond.selects RX0 yX0_grainsOf yX0_grainsOf, Cond.code yX0_grainsOf cX0_grainsOf 2 (some .int), Cond.methodLink RL 94 yX0_isLeft, Cond.instanceMethod yX0_isLeft, Cond.selects RX0 yX0_isLeft yX0_isLeft, Cond.code yX0_isLeft cX0_isLeft 2 (some .boolean), Cond.methodLink RL 98 yX0_memberOf, Cond.instanceMethod yX0_memberOf, Cond.selects RX0 yX0_memberOf yX0_memberOf, Cond.code yX0_memberOf cX0_memberOf 2 (some .int), Cond.methodLink RL 101 yX0_luckOf, Cond.instanceMethod yX0_luckOf, Cond.selects RX0 yX0_luckOf yX0_luckOf, Cond.code yX0_luckOf cX0_luckOf 2 (some .int), Cond.methodLink RL 104 yX0_arrearsOf, Cond.instanceMethod yX0_arrearsOf, Cond.selects RX0 yX0_arrearsOf yX0_arrearsOf, Cond.code yX0_arrearsOf cX0_arrearsOf 2 (some .int), Cond.methodLink RL 107 yX0_lumpsOf]
def wsL_law0_r10 : List Cond := [Cond.instanceMethod yX0_lumpsOf, Cond.selects RX0 yX0_lumpsOf yX0_lumpsOf, Cond.code yX0_lumpsOf cX0_lumpsOf 2 (some .int), Cond.methodLink RL 110 yX0_arrearsByAudit, Cond.instanceMethod yX0_arrearsByAudit, Cond.selects RX0 yX0_arrearsByAudit yX0_arrearsByAudit, Cond.code yX0_arrearsByAudit cX0_arrearsByAudit 2 (some .int), Cond.methodLink RL 113 yX0_luckiest, Cond.instanceMethod yX0_luckiest, Cond.selects RX0 yX0_luckiest yX0_luckiest, Cond.code yX0_luckiest cX0_luckiest 4 (some .int), Cond.methodLink RL 116 yX0_dailyLoss, Cond.instanceMethod yX0_dailyLoss, Cond.selects RX0 yX0_dailyLoss yX0_dailyLoss, Cond.code yX0_dailyLoss cX0_dailyLoss 2 (some .int), Cond.methodLink RL 119 yX0_salt, Cond.instanceMethod yX0_salt, Cond.selects RX0 yX0_salt yX0_salt, Cond.code yX0_salt cX0_salt 1 (some .int), Cond.methodLink RL 121 yX0_faults, Cond.methodLink RL 124 yX0_allArrears, Cond.instanceMethod yX0_allArrears, Cond.selects RX0 yX0_allArrears yX0_allArrears, Cond.code yX0_allArrears cX0_allArrears 3 (some .int)]
def wsL_law0_r11 : List Cond := [Cond.methodLink RL 127 yX0_clearMembers, Cond.instanceMethod yX0_clearMembers, Cond.selects RX0 yX0_clearMembers yX0_clearMembers, Cond.code yX0_clearMembers cX0_clearMembers 3 (some .int), Cond.methodLink RL 130 yX0_meanLuck, Cond.instanceMethod yX0_meanLuck, Cond.selects RX0 yX0_meanLuck yX0_meanLuck, Cond.code yX0_meanLuck cX0_meanLuck 3 (some .double), Cond.methodLink RL 134 yX0_daysUntilAudit, Cond.instanceMethod yX0_daysUntilAudit, Cond.selects RX0 yX0_daysUntilAudit yX0_daysUntilAudit, Cond.code yX0_daysUntilAudit cX0_daysUntilAudit 1 (some .int), Cond.methodLink RL 137 yX0_day, Cond.instanceMethod yX0_day, Cond.selects RX0 yX0_day yX0_day, Cond.code yX0_day cX0_day 1 (some .int), Cond.methodLink RL 140 yX0_faultsFound, Cond.instanceMethod yX0_faultsFound, Cond.selects RX0 yX0_faultsFound yX0_faultsFound, Cond.code yX0_faultsFound cX0_faultsFound 1 (some .int), Cond.methodLink RL 143 yX1_pass, Cond.methodLink RL 148 yX1_isSame, Cond.instanceMethod yX1_isSame, Cond.selects RX1 yX1_isSame yX1_isSame]
def wsL_law0_r12 : List Cond := [Cond.code yX1_isSame cX1_isSame 9 (some .boolean), Cond.methodLink RX1 44 yX0_day, Cond.methodLink RX1 48 yX0_members, Cond.methodLink RX1 50 yX0_salt, Cond.methodLink RX1 52 yX0_ledger, Cond.methodLink RX1 54 yX0_faults, Cond.methodLink RX1 57 yX1_faults, Cond.instanceMethod yX1_faults, Cond.selects RX1 yX1_faults yX1_faults, Cond.code yX1_faults cX1_faults 6 (some .int), Cond.methodLink RX1 58 yX0_faultsFound, Cond.methodLink RX1 61 yX0_memberOf, Cond.methodLink RX1 65 yX0_isLeft, Cond.methodLink RX1 69 yX0_grainsOf, Cond.methodLink RX1 72 yX0_excessOf, Cond.methodLink RX1 75 yX0_luckOf, Cond.methodLink RX1 78 yX0_arrearsOf, Cond.methodLink RX1 81 yX0_lumpsOf, Cond.methodLink RX1 84 yX0_dailyLoss, Cond.methodLink RX1 87 yX0_arrearsByAudit, Cond.methodLink RX1 90 yX1_adds, Cond.instanceMethod yX1_adds, Cond.selects RX1 yX1_adds yX1_adds, Cond.code yX1_adds cX1_adds 7 (some .int)]
def wsL_law0_r13 : List Cond := [Cond.methodLink RX1 93 yX0_luckiest, Cond.methodLink RX1 96 yX0_allArrears, Cond.methodLink RX1 99 yX0_clearMembers, Cond.methodLink RX1 102 yX0_daysUntilAudit, Cond.methodLink RX1 105 yX0_meanLuck]
def wsL_law0 : List Cond := (wsL_law0_r1 ++ (wsL_law0_r2 ++ (wsL_law0_r3 ++ (wsL_law0_r4 ++ (wsL_law0_r5 ++ (wsL_law0_r6 ++ (wsL_law0_r7 ++ (wsL_law0_r8 ++ (wsL_law0_r9 ++ (wsL_law0_r10 ++ (wsL_law0_r11 ++ (wsL_law0_r12 ++ wsL_law0_r13)))))))))))) ++ wsX00 ++ wsX10 ++ ([] : List Cond)
def wsL_law : List Cond := wsL_law0 ++ (vx_atS RX0 52 "java/lang/IllegalStateException" ["java/lang/RuntimeException", "java/lang/Exception"]).filter goodWord ++ (vx_atS RX0 199 "java/lang/IndexOutOfBoundsException" ["java/lang/RuntimeException", "java/lang/Exception"]).filter goodWord ++ (vx_atS RX0 208 "java/lang/IllegalArgumentException" ["java/lang/RuntimeException", "java/lang/Exception"]).filter goodWord
end
section
theorem z_inT {big ws : List Cond} (ps : List Nat) (hp : ws = ps.filterMap (fun i => big[i]?)) : ∀ w ∈ ws, w ∈ big := by
  intro w hw
  rw [hp] at hw
  obtain ⟨i, -, hi⟩ := List.mem_filterMap.mp hw
  exact List.mem_of_getElem? hi
theorem z_inA {big a b : List Cond} (ha : ∀ w ∈ a, w ∈ big) (hb : ∀ w ∈ b, w ∈ big) : ∀ w ∈ a ++ b, w ∈ big := fun w h => (List.mem_append.mp h).elim (ha w) (hb w)
set_option maxRecDepth 20000 in
theorem wsL_law0_r1_in : ∀ w ∈ wsL_law0_r1, w ∈ lw_tbl := z_inT [24, 25, 15, 73, 369, 174, 21, 175, 452, 185, 186, 26, 27, 28, 29, 30, 31, 32, 33, 34, 36, 74, 37, 38] (by decide +kernel)
set_option maxRecDepth 20000 in
theorem wsL_law0_r2_in : ∀ w ∈ wsL_law0_r2, w ∈ lw_tbl := z_inT [39, 35, 40, 41, 42, 43, 424, 425, 14, 426, 427, 428, 16, 430, 431, 432, 434, 301, 437, 439, 335, 336, 337, 338] (by decide +kernel)
set_option maxRecDepth 20000 in
theorem wsL_law0_r3_in : ∀ w ∈ wsL_law0_r3, w ∈ lw_tbl := z_inT [342, 343, 344, 345, 339, 340, 341, 438, 435, 440, 346, 347, 348, 349, 350, 351, 352, 353, 20, 370, 371, 372, 373, 203] (by decide +kernel)
set_option maxRecDepth 20000 in
theorem wsL_law0_r4_in : ∀ w ∈ wsL_law0_r4, w ∈ lw_tbl := z_inT [205, 7, 206, 207, 22, 79, 80, 81, 82, 23, 374, 376, 9, 377, 169, 171, 3, 172, 173, 379, 380, 381, 382, 383] (by decide +kernel)
set_option maxRecDepth 20000 in
theorem wsL_law0_r5_in : ∀ w ∈ wsL_law0_r5, w ∈ lw_tbl := z_inT [384, 385, 387, 389, 10, 390, 392, 394, 11, 395, 184, 180, 182, 5, 183, 396, 398, 12, 399, 400, 401, 402, 403, 404] (by decide +kernel)
set_option maxRecDepth 20000 in
theorem wsL_law0_r6_in : ∀ w ∈ wsL_law0_r6, w ∈ lw_tbl := z_inT [405, 406, 407, 408, 409, 411, 13, 412, 413, 414, 415, 416, 417, 158, 159, 160, 161, 162, 163, 164, 165, 167, 2, 168] (by decide +kernel)
set_option maxRecDepth 20000 in
theorem wsL_law0_r7_in : ∀ w ∈ wsL_law0_r7, w ∈ lw_tbl := z_inT [418, 298, 299, 300, 436, 75, 76, 77, 78, 150, 152, 1, 153, 154, 155, 156, 157, 176, 178, 4, 179, 187, 189, 6] (by decide +kernel)
set_option maxRecDepth 20000 in
theorem wsL_law0_r8_in : ∀ w ∈ wsL_law0_r8, w ∈ lw_tbl := z_inT [190, 419, 420, 421, 422, 423, 294, 295, 296, 433, 297, 195, 196, 197, 198, 251, 252, 253, 254, 272, 273, 274, 275, 259] (by decide +kernel)
set_option maxRecDepth 20000 in
theorem wsL_law0_r9_in : ∀ w ∈ wsL_law0_r9, w ∈ lw_tbl := z_inT [261, 8, 262, 268, 269, 270, 271, 264, 265, 266, 267, 255, 256, 257, 258, 199, 200, 201, 202, 223, 224, 225, 226, 227] (by decide +kernel)
set_option maxRecDepth 20000 in
theorem wsL_law0_r10_in : ∀ w ∈ wsL_law0_r10, w ∈ lw_tbl := z_inT [228, 229, 230, 277, 278, 279, 280, 235, 236, 237, 238, 231, 232, 233, 234, 247, 248, 249, 250, 276, 239, 240, 241, 242] (by decide +kernel)
set_option maxRecDepth 20000 in
theorem wsL_law0_r11_in : ∀ w ∈ wsL_law0_r11, w ∈ lw_tbl := z_inT [243, 244, 245, 246, 289, 290, 291, 292, 281, 282, 283, 284, 191, 192, 193, 194, 285, 286, 287, 288, 293, 303, 304, 305] (by decide +kernel)
set_option maxRecDepth 20000 in
theorem wsL_law0_r12_in : ∀ w ∈ wsL_law0_r12, w ∈ lw_tbl := z_inT [306, 307, 308, 309, 310, 311, 312, 313, 314, 315, 316, 317, 318, 319, 320, 321, 322, 323, 324, 325, 326, 327, 328, 329] (by decide +kernel)
set_option maxRecDepth 20000 in
theorem wsL_law0_r13_in : ∀ w ∈ wsL_law0_r13, w ∈ lw_tbl := z_inT [330, 331, 332, 333, 334] (by decide +kernel)
set_option maxRecDepth 20000 in
theorem wsX00_in : ∀ w ∈ wsX00, w ∈ lw_tbl := z_inT [44, 46, 48, 50, 52, 54, 56, 58, 60, 62, 64, 66, 68, 70] (by decide +kernel)
set_option maxRecDepth 20000 in
theorem wsX10_in : ∀ w ∈ wsX10, w ∈ lw_tbl := z_inT [441, 443, 445, 447, 449] (by decide +kernel)
theorem wsL_law_in0 : ∀ w ∈ wsL_law0, w ∈ lw_tbl := z_inA (z_inA (z_inA (z_inA wsL_law0_r1_in (z_inA wsL_law0_r2_in (z_inA wsL_law0_r3_in (z_inA wsL_law0_r4_in (z_inA wsL_law0_r5_in (z_inA wsL_law0_r6_in (z_inA wsL_law0_r7_in (z_inA wsL_law0_r8_in (z_inA wsL_law0_r9_in (z_inA wsL_law0_r10_in (z_inA wsL_law0_r11_in (z_inA wsL_law0_r12_in (wsL_law0_r13_in))))))))))))) wsX00_in) wsX10_in) (fun _ h => nomatch h)
theorem wsL_law_x0 : ∀ w ∈ (vx_atS RX0 52 "java/lang/IllegalStateException" ["java/lang/RuntimeException", "java/lang/Exception"]).filter goodWord, w ∈ lw_tbl := by decide +kernel
theorem wsL_law_x1 : ∀ w ∈ (vx_atS RX0 199 "java/lang/IndexOutOfBoundsException" ["java/lang/RuntimeException", "java/lang/Exception"]).filter goodWord, w ∈ lw_tbl := by decide +kernel
theorem wsL_law_x2 : ∀ w ∈ (vx_atS RX0 208 "java/lang/IllegalArgumentException" ["java/lang/RuntimeException", "java/lang/Exception"]).filter goodWord, w ∈ lw_tbl := by decide +kernel
theorem wsL_law_in : ∀ w ∈ wsL_law, w ∈ lw_tbl := fun w h => (List.mem_append.mp h).elim (fun h => (List.mem_append.mp h).elim (fun h => (List.mem_append.mp h).elim (fun h => wsL_law_in0 w h) (fun h => wsL_law_x0 w h)) (fun h => wsL_law_x1 w h)) (fun h => wsL_law_x2 w h)
theorem inlX0 : ∀ w ∈ wsX00, w ∈ wsL_law := fun _ h => List.mem_append_left _ (List.mem_append_left _ (List.mem_append_left _ (List.mem_append_left _ (List.mem_append_left _ (List.mem_append_right _ h)))))
theorem inX0 : ∀ w ∈ wsX00, w ∈ lw_tbl := fun w h => wsL_law_in w (inlX0 w h)
theorem inlX1 : ∀ w ∈ wsX10, w ∈ wsL_law := fun _ h => List.mem_append_left _ (List.mem_append_left _ (List.mem_append_left _ (List.mem_append_left _ (List.mem_append_right _ h))))
theorem inX1 : ∀ w ∈ wsX10, w ∈ lw_tbl := fun w h => wsL_law_in w (inlX1 w h)
theorem inX2 : ∀ w ∈ wsX20, w ∈ lw_tbl := by decide +kernel
theorem inJ9 : ∀ w ∈ wsJ90, w ∈ lw_tbl := by decide +kernel
theorem inJ0 : ∀ w ∈ wsJ00, w ∈ lw_tbl := by decide +kernel
end
section
theorem dX0_init_0 : decode cX0_init 0 = .ok (.aload_n 0, 1) := by decide +kernel
theorem dX0_init_1 : decode cX0_init 1 = .ok (.invokespecial 3, 3) := by decide +kernel
theorem dX0_init_4 : decode cX0_init 4 = .ok (.aload_n 0, 1) := by decide +kernel
theorem dX0_init_5 : decode cX0_init 5 = .ok (.bipush 9, 2) := by decide +kernel
theorem dX0_init_7 : decode cX0_init 7 = .ok (.newarray .int, 2) := by decide +kernel
theorem dX0_init_9 : decode cX0_init 9 = .ok (.putfield 9, 3) := by decide +kernel
theorem dX0_init_12 : decode cX0_init 12 = .ok (.aload_n 0, 1) := by decide +kernel
theorem dX0_init_13 : decode cX0_init 13 = .ok (.bipush 9, 2) := by decide +kernel
theorem dX0_init_15 : decode cX0_init 15 = .ok (.newarray .int, 2) := by decide +kernel
theorem dX0_init_17 : decode cX0_init 17 = .ok (.putfield 13, 3) := by decide +kernel
theorem dX0_init_20 : decode cX0_init 20 = .ok (.aload_n 0, 1) := by decide +kernel
theorem dX0_init_21 : decode cX0_init 21 = .ok (.bipush 9, 2) := by decide +kernel
theorem dX0_init_23 : decode cX0_init 23 = .ok (.newarray .int, 2) := by decide +kernel
theorem dX0_init_25 : decode cX0_init 25 = .ok (.putfield 16, 3) := by decide +kernel
theorem dX0_init_28 : decode cX0_init 28 = .ok (.aload_n 0, 1) := by decide +kernel
theorem dX0_init_29 : decode cX0_init 29 = .ok (.bipush 30, 2) := by decide +kernel
theorem dX0_init_31 : decode cX0_init 31 = .ok (.newarray .int, 2) := by decide +kernel
theorem dX0_init_33 : decode cX0_init 33 = .ok (.putfield 19, 3) := by decide +kernel
theorem dX0_init_36 : decode cX0_init 36 = .ok (.aload_n 0, 1) := by decide +kernel
theorem dX0_init_37 : decode cX0_init 37 = .ok (.bipush 30, 2) := by decide +kernel
theorem dX0_init_39 : decode cX0_init 39 = .ok (.newarray .boolean, 2) := by decide +kernel
theorem dX0_init_41 : decode cX0_init 41 = .ok (.putfield 22, 3) := by decide +kernel
theorem dX0_init_44 : decode cX0_init 44 = .ok (.aload_n 0, 1) := by decide +kernel
theorem dX0_init_45 : decode cX0_init 45 = .ok (.bipush 30, 2) := by decide +kernel
theorem dX0_init_47 : decode cX0_init 47 = .ok (.newarray .int, 2) := by decide +kernel
theorem dX0_init_49 : decode cX0_init 49 = .ok (.putfield 26, 3) := by decide +kernel
theorem dX0_init_52 : decode cX0_init 52 = .ok (.aload_n 0, 1) := by decide +kernel
theorem dX0_init_53 : decode cX0_init 53 = .ok (.bipush 30, 2) := by decide +kernel
theorem dX0_init_55 : decode cX0_init 55 = .ok (.newarray .int, 2) := by decide +kernel
theorem dX0_init_57 : decode cX0_init 57 = .ok (.putfield 29, 3) := by decide +kernel
theorem dX0_init_60 : decode cX0_init 60 = .ok (.aload_n 0, 1) := by decide +kernel
theorem dX0_init_61 : decode cX0_init 61 = .ok (.iconst 0, 1) := by decide +kernel
theorem dX0_init_62 : decode cX0_init 62 = .ok (.putfield 32, 3) := by decide +kernel
theorem dX0_init_65 : decode cX0_init 65 = .ok (.aload_n 0, 1) := by decide +kernel
theorem dX0_init_66 : decode cX0_init 66 = .ok (.iconst 0, 1) := by decide +kernel
theorem dX0_init_67 : decode cX0_init 67 = .ok (.putfield 36, 3) := by decide +kernel
theorem dX0_init_70 : decode cX0_init 70 = .ok (.aload_n 0, 1) := by decide +kernel
theorem dX0_init_71 : decode cX0_init 71 = .ok (.bipush 100, 2) := by decide +kernel
theorem dX0_init_73 : decode cX0_init 73 = .ok (.putfield 39, 3) := by decide +kernel
theorem dX0_init_76 : decode cX0_init 76 = .ok (.aload_n 0, 1) := by decide +kernel
theorem dX0_init_77 : decode cX0_init 77 = .ok (.iconst 0, 1) := by decide +kernel
theorem dX0_init_78 : decode cX0_init 78 = .ok (.putfield 42, 3) := by decide +kernel
theorem dX0_init_81 : decode cX0_init 81 = .ok (.aload_n 0, 1) := by decide +kernel
theorem dX0_init_82 : decode cX0_init 82 = .ok (.iconst 0, 1) := by decide +kernel
theorem dX0_init_83 : decode cX0_init 83 = .ok (.putfield 45, 3) := by decide +kernel
theorem dX0_init_86 : decode cX0_init 86 = .ok (.return_, 1) := by decide +kernel
theorem dX0_join_0 : decode cX0_join 0 = .ok (.aload_n 0, 1) := by decide +kernel
theorem dX0_join_1 : decode cX0_join 1 = .ok (.getfield 32, 3) := by decide +kernel
theorem dX0_join_4 : decode cX0_join 4 = .ok (.bipush 8, 2) := by decide +kernel
theorem dX0_join_6 : decode cX0_join 6 = .ok (.if_icmp .lt 13, 3) := by decide +kernel
theorem dX0_join_9 : decode cX0_join 9 = .ok (.new 48, 3) := by decide +kernel
theorem dX0_join_12 : decode cX0_join 12 = .ok (.dup, 1) := by decide +kernel
theorem dX0_join_13 : decode cX0_join 13 = .ok (.ldc 50, 2) := by decide +kernel
theorem dX0_join_15 : decode cX0_join 15 = .ok (.invokespecial 52, 3) := by decide +kernel
theorem dX0_join_18 : decode cX0_join 18 = .ok (.athrow, 1) := by decide +kernel
theorem dX0_join_19 : decode cX0_join 19 = .ok (.aload_n 0, 1) := by decide +kernel
theorem dX0_join_20 : decode cX0_join 20 = .ok (.getfield 32, 3) := by decide +kernel
theorem dX0_join_23 : decode cX0_join 23 = .ok (.istore_n 1, 1) := by decide +kernel
theorem dX0_join_24 : decode cX0_join 24 = .ok (.aload_n 0, 1) := by decide +kernel
theorem dX0_join_25 : decode cX0_join 25 = .ok (.getfield 9, 3) := by decide +kernel
theorem dX0_join_28 : decode cX0_join 28 = .ok (.iload_n 1, 1) := by decide +kernel
theorem dX0_join_29 : decode cX0_join 29 = .ok (.bipush 50, 2) := by decide +kernel
theorem dX0_join_31 : decode cX0_join 31 = .ok (.iastore, 1) := by decide +kernel
theorem dX0_join_32 : decode cX0_join 32 = .ok (.aload_n 0, 1) := by decide +kernel
theorem dX0_join_33 : decode cX0_join 33 = .ok (.getfield 13, 3) := by decide +kernel
theorem dX0_join_36 : decode cX0_join 36 = .ok (.iload_n 1, 1) := by decide +kernel
theorem dX0_join_37 : decode cX0_join 37 = .ok (.iconst 0, 1) := by decide +kernel
theorem dX0_join_38 : decode cX0_join 38 = .ok (.iastore, 1) := by decide +kernel
theorem dX0_join_39 : decode cX0_join 39 = .ok (.aload_n 0, 1) := by decide +kernel
theorem dX0_join_40 : decode cX0_join 40 = .ok (.getfield 16, 3) := by decide +kernel
theorem dX0_join_43 : decode cX0_join 43 = .ok (.iload_n 1, 1) := by decide +kernel
theorem dX0_join_44 : decode cX0_join 44 = .ok (.iconst 0, 1) := by decide +kernel
theorem dX0_join_45 : decode cX0_join 45 = .ok (.iastore, 1) := by decide +kernel
theorem dX0_join_46 : decode cX0_join 46 = .ok (.aload_n 0, 1) := by decide +kernel
theorem dX0_join_47 : decode cX0_join 47 = .ok (.dup, 1) := by decide +kernel
theorem dX0_join_48 : decode cX0_join 48 = .ok (.getfield 32, 3) := by decide +kernel
theorem dX0_join_51 : decode cX0_join 51 = .ok (.iconst 1, 1) := by decide +kernel
theorem dX0_join_52 : decode cX0_join 52 = .ok (.iadd, 1) := by decide +kernel
theorem dX0_join_53 : decode cX0_join 53 = .ok (.putfield 32, 3) := by decide +kernel
theorem dX0_join_56 : decode cX0_join 56 = .ok (.iload_n 1, 1) := by decide +kernel
theorem dX0_join_57 : decode cX0_join 57 = .ok (.ireturn, 1) := by decide +kernel
set_option maxRecDepth 20000 in
theorem ggX0_spill_X0_checkMember : GoodIn wsX0_spill wsX0_checkMember := goodIn_ca (goodIn_r _ [7, 8, 9, 10, 30, 31, 32, 33, 34, 35, 36, 37, 38, 39, 40, 41, 42, 43] (by decide +kernel) (by decide +kernel)) (goodIn_sub (fun _ h => List.mem_cons_of_mem _ (List.mem_append_left _ (List.mem_append_left _ (List.mem_append_right _ h)))) (by decide +kernel))
set_option maxRecDepth 20000 in
theorem gX0_spill_X0_checkMember : GoodIn wsX0_spill (wsV RX0 55 RX0 yX0_checkMember wsX0_checkMember) := goodIn_app (goodIn_of _ (by decide +kernel)) ggX0_spill_X0_checkMember
set_option maxRecDepth 20000 in
theorem ggX0_spill_X0_checkAmount : GoodIn wsX0_spill wsX0_checkAmount := goodIn_ca (goodIn_r _ [13, 14, 15] (by decide +kernel) (by decide +kernel)) (goodIn_sub (fun _ h => List.mem_cons_of_mem _ (List.mem_append_left _ (List.mem_append_right _ h))) (by decide +kernel))
set_option maxRecDepth 20000 in
theorem gX0_spill_X0_checkAmount : GoodIn wsX0_spill (va_wsS RX0 59 yX0_checkAmount wsX0_checkAmount) := goodIn_app (goodIn_of _ (by decide +kernel)) ggX0_spill_X0_checkAmount
set_option maxRecDepth 20000 in
theorem ggX0_spill_X0_checkCellar : GoodIn wsX0_spill wsX0_checkCellar := goodIn_ca (goodIn_r _ [19, 20, 21, 1, 30, 31, 32, 33, 34, 35, 36, 37, 38, 39, 40, 41, 42, 43] (by decide +kernel) (by decide +kernel)) (goodIn_sub (fun _ h => List.mem_cons_of_mem _ (List.mem_append_right _ h)) (by decide +kernel))
set_option maxRecDepth 20000 in
theorem gX0_spill_X0_checkCellar : GoodIn wsX0_spill (wsV RX0 63 RX0 yX0_checkCellar wsX0_checkCellar) := goodIn_app (goodIn_of _ (by decide +kernel)) ggX0_spill_X0_checkCellar
set_option maxRecDepth 20000 in
theorem ggX0_spill_X0_addArrears : GoodIn wsX0_spill wsX0_addArrears := goodIn_r _ [25, 2, 26, 27, 28, 29, 30, 31, 32, 33, 34, 35, 36, 37, 38, 39, 40, 41, 42, 43] (by decide +kernel) (by decide +kernel)
set_option maxRecDepth 20000 in
theorem gX0_spill_X0_addArrears : GoodIn wsX0_spill (wsV RX0 66 RX0 yX0_addArrears wsX0_addArrears) := goodIn_app (goodIn_of _ (by decide +kernel)) ggX0_spill_X0_addArrears
theorem dX0_spill_0 : decode cX0_spill 0 = .ok (.aload_n 0, 1) := by decide +kernel
theorem dX0_spill_1 : decode cX0_spill 1 = .ok (.iload_n 1, 1) := by decide +kernel
theorem dX0_spill_2 : decode cX0_spill 2 = .ok (.invokevirtual 55, 3) := by decide +kernel
theorem dX0_spill_5 : decode cX0_spill 5 = .ok (.iload_n 2, 1) := by decide +kernel
theorem dX0_spill_6 : decode cX0_spill 6 = .ok (.bipush 30, 2) := by decide +kernel
theorem dX0_spill_8 : decode cX0_spill 8 = .ok (.invokestatic 59, 3) := by decide +kernel
theorem dX0_spill_11 : decode cX0_spill 11 = .ok (.aload_n 0, 1) := by decide +kernel
theorem dX0_spill_12 : decode cX0_spill 12 = .ok (.iload_n 2, 1) := by decide +kernel
theorem dX0_spill_13 : decode cX0_spill 13 = .ok (.invokevirtual 63, 3) := by decide +kernel
theorem dX0_spill_16 : decode cX0_spill 16 = .ok (.aload_n 0, 1) := by decide +kernel
theorem dX0_spill_17 : decode cX0_spill 17 = .ok (.dup, 1) := by decide +kernel
theorem dX0_spill_18 : decode cX0_spill 18 = .ok (.getfield 39, 3) := by decide +kernel
theorem dX0_spill_21 : decode cX0_spill 21 = .ok (.iload_n 2, 1) := by decide +kernel
theorem dX0_spill_22 : decode cX0_spill 22 = .ok (.isub, 1) := by decide +kernel
theorem dX0_spill_23 : decode cX0_spill 23 = .ok (.putfield 39, 3) := by decide +kernel
theorem dX0_spill_26 : decode cX0_spill 26 = .ok (.aload_n 0, 1) := by decide +kernel
theorem dX0_spill_27 : decode cX0_spill 27 = .ok (.iload_n 1, 1) := by decide +kernel
theorem dX0_spill_28 : decode cX0_spill 28 = .ok (.iload_n 2, 1) := by decide +kernel
theorem dX0_spill_29 : decode cX0_spill 29 = .ok (.invokevirtual 66, 3) := by decide +kernel
theorem dX0_spill_32 : decode cX0_spill 32 = .ok (.aload_n 0, 1) := by decide +kernel
theorem dX0_spill_33 : decode cX0_spill 33 = .ok (.getfield 13, 3) := by decide +kernel
theorem dX0_spill_36 : decode cX0_spill 36 = .ok (.iload_n 1, 1) := by decide +kernel
theorem dX0_spill_37 : decode cX0_spill 37 = .ok (.iaload, 1) := by decide +kernel
theorem dX0_spill_38 : decode cX0_spill 38 = .ok (.ireturn, 1) := by decide +kernel
set_option maxRecDepth 20000 in
theorem ggX0_throwSalt_X0_checkMember : GoodIn wsX0_throwSalt wsX0_checkMember := goodIn_ca (goodIn_r _ [6, 7, 8, 9, 50, 51, 52, 53, 54, 55, 56, 57, 58, 59, 60, 61, 62, 63] (by decide +kernel) (by decide +kernel)) (goodIn_sub (fun _ h => List.mem_cons_of_mem _ (List.mem_append_left _ (List.mem_append_left _ (List.mem_append_right _ h)))) (by decide +kernel))
set_option maxRecDepth 20000 in
theorem gX0_throwSalt_X0_checkMember : GoodIn wsX0_throwSalt (wsV RX0 55 RX0 yX0_checkMember wsX0_checkMember) := goodIn_app (goodIn_of _ (by decide +kernel)) ggX0_throwSalt_X0_checkMember
set_option maxRecDepth 20000 in
theorem ggX0_throwSalt_X0_checkShoulder : GoodIn wsX0_throwSalt wsX0_checkShoulder := goodIn_ca (goodIn_r _ [12, 7, 8] (by decide +kernel) (by decide +kernel)) (goodIn_sub (fun _ h => List.mem_cons_of_mem _ (List.mem_append_left _ (List.mem_append_left _ (List.mem_append_right _ h)))) (by decide +kernel))
set_option maxRecDepth 20000 in
theorem gX0_throwSalt_X0_checkShoulder : GoodIn wsX0_throwSalt (va_wsS RX0 69 yX0_checkShoulder wsX0_checkShoulder) := goodIn_app (goodIn_of _ (by decide +kernel)) ggX0_throwSalt_X0_checkShoulder
set_option maxRecDepth 20000 in
theorem ggX0_throwSalt_X0_checkAmount : GoodIn wsX0_throwSalt wsX0_checkAmount := goodIn_ca (goodIn_r _ [15, 16, 17] (by decide +kernel) (by decide +kernel)) (goodIn_sub (fun _ h => List.mem_cons_of_mem _ (List.mem_append_left _ (List.mem_append_right _ h))) (by decide +kernel))
set_option maxRecDepth 20000 in
theorem gX0_throwSalt_X0_checkAmount : GoodIn wsX0_throwSalt (va_wsS RX0 59 yX0_checkAmount wsX0_checkAmount) := goodIn_app (goodIn_of _ (by decide +kernel)) ggX0_throwSalt_X0_checkAmount
set_option maxRecDepth 20000 in
theorem ggX0_throwSalt_X0_checkCellar : GoodIn wsX0_throwSalt wsX0_checkCellar := goodIn_ca (goodIn_r _ [21, 22, 23, 1, 50, 51, 52, 53, 54, 55, 56, 57, 58, 59, 60, 61, 62, 63] (by decide +kernel) (by decide +kernel)) (goodIn_sub (fun _ h => List.mem_cons_of_mem _ (List.mem_append_right _ h)) (by decide +kernel))
set_option maxRecDepth 20000 in
theorem gX0_throwSalt_X0_checkCellar : GoodIn wsX0_throwSalt (wsV RX0 63 RX0 yX0_checkCellar wsX0_checkCellar) := goodIn_app (goodIn_of _ (by decide +kernel)) ggX0_throwSalt_X0_checkCellar
set_option maxRecDepth 20000 in
theorem ggX0_throwSalt_X0_checkLedgerHasRoom : GoodIn wsX0_throwSalt wsX0_checkLedgerHasRoom := goodIn_ca (goodIn_r _ [27, 22, 23, 28, 50, 51, 52, 53, 54, 55, 56, 57, 58, 59, 60, 61, 62, 63] (by decide +kernel) (by decide +kernel)) (goodIn_sub (fun _ h => List.mem_cons_of_mem _ (List.mem_append_right _ h)) (by decide +kernel))
set_option maxRecDepth 20000 in
theorem gX0_throwSalt_X0_checkLedgerHasRoom : GoodIn wsX0_throwSalt (wsV RX0 72 RX0 yX0_checkLedgerHasRoom wsX0_checkLedgerHasRoom) := goodIn_app (goodIn_of _ (by decide +kernel)) ggX0_throwSalt_X0_checkLedgerHasRoom
set_option maxRecDepth 20000 in
theorem ggX0_throwSalt_X0_leftExcess : GoodIn wsX0_throwSalt wsX0_leftExcess := goodIn_r _ [32, 33, 34, 35, 36, 37, 50, 51, 52, 53, 54, 55, 56, 57, 58, 59, 60, 61, 62, 63] (by decide +kernel) (by decide +kernel)
set_option maxRecDepth 20000 in
theorem gX0_throwSalt_X0_leftExcess : GoodIn wsX0_throwSalt (wsV RX0 75 RX0 yX0_leftExcess wsX0_leftExcess) := goodIn_app (goodIn_of _ (by decide +kernel)) ggX0_throwSalt_X0_leftExcess
set_option maxRecDepth 20000 in
theorem ggX0_throwSalt_X0_lessenArrears : GoodIn wsX0_throwSalt wsX0_lessenArrears := goodIn_r _ [41, 33, 34, 35, 36, 37, 50, 51, 52, 53, 54, 55, 56, 57, 58, 59, 60, 61, 62, 63] (by decide +kernel) (by decide +kernel)
set_option maxRecDepth 20000 in
theorem gX0_throwSalt_X0_lessenArrears : GoodIn wsX0_throwSalt (wsV RX0 79 RX0 yX0_lessenArrears wsX0_lessenArrears) := goodIn_app (goodIn_of _ (by decide +kernel)) ggX0_throwSalt_X0_lessenArrears
set_option maxRecDepth 20000 in
theorem ggX0_throwSalt_X0_writeThrow : GoodIn wsX0_throwSalt wsX0_writeThrow := goodIn_r _ [45, 46, 28, 47, 48, 49, 50, 51, 52, 53, 54, 55, 56, 57, 58, 59, 60, 61, 62, 63] (by decide +kernel) (by decide +kernel)
set_option maxRecDepth 20000 in
theorem gX0_throwSalt_X0_writeThrow : GoodIn wsX0_throwSalt (wsV RX0 82 RX0 yX0_writeThrow wsX0_writeThrow) := goodIn_app (goodIn_of _ (by decide +kernel)) ggX0_throwSalt_X0_writeThrow
theorem dX0_throwSalt_0 : decode cX0_throwSalt 0 = .ok (.aload_n 0, 1) := by decide +kernel
theorem dX0_throwSalt_1 : decode cX0_throwSalt 1 = .ok (.iload_n 1, 1) := by decide +kernel
theorem dX0_throwSalt_2 : decode cX0_throwSalt 2 = .ok (.invokevirtual 55, 3) := by decide +kernel
theorem dX0_throwSalt_5 : decode cX0_throwSalt 5 = .ok (.iload_n 2, 1) := by decide +kernel
theorem dX0_throwSalt_6 : decode cX0_throwSalt 6 = .ok (.invokestatic 69, 3) := by decide +kernel
theorem dX0_throwSalt_9 : decode cX0_throwSalt 9 = .ok (.iload_n 3, 1) := by decide +kernel
theorem dX0_throwSalt_10 : decode cX0_throwSalt 10 = .ok (.bipush 9, 2) := by decide +kernel
theorem dX0_throwSalt_12 : decode cX0_throwSalt 12 = .ok (.invokestatic 59, 3) := by decide +kernel
theorem dX0_throwSalt_15 : decode cX0_throwSalt 15 = .ok (.aload_n 0, 1) := by decide +kernel
theorem dX0_throwSalt_16 : decode cX0_throwSalt 16 = .ok (.iload_n 3, 1) := by decide +kernel
theorem dX0_throwSalt_17 : decode cX0_throwSalt 17 = .ok (.invokevirtual 63, 3) := by decide +kernel
theorem dX0_throwSalt_20 : decode cX0_throwSalt 20 = .ok (.aload_n 0, 1) := by decide +kernel
theorem dX0_throwSalt_21 : decode cX0_throwSalt 21 = .ok (.invokevirtual 72, 3) := by decide +kernel
theorem dX0_throwSalt_24 : decode cX0_throwSalt 24 = .ok (.iload_n 2, 1) := by decide +kernel
theorem dX0_throwSalt_25 : decode cX0_throwSalt 25 = .ok (.ifCond .ne 7, 3) := by decide +kernel
theorem dX0_throwSalt_28 : decode cX0_throwSalt 28 = .ok (.iconst 1, 1) := by decide +kernel
theorem dX0_throwSalt_29 : decode cX0_throwSalt 29 = .ok (.goto 4, 3) := by decide +kernel
theorem dX0_throwSalt_32 : decode cX0_throwSalt 32 = .ok (.iconst 0, 1) := by decide +kernel
theorem dX0_throwSalt_33 : decode cX0_throwSalt 33 = .ok (.istore 4, 2) := by decide +kernel
theorem dX0_throwSalt_35 : decode cX0_throwSalt 35 = .ok (.iload 4, 2) := by decide +kernel
theorem dX0_throwSalt_37 : decode cX0_throwSalt 37 = .ok (.ifCond .eq 12, 3) := by decide +kernel
theorem dX0_throwSalt_40 : decode cX0_throwSalt 40 = .ok (.aload_n 0, 1) := by decide +kernel
theorem dX0_throwSalt_41 : decode cX0_throwSalt 41 = .ok (.iload_n 1, 1) := by decide +kernel
theorem dX0_throwSalt_42 : decode cX0_throwSalt 42 = .ok (.iload_n 3, 1) := by decide +kernel
theorem dX0_throwSalt_43 : decode cX0_throwSalt 43 = .ok (.invokevirtual 75, 3) := by decide +kernel
theorem dX0_throwSalt_46 : decode cX0_throwSalt 46 = .ok (.goto 4, 3) := by decide +kernel
theorem dX0_throwSalt_49 : decode cX0_throwSalt 49 = .ok (.iload_n 3, 1) := by decide +kernel
theorem dX0_throwSalt_50 : decode cX0_throwSalt 50 = .ok (.istore 5, 2) := by decide +kernel
theorem dX0_throwSalt_52 : decode cX0_throwSalt 52 = .ok (.iload 4, 2) := by decide +kernel
theorem dX0_throwSalt_54 : decode cX0_throwSalt 54 = .ok (.ifCond .eq 9, 3) := by decide +kernel
theorem dX0_throwSalt_57 : decode cX0_throwSalt 57 = .ok (.aload_n 0, 1) := by decide +kernel
theorem dX0_throwSalt_58 : decode cX0_throwSalt 58 = .ok (.iload_n 1, 1) := by decide +kernel
theorem dX0_throwSalt_59 : decode cX0_throwSalt 59 = .ok (.iload_n 3, 1) := by decide +kernel
theorem dX0_throwSalt_60 : decode cX0_throwSalt 60 = .ok (.invokevirtual 79, 3) := by decide +kernel
theorem dX0_throwSalt_63 : decode cX0_throwSalt 63 = .ok (.aload_n 0, 1) := by decide +kernel
theorem dX0_throwSalt_64 : decode cX0_throwSalt 64 = .ok (.dup, 1) := by decide +kernel
theorem dX0_throwSalt_65 : decode cX0_throwSalt 65 = .ok (.getfield 39, 3) := by decide +kernel
theorem dX0_throwSalt_68 : decode cX0_throwSalt 68 = .ok (.iload_n 3, 1) := by decide +kernel
theorem dX0_throwSalt_69 : decode cX0_throwSalt 69 = .ok (.isub, 1) := by decide +kernel
theorem dX0_throwSalt_70 : decode cX0_throwSalt 70 = .ok (.putfield 39, 3) := by decide +kernel
theorem dX0_throwSalt_73 : decode cX0_throwSalt 73 = .ok (.aload_n 0, 1) := by decide +kernel
theorem dX0_throwSalt_74 : decode cX0_throwSalt 74 = .ok (.iload_n 1, 1) := by decide +kernel
theorem dX0_throwSalt_75 : decode cX0_throwSalt 75 = .ok (.iload 4, 2) := by decide +kernel
theorem dX0_throwSalt_77 : decode cX0_throwSalt 77 = .ok (.iload_n 3, 1) := by decide +kernel
theorem dX0_throwSalt_78 : decode cX0_throwSalt 78 = .ok (.iload 5, 2) := by decide +kernel
theorem dX0_throwSalt_80 : decode cX0_throwSalt 80 = .ok (.invokevirtual 82, 3) := by decide +kernel
theorem dX0_throwSalt_83 : decode cX0_throwSalt 83 = .ok (.iload 5, 2) := by decide +kernel
theorem dX0_throwSalt_85 : decode cX0_throwSalt 85 = .ok (.ireturn, 1) := by decide +kernel
set_option maxRecDepth 20000 in
theorem ggX0_doPenance_X0_checkMember : GoodIn wsX0_doPenance wsX0_checkMember := goodIn_ca (goodIn_r _ [6, 7, 8, 9, 23, 24, 25, 26, 27, 28, 29, 30, 31, 32, 33, 34, 35, 36] (by decide +kernel) (by decide +kernel)) (goodIn_sub (fun _ h => List.mem_cons_of_mem _ (List.mem_append_left _ (List.mem_append_right _ h))) (by decide +kernel))
set_option maxRecDepth 20000 in
theorem gX0_doPenance_X0_checkMember : GoodIn wsX0_doPenance (wsV RX0 55 RX0 yX0_checkMember wsX0_checkMember) := goodIn_app (goodIn_of _ (by decide +kernel)) ggX0_doPenance_X0_checkMember
set_option maxRecDepth 20000 in
theorem ggX0_doPenance_X0_checkAmount : GoodIn wsX0_doPenance wsX0_checkAmount := goodIn_ca (goodIn_r _ [12, 13, 14] (by decide +kernel) (by decide +kernel)) (goodIn_sub (fun _ h => List.mem_cons_of_mem _ (List.mem_append_right _ h)) (by decide +kernel))
set_option maxRecDepth 20000 in
theorem gX0_doPenance_X0_checkAmount : GoodIn wsX0_doPenance (va_wsS RX0 59 yX0_checkAmount wsX0_checkAmount) := goodIn_app (goodIn_of _ (by decide +kernel)) ggX0_doPenance_X0_checkAmount
set_option maxRecDepth 20000 in
theorem ggX0_doPenance_X0_addLumps : GoodIn wsX0_doPenance wsX0_addLumps := goodIn_r _ [18, 1, 19, 20, 21, 22, 23, 24, 25, 26, 27, 28, 29, 30, 31, 32, 33, 34, 35, 36] (by decide +kernel) (by decide +kernel)
set_option maxRecDepth 20000 in
theorem gX0_doPenance_X0_addLumps : GoodIn wsX0_doPenance (wsV RX0 86 RX0 yX0_addLumps wsX0_addLumps) := goodIn_app (goodIn_of _ (by decide +kernel)) ggX0_doPenance_X0_addLumps
theorem dX0_doPenance_0 : decode cX0_doPenance 0 = .ok (.aload_n 0, 1) := by decide +kernel
theorem dX0_doPenance_1 : decode cX0_doPenance 1 = .ok (.iload_n 1, 1) := by decide +kernel
theorem dX0_doPenance_2 : decode cX0_doPenance 2 = .ok (.invokevirtual 55, 3) := by decide +kernel
theorem dX0_doPenance_5 : decode cX0_doPenance 5 = .ok (.iload_n 2, 1) := by decide +kernel
theorem dX0_doPenance_6 : decode cX0_doPenance 6 = .ok (.bipush 9, 2) := by decide +kernel
theorem dX0_doPenance_8 : decode cX0_doPenance 8 = .ok (.invokestatic 59, 3) := by decide +kernel
theorem dX0_doPenance_11 : decode cX0_doPenance 11 = .ok (.aload_n 0, 1) := by decide +kernel
theorem dX0_doPenance_12 : decode cX0_doPenance 12 = .ok (.iload_n 1, 1) := by decide +kernel
theorem dX0_doPenance_13 : decode cX0_doPenance 13 = .ok (.iload_n 2, 1) := by decide +kernel
theorem dX0_doPenance_14 : decode cX0_doPenance 14 = .ok (.invokevirtual 86, 3) := by decide +kernel
theorem dX0_doPenance_17 : decode cX0_doPenance 17 = .ok (.aload_n 0, 1) := by decide +kernel
theorem dX0_doPenance_18 : decode cX0_doPenance 18 = .ok (.getfield 16, 3) := by decide +kernel
theorem dX0_doPenance_21 : decode cX0_doPenance 21 = .ok (.iload_n 1, 1) := by decide +kernel
theorem dX0_doPenance_22 : decode cX0_doPenance 22 = .ok (.iaload, 1) := by decide +kernel
theorem dX0_doPenance_23 : decode cX0_doPenance 23 = .ok (.ireturn, 1) := by decide +kernel
set_option maxRecDepth 20000 in
theorem ggX0_bringSalt_X0_checkAmount : GoodIn wsX0_bringSalt wsX0_checkAmount := goodIn_ca (goodIn_r _ [9, 10, 11] (by decide +kernel) (by decide +kernel)) (goodIn_sub (fun _ h => List.mem_cons_of_mem _ (List.mem_append_right _ h)) (by decide +kernel))
set_option maxRecDepth 20000 in
theorem gX0_bringSalt_X0_checkAmount : GoodIn wsX0_bringSalt (va_wsS RX0 59 yX0_checkAmount wsX0_checkAmount) := goodIn_app (goodIn_of _ (by decide +kernel)) ggX0_bringSalt_X0_checkAmount
theorem dX0_bringSalt_0 : decode cX0_bringSalt 0 = .ok (.iload_n 1, 1) := by decide +kernel
theorem dX0_bringSalt_1 : decode cX0_bringSalt 1 = .ok (.sipush 500, 3) := by decide +kernel
theorem dX0_bringSalt_4 : decode cX0_bringSalt 4 = .ok (.invokestatic 59, 3) := by decide +kernel
theorem dX0_bringSalt_7 : decode cX0_bringSalt 7 = .ok (.aload_n 0, 1) := by decide +kernel
theorem dX0_bringSalt_8 : decode cX0_bringSalt 8 = .ok (.sipush 500, 3) := by decide +kernel
theorem dX0_bringSalt_11 : decode cX0_bringSalt 11 = .ok (.aload_n 0, 1) := by decide +kernel
theorem dX0_bringSalt_12 : decode cX0_bringSalt 12 = .ok (.getfield 39, 3) := by decide +kernel
theorem dX0_bringSalt_15 : decode cX0_bringSalt 15 = .ok (.iload_n 1, 1) := by decide +kernel
theorem dX0_bringSalt_16 : decode cX0_bringSalt 16 = .ok (.iadd, 1) := by decide +kernel
theorem dX0_bringSalt_17 : decode cX0_bringSalt 17 = .ok (.invokestatic 89, 3) := by decide +kernel
theorem dX0_bringSalt_20 : decode cX0_bringSalt 20 = .ok (.putfield 39, 3) := by decide +kernel
theorem dX0_bringSalt_23 : decode cX0_bringSalt 23 = .ok (.aload_n 0, 1) := by decide +kernel
theorem dX0_bringSalt_24 : decode cX0_bringSalt 24 = .ok (.getfield 39, 3) := by decide +kernel
theorem dX0_bringSalt_27 : decode cX0_bringSalt 27 = .ok (.ireturn, 1) := by decide +kernel
set_option maxRecDepth 20000 in
theorem ggX0_audit_X0_faults : GoodIn wsX0_audit wsX0_faults := goodIn_r _ [8, 2, 9, 24, 25, 26, 27, 28, 29, 30, 31, 32, 33, 34, 35, 36, 37] (by decide +kernel) (by decide +kernel)
set_option maxRecDepth 20000 in
theorem gX0_audit_X0_faults : GoodIn wsX0_audit (wsV RX0 94 RX0 yX0_faults wsX0_faults) := goodIn_app (goodIn_of _ (by decide +kernel)) ggX0_audit_X0_faults
set_option maxRecDepth 20000 in
theorem ggX0_audit_X0_debtOf : GoodIn wsX0_audit wsX0_debtOf := goodIn_r _ [13, 2, 14, 9, 24, 25, 26, 27, 28, 29, 30, 31, 32, 33, 34, 35, 36, 37] (by decide +kernel) (by decide +kernel)
set_option maxRecDepth 20000 in
theorem gX0_audit_X0_debtOf : GoodIn wsX0_audit (wsV RX0 98 RX0 yX0_debtOf wsX0_debtOf) := goodIn_app (goodIn_of _ (by decide +kernel)) ggX0_audit_X0_debtOf
set_option maxRecDepth 20000 in
theorem ggX0_audit_X0_addArrears : GoodIn wsX0_audit wsX0_addArrears := goodIn_r _ [18, 19, 20, 21, 22, 23, 24, 25, 26, 27, 28, 29, 30, 31, 32, 33, 34, 35, 36, 37] (by decide +kernel) (by decide +kernel)
set_option maxRecDepth 20000 in
theorem gX0_audit_X0_addArrears : GoodIn wsX0_audit (wsV RX0 66 RX0 yX0_addArrears wsX0_addArrears) := goodIn_app (goodIn_of _ (by decide +kernel)) ggX0_audit_X0_addArrears
theorem dX0_audit_0 : decode cX0_audit 0 = .ok (.aload_n 0, 1) := by decide +kernel
theorem dX0_audit_1 : decode cX0_audit 1 = .ok (.invokevirtual 94, 3) := by decide +kernel
theorem dX0_audit_4 : decode cX0_audit 4 = .ok (.istore_n 1, 1) := by decide +kernel
theorem dX0_audit_5 : decode cX0_audit 5 = .ok (.iconst 0, 1) := by decide +kernel
theorem dX0_audit_6 : decode cX0_audit 6 = .ok (.istore_n 2, 1) := by decide +kernel
theorem dX0_audit_7 : decode cX0_audit 7 = .ok (.iload_n 2, 1) := by decide +kernel
theorem dX0_audit_8 : decode cX0_audit 8 = .ok (.aload_n 0, 1) := by decide +kernel
theorem dX0_audit_9 : decode cX0_audit 9 = .ok (.getfield 32, 3) := by decide +kernel
theorem dX0_audit_12 : decode cX0_audit 12 = .ok (.if_icmp .ge 19, 3) := by decide +kernel
theorem dX0_audit_15 : decode cX0_audit 15 = .ok (.aload_n 0, 1) := by decide +kernel
theorem dX0_audit_16 : decode cX0_audit 16 = .ok (.iload_n 2, 1) := by decide +kernel
theorem dX0_audit_17 : decode cX0_audit 17 = .ok (.aload_n 0, 1) := by decide +kernel
theorem dX0_audit_18 : decode cX0_audit 18 = .ok (.iload_n 2, 1) := by decide +kernel
theorem dX0_audit_19 : decode cX0_audit 19 = .ok (.invokevirtual 98, 3) := by decide +kernel
theorem dX0_audit_22 : decode cX0_audit 22 = .ok (.invokevirtual 66, 3) := by decide +kernel
theorem dX0_audit_25 : decode cX0_audit 25 = .ok (.iinc 2 1, 3) := by decide +kernel
theorem dX0_audit_28 : decode cX0_audit 28 = .ok (.goto (-21), 3) := by decide +kernel
theorem dX0_audit_31 : decode cX0_audit 31 = .ok (.aload_n 0, 1) := by decide +kernel
theorem dX0_audit_32 : decode cX0_audit 32 = .ok (.iconst 0, 1) := by decide +kernel
theorem dX0_audit_33 : decode cX0_audit 33 = .ok (.putfield 36, 3) := by decide +kernel
theorem dX0_audit_36 : decode cX0_audit 36 = .ok (.aload_n 0, 1) := by decide +kernel
theorem dX0_audit_37 : decode cX0_audit 37 = .ok (.dup, 1) := by decide +kernel
theorem dX0_audit_38 : decode cX0_audit 38 = .ok (.getfield 45, 3) := by decide +kernel
theorem dX0_audit_41 : decode cX0_audit 41 = .ok (.iload_n 1, 1) := by decide +kernel
theorem dX0_audit_42 : decode cX0_audit 42 = .ok (.iadd, 1) := by decide +kernel
theorem dX0_audit_43 : decode cX0_audit 43 = .ok (.putfield 45, 3) := by decide +kernel
theorem dX0_audit_46 : decode cX0_audit 46 = .ok (.iload_n 1, 1) := by decide +kernel
theorem dX0_audit_47 : decode cX0_audit 47 = .ok (.ireturn, 1) := by decide +kernel
set_option maxRecDepth 20000 in
theorem ggX0_pass_X0_checkAmount : GoodIn wsX0_pass wsX0_checkAmount := goodIn_ca (goodIn_r _ [4, 5, 6] (by decide +kernel) (by decide +kernel)) (goodIn_sub (fun _ h => List.mem_cons_of_mem _ (List.mem_append_right _ h)) (by decide +kernel))
set_option maxRecDepth 20000 in
theorem gX0_pass_X0_checkAmount : GoodIn wsX0_pass (va_wsS RX0 59 yX0_checkAmount wsX0_checkAmount) := goodIn_app (goodIn_of _ (by decide +kernel)) ggX0_pass_X0_checkAmount
set_option maxRecDepth 20000 in
theorem ggX0_pass_X0_passOneDay : GoodIn wsX0_pass wsX0_passOneDay := goodIn_r _ [10, 11, 12, 13, 14, 3, 15, 16, 17, 18, 19, 20, 21, 22, 23, 24, 25, 26, 27, 28, 29, 30, 31, 32, 33, 34, 35, 36, 37, 38, 39, 40, 41, 42, 43, 44, 45, 46, 47, 48, 49, 50, 51, 52, 53, 54, 55, 56, 57, 58, 59, 60, 61, 62, 63, 64, 65, 66, 67, 68, 69, 70, 71] (by decide +kernel) (by decide +kernel)
set_option maxRecDepth 20000 in
theorem gX0_pass_X0_passOneDay : GoodIn wsX0_pass (wsV RX0 102 RX0 yX0_passOneDay wsX0_passOneDay) := goodIn_app (goodIn_of _ (by decide +kernel)) ggX0_pass_X0_passOneDay
theorem dX0_pass_0 : decode cX0_pass 0 = .ok (.iload_n 1, 1) := by decide +kernel
theorem dX0_pass_1 : decode cX0_pass 1 = .ok (.bipush 60, 2) := by decide +kernel
theorem dX0_pass_3 : decode cX0_pass 3 = .ok (.invokestatic 59, 3) := by decide +kernel
theorem dX0_pass_6 : decode cX0_pass 6 = .ok (.iconst 0, 1) := by decide +kernel
theorem dX0_pass_7 : decode cX0_pass 7 = .ok (.istore_n 2, 1) := by decide +kernel
theorem dX0_pass_8 : decode cX0_pass 8 = .ok (.iconst 0, 1) := by decide +kernel
theorem dX0_pass_9 : decode cX0_pass 9 = .ok (.istore_n 3, 1) := by decide +kernel
theorem dX0_pass_10 : decode cX0_pass 10 = .ok (.iload_n 3, 1) := by decide +kernel
theorem dX0_pass_11 : decode cX0_pass 11 = .ok (.iload_n 1, 1) := by decide +kernel
theorem dX0_pass_12 : decode cX0_pass 12 = .ok (.if_icmp .ge 16, 3) := by decide +kernel
theorem dX0_pass_15 : decode cX0_pass 15 = .ok (.iload_n 2, 1) := by decide +kernel
theorem dX0_pass_16 : decode cX0_pass 16 = .ok (.aload_n 0, 1) := by decide +kernel
theorem dX0_pass_17 : decode cX0_pass 17 = .ok (.invokevirtual 102, 3) := by decide +kernel
theorem dX0_pass_20 : decode cX0_pass 20 = .ok (.iadd, 1) := by decide +kernel
theorem dX0_pass_21 : decode cX0_pass 21 = .ok (.istore_n 2, 1) := by decide +kernel
theorem dX0_pass_22 : decode cX0_pass 22 = .ok (.iinc 3 1, 3) := by decide +kernel
theorem dX0_pass_25 : decode cX0_pass 25 = .ok (.goto (-15), 3) := by decide +kernel
theorem dX0_pass_28 : decode cX0_pass 28 = .ok (.iload_n 2, 1) := by decide +kernel
theorem dX0_pass_29 : decode cX0_pass 29 = .ok (.ireturn, 1) := by decide +kernel
theorem dX0_day_0 : decode cX0_day 0 = .ok (.aload_n 0, 1) := by decide +kernel
theorem dX0_day_1 : decode cX0_day 1 = .ok (.getfield 42, 3) := by decide +kernel
theorem dX0_day_4 : decode cX0_day 4 = .ok (.ireturn, 1) := by decide +kernel
theorem dX0_members_0 : decode cX0_members 0 = .ok (.aload_n 0, 1) := by decide +kernel
theorem dX0_members_1 : decode cX0_members 1 = .ok (.getfield 32, 3) := by decide +kernel
theorem dX0_members_4 : decode cX0_members 4 = .ok (.ireturn, 1) := by decide +kernel
set_option maxRecDepth 20000 in
theorem ggX0_luckOf_X0_checkMember : GoodIn wsX0_luckOf wsX0_checkMember := goodIn_ca (goodIn_r _ [6, 7, 8, 9, 10, 11, 12, 13, 14, 15, 16, 17, 18, 19, 20, 21, 22, 23] (by decide +kernel) (by decide +kernel)) (goodIn_sub (fun _ h => List.mem_cons_of_mem _ (List.mem_append_right _ h)) (by decide +kernel))
set_option maxRecDepth 20000 in
theorem gX0_luckOf_X0_checkMember : GoodIn wsX0_luckOf (wsV RX0 55 RX0 yX0_checkMember wsX0_checkMember) := goodIn_app (goodIn_of _ (by decide +kernel)) ggX0_luckOf_X0_checkMember
theorem dX0_luckOf_0 : decode cX0_luckOf 0 = .ok (.aload_n 0, 1) := by decide +kernel
theorem dX0_luckOf_1 : decode cX0_luckOf 1 = .ok (.iload_n 1, 1) := by decide +kernel
theorem dX0_luckOf_2 : decode cX0_luckOf 2 = .ok (.invokevirtual 55, 3) := by decide +kernel
theorem dX0_luckOf_5 : decode cX0_luckOf 5 = .ok (.aload_n 0, 1) := by decide +kernel
theorem dX0_luckOf_6 : decode cX0_luckOf 6 = .ok (.getfield 9, 3) := by decide +kernel
theorem dX0_luckOf_9 : decode cX0_luckOf 9 = .ok (.iload_n 1, 1) := by decide +kernel
theorem dX0_luckOf_10 : decode cX0_luckOf 10 = .ok (.iaload, 1) := by decide +kernel
theorem dX0_luckOf_11 : decode cX0_luckOf 11 = .ok (.ireturn, 1) := by decide +kernel
set_option maxRecDepth 20000 in
theorem ggX0_arrearsOf_X0_checkMember : GoodIn wsX0_arrearsOf wsX0_checkMember := goodIn_ca (goodIn_r _ [6, 7, 8, 9, 10, 11, 12, 13, 14, 15, 16, 17, 18, 19, 20, 21, 22, 23] (by decide +kernel) (by decide +kernel)) (goodIn_sub (fun _ h => List.mem_cons_of_mem _ (List.mem_append_right _ h)) (by decide +kernel))
set_option maxRecDepth 20000 in
theorem gX0_arrearsOf_X0_checkMember : GoodIn wsX0_arrearsOf (wsV RX0 55 RX0 yX0_checkMember wsX0_checkMember) := goodIn_app (goodIn_of _ (by decide +kernel)) ggX0_arrearsOf_X0_checkMember
theorem dX0_arrearsOf_0 : decode cX0_arrearsOf 0 = .ok (.aload_n 0, 1) := by decide +kernel
theorem dX0_arrearsOf_1 : decode cX0_arrearsOf 1 = .ok (.iload_n 1, 1) := by decide +kernel
theorem dX0_arrearsOf_2 : decode cX0_arrearsOf 2 = .ok (.invokevirtual 55, 3) := by decide +kernel
theorem dX0_arrearsOf_5 : decode cX0_arrearsOf 5 = .ok (.aload_n 0, 1) := by decide +kernel
theorem dX0_arrearsOf_6 : decode cX0_arrearsOf 6 = .ok (.getfield 13, 3) := by decide +kernel
theorem dX0_arrearsOf_9 : decode cX0_arrearsOf 9 = .ok (.iload_n 1, 1) := by decide +kernel
theorem dX0_arrearsOf_10 : decode cX0_arrearsOf 10 = .ok (.iaload, 1) := by decide +kernel
theorem dX0_arrearsOf_11 : decode cX0_arrearsOf 11 = .ok (.ireturn, 1) := by decide +kernel
set_option maxRecDepth 20000 in
theorem ggX0_lumpsOf_X0_checkMember : GoodIn wsX0_lumpsOf wsX0_checkMember := goodIn_ca (goodIn_r _ [6, 7, 8, 9, 10, 11, 12, 13, 14, 15, 16, 17, 18, 19, 20, 21, 22, 23] (by decide +kernel) (by decide +kernel)) (goodIn_sub (fun _ h => List.mem_cons_of_mem _ (List.mem_append_right _ h)) (by decide +kernel))
set_option maxRecDepth 20000 in
theorem gX0_lumpsOf_X0_checkMember : GoodIn wsX0_lumpsOf (wsV RX0 55 RX0 yX0_checkMember wsX0_checkMember) := goodIn_app (goodIn_of _ (by decide +kernel)) ggX0_lumpsOf_X0_checkMember
theorem dX0_lumpsOf_0 : decode cX0_lumpsOf 0 = .ok (.aload_n 0, 1) := by decide +kernel
theorem dX0_lumpsOf_1 : decode cX0_lumpsOf 1 = .ok (.iload_n 1, 1) := by decide +kernel
theorem dX0_lumpsOf_2 : decode cX0_lumpsOf 2 = .ok (.invokevirtual 55, 3) := by decide +kernel
theorem dX0_lumpsOf_5 : decode cX0_lumpsOf 5 = .ok (.aload_n 0, 1) := by decide +kernel
theorem dX0_lumpsOf_6 : decode cX0_lumpsOf 6 = .ok (.getfield 16, 3) := by decide +kernel
theorem dX0_lumpsOf_9 : decode cX0_lumpsOf 9 = .ok (.iload_n 1, 1) := by decide +kernel
theorem dX0_lumpsOf_10 : decode cX0_lumpsOf 10 = .ok (.iaload, 1) := by decide +kernel
theorem dX0_lumpsOf_11 : decode cX0_lumpsOf 11 = .ok (.ireturn, 1) := by decide +kernel
set_option maxRecDepth 20000 in
theorem ggX0_dailyLoss_X0_checkMember : GoodIn wsX0_dailyLoss wsX0_checkMember := goodIn_ca (goodIn_r _ [5, 6, 7, 8, 15, 16, 17, 18, 19, 20, 21, 22, 23, 24, 25, 26, 27, 28] (by decide +kernel) (by decide +kernel)) (goodIn_sub (fun _ h => List.mem_cons_of_mem _ (List.mem_append_right _ h)) (by decide +kernel))
set_option maxRecDepth 20000 in
theorem gX0_dailyLoss_X0_checkMember : GoodIn wsX0_dailyLoss (wsV RX0 55 RX0 yX0_checkMember wsX0_checkMember) := goodIn_app (goodIn_of _ (by decide +kernel)) ggX0_dailyLoss_X0_checkMember
set_option maxRecDepth 20000 in
theorem ggX0_dailyLoss_X0_lossOf : GoodIn wsX0_dailyLoss wsX0_lossOf := goodIn_r _ [12, 13, 14, 15, 16, 17, 18, 19, 20, 21, 22, 23, 24, 25, 26, 27, 28] (by decide +kernel) (by decide +kernel)
set_option maxRecDepth 20000 in
theorem gX0_dailyLoss_X0_lossOf : GoodIn wsX0_dailyLoss (wsV RX0 105 RX0 yX0_lossOf wsX0_lossOf) := goodIn_app (goodIn_of _ (by decide +kernel)) ggX0_dailyLoss_X0_lossOf
theorem dX0_dailyLoss_0 : decode cX0_dailyLoss 0 = .ok (.aload_n 0, 1) := by decide +kernel
theorem dX0_dailyLoss_1 : decode cX0_dailyLoss 1 = .ok (.iload_n 1, 1) := by decide +kernel
theorem dX0_dailyLoss_2 : decode cX0_dailyLoss 2 = .ok (.invokevirtual 55, 3) := by decide +kernel
theorem dX0_dailyLoss_5 : decode cX0_dailyLoss 5 = .ok (.aload_n 0, 1) := by decide +kernel
theorem dX0_dailyLoss_6 : decode cX0_dailyLoss 6 = .ok (.iload_n 1, 1) := by decide +kernel
theorem dX0_dailyLoss_7 : decode cX0_dailyLoss 7 = .ok (.invokevirtual 105, 3) := by decide +kernel
theorem dX0_dailyLoss_10 : decode cX0_dailyLoss 10 = .ok (.ireturn, 1) := by decide +kernel
theorem dX0_luckiest_0 : decode cX0_luckiest 0 = .ok (.iconst (-1), 1) := by decide +kernel
theorem dX0_luckiest_1 : decode cX0_luckiest 1 = .ok (.istore_n 1, 1) := by decide +kernel
theorem dX0_luckiest_2 : decode cX0_luckiest 2 = .ok (.iconst (-1), 1) := by decide +kernel
theorem dX0_luckiest_3 : decode cX0_luckiest 3 = .ok (.istore_n 2, 1) := by decide +kernel
theorem dX0_luckiest_4 : decode cX0_luckiest 4 = .ok (.iconst 0, 1) := by decide +kernel
theorem dX0_luckiest_5 : decode cX0_luckiest 5 = .ok (.istore_n 3, 1) := by decide +kernel
theorem dX0_luckiest_6 : decode cX0_luckiest 6 = .ok (.iload_n 3, 1) := by decide +kernel
theorem dX0_luckiest_7 : decode cX0_luckiest 7 = .ok (.aload_n 0, 1) := by decide +kernel
theorem dX0_luckiest_8 : decode cX0_luckiest 8 = .ok (.getfield 32, 3) := by decide +kernel
theorem dX0_luckiest_11 : decode cX0_luckiest 11 = .ok (.if_icmp .ge 28, 3) := by decide +kernel
theorem dX0_luckiest_14 : decode cX0_luckiest 14 = .ok (.aload_n 0, 1) := by decide +kernel
theorem dX0_luckiest_15 : decode cX0_luckiest 15 = .ok (.getfield 9, 3) := by decide +kernel
theorem dX0_luckiest_18 : decode cX0_luckiest 18 = .ok (.iload_n 3, 1) := by decide +kernel
theorem dX0_luckiest_19 : decode cX0_luckiest 19 = .ok (.iaload, 1) := by decide +kernel
theorem dX0_luckiest_20 : decode cX0_luckiest 20 = .ok (.iload_n 2, 1) := by decide +kernel
theorem dX0_luckiest_21 : decode cX0_luckiest 21 = .ok (.if_icmp .le 12, 3) := by decide +kernel
theorem dX0_luckiest_24 : decode cX0_luckiest 24 = .ok (.iload_n 3, 1) := by decide +kernel
theorem dX0_luckiest_25 : decode cX0_luckiest 25 = .ok (.istore_n 1, 1) := by decide +kernel
theorem dX0_luckiest_26 : decode cX0_luckiest 26 = .ok (.aload_n 0, 1) := by decide +kernel
theorem dX0_luckiest_27 : decode cX0_luckiest 27 = .ok (.getfield 9, 3) := by decide +kernel
theorem dX0_luckiest_30 : decode cX0_luckiest 30 = .ok (.iload_n 3, 1) := by decide +kernel
theorem dX0_luckiest_31 : decode cX0_luckiest 31 = .ok (.iaload, 1) := by decide +kernel
theorem dX0_luckiest_32 : decode cX0_luckiest 32 = .ok (.istore_n 2, 1) := by decide +kernel
theorem dX0_luckiest_33 : decode cX0_luckiest 33 = .ok (.iinc 3 1, 3) := by decide +kernel
theorem dX0_luckiest_36 : decode cX0_luckiest 36 = .ok (.goto (-30), 3) := by decide +kernel
theorem dX0_luckiest_39 : decode cX0_luckiest 39 = .ok (.iload_n 1, 1) := by decide +kernel
theorem dX0_luckiest_40 : decode cX0_luckiest 40 = .ok (.ireturn, 1) := by decide +kernel
theorem dX0_allArrears_0 : decode cX0_allArrears 0 = .ok (.iconst 0, 1) := by decide +kernel
theorem dX0_allArrears_1 : decode cX0_allArrears 1 = .ok (.istore_n 1, 1) := by decide +kernel
theorem dX0_allArrears_2 : decode cX0_allArrears 2 = .ok (.iconst 0, 1) := by decide +kernel
theorem dX0_allArrears_3 : decode cX0_allArrears 3 = .ok (.istore_n 2, 1) := by decide +kernel
theorem dX0_allArrears_4 : decode cX0_allArrears 4 = .ok (.iload_n 2, 1) := by decide +kernel
theorem dX0_allArrears_5 : decode cX0_allArrears 5 = .ok (.aload_n 0, 1) := by decide +kernel
theorem dX0_allArrears_6 : decode cX0_allArrears 6 = .ok (.getfield 32, 3) := by decide +kernel
theorem dX0_allArrears_9 : decode cX0_allArrears 9 = .ok (.if_icmp .ge 18, 3) := by decide +kernel
theorem dX0_allArrears_12 : decode cX0_allArrears 12 = .ok (.iload_n 1, 1) := by decide +kernel
theorem dX0_allArrears_13 : decode cX0_allArrears 13 = .ok (.aload_n 0, 1) := by decide +kernel
theorem dX0_allArrears_14 : decode cX0_allArrears 14 = .ok (.getfield 13, 3) := by decide +kernel
theorem dX0_allArrears_17 : decode cX0_allArrears 17 = .ok (.iload_n 2, 1) := by decide +kernel
theorem dX0_allArrears_18 : decode cX0_allArrears 18 = .ok (.iaload, 1) := by decide +kernel
theorem dX0_allArrears_19 : decode cX0_allArrears 19 = .ok (.iadd, 1) := by decide +kernel
theorem dX0_allArrears_20 : decode cX0_allArrears 20 = .ok (.istore_n 1, 1) := by decide +kernel
theorem dX0_allArrears_21 : decode cX0_allArrears 21 = .ok (.iinc 2 1, 3) := by decide +kernel
theorem dX0_allArrears_24 : decode cX0_allArrears 24 = .ok (.goto (-20), 3) := by decide +kernel
theorem dX0_allArrears_27 : decode cX0_allArrears 27 = .ok (.iload_n 1, 1) := by decide +kernel
theorem dX0_allArrears_28 : decode cX0_allArrears 28 = .ok (.ireturn, 1) := by decide +kernel
theorem dX0_clearMembers_0 : decode cX0_clearMembers 0 = .ok (.iconst 0, 1) := by decide +kernel
theorem dX0_clearMembers_1 : decode cX0_clearMembers 1 = .ok (.istore_n 1, 1) := by decide +kernel
theorem dX0_clearMembers_2 : decode cX0_clearMembers 2 = .ok (.iconst 0, 1) := by decide +kernel
theorem dX0_clearMembers_3 : decode cX0_clearMembers 3 = .ok (.istore_n 2, 1) := by decide +kernel
theorem dX0_clearMembers_4 : decode cX0_clearMembers 4 = .ok (.iload_n 2, 1) := by decide +kernel
theorem dX0_clearMembers_5 : decode cX0_clearMembers 5 = .ok (.aload_n 0, 1) := by decide +kernel
theorem dX0_clearMembers_6 : decode cX0_clearMembers 6 = .ok (.getfield 32, 3) := by decide +kernel
theorem dX0_clearMembers_9 : decode cX0_clearMembers 9 = .ok (.if_icmp .ge 21, 3) := by decide +kernel
theorem dX0_clearMembers_12 : decode cX0_clearMembers 12 = .ok (.aload_n 0, 1) := by decide +kernel
theorem dX0_clearMembers_13 : decode cX0_clearMembers 13 = .ok (.getfield 13, 3) := by decide +kernel
theorem dX0_clearMembers_16 : decode cX0_clearMembers 16 = .ok (.iload_n 2, 1) := by decide +kernel
theorem dX0_clearMembers_17 : decode cX0_clearMembers 17 = .ok (.iaload, 1) := by decide +kernel
theorem dX0_clearMembers_18 : decode cX0_clearMembers 18 = .ok (.ifCond .ne 6, 3) := by decide +kernel
theorem dX0_clearMembers_21 : decode cX0_clearMembers 21 = .ok (.iinc 1 1, 3) := by decide +kernel
theorem dX0_clearMembers_24 : decode cX0_clearMembers 24 = .ok (.iinc 2 1, 3) := by decide +kernel
theorem dX0_clearMembers_27 : decode cX0_clearMembers 27 = .ok (.goto (-23), 3) := by decide +kernel
theorem dX0_clearMembers_30 : decode cX0_clearMembers 30 = .ok (.iload_n 1, 1) := by decide +kernel
theorem dX0_clearMembers_31 : decode cX0_clearMembers 31 = .ok (.ireturn, 1) := by decide +kernel
theorem dX0_salt_0 : decode cX0_salt 0 = .ok (.aload_n 0, 1) := by decide +kernel
theorem dX0_salt_1 : decode cX0_salt 1 = .ok (.getfield 39, 3) := by decide +kernel
theorem dX0_salt_4 : decode cX0_salt 4 = .ok (.ireturn, 1) := by decide +kernel
theorem dX0_ledger_0 : decode cX0_ledger 0 = .ok (.aload_n 0, 1) := by decide +kernel
theorem dX0_ledger_1 : decode cX0_ledger 1 = .ok (.getfield 36, 3) := by decide +kernel
theorem dX0_ledger_4 : decode cX0_ledger 4 = .ok (.ireturn, 1) := by decide +kernel
set_option maxRecDepth 20000 in
theorem ggX0_memberOf_X0_checkEntry : GoodIn wsX0_memberOf wsX0_checkEntry := goodIn_ca (goodIn_r _ [6, 7, 8, 9, 10, 11, 12, 13, 14, 15, 16, 17, 18, 19, 20, 21, 22, 23] (by decide +kernel) (by decide +kernel)) (goodIn_sub (fun _ h => List.mem_cons_of_mem _ (List.mem_append_right _ h)) (by decide +kernel))
set_option maxRecDepth 20000 in
theorem gX0_memberOf_X0_checkEntry : GoodIn wsX0_memberOf (wsV RX0 108 RX0 yX0_checkEntry wsX0_checkEntry) := goodIn_app (goodIn_of _ (by decide +kernel)) ggX0_memberOf_X0_checkEntry
theorem dX0_memberOf_0 : decode cX0_memberOf 0 = .ok (.aload_n 0, 1) := by decide +kernel
theorem dX0_memberOf_1 : decode cX0_memberOf 1 = .ok (.iload_n 1, 1) := by decide +kernel
theorem dX0_memberOf_2 : decode cX0_memberOf 2 = .ok (.invokevirtual 108, 3) := by decide +kernel
theorem dX0_memberOf_5 : decode cX0_memberOf 5 = .ok (.aload_n 0, 1) := by decide +kernel
theorem dX0_memberOf_6 : decode cX0_memberOf 6 = .ok (.getfield 19, 3) := by decide +kernel
theorem dX0_memberOf_9 : decode cX0_memberOf 9 = .ok (.iload_n 1, 1) := by decide +kernel
theorem dX0_memberOf_10 : decode cX0_memberOf 10 = .ok (.iaload, 1) := by decide +kernel
theorem dX0_memberOf_11 : decode cX0_memberOf 11 = .ok (.ireturn, 1) := by decide +kernel
set_option maxRecDepth 20000 in
theorem ggX0_isLeft_X0_checkEntry : GoodIn wsX0_isLeft wsX0_checkEntry := goodIn_ca (goodIn_r _ [6, 7, 8, 9, 10, 11, 12, 13, 14, 15, 16, 17, 18, 19, 20, 21, 22, 23] (by decide +kernel) (by decide +kernel)) (goodIn_sub (fun _ h => List.mem_cons_of_mem _ (List.mem_append_right _ h)) (by decide +kernel))
set_option maxRecDepth 20000 in
theorem gX0_isLeft_X0_checkEntry : GoodIn wsX0_isLeft (wsV RX0 108 RX0 yX0_checkEntry wsX0_checkEntry) := goodIn_app (goodIn_of _ (by decide +kernel)) ggX0_isLeft_X0_checkEntry
theorem dX0_isLeft_0 : decode cX0_isLeft 0 = .ok (.aload_n 0, 1) := by decide +kernel
theorem dX0_isLeft_1 : decode cX0_isLeft 1 = .ok (.iload_n 1, 1) := by decide +kernel
theorem dX0_isLeft_2 : decode cX0_isLeft 2 = .ok (.invokevirtual 108, 3) := by decide +kernel
theorem dX0_isLeft_5 : decode cX0_isLeft 5 = .ok (.aload_n 0, 1) := by decide +kernel
theorem dX0_isLeft_6 : decode cX0_isLeft 6 = .ok (.getfield 22, 3) := by decide +kernel
theorem dX0_isLeft_9 : decode cX0_isLeft 9 = .ok (.iload_n 1, 1) := by decide +kernel
theorem dX0_isLeft_10 : decode cX0_isLeft 10 = .ok (.baload, 1) := by decide +kernel
theorem dX0_isLeft_11 : decode cX0_isLeft 11 = .ok (.ireturn, 1) := by decide +kernel
set_option maxRecDepth 20000 in
theorem ggX0_grainsOf_X0_checkEntry : GoodIn wsX0_grainsOf wsX0_checkEntry := goodIn_ca (goodIn_r _ [6, 7, 8, 9, 10, 11, 12, 13, 14, 15, 16, 17, 18, 19, 20, 21, 22, 23] (by decide +kernel) (by decide +kernel)) (goodIn_sub (fun _ h => List.mem_cons_of_mem _ (List.mem_append_right _ h)) (by decide +kernel))
set_option maxRecDepth 20000 in
theorem gX0_grainsOf_X0_checkEntry : GoodIn wsX0_grainsOf (wsV RX0 108 RX0 yX0_checkEntry wsX0_checkEntry) := goodIn_app (goodIn_of _ (by decide +kernel)) ggX0_grainsOf_X0_checkEntry
theorem dX0_grainsOf_0 : decode cX0_grainsOf 0 = .ok (.aload_n 0, 1) := by decide +kernel
theorem dX0_grainsOf_1 : decode cX0_grainsOf 1 = .ok (.iload_n 1, 1) := by decide +kernel
theorem dX0_grainsOf_2 : decode cX0_grainsOf 2 = .ok (.invokevirtual 108, 3) := by decide +kernel
theorem dX0_grainsOf_5 : decode cX0_grainsOf 5 = .ok (.aload_n 0, 1) := by decide +kernel
theorem dX0_grainsOf_6 : decode cX0_grainsOf 6 = .ok (.getfield 26, 3) := by decide +kernel
theorem dX0_grainsOf_9 : decode cX0_grainsOf 9 = .ok (.iload_n 1, 1) := by decide +kernel
theorem dX0_grainsOf_10 : decode cX0_grainsOf 10 = .ok (.iaload, 1) := by decide +kernel
theorem dX0_grainsOf_11 : decode cX0_grainsOf 11 = .ok (.ireturn, 1) := by decide +kernel
set_option maxRecDepth 20000 in
theorem ggX0_excessOf_X0_checkEntry : GoodIn wsX0_excessOf wsX0_checkEntry := goodIn_ca (goodIn_r _ [6, 7, 8, 9, 10, 11, 12, 13, 14, 15, 16, 17, 18, 19, 20, 21, 22, 23] (by decide +kernel) (by decide +kernel)) (goodIn_sub (fun _ h => List.mem_cons_of_mem _ (List.mem_append_right _ h)) (by decide +kernel))
set_option maxRecDepth 20000 in
theorem gX0_excessOf_X0_checkEntry : GoodIn wsX0_excessOf (wsV RX0 108 RX0 yX0_checkEntry wsX0_checkEntry) := goodIn_app (goodIn_of _ (by decide +kernel)) ggX0_excessOf_X0_checkEntry
theorem dX0_excessOf_0 : decode cX0_excessOf 0 = .ok (.aload_n 0, 1) := by decide +kernel
theorem dX0_excessOf_1 : decode cX0_excessOf 1 = .ok (.iload_n 1, 1) := by decide +kernel
theorem dX0_excessOf_2 : decode cX0_excessOf 2 = .ok (.invokevirtual 108, 3) := by decide +kernel
theorem dX0_excessOf_5 : decode cX0_excessOf 5 = .ok (.aload_n 0, 1) := by decide +kernel
theorem dX0_excessOf_6 : decode cX0_excessOf 6 = .ok (.getfield 29, 3) := by decide +kernel
theorem dX0_excessOf_9 : decode cX0_excessOf 9 = .ok (.iload_n 1, 1) := by decide +kernel
theorem dX0_excessOf_10 : decode cX0_excessOf 10 = .ok (.iaload, 1) := by decide +kernel
theorem dX0_excessOf_11 : decode cX0_excessOf 11 = .ok (.ireturn, 1) := by decide +kernel
theorem dX0_faults_0 : decode cX0_faults 0 = .ok (.iconst 0, 1) := by decide +kernel
theorem dX0_faults_1 : decode cX0_faults 1 = .ok (.istore_n 1, 1) := by decide +kernel
theorem dX0_faults_2 : decode cX0_faults 2 = .ok (.iconst 0, 1) := by decide +kernel
theorem dX0_faults_3 : decode cX0_faults 3 = .ok (.istore_n 2, 1) := by decide +kernel
theorem dX0_faults_4 : decode cX0_faults 4 = .ok (.iload_n 2, 1) := by decide +kernel
theorem dX0_faults_5 : decode cX0_faults 5 = .ok (.aload_n 0, 1) := by decide +kernel
theorem dX0_faults_6 : decode cX0_faults 6 = .ok (.getfield 36, 3) := by decide +kernel
theorem dX0_faults_9 : decode cX0_faults 9 = .ok (.if_icmp .ge 21, 3) := by decide +kernel
theorem dX0_faults_12 : decode cX0_faults 12 = .ok (.aload_n 0, 1) := by decide +kernel
theorem dX0_faults_13 : decode cX0_faults 13 = .ok (.getfield 29, 3) := by decide +kernel
theorem dX0_faults_16 : decode cX0_faults 16 = .ok (.iload_n 2, 1) := by decide +kernel
theorem dX0_faults_17 : decode cX0_faults 17 = .ok (.iaload, 1) := by decide +kernel
theorem dX0_faults_18 : decode cX0_faults 18 = .ok (.ifCond .le 6, 3) := by decide +kernel
theorem dX0_faults_21 : decode cX0_faults 21 = .ok (.iinc 1 1, 3) := by decide +kernel
theorem dX0_faults_24 : decode cX0_faults 24 = .ok (.iinc 2 1, 3) := by decide +kernel
theorem dX0_faults_27 : decode cX0_faults 27 = .ok (.goto (-23), 3) := by decide +kernel
theorem dX0_faults_30 : decode cX0_faults 30 = .ok (.iload_n 1, 1) := by decide +kernel
theorem dX0_faults_31 : decode cX0_faults 31 = .ok (.ireturn, 1) := by decide +kernel
set_option maxRecDepth 20000 in
theorem ggX0_arrearsByAudit_X0_checkMember : GoodIn wsX0_arrearsByAudit wsX0_checkMember := goodIn_ca (goodIn_r _ [5, 6, 7, 8, 16, 17, 18, 19, 20, 21, 22, 23, 24, 25, 26, 27, 28, 29] (by decide +kernel) (by decide +kernel)) (goodIn_sub (fun _ h => List.mem_cons_of_mem _ (List.mem_append_right _ h)) (by decide +kernel))
end
section
set_option maxRecDepth 20000 in
theorem gX0_arrearsByAudit_X0_checkMember : GoodIn wsX0_arrearsByAudit (wsV RX0 55 RX0 yX0_checkMember wsX0_checkMember) := goodIn_app (goodIn_of _ (by decide +kernel)) ggX0_arrearsByAudit_X0_checkMember
set_option maxRecDepth 20000 in
theorem ggX0_arrearsByAudit_X0_debtOf : GoodIn wsX0_arrearsByAudit wsX0_debtOf := goodIn_r _ [12, 13, 14, 15, 16, 17, 18, 19, 20, 21, 22, 23, 24, 25, 26, 27, 28, 29] (by decide +kernel) (by decide +kernel)
set_option maxRecDepth 20000 in
theorem gX0_arrearsByAudit_X0_debtOf : GoodIn wsX0_arrearsByAudit (wsV RX0 98 RX0 yX0_debtOf wsX0_debtOf) := goodIn_app (goodIn_of _ (by decide +kernel)) ggX0_arrearsByAudit_X0_debtOf
theorem dX0_arrearsByAudit_0 : decode cX0_arrearsByAudit 0 = .ok (.aload_n 0, 1) := by decide +kernel
theorem dX0_arrearsByAudit_1 : decode cX0_arrearsByAudit 1 = .ok (.iload_n 1, 1) := by decide +kernel
theorem dX0_arrearsByAudit_2 : decode cX0_arrearsByAudit 2 = .ok (.invokevirtual 55, 3) := by decide +kernel
theorem dX0_arrearsByAudit_5 : decode cX0_arrearsByAudit 5 = .ok (.aload_n 0, 1) := by decide +kernel
theorem dX0_arrearsByAudit_6 : decode cX0_arrearsByAudit 6 = .ok (.iload_n 1, 1) := by decide +kernel
theorem dX0_arrearsByAudit_7 : decode cX0_arrearsByAudit 7 = .ok (.invokevirtual 98, 3) := by decide +kernel
theorem dX0_arrearsByAudit_10 : decode cX0_arrearsByAudit 10 = .ok (.ireturn, 1) := by decide +kernel
theorem dX0_daysUntilAudit_0 : decode cX0_daysUntilAudit 0 = .ok (.bipush 6, 2) := by decide +kernel
theorem dX0_daysUntilAudit_2 : decode cX0_daysUntilAudit 2 = .ok (.aload_n 0, 1) := by decide +kernel
theorem dX0_daysUntilAudit_3 : decode cX0_daysUntilAudit 3 = .ok (.getfield 42, 3) := by decide +kernel
theorem dX0_daysUntilAudit_6 : decode cX0_daysUntilAudit 6 = .ok (.bipush 7, 2) := by decide +kernel
theorem dX0_daysUntilAudit_8 : decode cX0_daysUntilAudit 8 = .ok (.irem, 1) := by decide +kernel
theorem dX0_daysUntilAudit_9 : decode cX0_daysUntilAudit 9 = .ok (.isub, 1) := by decide +kernel
theorem dX0_daysUntilAudit_10 : decode cX0_daysUntilAudit 10 = .ok (.ireturn, 1) := by decide +kernel
theorem dX0_faultsFound_0 : decode cX0_faultsFound 0 = .ok (.aload_n 0, 1) := by decide +kernel
theorem dX0_faultsFound_1 : decode cX0_faultsFound 1 = .ok (.getfield 45, 3) := by decide +kernel
theorem dX0_faultsFound_4 : decode cX0_faultsFound 4 = .ok (.ireturn, 1) := by decide +kernel
theorem dX0_meanLuck_0 : decode cX0_meanLuck 0 = .ok (.aload_n 0, 1) := by decide +kernel
theorem dX0_meanLuck_1 : decode cX0_meanLuck 1 = .ok (.getfield 32, 3) := by decide +kernel
theorem dX0_meanLuck_4 : decode cX0_meanLuck 4 = .ok (.ifCond .ne 5, 3) := by decide +kernel
theorem dX0_meanLuck_7 : decode cX0_meanLuck 7 = .ok (.dconst 0, 1) := by decide +kernel
theorem dX0_meanLuck_8 : decode cX0_meanLuck 8 = .ok (.dreturn, 1) := by decide +kernel
theorem dX0_meanLuck_9 : decode cX0_meanLuck 9 = .ok (.iconst 0, 1) := by decide +kernel
theorem dX0_meanLuck_10 : decode cX0_meanLuck 10 = .ok (.istore_n 1, 1) := by decide +kernel
theorem dX0_meanLuck_11 : decode cX0_meanLuck 11 = .ok (.iconst 0, 1) := by decide +kernel
theorem dX0_meanLuck_12 : decode cX0_meanLuck 12 = .ok (.istore_n 2, 1) := by decide +kernel
theorem dX0_meanLuck_13 : decode cX0_meanLuck 13 = .ok (.iload_n 2, 1) := by decide +kernel
theorem dX0_meanLuck_14 : decode cX0_meanLuck 14 = .ok (.aload_n 0, 1) := by decide +kernel
theorem dX0_meanLuck_15 : decode cX0_meanLuck 15 = .ok (.getfield 32, 3) := by decide +kernel
theorem dX0_meanLuck_18 : decode cX0_meanLuck 18 = .ok (.if_icmp .ge 18, 3) := by decide +kernel
theorem dX0_meanLuck_21 : decode cX0_meanLuck 21 = .ok (.iload_n 1, 1) := by decide +kernel
theorem dX0_meanLuck_22 : decode cX0_meanLuck 22 = .ok (.aload_n 0, 1) := by decide +kernel
theorem dX0_meanLuck_23 : decode cX0_meanLuck 23 = .ok (.getfield 9, 3) := by decide +kernel
theorem dX0_meanLuck_26 : decode cX0_meanLuck 26 = .ok (.iload_n 2, 1) := by decide +kernel
theorem dX0_meanLuck_27 : decode cX0_meanLuck 27 = .ok (.iaload, 1) := by decide +kernel
theorem dX0_meanLuck_28 : decode cX0_meanLuck 28 = .ok (.iadd, 1) := by decide +kernel
theorem dX0_meanLuck_29 : decode cX0_meanLuck 29 = .ok (.istore_n 1, 1) := by decide +kernel
theorem dX0_meanLuck_30 : decode cX0_meanLuck 30 = .ok (.iinc 2 1, 3) := by decide +kernel
theorem dX0_meanLuck_33 : decode cX0_meanLuck 33 = .ok (.goto (-20), 3) := by decide +kernel
theorem dX0_meanLuck_36 : decode cX0_meanLuck 36 = .ok (.iload_n 1, 1) := by decide +kernel
theorem dX0_meanLuck_37 : decode cX0_meanLuck 37 = .ok (.i2d, 1) := by decide +kernel
theorem dX0_meanLuck_38 : decode cX0_meanLuck 38 = .ok (.aload_n 0, 1) := by decide +kernel
theorem dX0_meanLuck_39 : decode cX0_meanLuck 39 = .ok (.getfield 32, 3) := by decide +kernel
theorem dX0_meanLuck_42 : decode cX0_meanLuck 42 = .ok (.i2d, 1) := by decide +kernel
theorem dX0_meanLuck_43 : decode cX0_meanLuck 43 = .ok (.ddiv, 1) := by decide +kernel
theorem dX0_meanLuck_44 : decode cX0_meanLuck 44 = .ok (.dreturn, 1) := by decide +kernel
theorem dX0_checkMember_0 : decode cX0_checkMember 0 = .ok (.iload_n 1, 1) := by decide +kernel
theorem dX0_checkMember_1 : decode cX0_checkMember 1 = .ok (.ifCond .lt 11, 3) := by decide +kernel
theorem dX0_checkMember_4 : decode cX0_checkMember 4 = .ok (.iload_n 1, 1) := by decide +kernel
theorem dX0_checkMember_5 : decode cX0_checkMember 5 = .ok (.aload_n 0, 1) := by decide +kernel
theorem dX0_checkMember_6 : decode cX0_checkMember 6 = .ok (.getfield 32, 3) := by decide +kernel
theorem dX0_checkMember_9 : decode cX0_checkMember 9 = .ok (.if_icmp .lt 13, 3) := by decide +kernel
theorem dX0_checkMember_12 : decode cX0_checkMember 12 = .ok (.new 195, 3) := by decide +kernel
theorem dX0_checkMember_15 : decode cX0_checkMember 15 = .ok (.dup, 1) := by decide +kernel
theorem dX0_checkMember_16 : decode cX0_checkMember 16 = .ok (.ldc 197, 2) := by decide +kernel
theorem dX0_checkMember_18 : decode cX0_checkMember 18 = .ok (.invokespecial 199, 3) := by decide +kernel
theorem dX0_checkMember_21 : decode cX0_checkMember 21 = .ok (.athrow, 1) := by decide +kernel
theorem dX0_checkMember_22 : decode cX0_checkMember 22 = .ok (.return_, 1) := by decide +kernel
theorem dX0_checkShoulder_0 : decode cX0_checkShoulder 0 = .ok (.iload_n 0, 1) := by decide +kernel
theorem dX0_checkShoulder_1 : decode cX0_checkShoulder 1 = .ok (.ifCond .eq 18, 3) := by decide +kernel
theorem dX0_checkShoulder_4 : decode cX0_checkShoulder 4 = .ok (.iload_n 0, 1) := by decide +kernel
theorem dX0_checkShoulder_5 : decode cX0_checkShoulder 5 = .ok (.iconst 1, 1) := by decide +kernel
theorem dX0_checkShoulder_6 : decode cX0_checkShoulder 6 = .ok (.if_icmp .eq 13, 3) := by decide +kernel
theorem dX0_checkShoulder_9 : decode cX0_checkShoulder 9 = .ok (.new 195, 3) := by decide +kernel
theorem dX0_checkShoulder_12 : decode cX0_checkShoulder 12 = .ok (.dup, 1) := by decide +kernel
theorem dX0_checkShoulder_13 : decode cX0_checkShoulder 13 = .ok (.ldc 200, 2) := by decide +kernel
theorem dX0_checkShoulder_15 : decode cX0_checkShoulder 15 = .ok (.invokespecial 199, 3) := by decide +kernel
theorem dX0_checkShoulder_18 : decode cX0_checkShoulder 18 = .ok (.athrow, 1) := by decide +kernel
theorem dX0_checkShoulder_19 : decode cX0_checkShoulder 19 = .ok (.return_, 1) := by decide +kernel
theorem dX0_checkEntry_0 : decode cX0_checkEntry 0 = .ok (.iload_n 1, 1) := by decide +kernel
theorem dX0_checkEntry_1 : decode cX0_checkEntry 1 = .ok (.ifCond .lt 11, 3) := by decide +kernel
theorem dX0_checkEntry_4 : decode cX0_checkEntry 4 = .ok (.iload_n 1, 1) := by decide +kernel
theorem dX0_checkEntry_5 : decode cX0_checkEntry 5 = .ok (.aload_n 0, 1) := by decide +kernel
theorem dX0_checkEntry_6 : decode cX0_checkEntry 6 = .ok (.getfield 36, 3) := by decide +kernel
theorem dX0_checkEntry_9 : decode cX0_checkEntry 9 = .ok (.if_icmp .lt 13, 3) := by decide +kernel
theorem dX0_checkEntry_12 : decode cX0_checkEntry 12 = .ok (.new 195, 3) := by decide +kernel
theorem dX0_checkEntry_15 : decode cX0_checkEntry 15 = .ok (.dup, 1) := by decide +kernel
theorem dX0_checkEntry_16 : decode cX0_checkEntry 16 = .ok (.ldc 202, 2) := by decide +kernel
theorem dX0_checkEntry_18 : decode cX0_checkEntry 18 = .ok (.invokespecial 199, 3) := by decide +kernel
theorem dX0_checkEntry_21 : decode cX0_checkEntry 21 = .ok (.athrow, 1) := by decide +kernel
theorem dX0_checkEntry_22 : decode cX0_checkEntry 22 = .ok (.return_, 1) := by decide +kernel
theorem dX0_checkAmount_0 : decode cX0_checkAmount 0 = .ok (.iload_n 0, 1) := by decide +kernel
theorem dX0_checkAmount_1 : decode cX0_checkAmount 1 = .ok (.iconst 1, 1) := by decide +kernel
theorem dX0_checkAmount_2 : decode cX0_checkAmount 2 = .ok (.if_icmp .lt 8, 3) := by decide +kernel
theorem dX0_checkAmount_5 : decode cX0_checkAmount 5 = .ok (.iload_n 0, 1) := by decide +kernel
theorem dX0_checkAmount_6 : decode cX0_checkAmount 6 = .ok (.iload_n 1, 1) := by decide +kernel
theorem dX0_checkAmount_7 : decode cX0_checkAmount 7 = .ok (.if_icmp .le 13, 3) := by decide +kernel
theorem dX0_checkAmount_10 : decode cX0_checkAmount 10 = .ok (.new 204, 3) := by decide +kernel
theorem dX0_checkAmount_13 : decode cX0_checkAmount 13 = .ok (.dup, 1) := by decide +kernel
theorem dX0_checkAmount_14 : decode cX0_checkAmount 14 = .ok (.ldc 206, 2) := by decide +kernel
theorem dX0_checkAmount_16 : decode cX0_checkAmount 16 = .ok (.invokespecial 208, 3) := by decide +kernel
theorem dX0_checkAmount_19 : decode cX0_checkAmount 19 = .ok (.athrow, 1) := by decide +kernel
theorem dX0_checkAmount_20 : decode cX0_checkAmount 20 = .ok (.return_, 1) := by decide +kernel
theorem dX0_checkCellar_0 : decode cX0_checkCellar 0 = .ok (.aload_n 0, 1) := by decide +kernel
theorem dX0_checkCellar_1 : decode cX0_checkCellar 1 = .ok (.getfield 39, 3) := by decide +kernel
theorem dX0_checkCellar_4 : decode cX0_checkCellar 4 = .ok (.iload_n 1, 1) := by decide +kernel
theorem dX0_checkCellar_5 : decode cX0_checkCellar 5 = .ok (.if_icmp .ge 13, 3) := by decide +kernel
theorem dX0_checkCellar_8 : decode cX0_checkCellar 8 = .ok (.new 48, 3) := by decide +kernel
theorem dX0_checkCellar_11 : decode cX0_checkCellar 11 = .ok (.dup, 1) := by decide +kernel
theorem dX0_checkCellar_12 : decode cX0_checkCellar 12 = .ok (.ldc 209, 2) := by decide +kernel
theorem dX0_checkCellar_14 : decode cX0_checkCellar 14 = .ok (.invokespecial 52, 3) := by decide +kernel
theorem dX0_checkCellar_17 : decode cX0_checkCellar 17 = .ok (.athrow, 1) := by decide +kernel
theorem dX0_checkCellar_18 : decode cX0_checkCellar 18 = .ok (.return_, 1) := by decide +kernel
theorem dX0_checkLedgerHasRoom_0 : decode cX0_checkLedgerHasRoom 0 = .ok (.aload_n 0, 1) := by decide +kernel
theorem dX0_checkLedgerHasRoom_1 : decode cX0_checkLedgerHasRoom 1 = .ok (.getfield 36, 3) := by decide +kernel
theorem dX0_checkLedgerHasRoom_4 : decode cX0_checkLedgerHasRoom 4 = .ok (.bipush 30, 2) := by decide +kernel
theorem dX0_checkLedgerHasRoom_6 : decode cX0_checkLedgerHasRoom 6 = .ok (.if_icmp .lt 13, 3) := by decide +kernel
theorem dX0_checkLedgerHasRoom_9 : decode cX0_checkLedgerHasRoom 9 = .ok (.new 48, 3) := by decide +kernel
theorem dX0_checkLedgerHasRoom_12 : decode cX0_checkLedgerHasRoom 12 = .ok (.dup, 1) := by decide +kernel
theorem dX0_checkLedgerHasRoom_13 : decode cX0_checkLedgerHasRoom 13 = .ok (.ldc 211, 2) := by decide +kernel
theorem dX0_checkLedgerHasRoom_15 : decode cX0_checkLedgerHasRoom 15 = .ok (.invokespecial 52, 3) := by decide +kernel
theorem dX0_checkLedgerHasRoom_18 : decode cX0_checkLedgerHasRoom 18 = .ok (.athrow, 1) := by decide +kernel
theorem dX0_checkLedgerHasRoom_19 : decode cX0_checkLedgerHasRoom 19 = .ok (.return_, 1) := by decide +kernel
theorem dX0_addArrears_0 : decode cX0_addArrears 0 = .ok (.aload_n 0, 1) := by decide +kernel
theorem dX0_addArrears_1 : decode cX0_addArrears 1 = .ok (.getfield 13, 3) := by decide +kernel
theorem dX0_addArrears_4 : decode cX0_addArrears 4 = .ok (.iload_n 1, 1) := by decide +kernel
theorem dX0_addArrears_5 : decode cX0_addArrears 5 = .ok (.bipush 99, 2) := by decide +kernel
theorem dX0_addArrears_7 : decode cX0_addArrears 7 = .ok (.aload_n 0, 1) := by decide +kernel
theorem dX0_addArrears_8 : decode cX0_addArrears 8 = .ok (.getfield 13, 3) := by decide +kernel
theorem dX0_addArrears_11 : decode cX0_addArrears 11 = .ok (.iload_n 1, 1) := by decide +kernel
theorem dX0_addArrears_12 : decode cX0_addArrears 12 = .ok (.iaload, 1) := by decide +kernel
theorem dX0_addArrears_13 : decode cX0_addArrears 13 = .ok (.iload_n 2, 1) := by decide +kernel
theorem dX0_addArrears_14 : decode cX0_addArrears 14 = .ok (.iadd, 1) := by decide +kernel
theorem dX0_addArrears_15 : decode cX0_addArrears 15 = .ok (.invokestatic 89, 3) := by decide +kernel
theorem dX0_addArrears_18 : decode cX0_addArrears 18 = .ok (.iastore, 1) := by decide +kernel
theorem dX0_addArrears_19 : decode cX0_addArrears 19 = .ok (.return_, 1) := by decide +kernel
theorem dX0_lessenArrears_0 : decode cX0_lessenArrears 0 = .ok (.aload_n 0, 1) := by decide +kernel
theorem dX0_lessenArrears_1 : decode cX0_lessenArrears 1 = .ok (.getfield 13, 3) := by decide +kernel
theorem dX0_lessenArrears_4 : decode cX0_lessenArrears 4 = .ok (.iload_n 1, 1) := by decide +kernel
theorem dX0_lessenArrears_5 : decode cX0_lessenArrears 5 = .ok (.iconst 0, 1) := by decide +kernel
theorem dX0_lessenArrears_6 : decode cX0_lessenArrears 6 = .ok (.aload_n 0, 1) := by decide +kernel
theorem dX0_lessenArrears_7 : decode cX0_lessenArrears 7 = .ok (.getfield 13, 3) := by decide +kernel
theorem dX0_lessenArrears_10 : decode cX0_lessenArrears 10 = .ok (.iload_n 1, 1) := by decide +kernel
theorem dX0_lessenArrears_11 : decode cX0_lessenArrears 11 = .ok (.iaload, 1) := by decide +kernel
theorem dX0_lessenArrears_12 : decode cX0_lessenArrears 12 = .ok (.iload_n 2, 1) := by decide +kernel
theorem dX0_lessenArrears_13 : decode cX0_lessenArrears 13 = .ok (.isub, 1) := by decide +kernel
theorem dX0_lessenArrears_14 : decode cX0_lessenArrears 14 = .ok (.invokestatic 213, 3) := by decide +kernel
theorem dX0_lessenArrears_17 : decode cX0_lessenArrears 17 = .ok (.iastore, 1) := by decide +kernel
theorem dX0_lessenArrears_18 : decode cX0_lessenArrears 18 = .ok (.return_, 1) := by decide +kernel
theorem dX0_addLumps_0 : decode cX0_addLumps 0 = .ok (.aload_n 0, 1) := by decide +kernel
theorem dX0_addLumps_1 : decode cX0_addLumps 1 = .ok (.getfield 16, 3) := by decide +kernel
theorem dX0_addLumps_4 : decode cX0_addLumps 4 = .ok (.iload_n 1, 1) := by decide +kernel
theorem dX0_addLumps_5 : decode cX0_addLumps 5 = .ok (.bipush 9, 2) := by decide +kernel
theorem dX0_addLumps_7 : decode cX0_addLumps 7 = .ok (.aload_n 0, 1) := by decide +kernel
theorem dX0_addLumps_8 : decode cX0_addLumps 8 = .ok (.getfield 16, 3) := by decide +kernel
theorem dX0_addLumps_11 : decode cX0_addLumps 11 = .ok (.iload_n 1, 1) := by decide +kernel
theorem dX0_addLumps_12 : decode cX0_addLumps 12 = .ok (.iaload, 1) := by decide +kernel
theorem dX0_addLumps_13 : decode cX0_addLumps 13 = .ok (.iload_n 2, 1) := by decide +kernel
theorem dX0_addLumps_14 : decode cX0_addLumps 14 = .ok (.iadd, 1) := by decide +kernel
theorem dX0_addLumps_15 : decode cX0_addLumps 15 = .ok (.invokestatic 89, 3) := by decide +kernel
theorem dX0_addLumps_18 : decode cX0_addLumps 18 = .ok (.iastore, 1) := by decide +kernel
theorem dX0_addLumps_19 : decode cX0_addLumps 19 = .ok (.return_, 1) := by decide +kernel
theorem dX0_leftExcess_0 : decode cX0_leftExcess 0 = .ok (.iconst 0, 1) := by decide +kernel
theorem dX0_leftExcess_1 : decode cX0_leftExcess 1 = .ok (.iload_n 2, 1) := by decide +kernel
theorem dX0_leftExcess_2 : decode cX0_leftExcess 2 = .ok (.aload_n 0, 1) := by decide +kernel
theorem dX0_leftExcess_3 : decode cX0_leftExcess 3 = .ok (.getfield 13, 3) := by decide +kernel
theorem dX0_leftExcess_6 : decode cX0_leftExcess 6 = .ok (.iload_n 1, 1) := by decide +kernel
theorem dX0_leftExcess_7 : decode cX0_leftExcess 7 = .ok (.iaload, 1) := by decide +kernel
theorem dX0_leftExcess_8 : decode cX0_leftExcess 8 = .ok (.isub, 1) := by decide +kernel
theorem dX0_leftExcess_9 : decode cX0_leftExcess 9 = .ok (.invokestatic 213, 3) := by decide +kernel
theorem dX0_leftExcess_12 : decode cX0_leftExcess 12 = .ok (.ireturn, 1) := by decide +kernel
theorem dX0_lossOf_0 : decode cX0_lossOf 0 = .ok (.aload_n 0, 1) := by decide +kernel
theorem dX0_lossOf_1 : decode cX0_lossOf 1 = .ok (.getfield 16, 3) := by decide +kernel
theorem dX0_lossOf_4 : decode cX0_lossOf 4 = .ok (.iload_n 1, 1) := by decide +kernel
theorem dX0_lossOf_5 : decode cX0_lossOf 5 = .ok (.iaload, 1) := by decide +kernel
theorem dX0_lossOf_6 : decode cX0_lossOf 6 = .ok (.ifCond .le 5, 3) := by decide +kernel
theorem dX0_lossOf_9 : decode cX0_lossOf 9 = .ok (.iconst 0, 1) := by decide +kernel
theorem dX0_lossOf_10 : decode cX0_lossOf 10 = .ok (.ireturn, 1) := by decide +kernel
theorem dX0_lossOf_11 : decode cX0_lossOf 11 = .ok (.aload_n 0, 1) := by decide +kernel
theorem dX0_lossOf_12 : decode cX0_lossOf 12 = .ok (.getfield 13, 3) := by decide +kernel
theorem dX0_lossOf_15 : decode cX0_lossOf 15 = .ok (.iload_n 1, 1) := by decide +kernel
theorem dX0_lossOf_16 : decode cX0_lossOf 16 = .ok (.iaload, 1) := by decide +kernel
theorem dX0_lossOf_17 : decode cX0_lossOf 17 = .ok (.bipush 10, 2) := by decide +kernel
theorem dX0_lossOf_19 : decode cX0_lossOf 19 = .ok (.iadd, 1) := by decide +kernel
theorem dX0_lossOf_20 : decode cX0_lossOf 20 = .ok (.iconst 1, 1) := by decide +kernel
theorem dX0_lossOf_21 : decode cX0_lossOf 21 = .ok (.isub, 1) := by decide +kernel
theorem dX0_lossOf_22 : decode cX0_lossOf 22 = .ok (.bipush 10, 2) := by decide +kernel
theorem dX0_lossOf_24 : decode cX0_lossOf 24 = .ok (.idiv, 1) := by decide +kernel
theorem dX0_lossOf_25 : decode cX0_lossOf 25 = .ok (.ireturn, 1) := by decide +kernel
set_option maxRecDepth 20000 in
theorem ggX0_eatOrFeelLuck_X0_lessenArrears : GoodIn wsX0_eatOrFeelLuck wsX0_lessenArrears := goodIn_r _ [15, 2, 4, 5, 6, 7, 20, 21, 22, 23, 24, 25, 26, 27, 28, 29, 30, 31, 32, 33] (by decide +kernel) (by decide +kernel)
set_option maxRecDepth 20000 in
theorem gX0_eatOrFeelLuck_X0_lessenArrears : GoodIn wsX0_eatOrFeelLuck (wsV RX0 79 RX0 yX0_lessenArrears wsX0_lessenArrears) := goodIn_app (goodIn_of _ (by decide +kernel)) ggX0_eatOrFeelLuck_X0_lessenArrears
set_option maxRecDepth 20000 in
theorem ggX0_eatOrFeelLuck_X0_lossOf : GoodIn wsX0_eatOrFeelLuck wsX0_lossOf := goodIn_r _ [19, 1, 2, 20, 21, 22, 23, 24, 25, 26, 27, 28, 29, 30, 31, 32, 33] (by decide +kernel) (by decide +kernel)
set_option maxRecDepth 20000 in
theorem gX0_eatOrFeelLuck_X0_lossOf : GoodIn wsX0_eatOrFeelLuck (wsV RX0 105 RX0 yX0_lossOf wsX0_lossOf) := goodIn_app (goodIn_of _ (by decide +kernel)) ggX0_eatOrFeelLuck_X0_lossOf
theorem dX0_eatOrFeelLuck_0 : decode cX0_eatOrFeelLuck 0 = .ok (.aload_n 0, 1) := by decide +kernel
theorem dX0_eatOrFeelLuck_1 : decode cX0_eatOrFeelLuck 1 = .ok (.getfield 16, 3) := by decide +kernel
theorem dX0_eatOrFeelLuck_4 : decode cX0_eatOrFeelLuck 4 = .ok (.iload_n 1, 1) := by decide +kernel
theorem dX0_eatOrFeelLuck_5 : decode cX0_eatOrFeelLuck 5 = .ok (.iaload, 1) := by decide +kernel
theorem dX0_eatOrFeelLuck_6 : decode cX0_eatOrFeelLuck 6 = .ok (.ifCond .le 22, 3) := by decide +kernel
theorem dX0_eatOrFeelLuck_9 : decode cX0_eatOrFeelLuck 9 = .ok (.aload_n 0, 1) := by decide +kernel
theorem dX0_eatOrFeelLuck_10 : decode cX0_eatOrFeelLuck 10 = .ok (.getfield 16, 3) := by decide +kernel
theorem dX0_eatOrFeelLuck_13 : decode cX0_eatOrFeelLuck 13 = .ok (.iload_n 1, 1) := by decide +kernel
theorem dX0_eatOrFeelLuck_14 : decode cX0_eatOrFeelLuck 14 = .ok (.dup2, 1) := by decide +kernel
theorem dX0_eatOrFeelLuck_15 : decode cX0_eatOrFeelLuck 15 = .ok (.iaload, 1) := by decide +kernel
theorem dX0_eatOrFeelLuck_16 : decode cX0_eatOrFeelLuck 16 = .ok (.iconst 1, 1) := by decide +kernel
theorem dX0_eatOrFeelLuck_17 : decode cX0_eatOrFeelLuck 17 = .ok (.isub, 1) := by decide +kernel
theorem dX0_eatOrFeelLuck_18 : decode cX0_eatOrFeelLuck 18 = .ok (.iastore, 1) := by decide +kernel
theorem dX0_eatOrFeelLuck_19 : decode cX0_eatOrFeelLuck 19 = .ok (.aload_n 0, 1) := by decide +kernel
theorem dX0_eatOrFeelLuck_20 : decode cX0_eatOrFeelLuck 20 = .ok (.iload_n 1, 1) := by decide +kernel
theorem dX0_eatOrFeelLuck_21 : decode cX0_eatOrFeelLuck 21 = .ok (.iconst 3, 1) := by decide +kernel
theorem dX0_eatOrFeelLuck_22 : decode cX0_eatOrFeelLuck 22 = .ok (.invokevirtual 79, 3) := by decide +kernel
theorem dX0_eatOrFeelLuck_25 : decode cX0_eatOrFeelLuck 25 = .ok (.goto 56, 3) := by decide +kernel
theorem dX0_eatOrFeelLuck_28 : decode cX0_eatOrFeelLuck 28 = .ok (.aload_n 0, 1) := by decide +kernel
theorem dX0_eatOrFeelLuck_29 : decode cX0_eatOrFeelLuck 29 = .ok (.getfield 13, 3) := by decide +kernel
theorem dX0_eatOrFeelLuck_32 : decode cX0_eatOrFeelLuck 32 = .ok (.iload_n 1, 1) := by decide +kernel
theorem dX0_eatOrFeelLuck_33 : decode cX0_eatOrFeelLuck 33 = .ok (.iaload, 1) := by decide +kernel
theorem dX0_eatOrFeelLuck_34 : decode cX0_eatOrFeelLuck 34 = .ok (.ifCond .le 28, 3) := by decide +kernel
theorem dX0_eatOrFeelLuck_37 : decode cX0_eatOrFeelLuck 37 = .ok (.aload_n 0, 1) := by decide +kernel
theorem dX0_eatOrFeelLuck_38 : decode cX0_eatOrFeelLuck 38 = .ok (.getfield 9, 3) := by decide +kernel
theorem dX0_eatOrFeelLuck_41 : decode cX0_eatOrFeelLuck 41 = .ok (.iload_n 1, 1) := by decide +kernel
theorem dX0_eatOrFeelLuck_42 : decode cX0_eatOrFeelLuck 42 = .ok (.iconst 0, 1) := by decide +kernel
theorem dX0_eatOrFeelLuck_43 : decode cX0_eatOrFeelLuck 43 = .ok (.aload_n 0, 1) := by decide +kernel
theorem dX0_eatOrFeelLuck_44 : decode cX0_eatOrFeelLuck 44 = .ok (.getfield 9, 3) := by decide +kernel
theorem dX0_eatOrFeelLuck_47 : decode cX0_eatOrFeelLuck 47 = .ok (.iload_n 1, 1) := by decide +kernel
theorem dX0_eatOrFeelLuck_48 : decode cX0_eatOrFeelLuck 48 = .ok (.iaload, 1) := by decide +kernel
theorem dX0_eatOrFeelLuck_49 : decode cX0_eatOrFeelLuck 49 = .ok (.aload_n 0, 1) := by decide +kernel
theorem dX0_eatOrFeelLuck_50 : decode cX0_eatOrFeelLuck 50 = .ok (.iload_n 1, 1) := by decide +kernel
theorem dX0_eatOrFeelLuck_51 : decode cX0_eatOrFeelLuck 51 = .ok (.invokevirtual 105, 3) := by decide +kernel
theorem dX0_eatOrFeelLuck_54 : decode cX0_eatOrFeelLuck 54 = .ok (.isub, 1) := by decide +kernel
theorem dX0_eatOrFeelLuck_55 : decode cX0_eatOrFeelLuck 55 = .ok (.invokestatic 213, 3) := by decide +kernel
theorem dX0_eatOrFeelLuck_58 : decode cX0_eatOrFeelLuck 58 = .ok (.iastore, 1) := by decide +kernel
theorem dX0_eatOrFeelLuck_59 : decode cX0_eatOrFeelLuck 59 = .ok (.goto 22, 3) := by decide +kernel
theorem dX0_eatOrFeelLuck_62 : decode cX0_eatOrFeelLuck 62 = .ok (.aload_n 0, 1) := by decide +kernel
theorem dX0_eatOrFeelLuck_63 : decode cX0_eatOrFeelLuck 63 = .ok (.getfield 9, 3) := by decide +kernel
theorem dX0_eatOrFeelLuck_66 : decode cX0_eatOrFeelLuck 66 = .ok (.iload_n 1, 1) := by decide +kernel
theorem dX0_eatOrFeelLuck_67 : decode cX0_eatOrFeelLuck 67 = .ok (.bipush 100, 2) := by decide +kernel
theorem dX0_eatOrFeelLuck_69 : decode cX0_eatOrFeelLuck 69 = .ok (.aload_n 0, 1) := by decide +kernel
theorem dX0_eatOrFeelLuck_70 : decode cX0_eatOrFeelLuck 70 = .ok (.getfield 9, 3) := by decide +kernel
theorem dX0_eatOrFeelLuck_73 : decode cX0_eatOrFeelLuck 73 = .ok (.iload_n 1, 1) := by decide +kernel
theorem dX0_eatOrFeelLuck_74 : decode cX0_eatOrFeelLuck 74 = .ok (.iaload, 1) := by decide +kernel
theorem dX0_eatOrFeelLuck_75 : decode cX0_eatOrFeelLuck 75 = .ok (.iconst 1, 1) := by decide +kernel
theorem dX0_eatOrFeelLuck_76 : decode cX0_eatOrFeelLuck 76 = .ok (.iadd, 1) := by decide +kernel
theorem dX0_eatOrFeelLuck_77 : decode cX0_eatOrFeelLuck 77 = .ok (.invokestatic 89, 3) := by decide +kernel
theorem dX0_eatOrFeelLuck_80 : decode cX0_eatOrFeelLuck 80 = .ok (.iastore, 1) := by decide +kernel
theorem dX0_eatOrFeelLuck_81 : decode cX0_eatOrFeelLuck 81 = .ok (.return_, 1) := by decide +kernel
set_option maxRecDepth 20000 in
theorem ggX0_passOneDay_X0_isAuditDay : GoodIn wsX0_passOneDay wsX0_isAuditDay := goodIn_r _ [6] (by decide +kernel) (by decide +kernel)
set_option maxRecDepth 20000 in
theorem gX0_passOneDay_X0_isAuditDay : GoodIn wsX0_passOneDay (va_wsS RX0 216 yX0_isAuditDay wsX0_isAuditDay) := goodIn_app (goodIn_of _ (by decide +kernel)) ggX0_passOneDay_X0_isAuditDay
set_option maxRecDepth 20000 in
theorem ggX0_passOneDay_X0_audit : GoodIn wsX0_passOneDay wsX0_audit := goodIn_r _ [10, 2, 11, 12, 13, 14, 15, 5, 16, 17, 18, 19, 20, 21, 22, 23, 24, 25, 26, 27, 28, 29, 30, 31, 49, 50, 51, 52, 53, 54, 55, 56, 57, 58, 59, 60, 61, 62] (by decide +kernel) (by decide +kernel)
set_option maxRecDepth 20000 in
theorem gX0_passOneDay_X0_audit : GoodIn wsX0_passOneDay (wsV RX0 219 RX0 yX0_audit wsX0_audit) := goodIn_app (goodIn_of _ (by decide +kernel)) ggX0_passOneDay_X0_audit
set_option maxRecDepth 20000 in
theorem ggX0_passOneDay_X0_eatOrFeelLuck : GoodIn wsX0_passOneDay wsX0_eatOrFeelLuck := goodIn_r _ [35, 36, 27, 37, 38, 39, 30, 40, 28, 29, 31, 41, 42, 43, 5, 44, 45, 46, 47, 48, 49, 50, 51, 52, 53, 54, 55, 56, 57, 58, 59, 60, 61, 62] (by decide +kernel) (by decide +kernel)
set_option maxRecDepth 20000 in
theorem gX0_passOneDay_X0_eatOrFeelLuck : GoodIn wsX0_passOneDay (wsV RX0 222 RX0 yX0_eatOrFeelLuck wsX0_eatOrFeelLuck) := goodIn_app (goodIn_of _ (by decide +kernel)) ggX0_passOneDay_X0_eatOrFeelLuck
theorem dX0_passOneDay_0 : decode cX0_passOneDay 0 = .ok (.aload_n 0, 1) := by decide +kernel
theorem dX0_passOneDay_1 : decode cX0_passOneDay 1 = .ok (.getfield 42, 3) := by decide +kernel
theorem dX0_passOneDay_4 : decode cX0_passOneDay 4 = .ok (.invokestatic 216, 3) := by decide +kernel
theorem dX0_passOneDay_7 : decode cX0_passOneDay 7 = .ok (.ifCond .eq 10, 3) := by decide +kernel
theorem dX0_passOneDay_10 : decode cX0_passOneDay 10 = .ok (.aload_n 0, 1) := by decide +kernel
theorem dX0_passOneDay_11 : decode cX0_passOneDay 11 = .ok (.invokevirtual 219, 3) := by decide +kernel
theorem dX0_passOneDay_14 : decode cX0_passOneDay 14 = .ok (.goto 4, 3) := by decide +kernel
theorem dX0_passOneDay_17 : decode cX0_passOneDay 17 = .ok (.iconst 0, 1) := by decide +kernel
theorem dX0_passOneDay_18 : decode cX0_passOneDay 18 = .ok (.istore_n 1, 1) := by decide +kernel
theorem dX0_passOneDay_19 : decode cX0_passOneDay 19 = .ok (.iconst 0, 1) := by decide +kernel
theorem dX0_passOneDay_20 : decode cX0_passOneDay 20 = .ok (.istore_n 2, 1) := by decide +kernel
theorem dX0_passOneDay_21 : decode cX0_passOneDay 21 = .ok (.iload_n 2, 1) := by decide +kernel
theorem dX0_passOneDay_22 : decode cX0_passOneDay 22 = .ok (.aload_n 0, 1) := by decide +kernel
theorem dX0_passOneDay_23 : decode cX0_passOneDay 23 = .ok (.getfield 32, 3) := by decide +kernel
theorem dX0_passOneDay_26 : decode cX0_passOneDay 26 = .ok (.if_icmp .ge 14, 3) := by decide +kernel
theorem dX0_passOneDay_29 : decode cX0_passOneDay 29 = .ok (.aload_n 0, 1) := by decide +kernel
theorem dX0_passOneDay_30 : decode cX0_passOneDay 30 = .ok (.iload_n 2, 1) := by decide +kernel
theorem dX0_passOneDay_31 : decode cX0_passOneDay 31 = .ok (.invokevirtual 222, 3) := by decide +kernel
theorem dX0_passOneDay_34 : decode cX0_passOneDay 34 = .ok (.iinc 2 1, 3) := by decide +kernel
theorem dX0_passOneDay_37 : decode cX0_passOneDay 37 = .ok (.goto (-16), 3) := by decide +kernel
theorem dX0_passOneDay_40 : decode cX0_passOneDay 40 = .ok (.aload_n 0, 1) := by decide +kernel
theorem dX0_passOneDay_41 : decode cX0_passOneDay 41 = .ok (.dup, 1) := by decide +kernel
theorem dX0_passOneDay_42 : decode cX0_passOneDay 42 = .ok (.getfield 42, 3) := by decide +kernel
theorem dX0_passOneDay_45 : decode cX0_passOneDay 45 = .ok (.iconst 1, 1) := by decide +kernel
theorem dX0_passOneDay_46 : decode cX0_passOneDay 46 = .ok (.iadd, 1) := by decide +kernel
theorem dX0_passOneDay_47 : decode cX0_passOneDay 47 = .ok (.putfield 42, 3) := by decide +kernel
theorem dX0_passOneDay_50 : decode cX0_passOneDay 50 = .ok (.iload_n 1, 1) := by decide +kernel
theorem dX0_passOneDay_51 : decode cX0_passOneDay 51 = .ok (.ireturn, 1) := by decide +kernel
theorem dX0_isAuditDay_0 : decode cX0_isAuditDay 0 = .ok (.iload_n 0, 1) := by decide +kernel
theorem dX0_isAuditDay_1 : decode cX0_isAuditDay 1 = .ok (.bipush 7, 2) := by decide +kernel
theorem dX0_isAuditDay_3 : decode cX0_isAuditDay 3 = .ok (.irem, 1) := by decide +kernel
theorem dX0_isAuditDay_4 : decode cX0_isAuditDay 4 = .ok (.bipush 6, 2) := by decide +kernel
theorem dX0_isAuditDay_6 : decode cX0_isAuditDay 6 = .ok (.if_icmp .ne 7, 3) := by decide +kernel
theorem dX0_isAuditDay_9 : decode cX0_isAuditDay 9 = .ok (.iconst 1, 1) := by decide +kernel
theorem dX0_isAuditDay_10 : decode cX0_isAuditDay 10 = .ok (.goto 4, 3) := by decide +kernel
theorem dX0_isAuditDay_13 : decode cX0_isAuditDay 13 = .ok (.iconst 0, 1) := by decide +kernel
theorem dX0_isAuditDay_14 : decode cX0_isAuditDay 14 = .ok (.ireturn, 1) := by decide +kernel
theorem dX0_writeThrow_0 : decode cX0_writeThrow 0 = .ok (.aload_n 0, 1) := by decide +kernel
theorem dX0_writeThrow_1 : decode cX0_writeThrow 1 = .ok (.getfield 19, 3) := by decide +kernel
theorem dX0_writeThrow_4 : decode cX0_writeThrow 4 = .ok (.aload_n 0, 1) := by decide +kernel
theorem dX0_writeThrow_5 : decode cX0_writeThrow 5 = .ok (.getfield 36, 3) := by decide +kernel
theorem dX0_writeThrow_8 : decode cX0_writeThrow 8 = .ok (.iload_n 1, 1) := by decide +kernel
theorem dX0_writeThrow_9 : decode cX0_writeThrow 9 = .ok (.iastore, 1) := by decide +kernel
theorem dX0_writeThrow_10 : decode cX0_writeThrow 10 = .ok (.aload_n 0, 1) := by decide +kernel
theorem dX0_writeThrow_11 : decode cX0_writeThrow 11 = .ok (.getfield 22, 3) := by decide +kernel
theorem dX0_writeThrow_14 : decode cX0_writeThrow 14 = .ok (.aload_n 0, 1) := by decide +kernel
theorem dX0_writeThrow_15 : decode cX0_writeThrow 15 = .ok (.getfield 36, 3) := by decide +kernel
theorem dX0_writeThrow_18 : decode cX0_writeThrow 18 = .ok (.iload_n 2, 1) := by decide +kernel
theorem dX0_writeThrow_19 : decode cX0_writeThrow 19 = .ok (.bastore, 1) := by decide +kernel
theorem dX0_writeThrow_20 : decode cX0_writeThrow 20 = .ok (.aload_n 0, 1) := by decide +kernel
theorem dX0_writeThrow_21 : decode cX0_writeThrow 21 = .ok (.getfield 26, 3) := by decide +kernel
theorem dX0_writeThrow_24 : decode cX0_writeThrow 24 = .ok (.aload_n 0, 1) := by decide +kernel
theorem dX0_writeThrow_25 : decode cX0_writeThrow 25 = .ok (.getfield 36, 3) := by decide +kernel
theorem dX0_writeThrow_28 : decode cX0_writeThrow 28 = .ok (.iload_n 3, 1) := by decide +kernel
theorem dX0_writeThrow_29 : decode cX0_writeThrow 29 = .ok (.iastore, 1) := by decide +kernel
theorem dX0_writeThrow_30 : decode cX0_writeThrow 30 = .ok (.aload_n 0, 1) := by decide +kernel
theorem dX0_writeThrow_31 : decode cX0_writeThrow 31 = .ok (.getfield 29, 3) := by decide +kernel
theorem dX0_writeThrow_34 : decode cX0_writeThrow 34 = .ok (.aload_n 0, 1) := by decide +kernel
theorem dX0_writeThrow_35 : decode cX0_writeThrow 35 = .ok (.getfield 36, 3) := by decide +kernel
theorem dX0_writeThrow_38 : decode cX0_writeThrow 38 = .ok (.iload 4, 2) := by decide +kernel
theorem dX0_writeThrow_40 : decode cX0_writeThrow 40 = .ok (.iastore, 1) := by decide +kernel
theorem dX0_writeThrow_41 : decode cX0_writeThrow 41 = .ok (.aload_n 0, 1) := by decide +kernel
theorem dX0_writeThrow_42 : decode cX0_writeThrow 42 = .ok (.dup, 1) := by decide +kernel
theorem dX0_writeThrow_43 : decode cX0_writeThrow 43 = .ok (.getfield 36, 3) := by decide +kernel
theorem dX0_writeThrow_46 : decode cX0_writeThrow 46 = .ok (.iconst 1, 1) := by decide +kernel
theorem dX0_writeThrow_47 : decode cX0_writeThrow 47 = .ok (.iadd, 1) := by decide +kernel
theorem dX0_writeThrow_48 : decode cX0_writeThrow 48 = .ok (.putfield 36, 3) := by decide +kernel
theorem dX0_writeThrow_51 : decode cX0_writeThrow 51 = .ok (.return_, 1) := by decide +kernel
theorem dX0_debtOf_0 : decode cX0_debtOf 0 = .ok (.iconst 0, 1) := by decide +kernel
theorem dX0_debtOf_1 : decode cX0_debtOf 1 = .ok (.istore_n 2, 1) := by decide +kernel
theorem dX0_debtOf_2 : decode cX0_debtOf 2 = .ok (.iconst 0, 1) := by decide +kernel
theorem dX0_debtOf_3 : decode cX0_debtOf 3 = .ok (.istore_n 3, 1) := by decide +kernel
theorem dX0_debtOf_4 : decode cX0_debtOf 4 = .ok (.iload_n 3, 1) := by decide +kernel
theorem dX0_debtOf_5 : decode cX0_debtOf 5 = .ok (.aload_n 0, 1) := by decide +kernel
theorem dX0_debtOf_6 : decode cX0_debtOf 6 = .ok (.getfield 36, 3) := by decide +kernel
theorem dX0_debtOf_9 : decode cX0_debtOf 9 = .ok (.if_icmp .ge 30, 3) := by decide +kernel
theorem dX0_debtOf_12 : decode cX0_debtOf 12 = .ok (.aload_n 0, 1) := by decide +kernel
theorem dX0_debtOf_13 : decode cX0_debtOf 13 = .ok (.getfield 19, 3) := by decide +kernel
theorem dX0_debtOf_16 : decode cX0_debtOf 16 = .ok (.iload_n 3, 1) := by decide +kernel
theorem dX0_debtOf_17 : decode cX0_debtOf 17 = .ok (.iaload, 1) := by decide +kernel
theorem dX0_debtOf_18 : decode cX0_debtOf 18 = .ok (.iload_n 1, 1) := by decide +kernel
theorem dX0_debtOf_19 : decode cX0_debtOf 19 = .ok (.if_icmp .ne 14, 3) := by decide +kernel
theorem dX0_debtOf_22 : decode cX0_debtOf 22 = .ok (.iload_n 2, 1) := by decide +kernel
theorem dX0_debtOf_23 : decode cX0_debtOf 23 = .ok (.iconst 2, 1) := by decide +kernel
theorem dX0_debtOf_24 : decode cX0_debtOf 24 = .ok (.aload_n 0, 1) := by decide +kernel
theorem dX0_debtOf_25 : decode cX0_debtOf 25 = .ok (.getfield 29, 3) := by decide +kernel
theorem dX0_debtOf_28 : decode cX0_debtOf 28 = .ok (.iload_n 3, 1) := by decide +kernel
theorem dX0_debtOf_29 : decode cX0_debtOf 29 = .ok (.iaload, 1) := by decide +kernel
theorem dX0_debtOf_30 : decode cX0_debtOf 30 = .ok (.imul, 1) := by decide +kernel
theorem dX0_debtOf_31 : decode cX0_debtOf 31 = .ok (.iadd, 1) := by decide +kernel
theorem dX0_debtOf_32 : decode cX0_debtOf 32 = .ok (.istore_n 2, 1) := by decide +kernel
theorem dX0_debtOf_33 : decode cX0_debtOf 33 = .ok (.iinc 3 1, 3) := by decide +kernel
theorem dX0_debtOf_36 : decode cX0_debtOf 36 = .ok (.goto (-32), 3) := by decide +kernel
theorem dX0_debtOf_39 : decode cX0_debtOf 39 = .ok (.iload_n 2, 1) := by decide +kernel
theorem dX0_debtOf_40 : decode cX0_debtOf 40 = .ok (.ireturn, 1) := by decide +kernel
theorem dX1_init_0 : decode cX1_init 0 = .ok (.aload_n 0, 1) := by decide +kernel
theorem dX1_init_1 : decode cX1_init 1 = .ok (.invokespecial 1, 3) := by decide +kernel
theorem dX1_init_4 : decode cX1_init 4 = .ok (.aload_n 0, 1) := by decide +kernel
theorem dX1_init_5 : decode cX1_init 5 = .ok (.bipush 100, 2) := by decide +kernel
theorem dX1_init_7 : decode cX1_init 7 = .ok (.putfield 7, 3) := by decide +kernel
theorem dX1_init_10 : decode cX1_init 10 = .ok (.aload_n 0, 1) := by decide +kernel
theorem dX1_init_11 : decode cX1_init 11 = .ok (.iconst 0, 1) := by decide +kernel
theorem dX1_init_12 : decode cX1_init 12 = .ok (.anewarray 13, 3) := by decide +kernel
theorem dX1_init_15 : decode cX1_init 15 = .ok (.putfield 15, 3) := by decide +kernel
theorem dX1_init_18 : decode cX1_init 18 = .ok (.aload_n 0, 1) := by decide +kernel
theorem dX1_init_19 : decode cX1_init 19 = .ok (.iconst 0, 1) := by decide +kernel
theorem dX1_init_20 : decode cX1_init 20 = .ok (.anewarray 13, 3) := by decide +kernel
theorem dX1_init_23 : decode cX1_init 23 = .ok (.putfield 19, 3) := by decide +kernel
theorem dX1_init_26 : decode cX1_init 26 = .ok (.return_, 1) := by decide +kernel
theorem dX1_with_0 : decode cX1_with 0 = .ok (.aload_n 0, 1) := by decide +kernel
theorem dX1_with_1 : decode cX1_with 1 = .ok (.arraylength, 1) := by decide +kernel
theorem dX1_with_2 : decode cX1_with 2 = .ok (.iconst 1, 1) := by decide +kernel
theorem dX1_with_3 : decode cX1_with 3 = .ok (.iadd, 1) := by decide +kernel
theorem dX1_with_4 : decode cX1_with 4 = .ok (.anewarray 13, 3) := by decide +kernel
theorem dX1_with_7 : decode cX1_with 7 = .ok (.astore_n 2, 1) := by decide +kernel
theorem dX1_with_8 : decode cX1_with 8 = .ok (.iconst 0, 1) := by decide +kernel
theorem dX1_with_9 : decode cX1_with 9 = .ok (.istore_n 3, 1) := by decide +kernel
theorem dX1_with_10 : decode cX1_with 10 = .ok (.iload_n 3, 1) := by decide +kernel
theorem dX1_with_11 : decode cX1_with 11 = .ok (.aload_n 0, 1) := by decide +kernel
theorem dX1_with_12 : decode cX1_with 12 = .ok (.arraylength, 1) := by decide +kernel
theorem dX1_with_13 : decode cX1_with 13 = .ok (.if_icmp .ge 15, 3) := by decide +kernel
theorem dX1_with_16 : decode cX1_with 16 = .ok (.aload_n 2, 1) := by decide +kernel
theorem dX1_with_17 : decode cX1_with 17 = .ok (.iload_n 3, 1) := by decide +kernel
theorem dX1_with_18 : decode cX1_with 18 = .ok (.aload_n 0, 1) := by decide +kernel
theorem dX1_with_19 : decode cX1_with 19 = .ok (.iload_n 3, 1) := by decide +kernel
theorem dX1_with_20 : decode cX1_with 20 = .ok (.aaload, 1) := by decide +kernel
theorem dX1_with_21 : decode cX1_with 21 = .ok (.aastore, 1) := by decide +kernel
theorem dX1_with_22 : decode cX1_with 22 = .ok (.iinc 3 1, 3) := by decide +kernel
theorem dX1_with_25 : decode cX1_with 25 = .ok (.goto (-15), 3) := by decide +kernel
theorem dX1_with_28 : decode cX1_with 28 = .ok (.aload_n 2, 1) := by decide +kernel
theorem dX1_with_29 : decode cX1_with 29 = .ok (.aload_n 0, 1) := by decide +kernel
theorem dX1_with_30 : decode cX1_with 30 = .ok (.arraylength, 1) := by decide +kernel
theorem dX1_with_31 : decode cX1_with 31 = .ok (.aload_n 1, 1) := by decide +kernel
theorem dX1_with_32 : decode cX1_with 32 = .ok (.aastore, 1) := by decide +kernel
theorem dX1_with_33 : decode cX1_with 33 = .ok (.aload_n 2, 1) := by decide +kernel
theorem dX1_with_34 : decode cX1_with 34 = .ok (.areturn, 1) := by decide +kernel
set_option maxRecDepth 20000 in
theorem ggX1_cast_X1_with : GoodIn wsX1_cast wsX1_with := goodIn_r _ [8, 9] (by decide +kernel) (by decide +kernel)
set_option maxRecDepth 20000 in
theorem gX1_cast_X1_with : GoodIn wsX1_cast (va_wsS RX1 22 yX1_with wsX1_with) := goodIn_app (goodIn_of _ (by decide +kernel)) ggX1_cast_X1_with
theorem dX1_cast_0 : decode cX1_cast 0 = .ok (.aload_n 0, 1) := by decide +kernel
theorem dX1_cast_1 : decode cX1_cast 1 = .ok (.getfield 15, 3) := by decide +kernel
theorem dX1_cast_4 : decode cX1_cast 4 = .ok (.iload_n 1, 1) := by decide +kernel
theorem dX1_cast_5 : decode cX1_cast 5 = .ok (.aaload, 1) := by decide +kernel
theorem dX1_cast_6 : decode cX1_cast 6 = .ok (.astore 4, 2) := by decide +kernel
theorem dX1_cast_8 : decode cX1_cast 8 = .ok (.iload_n 3, 1) := by decide +kernel
theorem dX1_cast_9 : decode cX1_cast 9 = .ok (.istore 5, 2) := by decide +kernel
theorem dX1_cast_11 : decode cX1_cast 11 = .ok (.iload_n 2, 1) := by decide +kernel
theorem dX1_cast_12 : decode cX1_cast 12 = .ok (.ifCond .ne 45, 3) := by decide +kernel
theorem dX1_cast_15 : decode cX1_cast 15 = .ok (.iload_n 3, 1) := by decide +kernel
theorem dX1_cast_16 : decode cX1_cast 16 = .ok (.aload 4, 2) := by decide +kernel
theorem dX1_cast_18 : decode cX1_cast 18 = .ok (.iconst 1, 1) := by decide +kernel
theorem dX1_cast_19 : decode cX1_cast 19 = .ok (.iaload, 1) := by decide +kernel
theorem dX1_cast_20 : decode cX1_cast 20 = .ok (.if_icmp .le 12, 3) := by decide +kernel
theorem dX1_cast_23 : decode cX1_cast 23 = .ok (.iload_n 3, 1) := by decide +kernel
theorem dX1_cast_24 : decode cX1_cast 24 = .ok (.aload 4, 2) := by decide +kernel
theorem dX1_cast_26 : decode cX1_cast 26 = .ok (.iconst 1, 1) := by decide +kernel
theorem dX1_cast_27 : decode cX1_cast 27 = .ok (.iaload, 1) := by decide +kernel
theorem dX1_cast_28 : decode cX1_cast 28 = .ok (.isub, 1) := by decide +kernel
theorem dX1_cast_29 : decode cX1_cast 29 = .ok (.goto 4, 3) := by decide +kernel
theorem dX1_cast_32 : decode cX1_cast 32 = .ok (.iconst 0, 1) := by decide +kernel
theorem dX1_cast_33 : decode cX1_cast 33 = .ok (.istore 5, 2) := by decide +kernel
theorem dX1_cast_35 : decode cX1_cast 35 = .ok (.aload 4, 2) := by decide +kernel
theorem dX1_cast_37 : decode cX1_cast 37 = .ok (.iconst 1, 1) := by decide +kernel
theorem dX1_cast_38 : decode cX1_cast 38 = .ok (.aload 4, 2) := by decide +kernel
theorem dX1_cast_40 : decode cX1_cast 40 = .ok (.iconst 1, 1) := by decide +kernel
theorem dX1_cast_41 : decode cX1_cast 41 = .ok (.iaload, 1) := by decide +kernel
theorem dX1_cast_42 : decode cX1_cast 42 = .ok (.iload_n 3, 1) := by decide +kernel
theorem dX1_cast_43 : decode cX1_cast 43 = .ok (.if_icmp .le 12, 3) := by decide +kernel
theorem dX1_cast_46 : decode cX1_cast 46 = .ok (.aload 4, 2) := by decide +kernel
theorem dX1_cast_48 : decode cX1_cast 48 = .ok (.iconst 1, 1) := by decide +kernel
theorem dX1_cast_49 : decode cX1_cast 49 = .ok (.iaload, 1) := by decide +kernel
theorem dX1_cast_50 : decode cX1_cast 50 = .ok (.iload_n 3, 1) := by decide +kernel
theorem dX1_cast_51 : decode cX1_cast 51 = .ok (.isub, 1) := by decide +kernel
theorem dX1_cast_52 : decode cX1_cast 52 = .ok (.goto 4, 3) := by decide +kernel
theorem dX1_cast_55 : decode cX1_cast 55 = .ok (.iconst 0, 1) := by decide +kernel
theorem dX1_cast_56 : decode cX1_cast 56 = .ok (.iastore, 1) := by decide +kernel
theorem dX1_cast_57 : decode cX1_cast 57 = .ok (.aload_n 0, 1) := by decide +kernel
theorem dX1_cast_58 : decode cX1_cast 58 = .ok (.dup, 1) := by decide +kernel
theorem dX1_cast_59 : decode cX1_cast 59 = .ok (.getfield 7, 3) := by decide +kernel
theorem dX1_cast_62 : decode cX1_cast 62 = .ok (.iload_n 3, 1) := by decide +kernel
theorem dX1_cast_63 : decode cX1_cast 63 = .ok (.isub, 1) := by decide +kernel
theorem dX1_cast_64 : decode cX1_cast 64 = .ok (.putfield 7, 3) := by decide +kernel
theorem dX1_cast_67 : decode cX1_cast 67 = .ok (.aload_n 0, 1) := by decide +kernel
theorem dX1_cast_68 : decode cX1_cast 68 = .ok (.aload_n 0, 1) := by decide +kernel
theorem dX1_cast_69 : decode cX1_cast 69 = .ok (.getfield 19, 3) := by decide +kernel
theorem dX1_cast_72 : decode cX1_cast 72 = .ok (.iconst 4, 1) := by decide +kernel
theorem dX1_cast_73 : decode cX1_cast 73 = .ok (.newarray .int, 2) := by decide +kernel
theorem dX1_cast_75 : decode cX1_cast 75 = .ok (.dup, 1) := by decide +kernel
theorem dX1_cast_76 : decode cX1_cast 76 = .ok (.iconst 0, 1) := by decide +kernel
theorem dX1_cast_77 : decode cX1_cast 77 = .ok (.iload_n 1, 1) := by decide +kernel
theorem dX1_cast_78 : decode cX1_cast 78 = .ok (.iastore, 1) := by decide +kernel
theorem dX1_cast_79 : decode cX1_cast 79 = .ok (.dup, 1) := by decide +kernel
theorem dX1_cast_80 : decode cX1_cast 80 = .ok (.iconst 1, 1) := by decide +kernel
theorem dX1_cast_81 : decode cX1_cast 81 = .ok (.iconst 1, 1) := by decide +kernel
theorem dX1_cast_82 : decode cX1_cast 82 = .ok (.iload_n 2, 1) := by decide +kernel
theorem dX1_cast_83 : decode cX1_cast 83 = .ok (.isub, 1) := by decide +kernel
theorem dX1_cast_84 : decode cX1_cast 84 = .ok (.iastore, 1) := by decide +kernel
theorem dX1_cast_85 : decode cX1_cast 85 = .ok (.dup, 1) := by decide +kernel
theorem dX1_cast_86 : decode cX1_cast 86 = .ok (.iconst 2, 1) := by decide +kernel
theorem dX1_cast_87 : decode cX1_cast 87 = .ok (.iload_n 3, 1) := by decide +kernel
theorem dX1_cast_88 : decode cX1_cast 88 = .ok (.iastore, 1) := by decide +kernel
theorem dX1_cast_89 : decode cX1_cast 89 = .ok (.dup, 1) := by decide +kernel
theorem dX1_cast_90 : decode cX1_cast 90 = .ok (.iconst 3, 1) := by decide +kernel
theorem dX1_cast_91 : decode cX1_cast 91 = .ok (.iload 5, 2) := by decide +kernel
theorem dX1_cast_93 : decode cX1_cast 93 = .ok (.iastore, 1) := by decide +kernel
theorem dX1_cast_94 : decode cX1_cast 94 = .ok (.invokestatic 22, 3) := by decide +kernel
theorem dX1_cast_97 : decode cX1_cast 97 = .ok (.putfield 19, 3) := by decide +kernel
theorem dX1_cast_100 : decode cX1_cast 100 = .ok (.iload 5, 2) := by decide +kernel
theorem dX1_cast_102 : decode cX1_cast 102 = .ok (.ireturn, 1) := by decide +kernel
theorem dX1_audit_0 : decode cX1_audit 0 = .ok (.iconst 0, 1) := by decide +kernel
theorem dX1_audit_1 : decode cX1_audit 1 = .ok (.istore_n 1, 1) := by decide +kernel
theorem dX1_audit_2 : decode cX1_audit 2 = .ok (.aload_n 0, 1) := by decide +kernel
theorem dX1_audit_3 : decode cX1_audit 3 = .ok (.getfield 19, 3) := by decide +kernel
theorem dX1_audit_6 : decode cX1_audit 6 = .ok (.astore_n 2, 1) := by decide +kernel
theorem dX1_audit_7 : decode cX1_audit 7 = .ok (.aload_n 2, 1) := by decide +kernel
theorem dX1_audit_8 : decode cX1_audit 8 = .ok (.arraylength, 1) := by decide +kernel
theorem dX1_audit_9 : decode cX1_audit 9 = .ok (.istore_n 3, 1) := by decide +kernel
theorem dX1_audit_10 : decode cX1_audit 10 = .ok (.iconst 0, 1) := by decide +kernel
theorem dX1_audit_11 : decode cX1_audit 11 = .ok (.istore 4, 2) := by decide +kernel
theorem dX1_audit_13 : decode cX1_audit 13 = .ok (.iload 4, 2) := by decide +kernel
theorem dX1_audit_15 : decode cX1_audit 15 = .ok (.iload_n 3, 1) := by decide +kernel
theorem dX1_audit_16 : decode cX1_audit 16 = .ok (.if_icmp .ge 67, 3) := by decide +kernel
theorem dX1_audit_19 : decode cX1_audit 19 = .ok (.aload_n 2, 1) := by decide +kernel
theorem dX1_audit_20 : decode cX1_audit 20 = .ok (.iload 4, 2) := by decide +kernel
theorem dX1_audit_22 : decode cX1_audit 22 = .ok (.aaload, 1) := by decide +kernel
theorem dX1_audit_23 : decode cX1_audit 23 = .ok (.astore 5, 2) := by decide +kernel
theorem dX1_audit_25 : decode cX1_audit 25 = .ok (.aload 5, 2) := by decide +kernel
theorem dX1_audit_27 : decode cX1_audit 27 = .ok (.iconst 3, 1) := by decide +kernel
theorem dX1_audit_28 : decode cX1_audit 28 = .ok (.iaload, 1) := by decide +kernel
theorem dX1_audit_29 : decode cX1_audit 29 = .ok (.ifCond .ne 6, 3) := by decide +kernel
theorem dX1_audit_32 : decode cX1_audit 32 = .ok (.goto 45, 3) := by decide +kernel
theorem dX1_audit_35 : decode cX1_audit 35 = .ok (.iinc 1 1, 3) := by decide +kernel
theorem dX1_audit_38 : decode cX1_audit 38 = .ok (.aload_n 0, 1) := by decide +kernel
theorem dX1_audit_39 : decode cX1_audit 39 = .ok (.getfield 15, 3) := by decide +kernel
theorem dX1_audit_42 : decode cX1_audit 42 = .ok (.aload 5, 2) := by decide +kernel
theorem dX1_audit_44 : decode cX1_audit 44 = .ok (.iconst 0, 1) := by decide +kernel
theorem dX1_audit_45 : decode cX1_audit 45 = .ok (.iaload, 1) := by decide +kernel
theorem dX1_audit_46 : decode cX1_audit 46 = .ok (.aaload, 1) := by decide +kernel
theorem dX1_audit_47 : decode cX1_audit 47 = .ok (.astore 6, 2) := by decide +kernel
theorem dX1_audit_49 : decode cX1_audit 49 = .ok (.aload 6, 2) := by decide +kernel
theorem dX1_audit_51 : decode cX1_audit 51 = .ok (.iconst 1, 1) := by decide +kernel
theorem dX1_audit_52 : decode cX1_audit 52 = .ok (.dup2, 1) := by decide +kernel
theorem dX1_audit_53 : decode cX1_audit 53 = .ok (.iaload, 1) := by decide +kernel
theorem dX1_audit_54 : decode cX1_audit 54 = .ok (.iconst 2, 1) := by decide +kernel
theorem dX1_audit_55 : decode cX1_audit 55 = .ok (.aload 5, 2) := by decide +kernel
theorem dX1_audit_57 : decode cX1_audit 57 = .ok (.iconst 3, 1) := by decide +kernel
theorem dX1_audit_58 : decode cX1_audit 58 = .ok (.iaload, 1) := by decide +kernel
theorem dX1_audit_59 : decode cX1_audit 59 = .ok (.imul, 1) := by decide +kernel
theorem dX1_audit_60 : decode cX1_audit 60 = .ok (.iadd, 1) := by decide +kernel
theorem dX1_audit_61 : decode cX1_audit 61 = .ok (.iastore, 1) := by decide +kernel
end
section
theorem dX1_audit_62 : decode cX1_audit 62 = .ok (.aload 6, 2) := by decide +kernel
theorem dX1_audit_64 : decode cX1_audit 64 = .ok (.iconst 1, 1) := by decide +kernel
theorem dX1_audit_65 : decode cX1_audit 65 = .ok (.iaload, 1) := by decide +kernel
theorem dX1_audit_66 : decode cX1_audit 66 = .ok (.bipush 99, 2) := by decide +kernel
theorem dX1_audit_68 : decode cX1_audit 68 = .ok (.if_icmp .le 9, 3) := by decide +kernel
theorem dX1_audit_71 : decode cX1_audit 71 = .ok (.aload 6, 2) := by decide +kernel
theorem dX1_audit_73 : decode cX1_audit 73 = .ok (.iconst 1, 1) := by decide +kernel
theorem dX1_audit_74 : decode cX1_audit 74 = .ok (.bipush 99, 2) := by decide +kernel
theorem dX1_audit_76 : decode cX1_audit 76 = .ok (.iastore, 1) := by decide +kernel
theorem dX1_audit_77 : decode cX1_audit 77 = .ok (.iinc 4 1, 3) := by decide +kernel
theorem dX1_audit_80 : decode cX1_audit 80 = .ok (.goto (-67), 3) := by decide +kernel
theorem dX1_audit_83 : decode cX1_audit 83 = .ok (.aload_n 0, 1) := by decide +kernel
theorem dX1_audit_84 : decode cX1_audit 84 = .ok (.iconst 0, 1) := by decide +kernel
theorem dX1_audit_85 : decode cX1_audit 85 = .ok (.anewarray 13, 3) := by decide +kernel
theorem dX1_audit_88 : decode cX1_audit 88 = .ok (.putfield 19, 3) := by decide +kernel
theorem dX1_audit_91 : decode cX1_audit 91 = .ok (.aload_n 0, 1) := by decide +kernel
theorem dX1_audit_92 : decode cX1_audit 92 = .ok (.dup, 1) := by decide +kernel
theorem dX1_audit_93 : decode cX1_audit 93 = .ok (.getfield 26, 3) := by decide +kernel
theorem dX1_audit_96 : decode cX1_audit 96 = .ok (.iload_n 1, 1) := by decide +kernel
theorem dX1_audit_97 : decode cX1_audit 97 = .ok (.iadd, 1) := by decide +kernel
theorem dX1_audit_98 : decode cX1_audit 98 = .ok (.putfield 26, 3) := by decide +kernel
theorem dX1_audit_101 : decode cX1_audit 101 = .ok (.iload_n 1, 1) := by decide +kernel
theorem dX1_audit_102 : decode cX1_audit 102 = .ok (.ireturn, 1) := by decide +kernel
set_option maxRecDepth 20000 in
theorem ggX1_pass_X1_audit : GoodIn wsX1_pass wsX1_audit := goodIn_r _ [7, 8, 2, 9, 10, 11, 12, 13, 14, 15] (by decide +kernel) (by decide +kernel)
set_option maxRecDepth 20000 in
theorem gX1_pass_X1_audit : GoodIn wsX1_pass (wsV RX1 32 RX1 yX1_audit wsX1_audit) := goodIn_app (goodIn_of _ (by decide +kernel)) ggX1_pass_X1_audit
theorem dX1_pass_0 : decode cX1_pass 0 = .ok (.iconst 0, 1) := by decide +kernel
theorem dX1_pass_1 : decode cX1_pass 1 = .ok (.istore_n 1, 1) := by decide +kernel
theorem dX1_pass_2 : decode cX1_pass 2 = .ok (.aload_n 0, 1) := by decide +kernel
theorem dX1_pass_3 : decode cX1_pass 3 = .ok (.getfield 29, 3) := by decide +kernel
theorem dX1_pass_6 : decode cX1_pass 6 = .ok (.iconst 1, 1) := by decide +kernel
theorem dX1_pass_7 : decode cX1_pass 7 = .ok (.iadd, 1) := by decide +kernel
theorem dX1_pass_8 : decode cX1_pass 8 = .ok (.bipush 7, 2) := by decide +kernel
theorem dX1_pass_10 : decode cX1_pass 10 = .ok (.irem, 1) := by decide +kernel
theorem dX1_pass_11 : decode cX1_pass 11 = .ok (.ifCond .ne 8, 3) := by decide +kernel
theorem dX1_pass_14 : decode cX1_pass 14 = .ok (.aload_n 0, 1) := by decide +kernel
theorem dX1_pass_15 : decode cX1_pass 15 = .ok (.invokevirtual 32, 3) := by decide +kernel
theorem dX1_pass_18 : decode cX1_pass 18 = .ok (.istore_n 1, 1) := by decide +kernel
theorem dX1_pass_19 : decode cX1_pass 19 = .ok (.aload_n 0, 1) := by decide +kernel
theorem dX1_pass_20 : decode cX1_pass 20 = .ok (.getfield 15, 3) := by decide +kernel
theorem dX1_pass_23 : decode cX1_pass 23 = .ok (.astore_n 2, 1) := by decide +kernel
theorem dX1_pass_24 : decode cX1_pass 24 = .ok (.aload_n 2, 1) := by decide +kernel
theorem dX1_pass_25 : decode cX1_pass 25 = .ok (.arraylength, 1) := by decide +kernel
theorem dX1_pass_26 : decode cX1_pass 26 = .ok (.istore_n 3, 1) := by decide +kernel
theorem dX1_pass_27 : decode cX1_pass 27 = .ok (.iconst 0, 1) := by decide +kernel
theorem dX1_pass_28 : decode cX1_pass 28 = .ok (.istore 4, 2) := by decide +kernel
theorem dX1_pass_30 : decode cX1_pass 30 = .ok (.iload 4, 2) := by decide +kernel
theorem dX1_pass_32 : decode cX1_pass 32 = .ok (.iload_n 3, 1) := by decide +kernel
theorem dX1_pass_33 : decode cX1_pass 33 = .ok (.if_icmp .ge 114, 3) := by decide +kernel
theorem dX1_pass_36 : decode cX1_pass 36 = .ok (.aload_n 2, 1) := by decide +kernel
theorem dX1_pass_37 : decode cX1_pass 37 = .ok (.iload 4, 2) := by decide +kernel
theorem dX1_pass_39 : decode cX1_pass 39 = .ok (.aaload, 1) := by decide +kernel
theorem dX1_pass_40 : decode cX1_pass 40 = .ok (.astore 5, 2) := by decide +kernel
theorem dX1_pass_42 : decode cX1_pass 42 = .ok (.aload 5, 2) := by decide +kernel
theorem dX1_pass_44 : decode cX1_pass 44 = .ok (.iconst 2, 1) := by decide +kernel
theorem dX1_pass_45 : decode cX1_pass 45 = .ok (.iaload, 1) := by decide +kernel
theorem dX1_pass_46 : decode cX1_pass 46 = .ok (.ifCond .le 36, 3) := by decide +kernel
theorem dX1_pass_49 : decode cX1_pass 49 = .ok (.aload 5, 2) := by decide +kernel
theorem dX1_pass_51 : decode cX1_pass 51 = .ok (.iconst 2, 1) := by decide +kernel
theorem dX1_pass_52 : decode cX1_pass 52 = .ok (.dup2, 1) := by decide +kernel
theorem dX1_pass_53 : decode cX1_pass 53 = .ok (.iaload, 1) := by decide +kernel
theorem dX1_pass_54 : decode cX1_pass 54 = .ok (.iconst 1, 1) := by decide +kernel
theorem dX1_pass_55 : decode cX1_pass 55 = .ok (.isub, 1) := by decide +kernel
theorem dX1_pass_56 : decode cX1_pass 56 = .ok (.iastore, 1) := by decide +kernel
theorem dX1_pass_57 : decode cX1_pass 57 = .ok (.aload 5, 2) := by decide +kernel
theorem dX1_pass_59 : decode cX1_pass 59 = .ok (.iconst 1, 1) := by decide +kernel
theorem dX1_pass_60 : decode cX1_pass 60 = .ok (.aload 5, 2) := by decide +kernel
theorem dX1_pass_62 : decode cX1_pass 62 = .ok (.iconst 1, 1) := by decide +kernel
theorem dX1_pass_63 : decode cX1_pass 63 = .ok (.iaload, 1) := by decide +kernel
theorem dX1_pass_64 : decode cX1_pass 64 = .ok (.iconst 3, 1) := by decide +kernel
theorem dX1_pass_65 : decode cX1_pass 65 = .ok (.if_icmp .ge 7, 3) := by decide +kernel
theorem dX1_pass_68 : decode cX1_pass 68 = .ok (.iconst 0, 1) := by decide +kernel
theorem dX1_pass_69 : decode cX1_pass 69 = .ok (.goto 9, 3) := by decide +kernel
theorem dX1_pass_72 : decode cX1_pass 72 = .ok (.aload 5, 2) := by decide +kernel
theorem dX1_pass_74 : decode cX1_pass 74 = .ok (.iconst 1, 1) := by decide +kernel
theorem dX1_pass_75 : decode cX1_pass 75 = .ok (.iaload, 1) := by decide +kernel
theorem dX1_pass_76 : decode cX1_pass 76 = .ok (.iconst 3, 1) := by decide +kernel
theorem dX1_pass_77 : decode cX1_pass 77 = .ok (.isub, 1) := by decide +kernel
theorem dX1_pass_78 : decode cX1_pass 78 = .ok (.iastore, 1) := by decide +kernel
theorem dX1_pass_79 : decode cX1_pass 79 = .ok (.goto 62, 3) := by decide +kernel
theorem dX1_pass_82 : decode cX1_pass 82 = .ok (.aload 5, 2) := by decide +kernel
theorem dX1_pass_84 : decode cX1_pass 84 = .ok (.iconst 1, 1) := by decide +kernel
theorem dX1_pass_85 : decode cX1_pass 85 = .ok (.iaload, 1) := by decide +kernel
theorem dX1_pass_86 : decode cX1_pass 86 = .ok (.ifCond .le 38, 3) := by decide +kernel
theorem dX1_pass_89 : decode cX1_pass 89 = .ok (.aload 5, 2) := by decide +kernel
theorem dX1_pass_91 : decode cX1_pass 91 = .ok (.iconst 1, 1) := by decide +kernel
theorem dX1_pass_92 : decode cX1_pass 92 = .ok (.iaload, 1) := by decide +kernel
theorem dX1_pass_93 : decode cX1_pass 93 = .ok (.istore 6, 2) := by decide +kernel
theorem dX1_pass_95 : decode cX1_pass 95 = .ok (.iload 6, 2) := by decide +kernel
theorem dX1_pass_97 : decode cX1_pass 97 = .ok (.ifCond .le 24, 3) := by decide +kernel
theorem dX1_pass_100 : decode cX1_pass 100 = .ok (.aload 5, 2) := by decide +kernel
theorem dX1_pass_102 : decode cX1_pass 102 = .ok (.iconst 0, 1) := by decide +kernel
theorem dX1_pass_103 : decode cX1_pass 103 = .ok (.iaload, 1) := by decide +kernel
theorem dX1_pass_104 : decode cX1_pass 104 = .ok (.ifCond .le 11, 3) := by decide +kernel
theorem dX1_pass_107 : decode cX1_pass 107 = .ok (.aload 5, 2) := by decide +kernel
theorem dX1_pass_109 : decode cX1_pass 109 = .ok (.iconst 0, 1) := by decide +kernel
theorem dX1_pass_110 : decode cX1_pass 110 = .ok (.dup2, 1) := by decide +kernel
theorem dX1_pass_111 : decode cX1_pass 111 = .ok (.iaload, 1) := by decide +kernel
theorem dX1_pass_112 : decode cX1_pass 112 = .ok (.iconst 1, 1) := by decide +kernel
theorem dX1_pass_113 : decode cX1_pass 113 = .ok (.isub, 1) := by decide +kernel
theorem dX1_pass_114 : decode cX1_pass 114 = .ok (.iastore, 1) := by decide +kernel
theorem dX1_pass_115 : decode cX1_pass 115 = .ok (.iinc 6 (-10), 3) := by decide +kernel
theorem dX1_pass_118 : decode cX1_pass 118 = .ok (.goto (-23), 3) := by decide +kernel
theorem dX1_pass_121 : decode cX1_pass 121 = .ok (.goto 20, 3) := by decide +kernel
theorem dX1_pass_124 : decode cX1_pass 124 = .ok (.aload 5, 2) := by decide +kernel
theorem dX1_pass_126 : decode cX1_pass 126 = .ok (.iconst 0, 1) := by decide +kernel
theorem dX1_pass_127 : decode cX1_pass 127 = .ok (.iaload, 1) := by decide +kernel
theorem dX1_pass_128 : decode cX1_pass 128 = .ok (.bipush 100, 2) := by decide +kernel
theorem dX1_pass_130 : decode cX1_pass 130 = .ok (.if_icmp .ge 11, 3) := by decide +kernel
theorem dX1_pass_133 : decode cX1_pass 133 = .ok (.aload 5, 2) := by decide +kernel
theorem dX1_pass_135 : decode cX1_pass 135 = .ok (.iconst 0, 1) := by decide +kernel
theorem dX1_pass_136 : decode cX1_pass 136 = .ok (.dup2, 1) := by decide +kernel
theorem dX1_pass_137 : decode cX1_pass 137 = .ok (.iaload, 1) := by decide +kernel
theorem dX1_pass_138 : decode cX1_pass 138 = .ok (.iconst 1, 1) := by decide +kernel
theorem dX1_pass_139 : decode cX1_pass 139 = .ok (.iadd, 1) := by decide +kernel
theorem dX1_pass_140 : decode cX1_pass 140 = .ok (.iastore, 1) := by decide +kernel
theorem dX1_pass_141 : decode cX1_pass 141 = .ok (.iinc 4 1, 3) := by decide +kernel
theorem dX1_pass_144 : decode cX1_pass 144 = .ok (.goto (-114), 3) := by decide +kernel
theorem dX1_pass_147 : decode cX1_pass 147 = .ok (.aload_n 0, 1) := by decide +kernel
theorem dX1_pass_148 : decode cX1_pass 148 = .ok (.dup, 1) := by decide +kernel
theorem dX1_pass_149 : decode cX1_pass 149 = .ok (.getfield 29, 3) := by decide +kernel
theorem dX1_pass_152 : decode cX1_pass 152 = .ok (.iconst 1, 1) := by decide +kernel
theorem dX1_pass_153 : decode cX1_pass 153 = .ok (.iadd, 1) := by decide +kernel
theorem dX1_pass_154 : decode cX1_pass 154 = .ok (.putfield 29, 3) := by decide +kernel
theorem dX1_pass_157 : decode cX1_pass 157 = .ok (.iload_n 1, 1) := by decide +kernel
theorem dX1_pass_158 : decode cX1_pass 158 = .ok (.ireturn, 1) := by decide +kernel
set_option maxRecDepth 20000 in
theorem ggX1_behind_X1_pass : GoodIn wsX1_behind wsX1_pass := goodIn_r _ [5, 6, 7, 8, 9, 10, 4, 11, 12, 13, 14, 15, 16, 17, 18, 19] (by decide +kernel) (by decide +kernel)
set_option maxRecDepth 20000 in
theorem gX1_behind_X1_pass : GoodIn wsX1_behind (wsV RX1 36 RX1 yX1_pass wsX1_pass) := goodIn_app (goodIn_of _ (by decide +kernel)) ggX1_behind_X1_pass
theorem dX1_behind_0 : decode cX1_behind 0 = .ok (.iconst 0, 1) := by decide +kernel
theorem dX1_behind_1 : decode cX1_behind 1 = .ok (.istore_n 2, 1) := by decide +kernel
theorem dX1_behind_2 : decode cX1_behind 2 = .ok (.iconst 0, 1) := by decide +kernel
theorem dX1_behind_3 : decode cX1_behind 3 = .ok (.istore_n 3, 1) := by decide +kernel
theorem dX1_behind_4 : decode cX1_behind 4 = .ok (.iload_n 3, 1) := by decide +kernel
theorem dX1_behind_5 : decode cX1_behind 5 = .ok (.iload_n 1, 1) := by decide +kernel
theorem dX1_behind_6 : decode cX1_behind 6 = .ok (.if_icmp .ge 16, 3) := by decide +kernel
theorem dX1_behind_9 : decode cX1_behind 9 = .ok (.iload_n 2, 1) := by decide +kernel
theorem dX1_behind_10 : decode cX1_behind 10 = .ok (.aload_n 0, 1) := by decide +kernel
theorem dX1_behind_11 : decode cX1_behind 11 = .ok (.invokevirtual 36, 3) := by decide +kernel
theorem dX1_behind_14 : decode cX1_behind 14 = .ok (.iadd, 1) := by decide +kernel
theorem dX1_behind_15 : decode cX1_behind 15 = .ok (.istore_n 2, 1) := by decide +kernel
theorem dX1_behind_16 : decode cX1_behind 16 = .ok (.iinc 3 1, 3) := by decide +kernel
theorem dX1_behind_19 : decode cX1_behind 19 = .ok (.goto (-15), 3) := by decide +kernel
theorem dX1_behind_22 : decode cX1_behind 22 = .ok (.iload_n 2, 1) := by decide +kernel
theorem dX1_behind_23 : decode cX1_behind 23 = .ok (.ireturn, 1) := by decide +kernel
theorem dX1_faults_0 : decode cX1_faults 0 = .ok (.iconst 0, 1) := by decide +kernel
theorem dX1_faults_1 : decode cX1_faults 1 = .ok (.istore_n 1, 1) := by decide +kernel
theorem dX1_faults_2 : decode cX1_faults 2 = .ok (.aload_n 0, 1) := by decide +kernel
theorem dX1_faults_3 : decode cX1_faults 3 = .ok (.getfield 19, 3) := by decide +kernel
theorem dX1_faults_6 : decode cX1_faults 6 = .ok (.astore_n 2, 1) := by decide +kernel
theorem dX1_faults_7 : decode cX1_faults 7 = .ok (.aload_n 2, 1) := by decide +kernel
theorem dX1_faults_8 : decode cX1_faults 8 = .ok (.arraylength, 1) := by decide +kernel
theorem dX1_faults_9 : decode cX1_faults 9 = .ok (.istore_n 3, 1) := by decide +kernel
theorem dX1_faults_10 : decode cX1_faults 10 = .ok (.iconst 0, 1) := by decide +kernel
theorem dX1_faults_11 : decode cX1_faults 11 = .ok (.istore 4, 2) := by decide +kernel
theorem dX1_faults_13 : decode cX1_faults 13 = .ok (.iload 4, 2) := by decide +kernel
theorem dX1_faults_15 : decode cX1_faults 15 = .ok (.iload_n 3, 1) := by decide +kernel
theorem dX1_faults_16 : decode cX1_faults 16 = .ok (.if_icmp .ge 30, 3) := by decide +kernel
theorem dX1_faults_19 : decode cX1_faults 19 = .ok (.aload_n 2, 1) := by decide +kernel
theorem dX1_faults_20 : decode cX1_faults 20 = .ok (.iload 4, 2) := by decide +kernel
theorem dX1_faults_22 : decode cX1_faults 22 = .ok (.aaload, 1) := by decide +kernel
theorem dX1_faults_23 : decode cX1_faults 23 = .ok (.astore 5, 2) := by decide +kernel
theorem dX1_faults_25 : decode cX1_faults 25 = .ok (.iload_n 1, 1) := by decide +kernel
theorem dX1_faults_26 : decode cX1_faults 26 = .ok (.aload 5, 2) := by decide +kernel
theorem dX1_faults_28 : decode cX1_faults 28 = .ok (.iconst 3, 1) := by decide +kernel
theorem dX1_faults_29 : decode cX1_faults 29 = .ok (.iaload, 1) := by decide +kernel
theorem dX1_faults_30 : decode cX1_faults 30 = .ok (.ifCond .le 7, 3) := by decide +kernel
theorem dX1_faults_33 : decode cX1_faults 33 = .ok (.iconst 1, 1) := by decide +kernel
theorem dX1_faults_34 : decode cX1_faults 34 = .ok (.goto 4, 3) := by decide +kernel
theorem dX1_faults_37 : decode cX1_faults 37 = .ok (.iconst 0, 1) := by decide +kernel
theorem dX1_faults_38 : decode cX1_faults 38 = .ok (.iadd, 1) := by decide +kernel
theorem dX1_faults_39 : decode cX1_faults 39 = .ok (.istore_n 1, 1) := by decide +kernel
theorem dX1_faults_40 : decode cX1_faults 40 = .ok (.iinc 4 1, 3) := by decide +kernel
theorem dX1_faults_43 : decode cX1_faults 43 = .ok (.goto (-30), 3) := by decide +kernel
theorem dX1_faults_46 : decode cX1_faults 46 = .ok (.iload_n 1, 1) := by decide +kernel
theorem dX1_faults_47 : decode cX1_faults 47 = .ok (.ireturn, 1) := by decide +kernel
theorem dX1_adds_0 : decode cX1_adds 0 = .ok (.iconst 0, 1) := by decide +kernel
theorem dX1_adds_1 : decode cX1_adds 1 = .ok (.istore_n 2, 1) := by decide +kernel
theorem dX1_adds_2 : decode cX1_adds 2 = .ok (.aload_n 0, 1) := by decide +kernel
theorem dX1_adds_3 : decode cX1_adds 3 = .ok (.getfield 19, 3) := by decide +kernel
theorem dX1_adds_6 : decode cX1_adds 6 = .ok (.astore_n 3, 1) := by decide +kernel
theorem dX1_adds_7 : decode cX1_adds 7 = .ok (.aload_n 3, 1) := by decide +kernel
theorem dX1_adds_8 : decode cX1_adds 8 = .ok (.arraylength, 1) := by decide +kernel
theorem dX1_adds_9 : decode cX1_adds 9 = .ok (.istore 4, 2) := by decide +kernel
theorem dX1_adds_11 : decode cX1_adds 11 = .ok (.iconst 0, 1) := by decide +kernel
theorem dX1_adds_12 : decode cX1_adds 12 = .ok (.istore 5, 2) := by decide +kernel
theorem dX1_adds_14 : decode cX1_adds 14 = .ok (.iload 5, 2) := by decide +kernel
theorem dX1_adds_16 : decode cX1_adds 16 = .ok (.iload 4, 2) := by decide +kernel
theorem dX1_adds_18 : decode cX1_adds 18 = .ok (.if_icmp .ge 35, 3) := by decide +kernel
theorem dX1_adds_21 : decode cX1_adds 21 = .ok (.aload_n 3, 1) := by decide +kernel
theorem dX1_adds_22 : decode cX1_adds 22 = .ok (.iload 5, 2) := by decide +kernel
theorem dX1_adds_24 : decode cX1_adds 24 = .ok (.aaload, 1) := by decide +kernel
theorem dX1_adds_25 : decode cX1_adds 25 = .ok (.astore 6, 2) := by decide +kernel
theorem dX1_adds_27 : decode cX1_adds 27 = .ok (.aload 6, 2) := by decide +kernel
theorem dX1_adds_29 : decode cX1_adds 29 = .ok (.iconst 0, 1) := by decide +kernel
theorem dX1_adds_30 : decode cX1_adds 30 = .ok (.iaload, 1) := by decide +kernel
theorem dX1_adds_31 : decode cX1_adds 31 = .ok (.iload_n 1, 1) := by decide +kernel
theorem dX1_adds_32 : decode cX1_adds 32 = .ok (.if_icmp .ne 15, 3) := by decide +kernel
theorem dX1_adds_35 : decode cX1_adds 35 = .ok (.iload_n 2, 1) := by decide +kernel
theorem dX1_adds_36 : decode cX1_adds 36 = .ok (.aload 6, 2) := by decide +kernel
theorem dX1_adds_38 : decode cX1_adds 38 = .ok (.iconst 3, 1) := by decide +kernel
theorem dX1_adds_39 : decode cX1_adds 39 = .ok (.iaload, 1) := by decide +kernel
theorem dX1_adds_40 : decode cX1_adds 40 = .ok (.aload 6, 2) := by decide +kernel
theorem dX1_adds_42 : decode cX1_adds 42 = .ok (.iconst 3, 1) := by decide +kernel
theorem dX1_adds_43 : decode cX1_adds 43 = .ok (.iaload, 1) := by decide +kernel
theorem dX1_adds_44 : decode cX1_adds 44 = .ok (.iadd, 1) := by decide +kernel
theorem dX1_adds_45 : decode cX1_adds 45 = .ok (.iadd, 1) := by decide +kernel
theorem dX1_adds_46 : decode cX1_adds 46 = .ok (.istore_n 2, 1) := by decide +kernel
theorem dX1_adds_47 : decode cX1_adds 47 = .ok (.iinc 5 1, 3) := by decide +kernel
theorem dX1_adds_50 : decode cX1_adds 50 = .ok (.goto (-36), 3) := by decide +kernel
theorem dX1_adds_53 : decode cX1_adds 53 = .ok (.iload_n 2, 1) := by decide +kernel
theorem dX1_adds_54 : decode cX1_adds 54 = .ok (.ireturn, 1) := by decide +kernel
set_option maxRecDepth 20000 in
theorem ggX1_isSame_X0_day : GoodIn wsX1_isSame wsX0_day := goodIn_r _ [10, 11, 131, 132, 133, 134, 135, 136, 137, 138, 139, 140, 141, 142, 143, 144] (by decide +kernel) (by decide +kernel)
set_option maxRecDepth 20000 in
theorem gX1_isSame_X0_day : GoodIn wsX1_isSame (wsV RX1 44 RX0 yX0_day wsX0_day) := goodIn_app (goodIn_of _ (by decide +kernel)) ggX1_isSame_X0_day
set_option maxRecDepth 20000 in
theorem ggX1_isSame_X0_members : GoodIn wsX1_isSame wsX0_members := goodIn_r _ [15, 16, 131, 132, 133, 134, 135, 136, 137, 138, 139, 140, 141, 142, 143, 144] (by decide +kernel) (by decide +kernel)
set_option maxRecDepth 20000 in
theorem gX1_isSame_X0_members : GoodIn wsX1_isSame (wsV RX1 48 RX0 yX0_members wsX0_members) := goodIn_app (goodIn_of _ (by decide +kernel)) ggX1_isSame_X0_members
set_option maxRecDepth 20000 in
theorem ggX1_isSame_X0_salt : GoodIn wsX1_isSame wsX0_salt := goodIn_r _ [20, 21, 131, 132, 133, 134, 135, 136, 137, 138, 139, 140, 141, 142, 143, 144] (by decide +kernel) (by decide +kernel)
set_option maxRecDepth 20000 in
theorem gX1_isSame_X0_salt : GoodIn wsX1_isSame (wsV RX1 50 RX0 yX0_salt wsX0_salt) := goodIn_app (goodIn_of _ (by decide +kernel)) ggX1_isSame_X0_salt
set_option maxRecDepth 20000 in
theorem ggX1_isSame_X0_ledger : GoodIn wsX1_isSame wsX0_ledger := goodIn_r _ [25, 26, 131, 132, 133, 134, 135, 136, 137, 138, 139, 140, 141, 142, 143, 144] (by decide +kernel) (by decide +kernel)
set_option maxRecDepth 20000 in
theorem gX1_isSame_X0_ledger : GoodIn wsX1_isSame (wsV RX1 52 RX0 yX0_ledger wsX0_ledger) := goodIn_app (goodIn_of _ (by decide +kernel)) ggX1_isSame_X0_ledger
set_option maxRecDepth 20000 in
theorem ggX1_isSame_X0_faults : GoodIn wsX1_isSame wsX0_faults := goodIn_r _ [30, 26, 31, 131, 132, 133, 134, 135, 136, 137, 138, 139, 140, 141, 142, 143, 144] (by decide +kernel) (by decide +kernel)
set_option maxRecDepth 20000 in
theorem gX1_isSame_X0_faults : GoodIn wsX1_isSame (wsV RX1 54 RX0 yX0_faults wsX0_faults) := goodIn_app (goodIn_of _ (by decide +kernel)) ggX1_isSame_X0_faults
set_option maxRecDepth 20000 in
theorem ggX1_isSame_X1_faults : GoodIn wsX1_isSame wsX1_faults := goodIn_r _ [36, 4, 126, 127, 128, 129, 130] (by decide +kernel) (by decide +kernel)
set_option maxRecDepth 20000 in
theorem gX1_isSame_X1_faults : GoodIn wsX1_isSame (wsV RX1 57 RX1 yX1_faults wsX1_faults) := goodIn_app (goodIn_of _ (by decide +kernel)) ggX1_isSame_X1_faults
set_option maxRecDepth 20000 in
theorem ggX1_isSame_X0_faultsFound : GoodIn wsX1_isSame wsX0_faultsFound := goodIn_r _ [40, 41, 131, 132, 133, 134, 135, 136, 137, 138, 139, 140, 141, 142, 143, 144] (by decide +kernel) (by decide +kernel)
set_option maxRecDepth 20000 in
theorem gX1_isSame_X0_faultsFound : GoodIn wsX1_isSame (wsV RX1 58 RX0 yX0_faultsFound wsX0_faultsFound) := goodIn_app (goodIn_of _ (by decide +kernel)) ggX1_isSame_X0_faultsFound
set_option maxRecDepth 20000 in
theorem ggX1_isSame_X0_memberOf : GoodIn wsX1_isSame wsX0_memberOf := goodIn_ca (goodIn_r _ [45, 46, 47, 48, 49, 9, 50, 51, 52, 26, 131, 132, 133, 134, 135, 136, 137, 138, 139, 140, 141, 142, 143, 144] (by decide +kernel) (by decide +kernel)) (goodIn_sub (fun _ h => List.mem_cons_of_mem _ (List.mem_append_right _ h)) (by decide +kernel))
set_option maxRecDepth 20000 in
theorem gX1_isSame_X0_memberOf : GoodIn wsX1_isSame (wsV RX1 61 RX0 yX0_memberOf wsX0_memberOf) := goodIn_app (goodIn_of _ (by decide +kernel)) ggX1_isSame_X0_memberOf
set_option maxRecDepth 20000 in
theorem ggX1_isSame_X0_isLeft : GoodIn wsX1_isSame wsX0_isLeft := goodIn_ca (goodIn_r _ [56, 57, 47, 48, 49, 9, 50, 51, 52, 26, 131, 132, 133, 134, 135, 136, 137, 138, 139, 140, 141, 142, 143, 144] (by decide +kernel) (by decide +kernel)) (goodIn_sub (fun _ h => List.mem_cons_of_mem _ (List.mem_append_right _ h)) (by decide +kernel))
set_option maxRecDepth 20000 in
theorem gX1_isSame_X0_isLeft : GoodIn wsX1_isSame (wsV RX1 65 RX0 yX0_isLeft wsX0_isLeft) := goodIn_app (goodIn_of _ (by decide +kernel)) ggX1_isSame_X0_isLeft
set_option maxRecDepth 20000 in
theorem ggX1_isSame_X0_grainsOf : GoodIn wsX1_isSame wsX0_grainsOf := goodIn_ca (goodIn_r _ [61, 62, 47, 48, 49, 9, 50, 51, 52, 26, 131, 132, 133, 134, 135, 136, 137, 138, 139, 140, 141, 142, 143, 144] (by decide +kernel) (by decide +kernel)) (goodIn_sub (fun _ h => List.mem_cons_of_mem _ (List.mem_append_right _ h)) (by decide +kernel))
set_option maxRecDepth 20000 in
theorem gX1_isSame_X0_grainsOf : GoodIn wsX1_isSame (wsV RX1 69 RX0 yX0_grainsOf wsX0_grainsOf) := goodIn_app (goodIn_of _ (by decide +kernel)) ggX1_isSame_X0_grainsOf
set_option maxRecDepth 20000 in
theorem ggX1_isSame_X0_excessOf : GoodIn wsX1_isSame wsX0_excessOf := goodIn_ca (goodIn_r _ [66, 31, 47, 48, 49, 9, 50, 51, 52, 26, 131, 132, 133, 134, 135, 136, 137, 138, 139, 140, 141, 142, 143, 144] (by decide +kernel) (by decide +kernel)) (goodIn_sub (fun _ h => List.mem_cons_of_mem _ (List.mem_append_right _ h)) (by decide +kernel))
set_option maxRecDepth 20000 in
theorem gX1_isSame_X0_excessOf : GoodIn wsX1_isSame (wsV RX1 72 RX0 yX0_excessOf wsX0_excessOf) := goodIn_app (goodIn_of _ (by decide +kernel)) ggX1_isSame_X0_excessOf
set_option maxRecDepth 20000 in
theorem ggX1_isSame_X0_luckOf : GoodIn wsX1_isSame wsX0_luckOf := goodIn_ca (goodIn_r _ [70, 71, 72, 73, 74, 9, 75, 51, 52, 16, 131, 132, 133, 134, 135, 136, 137, 138, 139, 140, 141, 142, 143, 144] (by decide +kernel) (by decide +kernel)) (goodIn_sub (fun _ h => List.mem_cons_of_mem _ (List.mem_append_right _ h)) (by decide +kernel))
set_option maxRecDepth 20000 in
theorem gX1_isSame_X0_luckOf : GoodIn wsX1_isSame (wsV RX1 75 RX0 yX0_luckOf wsX0_luckOf) := goodIn_app (goodIn_of _ (by decide +kernel)) ggX1_isSame_X0_luckOf
set_option maxRecDepth 20000 in
theorem ggX1_isSame_X0_arrearsOf : GoodIn wsX1_isSame wsX0_arrearsOf := goodIn_ca (goodIn_r _ [79, 80, 72, 73, 74, 9, 75, 51, 52, 16, 131, 132, 133, 134, 135, 136, 137, 138, 139, 140, 141, 142, 143, 144] (by decide +kernel) (by decide +kernel)) (goodIn_sub (fun _ h => List.mem_cons_of_mem _ (List.mem_append_right _ h)) (by decide +kernel))
set_option maxRecDepth 20000 in
theorem gX1_isSame_X0_arrearsOf : GoodIn wsX1_isSame (wsV RX1 78 RX0 yX0_arrearsOf wsX0_arrearsOf) := goodIn_app (goodIn_of _ (by decide +kernel)) ggX1_isSame_X0_arrearsOf
set_option maxRecDepth 20000 in
theorem ggX1_isSame_X0_lumpsOf : GoodIn wsX1_isSame wsX0_lumpsOf := goodIn_ca (goodIn_r _ [84, 85, 72, 73, 74, 9, 75, 51, 52, 16, 131, 132, 133, 134, 135, 136, 137, 138, 139, 140, 141, 142, 143, 144] (by decide +kernel) (by decide +kernel)) (goodIn_sub (fun _ h => List.mem_cons_of_mem _ (List.mem_append_right _ h)) (by decide +kernel))
set_option maxRecDepth 20000 in
theorem gX1_isSame_X0_lumpsOf : GoodIn wsX1_isSame (wsV RX1 81 RX0 yX0_lumpsOf wsX0_lumpsOf) := goodIn_app (goodIn_of _ (by decide +kernel)) ggX1_isSame_X0_lumpsOf
set_option maxRecDepth 20000 in
theorem ggX1_isSame_X0_dailyLoss : GoodIn wsX1_isSame wsX0_dailyLoss := goodIn_ca (goodIn_r _ [89, 72, 73, 74, 9, 75, 51, 52, 16, 90, 91, 92, 93, 85, 80, 131, 132, 133, 134, 135, 136, 137, 138, 139, 140, 141, 142, 143, 144] (by decide +kernel) (by decide +kernel)) (goodIn_sub (fun _ h => List.mem_cons_of_mem _ (List.mem_append_right _ h)) (by decide +kernel))
set_option maxRecDepth 20000 in
theorem gX1_isSame_X0_dailyLoss : GoodIn wsX1_isSame (wsV RX1 84 RX0 yX0_dailyLoss wsX0_dailyLoss) := goodIn_app (goodIn_of _ (by decide +kernel)) ggX1_isSame_X0_dailyLoss
set_option maxRecDepth 20000 in
theorem ggX1_isSame_X0_arrearsByAudit : GoodIn wsX1_isSame wsX0_arrearsByAudit := goodIn_ca (goodIn_r _ [97, 72, 73, 74, 9, 75, 51, 52, 16, 98, 99, 100, 101, 26, 46, 31, 131, 132, 133, 134, 135, 136, 137, 138, 139, 140, 141, 142, 143, 144] (by decide +kernel) (by decide +kernel)) (goodIn_sub (fun _ h => List.mem_cons_of_mem _ (List.mem_append_right _ h)) (by decide +kernel))
set_option maxRecDepth 20000 in
theorem gX1_isSame_X0_arrearsByAudit : GoodIn wsX1_isSame (wsV RX1 87 RX0 yX0_arrearsByAudit wsX0_arrearsByAudit) := goodIn_app (goodIn_of _ (by decide +kernel)) ggX1_isSame_X0_arrearsByAudit
set_option maxRecDepth 20000 in
theorem ggX1_isSame_X1_adds : GoodIn wsX1_isSame wsX1_adds := goodIn_r _ [105, 4, 126, 127, 128, 129, 130] (by decide +kernel) (by decide +kernel)
set_option maxRecDepth 20000 in
theorem gX1_isSame_X1_adds : GoodIn wsX1_isSame (wsV RX1 90 RX1 yX1_adds wsX1_adds) := goodIn_app (goodIn_of _ (by decide +kernel)) ggX1_isSame_X1_adds
set_option maxRecDepth 20000 in
theorem ggX1_isSame_X0_luckiest : GoodIn wsX1_isSame wsX0_luckiest := goodIn_r _ [109, 16, 71, 131, 132, 133, 134, 135, 136, 137, 138, 139, 140, 141, 142, 143, 144] (by decide +kernel) (by decide +kernel)
set_option maxRecDepth 20000 in
theorem gX1_isSame_X0_luckiest : GoodIn wsX1_isSame (wsV RX1 93 RX0 yX0_luckiest wsX0_luckiest) := goodIn_app (goodIn_of _ (by decide +kernel)) ggX1_isSame_X0_luckiest
set_option maxRecDepth 20000 in
theorem ggX1_isSame_X0_allArrears : GoodIn wsX1_isSame wsX0_allArrears := goodIn_r _ [113, 16, 80, 131, 132, 133, 134, 135, 136, 137, 138, 139, 140, 141, 142, 143, 144] (by decide +kernel) (by decide +kernel)
set_option maxRecDepth 20000 in
theorem gX1_isSame_X0_allArrears : GoodIn wsX1_isSame (wsV RX1 96 RX0 yX0_allArrears wsX0_allArrears) := goodIn_app (goodIn_of _ (by decide +kernel)) ggX1_isSame_X0_allArrears
set_option maxRecDepth 20000 in
theorem ggX1_isSame_X0_clearMembers : GoodIn wsX1_isSame wsX0_clearMembers := goodIn_r _ [117, 16, 80, 131, 132, 133, 134, 135, 136, 137, 138, 139, 140, 141, 142, 143, 144] (by decide +kernel) (by decide +kernel)
set_option maxRecDepth 20000 in
theorem gX1_isSame_X0_clearMembers : GoodIn wsX1_isSame (wsV RX1 99 RX0 yX0_clearMembers wsX0_clearMembers) := goodIn_app (goodIn_of _ (by decide +kernel)) ggX1_isSame_X0_clearMembers
set_option maxRecDepth 20000 in
theorem ggX1_isSame_X0_daysUntilAudit : GoodIn wsX1_isSame wsX0_daysUntilAudit := goodIn_r _ [121, 11, 131, 132, 133, 134, 135, 136, 137, 138, 139, 140, 141, 142, 143, 144] (by decide +kernel) (by decide +kernel)
set_option maxRecDepth 20000 in
theorem gX1_isSame_X0_daysUntilAudit : GoodIn wsX1_isSame (wsV RX1 102 RX0 yX0_daysUntilAudit wsX0_daysUntilAudit) := goodIn_app (goodIn_of _ (by decide +kernel)) ggX1_isSame_X0_daysUntilAudit
set_option maxRecDepth 20000 in
theorem ggX1_isSame_X0_meanLuck : GoodIn wsX1_isSame wsX0_meanLuck := goodIn_r _ [125, 16, 71, 131, 132, 133, 134, 135, 136, 137, 138, 139, 140, 141, 142, 143, 144] (by decide +kernel) (by decide +kernel)
set_option maxRecDepth 20000 in
theorem gX1_isSame_X0_meanLuck : GoodIn wsX1_isSame (wsV RX1 105 RX0 yX0_meanLuck wsX0_meanLuck) := goodIn_app (goodIn_of _ (by decide +kernel)) ggX1_isSame_X0_meanLuck
theorem dX1_isSame_0 : decode cX1_isSame 0 = .ok (.aload_n 0, 1) := by decide +kernel
theorem dX1_isSame_1 : decode cX1_isSame 1 = .ok (.getfield 15, 3) := by decide +kernel
theorem dX1_isSame_4 : decode cX1_isSame 4 = .ok (.arraylength, 1) := by decide +kernel
theorem dX1_isSame_5 : decode cX1_isSame 5 = .ok (.istore_n 2, 1) := by decide +kernel
theorem dX1_isSame_6 : decode cX1_isSame 6 = .ok (.aload_n 1, 1) := by decide +kernel
theorem dX1_isSame_7 : decode cX1_isSame 7 = .ok (.invokevirtual 44, 3) := by decide +kernel
theorem dX1_isSame_10 : decode cX1_isSame 10 = .ok (.aload_n 0, 1) := by decide +kernel
theorem dX1_isSame_11 : decode cX1_isSame 11 = .ok (.getfield 29, 3) := by decide +kernel
theorem dX1_isSame_14 : decode cX1_isSame 14 = .ok (.if_icmp .ne 56, 3) := by decide +kernel
theorem dX1_isSame_17 : decode cX1_isSame 17 = .ok (.aload_n 1, 1) := by decide +kernel
theorem dX1_isSame_18 : decode cX1_isSame 18 = .ok (.invokevirtual 48, 3) := by decide +kernel
theorem dX1_isSame_21 : decode cX1_isSame 21 = .ok (.iload_n 2, 1) := by decide +kernel
theorem dX1_isSame_22 : decode cX1_isSame 22 = .ok (.if_icmp .ne 48, 3) := by decide +kernel
theorem dX1_isSame_25 : decode cX1_isSame 25 = .ok (.aload_n 1, 1) := by decide +kernel
theorem dX1_isSame_26 : decode cX1_isSame 26 = .ok (.invokevirtual 50, 3) := by decide +kernel
theorem dX1_isSame_29 : decode cX1_isSame 29 = .ok (.aload_n 0, 1) := by decide +kernel
theorem dX1_isSame_30 : decode cX1_isSame 30 = .ok (.getfield 7, 3) := by decide +kernel
theorem dX1_isSame_33 : decode cX1_isSame 33 = .ok (.if_icmp .ne 37, 3) := by decide +kernel
theorem dX1_isSame_36 : decode cX1_isSame 36 = .ok (.aload_n 1, 1) := by decide +kernel
theorem dX1_isSame_37 : decode cX1_isSame 37 = .ok (.invokevirtual 52, 3) := by decide +kernel
theorem dX1_isSame_40 : decode cX1_isSame 40 = .ok (.aload_n 0, 1) := by decide +kernel
theorem dX1_isSame_41 : decode cX1_isSame 41 = .ok (.getfield 19, 3) := by decide +kernel
theorem dX1_isSame_44 : decode cX1_isSame 44 = .ok (.arraylength, 1) := by decide +kernel
theorem dX1_isSame_45 : decode cX1_isSame 45 = .ok (.if_icmp .ne 25, 3) := by decide +kernel
theorem dX1_isSame_48 : decode cX1_isSame 48 = .ok (.aload_n 1, 1) := by decide +kernel
theorem dX1_isSame_49 : decode cX1_isSame 49 = .ok (.invokevirtual 54, 3) := by decide +kernel
theorem dX1_isSame_52 : decode cX1_isSame 52 = .ok (.aload_n 0, 1) := by decide +kernel
theorem dX1_isSame_53 : decode cX1_isSame 53 = .ok (.invokevirtual 57, 3) := by decide +kernel
theorem dX1_isSame_56 : decode cX1_isSame 56 = .ok (.if_icmp .ne 14, 3) := by decide +kernel
theorem dX1_isSame_59 : decode cX1_isSame 59 = .ok (.aload_n 1, 1) := by decide +kernel
theorem dX1_isSame_60 : decode cX1_isSame 60 = .ok (.invokevirtual 58, 3) := by decide +kernel
theorem dX1_isSame_63 : decode cX1_isSame 63 = .ok (.aload_n 0, 1) := by decide +kernel
theorem dX1_isSame_64 : decode cX1_isSame 64 = .ok (.getfield 26, 3) := by decide +kernel
theorem dX1_isSame_67 : decode cX1_isSame 67 = .ok (.if_icmp .eq 5, 3) := by decide +kernel
theorem dX1_isSame_70 : decode cX1_isSame 70 = .ok (.iconst 0, 1) := by decide +kernel
theorem dX1_isSame_71 : decode cX1_isSame 71 = .ok (.ireturn, 1) := by decide +kernel
theorem dX1_isSame_72 : decode cX1_isSame 72 = .ok (.iconst 0, 1) := by decide +kernel
theorem dX1_isSame_73 : decode cX1_isSame 73 = .ok (.istore_n 3, 1) := by decide +kernel
theorem dX1_isSame_74 : decode cX1_isSame 74 = .ok (.iload_n 3, 1) := by decide +kernel
theorem dX1_isSame_75 : decode cX1_isSame 75 = .ok (.aload_n 0, 1) := by decide +kernel
theorem dX1_isSame_76 : decode cX1_isSame 76 = .ok (.getfield 19, 3) := by decide +kernel
theorem dX1_isSame_79 : decode cX1_isSame 79 = .ok (.arraylength, 1) := by decide +kernel
theorem dX1_isSame_80 : decode cX1_isSame 80 = .ok (.if_icmp .ge 84, 3) := by decide +kernel
theorem dX1_isSame_83 : decode cX1_isSame 83 = .ok (.aload_n 1, 1) := by decide +kernel
theorem dX1_isSame_84 : decode cX1_isSame 84 = .ok (.iload_n 3, 1) := by decide +kernel
theorem dX1_isSame_85 : decode cX1_isSame 85 = .ok (.invokevirtual 61, 3) := by decide +kernel
theorem dX1_isSame_88 : decode cX1_isSame 88 = .ok (.aload_n 0, 1) := by decide +kernel
theorem dX1_isSame_89 : decode cX1_isSame 89 = .ok (.getfield 19, 3) := by decide +kernel
theorem dX1_isSame_92 : decode cX1_isSame 92 = .ok (.iload_n 3, 1) := by decide +kernel
theorem dX1_isSame_93 : decode cX1_isSame 93 = .ok (.aaload, 1) := by decide +kernel
theorem dX1_isSame_94 : decode cX1_isSame 94 = .ok (.iconst 0, 1) := by decide +kernel
theorem dX1_isSame_95 : decode cX1_isSame 95 = .ok (.iaload, 1) := by decide +kernel
theorem dX1_isSame_96 : decode cX1_isSame 96 = .ok (.if_icmp .ne 60, 3) := by decide +kernel
theorem dX1_isSame_99 : decode cX1_isSame 99 = .ok (.aload_n 1, 1) := by decide +kernel
theorem dX1_isSame_100 : decode cX1_isSame 100 = .ok (.iload_n 3, 1) := by decide +kernel
theorem dX1_isSame_101 : decode cX1_isSame 101 = .ok (.invokevirtual 65, 3) := by decide +kernel
theorem dX1_isSame_104 : decode cX1_isSame 104 = .ok (.aload_n 0, 1) := by decide +kernel
theorem dX1_isSame_105 : decode cX1_isSame 105 = .ok (.getfield 19, 3) := by decide +kernel
theorem dX1_isSame_108 : decode cX1_isSame 108 = .ok (.iload_n 3, 1) := by decide +kernel
theorem dX1_isSame_109 : decode cX1_isSame 109 = .ok (.aaload, 1) := by decide +kernel
theorem dX1_isSame_110 : decode cX1_isSame 110 = .ok (.iconst 1, 1) := by decide +kernel
theorem dX1_isSame_111 : decode cX1_isSame 111 = .ok (.iaload, 1) := by decide +kernel
theorem dX1_isSame_112 : decode cX1_isSame 112 = .ok (.iconst 1, 1) := by decide +kernel
theorem dX1_isSame_113 : decode cX1_isSame 113 = .ok (.if_icmp .ne 7, 3) := by decide +kernel
theorem dX1_isSame_116 : decode cX1_isSame 116 = .ok (.iconst 1, 1) := by decide +kernel
theorem dX1_isSame_117 : decode cX1_isSame 117 = .ok (.goto 4, 3) := by decide +kernel
theorem dX1_isSame_120 : decode cX1_isSame 120 = .ok (.iconst 0, 1) := by decide +kernel
theorem dX1_isSame_121 : decode cX1_isSame 121 = .ok (.if_icmp .ne 35, 3) := by decide +kernel
theorem dX1_isSame_124 : decode cX1_isSame 124 = .ok (.aload_n 1, 1) := by decide +kernel
theorem dX1_isSame_125 : decode cX1_isSame 125 = .ok (.iload_n 3, 1) := by decide +kernel
theorem dX1_isSame_126 : decode cX1_isSame 126 = .ok (.invokevirtual 69, 3) := by decide +kernel
theorem dX1_isSame_129 : decode cX1_isSame 129 = .ok (.aload_n 0, 1) := by decide +kernel
theorem dX1_isSame_130 : decode cX1_isSame 130 = .ok (.getfield 19, 3) := by decide +kernel
theorem dX1_isSame_133 : decode cX1_isSame 133 = .ok (.iload_n 3, 1) := by decide +kernel
theorem dX1_isSame_134 : decode cX1_isSame 134 = .ok (.aaload, 1) := by decide +kernel
theorem dX1_isSame_135 : decode cX1_isSame 135 = .ok (.iconst 2, 1) := by decide +kernel
theorem dX1_isSame_136 : decode cX1_isSame 136 = .ok (.iaload, 1) := by decide +kernel
theorem dX1_isSame_137 : decode cX1_isSame 137 = .ok (.if_icmp .ne 19, 3) := by decide +kernel
theorem dX1_isSame_140 : decode cX1_isSame 140 = .ok (.aload_n 1, 1) := by decide +kernel
theorem dX1_isSame_141 : decode cX1_isSame 141 = .ok (.iload_n 3, 1) := by decide +kernel
theorem dX1_isSame_142 : decode cX1_isSame 142 = .ok (.invokevirtual 72, 3) := by decide +kernel
theorem dX1_isSame_145 : decode cX1_isSame 145 = .ok (.aload_n 0, 1) := by decide +kernel
theorem dX1_isSame_146 : decode cX1_isSame 146 = .ok (.getfield 19, 3) := by decide +kernel
theorem dX1_isSame_149 : decode cX1_isSame 149 = .ok (.iload_n 3, 1) := by decide +kernel
theorem dX1_isSame_150 : decode cX1_isSame 150 = .ok (.aaload, 1) := by decide +kernel
theorem dX1_isSame_151 : decode cX1_isSame 151 = .ok (.iconst 3, 1) := by decide +kernel
theorem dX1_isSame_152 : decode cX1_isSame 152 = .ok (.iaload, 1) := by decide +kernel
theorem dX1_isSame_153 : decode cX1_isSame 153 = .ok (.if_icmp .eq 5, 3) := by decide +kernel
theorem dX1_isSame_156 : decode cX1_isSame 156 = .ok (.iconst 0, 1) := by decide +kernel
theorem dX1_isSame_157 : decode cX1_isSame 157 = .ok (.ireturn, 1) := by decide +kernel
theorem dX1_isSame_158 : decode cX1_isSame 158 = .ok (.iinc 3 1, 3) := by decide +kernel
theorem dX1_isSame_161 : decode cX1_isSame 161 = .ok (.goto (-87), 3) := by decide +kernel
theorem dX1_isSame_164 : decode cX1_isSame 164 = .ok (.iconst (-1), 1) := by decide +kernel
theorem dX1_isSame_165 : decode cX1_isSame 165 = .ok (.istore_n 3, 1) := by decide +kernel
theorem dX1_isSame_166 : decode cX1_isSame 166 = .ok (.iconst 0, 1) := by decide +kernel
theorem dX1_isSame_167 : decode cX1_isSame 167 = .ok (.istore 4, 2) := by decide +kernel
theorem dX1_isSame_169 : decode cX1_isSame 169 = .ok (.iconst 0, 1) := by decide +kernel
theorem dX1_isSame_170 : decode cX1_isSame 170 = .ok (.istore 5, 2) := by decide +kernel
theorem dX1_isSame_172 : decode cX1_isSame 172 = .ok (.iconst 0, 1) := by decide +kernel
theorem dX1_isSame_173 : decode cX1_isSame 173 = .ok (.istore 6, 2) := by decide +kernel
theorem dX1_isSame_175 : decode cX1_isSame 175 = .ok (.iconst 0, 1) := by decide +kernel
theorem dX1_isSame_176 : decode cX1_isSame 176 = .ok (.istore 7, 2) := by decide +kernel
theorem dX1_isSame_178 : decode cX1_isSame 178 = .ok (.iload 7, 2) := by decide +kernel
theorem dX1_isSame_180 : decode cX1_isSame 180 = .ok (.iload_n 2, 1) := by decide +kernel
theorem dX1_isSame_181 : decode cX1_isSame 181 = .ok (.if_icmp .ge 174, 3) := by decide +kernel
theorem dX1_isSame_184 : decode cX1_isSame 184 = .ok (.aload_n 0, 1) := by decide +kernel
theorem dX1_isSame_185 : decode cX1_isSame 185 = .ok (.getfield 15, 3) := by decide +kernel
theorem dX1_isSame_188 : decode cX1_isSame 188 = .ok (.iload 7, 2) := by decide +kernel
theorem dX1_isSame_190 : decode cX1_isSame 190 = .ok (.aaload, 1) := by decide +kernel
theorem dX1_isSame_191 : decode cX1_isSame 191 = .ok (.astore 8, 2) := by decide +kernel
theorem dX1_isSame_193 : decode cX1_isSame 193 = .ok (.aload_n 1, 1) := by decide +kernel
theorem dX1_isSame_194 : decode cX1_isSame 194 = .ok (.iload 7, 2) := by decide +kernel
theorem dX1_isSame_196 : decode cX1_isSame 196 = .ok (.invokevirtual 75, 3) := by decide +kernel
theorem dX1_isSame_199 : decode cX1_isSame 199 = .ok (.aload 8, 2) := by decide +kernel
theorem dX1_isSame_201 : decode cX1_isSame 201 = .ok (.iconst 0, 1) := by decide +kernel
theorem dX1_isSame_202 : decode cX1_isSame 202 = .ok (.iaload, 1) := by decide +kernel
theorem dX1_isSame_203 : decode cX1_isSame 203 = .ok (.if_icmp .ne 87, 3) := by decide +kernel
theorem dX1_isSame_206 : decode cX1_isSame 206 = .ok (.aload_n 1, 1) := by decide +kernel
theorem dX1_isSame_207 : decode cX1_isSame 207 = .ok (.iload 7, 2) := by decide +kernel
theorem dX1_isSame_209 : decode cX1_isSame 209 = .ok (.invokevirtual 78, 3) := by decide +kernel
theorem dX1_isSame_212 : decode cX1_isSame 212 = .ok (.aload 8, 2) := by decide +kernel
theorem dX1_isSame_214 : decode cX1_isSame 214 = .ok (.iconst 1, 1) := by decide +kernel
theorem dX1_isSame_215 : decode cX1_isSame 215 = .ok (.iaload, 1) := by decide +kernel
theorem dX1_isSame_216 : decode cX1_isSame 216 = .ok (.if_icmp .ne 74, 3) := by decide +kernel
theorem dX1_isSame_219 : decode cX1_isSame 219 = .ok (.aload_n 1, 1) := by decide +kernel
theorem dX1_isSame_220 : decode cX1_isSame 220 = .ok (.iload 7, 2) := by decide +kernel
theorem dX1_isSame_222 : decode cX1_isSame 222 = .ok (.invokevirtual 81, 3) := by decide +kernel
theorem dX1_isSame_225 : decode cX1_isSame 225 = .ok (.aload 8, 2) := by decide +kernel
theorem dX1_isSame_227 : decode cX1_isSame 227 = .ok (.iconst 2, 1) := by decide +kernel
theorem dX1_isSame_228 : decode cX1_isSame 228 = .ok (.iaload, 1) := by decide +kernel
theorem dX1_isSame_229 : decode cX1_isSame 229 = .ok (.if_icmp .ne 61, 3) := by decide +kernel
theorem dX1_isSame_232 : decode cX1_isSame 232 = .ok (.aload_n 1, 1) := by decide +kernel
theorem dX1_isSame_233 : decode cX1_isSame 233 = .ok (.iload 7, 2) := by decide +kernel
theorem dX1_isSame_235 : decode cX1_isSame 235 = .ok (.invokevirtual 84, 3) := by decide +kernel
theorem dX1_isSame_238 : decode cX1_isSame 238 = .ok (.aload 8, 2) := by decide +kernel
theorem dX1_isSame_240 : decode cX1_isSame 240 = .ok (.iconst 2, 1) := by decide +kernel
theorem dX1_isSame_241 : decode cX1_isSame 241 = .ok (.iaload, 1) := by decide +kernel
theorem dX1_isSame_242 : decode cX1_isSame 242 = .ok (.ifCond .le 7, 3) := by decide +kernel
theorem dX1_isSame_245 : decode cX1_isSame 245 = .ok (.iconst 0, 1) := by decide +kernel
theorem dX1_isSame_246 : decode cX1_isSame 246 = .ok (.goto 26, 3) := by decide +kernel
theorem dX1_isSame_249 : decode cX1_isSame 249 = .ok (.aload 8, 2) := by decide +kernel
theorem dX1_isSame_251 : decode cX1_isSame 251 = .ok (.iconst 1, 1) := by decide +kernel
theorem dX1_isSame_252 : decode cX1_isSame 252 = .ok (.iaload, 1) := by decide +kernel
theorem dX1_isSame_253 : decode cX1_isSame 253 = .ok (.bipush 10, 2) := by decide +kernel
theorem dX1_isSame_255 : decode cX1_isSame 255 = .ok (.idiv, 1) := by decide +kernel
theorem dX1_isSame_256 : decode cX1_isSame 256 = .ok (.aload 8, 2) := by decide +kernel
theorem dX1_isSame_258 : decode cX1_isSame 258 = .ok (.iconst 1, 1) := by decide +kernel
theorem dX1_isSame_259 : decode cX1_isSame 259 = .ok (.iaload, 1) := by decide +kernel
theorem dX1_isSame_260 : decode cX1_isSame 260 = .ok (.bipush 10, 2) := by decide +kernel
theorem dX1_isSame_262 : decode cX1_isSame 262 = .ok (.irem, 1) := by decide +kernel
theorem dX1_isSame_263 : decode cX1_isSame 263 = .ok (.ifCond .le 7, 3) := by decide +kernel
theorem dX1_isSame_266 : decode cX1_isSame 266 = .ok (.iconst 1, 1) := by decide +kernel
theorem dX1_isSame_267 : decode cX1_isSame 267 = .ok (.goto 4, 3) := by decide +kernel
theorem dX1_isSame_270 : decode cX1_isSame 270 = .ok (.iconst 0, 1) := by decide +kernel
theorem dX1_isSame_271 : decode cX1_isSame 271 = .ok (.iadd, 1) := by decide +kernel
theorem dX1_isSame_272 : decode cX1_isSame 272 = .ok (.if_icmp .ne 18, 3) := by decide +kernel
theorem dX1_isSame_275 : decode cX1_isSame 275 = .ok (.aload_n 1, 1) := by decide +kernel
theorem dX1_isSame_276 : decode cX1_isSame 276 = .ok (.iload 7, 2) := by decide +kernel
theorem dX1_isSame_278 : decode cX1_isSame 278 = .ok (.invokevirtual 87, 3) := by decide +kernel
theorem dX1_isSame_281 : decode cX1_isSame 281 = .ok (.aload_n 0, 1) := by decide +kernel
theorem dX1_isSame_282 : decode cX1_isSame 282 = .ok (.iload 7, 2) := by decide +kernel
theorem dX1_isSame_284 : decode cX1_isSame 284 = .ok (.invokevirtual 90, 3) := by decide +kernel
theorem dX1_isSame_287 : decode cX1_isSame 287 = .ok (.if_icmp .eq 5, 3) := by decide +kernel
theorem dX1_isSame_290 : decode cX1_isSame 290 = .ok (.iconst 0, 1) := by decide +kernel
theorem dX1_isSame_291 : decode cX1_isSame 291 = .ok (.ireturn, 1) := by decide +kernel
theorem dX1_isSame_292 : decode cX1_isSame 292 = .ok (.iload_n 3, 1) := by decide +kernel
theorem dX1_isSame_293 : decode cX1_isSame 293 = .ok (.ifCond .lt 18, 3) := by decide +kernel
theorem dX1_isSame_296 : decode cX1_isSame 296 = .ok (.aload 8, 2) := by decide +kernel
theorem dX1_isSame_298 : decode cX1_isSame 298 = .ok (.iconst 0, 1) := by decide +kernel
theorem dX1_isSame_299 : decode cX1_isSame 299 = .ok (.iaload, 1) := by decide +kernel
theorem dX1_isSame_300 : decode cX1_isSame 300 = .ok (.aload_n 0, 1) := by decide +kernel
theorem dX1_isSame_301 : decode cX1_isSame 301 = .ok (.getfield 15, 3) := by decide +kernel
theorem dX1_isSame_304 : decode cX1_isSame 304 = .ok (.iload_n 3, 1) := by decide +kernel
theorem dX1_isSame_305 : decode cX1_isSame 305 = .ok (.aaload, 1) := by decide +kernel
theorem dX1_isSame_306 : decode cX1_isSame 306 = .ok (.iconst 0, 1) := by decide +kernel
theorem dX1_isSame_307 : decode cX1_isSame 307 = .ok (.iaload, 1) := by decide +kernel
theorem dX1_isSame_308 : decode cX1_isSame 308 = .ok (.if_icmp .le 6, 3) := by decide +kernel
theorem dX1_isSame_311 : decode cX1_isSame 311 = .ok (.iload 7, 2) := by decide +kernel
theorem dX1_isSame_313 : decode cX1_isSame 313 = .ok (.istore_n 3, 1) := by decide +kernel
theorem dX1_isSame_314 : decode cX1_isSame 314 = .ok (.iload 4, 2) := by decide +kernel
theorem dX1_isSame_316 : decode cX1_isSame 316 = .ok (.aload 8, 2) := by decide +kernel
theorem dX1_isSame_318 : decode cX1_isSame 318 = .ok (.iconst 1, 1) := by decide +kernel
theorem dX1_isSame_319 : decode cX1_isSame 319 = .ok (.iaload, 1) := by decide +kernel
theorem dX1_isSame_320 : decode cX1_isSame 320 = .ok (.iadd, 1) := by decide +kernel
theorem dX1_isSame_321 : decode cX1_isSame 321 = .ok (.istore 4, 2) := by decide +kernel
theorem dX1_isSame_323 : decode cX1_isSame 323 = .ok (.iload 5, 2) := by decide +kernel
theorem dX1_isSame_325 : decode cX1_isSame 325 = .ok (.aload 8, 2) := by decide +kernel
theorem dX1_isSame_327 : decode cX1_isSame 327 = .ok (.iconst 1, 1) := by decide +kernel
theorem dX1_isSame_328 : decode cX1_isSame 328 = .ok (.iaload, 1) := by decide +kernel
theorem dX1_isSame_329 : decode cX1_isSame 329 = .ok (.ifCond .ne 7, 3) := by decide +kernel
theorem dX1_isSame_332 : decode cX1_isSame 332 = .ok (.iconst 1, 1) := by decide +kernel
theorem dX1_isSame_333 : decode cX1_isSame 333 = .ok (.goto 4, 3) := by decide +kernel
theorem dX1_isSame_336 : decode cX1_isSame 336 = .ok (.iconst 0, 1) := by decide +kernel
theorem dX1_isSame_337 : decode cX1_isSame 337 = .ok (.iadd, 1) := by decide +kernel
theorem dX1_isSame_338 : decode cX1_isSame 338 = .ok (.istore 5, 2) := by decide +kernel
theorem dX1_isSame_340 : decode cX1_isSame 340 = .ok (.iload 6, 2) := by decide +kernel
theorem dX1_isSame_342 : decode cX1_isSame 342 = .ok (.aload 8, 2) := by decide +kernel
theorem dX1_isSame_344 : decode cX1_isSame 344 = .ok (.iconst 0, 1) := by decide +kernel
theorem dX1_isSame_345 : decode cX1_isSame 345 = .ok (.iaload, 1) := by decide +kernel
theorem dX1_isSame_346 : decode cX1_isSame 346 = .ok (.iadd, 1) := by decide +kernel
theorem dX1_isSame_347 : decode cX1_isSame 347 = .ok (.istore 6, 2) := by decide +kernel
theorem dX1_isSame_349 : decode cX1_isSame 349 = .ok (.iinc 7 1, 3) := by decide +kernel
theorem dX1_isSame_352 : decode cX1_isSame 352 = .ok (.goto (-174), 3) := by decide +kernel
theorem dX1_isSame_355 : decode cX1_isSame 355 = .ok (.iconst 0, 1) := by decide +kernel
theorem dX1_isSame_356 : decode cX1_isSame 356 = .ok (.istore 7, 2) := by decide +kernel
end
section
theorem dX1_isSame_358 : decode cX1_isSame 358 = .ok (.aload_n 0, 1) := by decide +kernel
theorem dX1_isSame_359 : decode cX1_isSame 359 = .ok (.getfield 29, 3) := by decide +kernel
theorem dX1_isSame_362 : decode cX1_isSame 362 = .ok (.iload 7, 2) := by decide +kernel
theorem dX1_isSame_364 : decode cX1_isSame 364 = .ok (.iadd, 1) := by decide +kernel
theorem dX1_isSame_365 : decode cX1_isSame 365 = .ok (.bipush 7, 2) := by decide +kernel
theorem dX1_isSame_367 : decode cX1_isSame 367 = .ok (.irem, 1) := by decide +kernel
theorem dX1_isSame_368 : decode cX1_isSame 368 = .ok (.bipush 6, 2) := by decide +kernel
theorem dX1_isSame_370 : decode cX1_isSame 370 = .ok (.if_icmp .eq 9, 3) := by decide +kernel
theorem dX1_isSame_373 : decode cX1_isSame 373 = .ok (.iinc 7 1, 3) := by decide +kernel
theorem dX1_isSame_376 : decode cX1_isSame 376 = .ok (.goto (-18), 3) := by decide +kernel
theorem dX1_isSame_379 : decode cX1_isSame 379 = .ok (.aload_n 1, 1) := by decide +kernel
theorem dX1_isSame_380 : decode cX1_isSame 380 = .ok (.invokevirtual 93, 3) := by decide +kernel
theorem dX1_isSame_383 : decode cX1_isSame 383 = .ok (.iload_n 3, 1) := by decide +kernel
theorem dX1_isSame_384 : decode cX1_isSame 384 = .ok (.if_icmp .ne 56, 3) := by decide +kernel
theorem dX1_isSame_387 : decode cX1_isSame 387 = .ok (.aload_n 1, 1) := by decide +kernel
theorem dX1_isSame_388 : decode cX1_isSame 388 = .ok (.invokevirtual 96, 3) := by decide +kernel
theorem dX1_isSame_391 : decode cX1_isSame 391 = .ok (.iload 4, 2) := by decide +kernel
theorem dX1_isSame_393 : decode cX1_isSame 393 = .ok (.if_icmp .ne 47, 3) := by decide +kernel
theorem dX1_isSame_396 : decode cX1_isSame 396 = .ok (.aload_n 1, 1) := by decide +kernel
theorem dX1_isSame_397 : decode cX1_isSame 397 = .ok (.invokevirtual 99, 3) := by decide +kernel
theorem dX1_isSame_400 : decode cX1_isSame 400 = .ok (.iload 5, 2) := by decide +kernel
theorem dX1_isSame_402 : decode cX1_isSame 402 = .ok (.if_icmp .ne 38, 3) := by decide +kernel
theorem dX1_isSame_405 : decode cX1_isSame 405 = .ok (.aload_n 1, 1) := by decide +kernel
theorem dX1_isSame_406 : decode cX1_isSame 406 = .ok (.invokevirtual 102, 3) := by decide +kernel
theorem dX1_isSame_409 : decode cX1_isSame 409 = .ok (.iload 7, 2) := by decide +kernel
theorem dX1_isSame_411 : decode cX1_isSame 411 = .ok (.if_icmp .ne 29, 3) := by decide +kernel
theorem dX1_isSame_414 : decode cX1_isSame 414 = .ok (.aload_n 1, 1) := by decide +kernel
theorem dX1_isSame_415 : decode cX1_isSame 415 = .ok (.invokevirtual 105, 3) := by decide +kernel
theorem dX1_isSame_418 : decode cX1_isSame 418 = .ok (.iload_n 2, 1) := by decide +kernel
theorem dX1_isSame_419 : decode cX1_isSame 419 = .ok (.ifCond .ne 7, 3) := by decide +kernel
theorem dX1_isSame_422 : decode cX1_isSame 422 = .ok (.dconst 0, 1) := by decide +kernel
theorem dX1_isSame_423 : decode cX1_isSame 423 = .ok (.goto 9, 3) := by decide +kernel
theorem dX1_isSame_426 : decode cX1_isSame 426 = .ok (.iload 6, 2) := by decide +kernel
theorem dX1_isSame_428 : decode cX1_isSame 428 = .ok (.i2d, 1) := by decide +kernel
theorem dX1_isSame_429 : decode cX1_isSame 429 = .ok (.iload_n 2, 1) := by decide +kernel
theorem dX1_isSame_430 : decode cX1_isSame 430 = .ok (.i2d, 1) := by decide +kernel
theorem dX1_isSame_431 : decode cX1_isSame 431 = .ok (.ddiv, 1) := by decide +kernel
theorem dX1_isSame_432 : decode cX1_isSame 432 = .ok (.dcmp .l, 1) := by decide +kernel
theorem dX1_isSame_433 : decode cX1_isSame 433 = .ok (.ifCond .ne 7, 3) := by decide +kernel
theorem dX1_isSame_436 : decode cX1_isSame 436 = .ok (.iconst 1, 1) := by decide +kernel
theorem dX1_isSame_437 : decode cX1_isSame 437 = .ok (.goto 4, 3) := by decide +kernel
theorem dX1_isSame_440 : decode cX1_isSame 440 = .ok (.iconst 0, 1) := by decide +kernel
theorem dX1_isSame_441 : decode cX1_isSame 441 = .ok (.ireturn, 1) := by decide +kernel
theorem dJ9_max_7cf53_0 : decode cJ9_max_7cf53 0 = .ok (.iload_n 0, 1) := by decide +kernel
theorem dJ9_max_7cf53_1 : decode cJ9_max_7cf53 1 = .ok (.iload_n 1, 1) := by decide +kernel
theorem dJ9_max_7cf53_2 : decode cJ9_max_7cf53 2 = .ok (.if_icmp .lt 7, 3) := by decide +kernel
theorem dJ9_max_7cf53_5 : decode cJ9_max_7cf53 5 = .ok (.iload_n 0, 1) := by decide +kernel
theorem dJ9_max_7cf53_6 : decode cJ9_max_7cf53 6 = .ok (.goto 4, 3) := by decide +kernel
theorem dJ9_max_7cf53_9 : decode cJ9_max_7cf53 9 = .ok (.iload_n 1, 1) := by decide +kernel
theorem dJ9_max_7cf53_10 : decode cJ9_max_7cf53 10 = .ok (.ireturn, 1) := by decide +kernel
theorem dJ9_min_7cf53_0 : decode cJ9_min_7cf53 0 = .ok (.iload_n 0, 1) := by decide +kernel
theorem dJ9_min_7cf53_1 : decode cJ9_min_7cf53 1 = .ok (.iload_n 1, 1) := by decide +kernel
theorem dJ9_min_7cf53_2 : decode cJ9_min_7cf53 2 = .ok (.if_icmp .gt 7, 3) := by decide +kernel
theorem dJ9_min_7cf53_5 : decode cJ9_min_7cf53 5 = .ok (.iload_n 0, 1) := by decide +kernel
theorem dJ9_min_7cf53_6 : decode cJ9_min_7cf53 6 = .ok (.goto 4, 3) := by decide +kernel
theorem dJ9_min_7cf53_9 : decode cJ9_min_7cf53 9 = .ok (.iload_n 1, 1) := by decide +kernel
theorem dJ9_min_7cf53_10 : decode cJ9_min_7cf53 10 = .ok (.ireturn, 1) := by decide +kernel
theorem dL_below_0 : decode cL_below 0 = .ok (.iload_n 0, 1) := by decide +kernel
theorem dL_below_1 : decode cL_below 1 = .ok (.ldc 7, 2) := by decide +kernel
theorem dL_below_3 : decode cL_below 3 = .ok (.iand, 1) := by decide +kernel
theorem dL_below_4 : decode cL_below 4 = .ok (.iload_n 1, 1) := by decide +kernel
theorem dL_below_5 : decode cL_below 5 = .ok (.irem, 1) := by decide +kernel
theorem dL_below_6 : decode cL_below 6 = .ok (.ireturn, 1) := by decide +kernel
theorem dL_cell_0 : decode cL_cell 0 = .ok (.iload_n 1, 1) := by decide +kernel
theorem dL_cell_1 : decode cL_cell 1 = .ok (.aload_n 0, 1) := by decide +kernel
theorem dL_cell_2 : decode cL_cell 2 = .ok (.arraylength, 1) := by decide +kernel
theorem dL_cell_3 : decode cL_cell 3 = .ok (.if_icmp .ge 9, 3) := by decide +kernel
theorem dL_cell_6 : decode cL_cell 6 = .ok (.aload_n 0, 1) := by decide +kernel
theorem dL_cell_7 : decode cL_cell 7 = .ok (.iload_n 1, 1) := by decide +kernel
theorem dL_cell_8 : decode cL_cell 8 = .ok (.iaload, 1) := by decide +kernel
theorem dL_cell_9 : decode cL_cell 9 = .ok (.goto 9, 3) := by decide +kernel
theorem dL_cell_12 : decode cL_cell 12 = .ok (.ldc 8, 2) := by decide +kernel
theorem dL_cell_14 : decode cL_cell 14 = .ok (.iload_n 1, 1) := by decide +kernel
theorem dL_cell_15 : decode cL_cell 15 = .ok (.iconst 3, 1) := by decide +kernel
theorem dL_cell_16 : decode cL_cell 16 = .ok (.iadd, 1) := by decide +kernel
theorem dL_cell_17 : decode cL_cell 17 = .ok (.imul, 1) := by decide +kernel
theorem dL_cell_18 : decode cL_cell 18 = .ok (.ireturn, 1) := by decide +kernel
set_option maxRecDepth 20000 in
theorem ggL_act_L_below : GoodIn wsL_act wsL_below := goodIn_r _ [12, 13] (by decide +kernel) (by decide +kernel)
set_option maxRecDepth 20000 in
theorem gL_act_L_below : GoodIn wsL_act (va_wsS RL 15 yL_below wsL_below) := goodIn_app (goodIn_of _ (by decide +kernel)) ggL_act_L_below
set_option maxRecDepth 20000 in
theorem ggL_act_X1_with : GoodIn wsL_act wsX1_with := goodIn_r _ [17, 18] (by decide +kernel) (by decide +kernel)
set_option maxRecDepth 20000 in
theorem gL_act_X1_with : GoodIn wsL_act (va_wsS RL 21 yX1_with wsX1_with) := goodIn_app (goodIn_of _ (by decide +kernel)) ggL_act_X1_with
set_option maxRecDepth 20000 in
theorem ggL_act_X0_join : GoodIn wsL_act wsX0_join := goodIn_ca (goodIn_r _ [23, 24, 25, 26, 27, 28, 29, 160, 161, 162, 163, 164, 165, 166, 167, 168, 169, 170, 171, 172, 173] (by decide +kernel) (by decide +kernel)) (goodIn_sub (fun _ h => List.mem_cons_of_mem _ (List.mem_append_left _ (List.mem_append_left _ (List.mem_append_right _ h)))) (by decide +kernel))
set_option maxRecDepth 20000 in
theorem gL_act_X0_join : GoodIn wsL_act (wsV RL 25 RX0 yX0_join wsX0_join) := goodIn_app (goodIn_of _ (by decide +kernel)) ggL_act_X0_join
set_option maxRecDepth 20000 in
theorem ggL_act_X0_spill : GoodIn wsL_act wsX0_spill := goodIn_ca (goodIn_ca (goodIn_ca (goodIn_r _ [33, 34, 28, 35, 36, 37, 22, 38, 39, 40, 26, 41, 42, 43, 44, 45, 46, 47, 48, 49, 24, 25, 50, 51, 52, 53, 54, 5, 6, 7, 160, 161, 162, 163, 164, 165, 166, 167, 168, 169, 170, 171, 172, 173] (by decide +kernel) (by decide +kernel)) (goodIn_sub (fun _ h => List.mem_cons_of_mem _ (List.mem_append_left _ (List.mem_append_right _ h))) (by decide +kernel))) (goodIn_sub (fun _ h => List.mem_cons_of_mem _ (List.mem_append_right _ h)) (by decide +kernel))) (goodIn_sub (fun _ h => List.mem_cons_of_mem _ (List.mem_append_left _ (List.mem_append_left _ (List.mem_append_right _ h)))) (by decide +kernel))
set_option maxRecDepth 20000 in
theorem gL_act_X0_spill : GoodIn wsL_act (wsV RL 40 RX0 yX0_spill wsX0_spill) := goodIn_app (goodIn_of _ (by decide +kernel)) ggL_act_X0_spill
set_option maxRecDepth 20000 in
theorem ggL_act_X0_throwSalt : GoodIn wsL_act wsX0_throwSalt := goodIn_ca (goodIn_ca (goodIn_ca (goodIn_r _ [58, 34, 35, 36, 37, 22, 38, 39, 40, 26, 59, 60, 61, 41, 42, 43, 44, 45, 46, 47, 48, 49, 24, 25, 62, 63, 64, 65, 66, 67, 68, 69, 70, 28, 71, 72, 6, 73, 74, 75, 76, 77, 78, 79, 80, 81, 82, 83, 84, 85, 160, 161, 162, 163, 164, 165, 166, 167, 168, 169, 170, 171, 172, 173] (by decide +kernel) (by decide +kernel)) (goodIn_sub (fun _ h => List.mem_cons_of_mem _ (List.mem_append_left _ (List.mem_append_right _ h))) (by decide +kernel))) (goodIn_sub (fun _ h => List.mem_cons_of_mem _ (List.mem_append_right _ h)) (by decide +kernel))) (goodIn_sub (fun _ h => List.mem_cons_of_mem _ (List.mem_append_left _ (List.mem_append_left _ (List.mem_append_right _ h)))) (by decide +kernel))
set_option maxRecDepth 20000 in
theorem gL_act_X0_throwSalt : GoodIn wsL_act (wsV RL 46 RX0 yX0_throwSalt wsX0_throwSalt) := goodIn_app (goodIn_of _ (by decide +kernel)) ggL_act_X0_throwSalt
set_option maxRecDepth 20000 in
theorem ggL_act_X1_cast : GoodIn wsL_act wsX1_cast := goodIn_r _ [89, 90, 91, 92, 2, 93, 15, 16, 17, 18, 155, 156, 157, 158, 159] (by decide +kernel) (by decide +kernel)
set_option maxRecDepth 20000 in
theorem gL_act_X1_cast : GoodIn wsL_act (wsV RL 50 RX1 yX1_cast wsX1_cast) := goodIn_app (goodIn_of _ (by decide +kernel)) ggL_act_X1_cast
set_option maxRecDepth 20000 in
theorem ggL_act_X0_doPenance : GoodIn wsL_act wsX0_doPenance := goodIn_ca (goodIn_ca (goodIn_r _ [97, 29, 35, 36, 37, 22, 38, 39, 40, 26, 41, 42, 43, 44, 45, 98, 99, 100, 101, 54, 5, 6, 7, 160, 161, 162, 163, 164, 165, 166, 167, 168, 169, 170, 171, 172, 173] (by decide +kernel) (by decide +kernel)) (goodIn_sub (fun _ h => List.mem_cons_of_mem _ (List.mem_append_left _ (List.mem_append_right _ h))) (by decide +kernel))) (goodIn_sub (fun _ h => List.mem_cons_of_mem _ (List.mem_append_right _ h)) (by decide +kernel))
set_option maxRecDepth 20000 in
theorem gL_act_X0_doPenance : GoodIn wsL_act (wsV RL 53 RX0 yX0_doPenance wsX0_doPenance) := goodIn_app (goodIn_of _ (by decide +kernel)) ggL_act_X0_doPenance
set_option maxRecDepth 20000 in
theorem ggL_act_X0_bringSalt : GoodIn wsL_act wsX0_bringSalt := goodIn_ca (goodIn_r _ [105, 34, 54, 5, 6, 7, 41, 42, 22, 43, 44, 45, 160, 161, 162, 163, 164, 165, 166, 167, 168, 169, 170, 171, 172, 173] (by decide +kernel) (by decide +kernel)) (goodIn_sub (fun _ h => List.mem_cons_of_mem _ (List.mem_append_right _ h)) (by decide +kernel))
set_option maxRecDepth 20000 in
theorem gL_act_X0_bringSalt : GoodIn wsL_act (wsV RL 56 RX0 yX0_bringSalt wsX0_bringSalt) := goodIn_app (goodIn_of _ (by decide +kernel)) ggL_act_X0_bringSalt
set_option maxRecDepth 20000 in
theorem ggL_act_X0_audit : GoodIn wsL_act wsX0_audit := goodIn_r _ [109, 26, 66, 110, 111, 112, 113, 22, 114, 85, 115, 116, 117, 118, 82, 50, 51, 52, 53, 28, 54, 5, 6, 7, 160, 161, 162, 163, 164, 165, 166, 167, 168, 169, 170, 171, 172, 173] (by decide +kernel) (by decide +kernel)
set_option maxRecDepth 20000 in
theorem gL_act_X0_audit : GoodIn wsL_act (wsV RL 60 RX0 yX0_audit wsX0_audit) := goodIn_app (goodIn_of _ (by decide +kernel)) ggL_act_X0_audit
set_option maxRecDepth 20000 in
theorem ggL_act_X1_audit : GoodIn wsL_act wsX1_audit := goodIn_r _ [122, 92, 90, 18, 123, 155, 156, 157, 158, 159] (by decide +kernel) (by decide +kernel)
set_option maxRecDepth 20000 in
theorem gL_act_X1_audit : GoodIn wsL_act (wsV RL 63 RX1 yX1_audit wsX1_audit) := goodIn_app (goodIn_of _ (by decide +kernel)) ggL_act_X1_audit
set_option maxRecDepth 20000 in
theorem ggL_act_X0_pass : GoodIn wsL_act wsX0_pass := goodIn_ca (goodIn_r _ [127, 41, 42, 22, 43, 44, 45, 128, 129, 130, 131, 132, 26, 133, 134, 135, 136, 107, 108, 109, 66, 110, 111, 112, 113, 114, 85, 115, 116, 117, 118, 82, 50, 51, 52, 53, 28, 54, 5, 6, 7, 137, 138, 139, 140, 29, 27, 71, 72, 73, 74, 75, 76, 77, 141, 142, 143, 144, 160, 161, 162, 163, 164, 165, 166, 167, 168, 169, 170, 171, 172, 173] (by decide +kernel) (by decide +kernel)) (goodIn_sub (fun _ h => List.mem_cons_of_mem _ (List.mem_append_right _ h)) (by decide +kernel))
set_option maxRecDepth 20000 in
theorem gL_act_X0_pass : GoodIn wsL_act (wsV RL 64 RX0 yX0_pass wsX0_pass) := goodIn_app (goodIn_of _ (by decide +kernel)) ggL_act_X0_pass
set_option maxRecDepth 20000 in
theorem ggL_act_X1_behind : GoodIn wsL_act wsX1_behind := goodIn_r _ [148, 149, 150, 151, 16, 152, 153, 90, 154, 120, 121, 122, 92, 18, 123, 155, 156, 157, 158, 159] (by decide +kernel) (by decide +kernel)
set_option maxRecDepth 20000 in
theorem gL_act_X1_behind : GoodIn wsL_act (wsV RL 67 RX1 yX1_behind wsX1_behind) := goodIn_app (goodIn_of _ (by decide +kernel)) ggL_act_X1_behind
theorem dL_act_0 : decode cL_act 0 = .ok (.aload_n 1, 1) := by decide +kernel
theorem dL_act_1 : decode cL_act 1 = .ok (.getfield 9, 3) := by decide +kernel
theorem dL_act_4 : decode cL_act 4 = .ok (.arraylength, 1) := by decide +kernel
theorem dL_act_5 : decode cL_act 5 = .ok (.istore_n 3, 1) := by decide +kernel
theorem dL_act_6 : decode cL_act 6 = .ok (.iload_n 2, 1) := by decide +kernel
theorem dL_act_7 : decode cL_act 7 = .ok (.bipush 9, 2) := by decide +kernel
theorem dL_act_9 : decode cL_act 9 = .ok (.ishr, 1) := by decide +kernel
theorem dL_act_10 : decode cL_act 10 = .ok (.bipush 20, 2) := by decide +kernel
theorem dL_act_12 : decode cL_act 12 = .ok (.invokestatic 15, 3) := by decide +kernel
theorem dL_act_15 : decode cL_act 15 = .ok (.istore 4, 2) := by decide +kernel
theorem dL_act_17 : decode cL_act 17 = .ok (.iload_n 3, 1) := by decide +kernel
theorem dL_act_18 : decode cL_act 18 = .ok (.ifCond .eq 8, 3) := by decide +kernel
theorem dL_act_21 : decode cL_act 21 = .ok (.iload 4, 2) := by decide +kernel
theorem dL_act_23 : decode cL_act 23 = .ok (.ifCond .ne 52, 3) := by decide +kernel
theorem dL_act_26 : decode cL_act 26 = .ok (.iload_n 3, 1) := by decide +kernel
theorem dL_act_27 : decode cL_act 27 = .ok (.bipush 8, 2) := by decide +kernel
theorem dL_act_29 : decode cL_act 29 = .ok (.if_icmp .ne 5, 3) := by decide +kernel
theorem dL_act_32 : decode cL_act 32 = .ok (.iconst 1, 1) := by decide +kernel
theorem dL_act_33 : decode cL_act 33 = .ok (.ireturn, 1) := by decide +kernel
theorem dL_act_34 : decode cL_act 34 = .ok (.aload_n 1, 1) := by decide +kernel
theorem dL_act_35 : decode cL_act 35 = .ok (.aload_n 1, 1) := by decide +kernel
theorem dL_act_36 : decode cL_act 36 = .ok (.getfield 9, 3) := by decide +kernel
theorem dL_act_39 : decode cL_act 39 = .ok (.iconst 3, 1) := by decide +kernel
theorem dL_act_40 : decode cL_act 40 = .ok (.newarray .int, 2) := by decide +kernel
theorem dL_act_42 : decode cL_act 42 = .ok (.dup, 1) := by decide +kernel
theorem dL_act_43 : decode cL_act 43 = .ok (.iconst 0, 1) := by decide +kernel
theorem dL_act_44 : decode cL_act 44 = .ok (.bipush 50, 2) := by decide +kernel
theorem dL_act_46 : decode cL_act 46 = .ok (.iastore, 1) := by decide +kernel
theorem dL_act_47 : decode cL_act 47 = .ok (.dup, 1) := by decide +kernel
theorem dL_act_48 : decode cL_act 48 = .ok (.iconst 1, 1) := by decide +kernel
theorem dL_act_49 : decode cL_act 49 = .ok (.iconst 0, 1) := by decide +kernel
theorem dL_act_50 : decode cL_act 50 = .ok (.iastore, 1) := by decide +kernel
theorem dL_act_51 : decode cL_act 51 = .ok (.dup, 1) := by decide +kernel
theorem dL_act_52 : decode cL_act 52 = .ok (.iconst 2, 1) := by decide +kernel
theorem dL_act_53 : decode cL_act 53 = .ok (.iconst 0, 1) := by decide +kernel
theorem dL_act_54 : decode cL_act 54 = .ok (.iastore, 1) := by decide +kernel
theorem dL_act_55 : decode cL_act 55 = .ok (.invokestatic 21, 3) := by decide +kernel
theorem dL_act_58 : decode cL_act 58 = .ok (.putfield 9, 3) := by decide +kernel
theorem dL_act_61 : decode cL_act 61 = .ok (.aload_n 0, 1) := by decide +kernel
theorem dL_act_62 : decode cL_act 62 = .ok (.invokevirtual 25, 3) := by decide +kernel
theorem dL_act_65 : decode cL_act 65 = .ok (.iload_n 3, 1) := by decide +kernel
theorem dL_act_66 : decode cL_act 66 = .ok (.if_icmp .ne 7, 3) := by decide +kernel
theorem dL_act_69 : decode cL_act 69 = .ok (.iconst 1, 1) := by decide +kernel
theorem dL_act_70 : decode cL_act 70 = .ok (.goto 4, 3) := by decide +kernel
theorem dL_act_73 : decode cL_act 73 = .ok (.iconst 0, 1) := by decide +kernel
theorem dL_act_74 : decode cL_act 74 = .ok (.ireturn, 1) := by decide +kernel
theorem dL_act_75 : decode cL_act 75 = .ok (.iload_n 2, 1) := by decide +kernel
theorem dL_act_76 : decode cL_act 76 = .ok (.iconst 1, 1) := by decide +kernel
theorem dL_act_77 : decode cL_act 77 = .ok (.ishr, 1) := by decide +kernel
theorem dL_act_78 : decode cL_act 78 = .ok (.iload_n 3, 1) := by decide +kernel
theorem dL_act_79 : decode cL_act 79 = .ok (.invokestatic 15, 3) := by decide +kernel
theorem dL_act_82 : decode cL_act 82 = .ok (.istore 5, 2) := by decide +kernel
theorem dL_act_84 : decode cL_act 84 = .ok (.iload 4, 2) := by decide +kernel
theorem dL_act_86 : decode cL_act 86 = .ok (.tableswitch 386 1 14 #[70, 70, 70, 70, 156, 156, 156, 156, 156, 233, 233, 297, 297, 359], 70) := by decide +kernel
theorem dL_act_156 : decode cL_act 156 = .ok (.iconst 1, 1) := by decide +kernel
theorem dL_act_157 : decode cL_act 157 = .ok (.iload_n 2, 1) := by decide +kernel
theorem dL_act_158 : decode cL_act 158 = .ok (.iconst 3, 1) := by decide +kernel
theorem dL_act_159 : decode cL_act 159 = .ok (.ishr, 1) := by decide +kernel
theorem dL_act_160 : decode cL_act 160 = .ok (.bipush 30, 2) := by decide +kernel
theorem dL_act_162 : decode cL_act 162 = .ok (.invokestatic 15, 3) := by decide +kernel
theorem dL_act_165 : decode cL_act 165 = .ok (.iadd, 1) := by decide +kernel
theorem dL_act_166 : decode cL_act 166 = .ok (.istore 6, 2) := by decide +kernel
theorem dL_act_168 : decode cL_act 168 = .ok (.iload 6, 2) := by decide +kernel
theorem dL_act_170 : decode cL_act 170 = .ok (.aload_n 1, 1) := by decide +kernel
theorem dL_act_171 : decode cL_act 171 = .ok (.getfield 31, 3) := by decide +kernel
theorem dL_act_174 : decode cL_act 174 = .ok (.if_icmp .le 5, 3) := by decide +kernel
theorem dL_act_177 : decode cL_act 177 = .ok (.iconst 1, 1) := by decide +kernel
theorem dL_act_178 : decode cL_act 178 = .ok (.ireturn, 1) := by decide +kernel
theorem dL_act_179 : decode cL_act 179 = .ok (.aload_n 1, 1) := by decide +kernel
theorem dL_act_180 : decode cL_act 180 = .ok (.dup, 1) := by decide +kernel
theorem dL_act_181 : decode cL_act 181 = .ok (.getfield 31, 3) := by decide +kernel
theorem dL_act_184 : decode cL_act 184 = .ok (.iload 6, 2) := by decide +kernel
theorem dL_act_186 : decode cL_act 186 = .ok (.isub, 1) := by decide +kernel
theorem dL_act_187 : decode cL_act 187 = .ok (.putfield 31, 3) := by decide +kernel
theorem dL_act_190 : decode cL_act 190 = .ok (.aload_n 1, 1) := by decide +kernel
theorem dL_act_191 : decode cL_act 191 = .ok (.getfield 9, 3) := by decide +kernel
theorem dL_act_194 : decode cL_act 194 = .ok (.iload 5, 2) := by decide +kernel
theorem dL_act_196 : decode cL_act 196 = .ok (.aaload, 1) := by decide +kernel
theorem dL_act_197 : decode cL_act 197 = .ok (.iconst 1, 1) := by decide +kernel
theorem dL_act_198 : decode cL_act 198 = .ok (.bipush 99, 2) := by decide +kernel
theorem dL_act_200 : decode cL_act 200 = .ok (.aload_n 1, 1) := by decide +kernel
theorem dL_act_201 : decode cL_act 201 = .ok (.getfield 9, 3) := by decide +kernel
theorem dL_act_204 : decode cL_act 204 = .ok (.iload 5, 2) := by decide +kernel
theorem dL_act_206 : decode cL_act 206 = .ok (.aaload, 1) := by decide +kernel
theorem dL_act_207 : decode cL_act 207 = .ok (.iconst 1, 1) := by decide +kernel
theorem dL_act_208 : decode cL_act 208 = .ok (.iaload, 1) := by decide +kernel
theorem dL_act_209 : decode cL_act 209 = .ok (.iload 6, 2) := by decide +kernel
theorem dL_act_211 : decode cL_act 211 = .ok (.iadd, 1) := by decide +kernel
theorem dL_act_212 : decode cL_act 212 = .ok (.invokestatic 35, 3) := by decide +kernel
theorem dL_act_215 : decode cL_act 215 = .ok (.iastore, 1) := by decide +kernel
theorem dL_act_216 : decode cL_act 216 = .ok (.aload_n 0, 1) := by decide +kernel
theorem dL_act_217 : decode cL_act 217 = .ok (.iload 5, 2) := by decide +kernel
theorem dL_act_219 : decode cL_act 219 = .ok (.iload 6, 2) := by decide +kernel
theorem dL_act_221 : decode cL_act 221 = .ok (.invokevirtual 40, 3) := by decide +kernel
theorem dL_act_224 : decode cL_act 224 = .ok (.aload_n 1, 1) := by decide +kernel
theorem dL_act_225 : decode cL_act 225 = .ok (.getfield 9, 3) := by decide +kernel
theorem dL_act_228 : decode cL_act 228 = .ok (.iload 5, 2) := by decide +kernel
theorem dL_act_230 : decode cL_act 230 = .ok (.aaload, 1) := by decide +kernel
theorem dL_act_231 : decode cL_act 231 = .ok (.iconst 1, 1) := by decide +kernel
theorem dL_act_232 : decode cL_act 232 = .ok (.iaload, 1) := by decide +kernel
theorem dL_act_233 : decode cL_act 233 = .ok (.if_icmp .ne 7, 3) := by decide +kernel
theorem dL_act_236 : decode cL_act 236 = .ok (.iconst 1, 1) := by decide +kernel
theorem dL_act_237 : decode cL_act 237 = .ok (.goto 4, 3) := by decide +kernel
theorem dL_act_240 : decode cL_act 240 = .ok (.iconst 0, 1) := by decide +kernel
theorem dL_act_241 : decode cL_act 241 = .ok (.ireturn, 1) := by decide +kernel
theorem dL_act_242 : decode cL_act 242 = .ok (.iconst 1, 1) := by decide +kernel
theorem dL_act_243 : decode cL_act 243 = .ok (.iload_n 2, 1) := by decide +kernel
theorem dL_act_244 : decode cL_act 244 = .ok (.iconst 3, 1) := by decide +kernel
theorem dL_act_245 : decode cL_act 245 = .ok (.ishr, 1) := by decide +kernel
theorem dL_act_246 : decode cL_act 246 = .ok (.bipush 9, 2) := by decide +kernel
theorem dL_act_248 : decode cL_act 248 = .ok (.invokestatic 15, 3) := by decide +kernel
theorem dL_act_251 : decode cL_act 251 = .ok (.iadd, 1) := by decide +kernel
theorem dL_act_252 : decode cL_act 252 = .ok (.istore 7, 2) := by decide +kernel
theorem dL_act_254 : decode cL_act 254 = .ok (.iload_n 2, 1) := by decide +kernel
theorem dL_act_255 : decode cL_act 255 = .ok (.iconst 4, 1) := by decide +kernel
theorem dL_act_256 : decode cL_act 256 = .ok (.invokestatic 15, 3) := by decide +kernel
theorem dL_act_259 : decode cL_act 259 = .ok (.ifCond .ne 7, 3) := by decide +kernel
theorem dL_act_262 : decode cL_act 262 = .ok (.iconst 1, 1) := by decide +kernel
theorem dL_act_263 : decode cL_act 263 = .ok (.goto 4, 3) := by decide +kernel
theorem dL_act_266 : decode cL_act 266 = .ok (.iconst 0, 1) := by decide +kernel
theorem dL_act_267 : decode cL_act 267 = .ok (.istore 8, 2) := by decide +kernel
theorem dL_act_269 : decode cL_act 269 = .ok (.iload 7, 2) := by decide +kernel
theorem dL_act_271 : decode cL_act 271 = .ok (.aload_n 1, 1) := by decide +kernel
theorem dL_act_272 : decode cL_act 272 = .ok (.getfield 31, 3) := by decide +kernel
theorem dL_act_275 : decode cL_act 275 = .ok (.if_icmp .gt 13, 3) := by decide +kernel
theorem dL_act_278 : decode cL_act 278 = .ok (.aload_n 1, 1) := by decide +kernel
theorem dL_act_279 : decode cL_act 279 = .ok (.getfield 43, 3) := by decide +kernel
theorem dL_act_282 : decode cL_act 282 = .ok (.arraylength, 1) := by decide +kernel
theorem dL_act_283 : decode cL_act 283 = .ok (.bipush 30, 2) := by decide +kernel
theorem dL_act_285 : decode cL_act 285 = .ok (.if_icmp .ne 5, 3) := by decide +kernel
theorem dL_act_288 : decode cL_act 288 = .ok (.iconst 1, 1) := by decide +kernel
theorem dL_act_289 : decode cL_act 289 = .ok (.ireturn, 1) := by decide +kernel
theorem dL_act_290 : decode cL_act 290 = .ok (.aload_n 0, 1) := by decide +kernel
theorem dL_act_291 : decode cL_act 291 = .ok (.iload 5, 2) := by decide +kernel
theorem dL_act_293 : decode cL_act 293 = .ok (.iload 8, 2) := by decide +kernel
theorem dL_act_295 : decode cL_act 295 = .ok (.iload 7, 2) := by decide +kernel
theorem dL_act_297 : decode cL_act 297 = .ok (.invokevirtual 46, 3) := by decide +kernel
theorem dL_act_300 : decode cL_act 300 = .ok (.aload_n 1, 1) := by decide +kernel
theorem dL_act_301 : decode cL_act 301 = .ok (.iload 5, 2) := by decide +kernel
theorem dL_act_303 : decode cL_act 303 = .ok (.iload 8, 2) := by decide +kernel
theorem dL_act_305 : decode cL_act 305 = .ok (.iload 7, 2) := by decide +kernel
theorem dL_act_307 : decode cL_act 307 = .ok (.invokevirtual 50, 3) := by decide +kernel
theorem dL_act_310 : decode cL_act 310 = .ok (.if_icmp .ne 7, 3) := by decide +kernel
theorem dL_act_313 : decode cL_act 313 = .ok (.iconst 1, 1) := by decide +kernel
theorem dL_act_314 : decode cL_act 314 = .ok (.goto 4, 3) := by decide +kernel
theorem dL_act_317 : decode cL_act 317 = .ok (.iconst 0, 1) := by decide +kernel
theorem dL_act_318 : decode cL_act 318 = .ok (.ireturn, 1) := by decide +kernel
theorem dL_act_319 : decode cL_act 319 = .ok (.iconst 1, 1) := by decide +kernel
theorem dL_act_320 : decode cL_act 320 = .ok (.iload_n 2, 1) := by decide +kernel
theorem dL_act_321 : decode cL_act 321 = .ok (.iconst 3, 1) := by decide +kernel
theorem dL_act_322 : decode cL_act 322 = .ok (.ishr, 1) := by decide +kernel
theorem dL_act_323 : decode cL_act 323 = .ok (.bipush 9, 2) := by decide +kernel
theorem dL_act_325 : decode cL_act 325 = .ok (.invokestatic 15, 3) := by decide +kernel
theorem dL_act_328 : decode cL_act 328 = .ok (.iadd, 1) := by decide +kernel
theorem dL_act_329 : decode cL_act 329 = .ok (.istore 9, 2) := by decide +kernel
theorem dL_act_331 : decode cL_act 331 = .ok (.aload_n 1, 1) := by decide +kernel
theorem dL_act_332 : decode cL_act 332 = .ok (.getfield 9, 3) := by decide +kernel
theorem dL_act_335 : decode cL_act 335 = .ok (.iload 5, 2) := by decide +kernel
theorem dL_act_337 : decode cL_act 337 = .ok (.aaload, 1) := by decide +kernel
theorem dL_act_338 : decode cL_act 338 = .ok (.iconst 2, 1) := by decide +kernel
theorem dL_act_339 : decode cL_act 339 = .ok (.bipush 9, 2) := by decide +kernel
theorem dL_act_341 : decode cL_act 341 = .ok (.aload_n 1, 1) := by decide +kernel
theorem dL_act_342 : decode cL_act 342 = .ok (.getfield 9, 3) := by decide +kernel
theorem dL_act_345 : decode cL_act 345 = .ok (.iload 5, 2) := by decide +kernel
theorem dL_act_347 : decode cL_act 347 = .ok (.aaload, 1) := by decide +kernel
theorem dL_act_348 : decode cL_act 348 = .ok (.iconst 2, 1) := by decide +kernel
theorem dL_act_349 : decode cL_act 349 = .ok (.iaload, 1) := by decide +kernel
theorem dL_act_350 : decode cL_act 350 = .ok (.iload 9, 2) := by decide +kernel
theorem dL_act_352 : decode cL_act 352 = .ok (.iadd, 1) := by decide +kernel
theorem dL_act_353 : decode cL_act 353 = .ok (.invokestatic 35, 3) := by decide +kernel
theorem dL_act_356 : decode cL_act 356 = .ok (.iastore, 1) := by decide +kernel
theorem dL_act_357 : decode cL_act 357 = .ok (.aload_n 0, 1) := by decide +kernel
theorem dL_act_358 : decode cL_act 358 = .ok (.iload 5, 2) := by decide +kernel
theorem dL_act_360 : decode cL_act 360 = .ok (.iload 9, 2) := by decide +kernel
theorem dL_act_362 : decode cL_act 362 = .ok (.invokevirtual 53, 3) := by decide +kernel
theorem dL_act_365 : decode cL_act 365 = .ok (.aload_n 1, 1) := by decide +kernel
theorem dL_act_366 : decode cL_act 366 = .ok (.getfield 9, 3) := by decide +kernel
theorem dL_act_369 : decode cL_act 369 = .ok (.iload 5, 2) := by decide +kernel
theorem dL_act_371 : decode cL_act 371 = .ok (.aaload, 1) := by decide +kernel
theorem dL_act_372 : decode cL_act 372 = .ok (.iconst 2, 1) := by decide +kernel
theorem dL_act_373 : decode cL_act 373 = .ok (.iaload, 1) := by decide +kernel
theorem dL_act_374 : decode cL_act 374 = .ok (.if_icmp .ne 7, 3) := by decide +kernel
theorem dL_act_377 : decode cL_act 377 = .ok (.iconst 1, 1) := by decide +kernel
theorem dL_act_378 : decode cL_act 378 = .ok (.goto 4, 3) := by decide +kernel
theorem dL_act_381 : decode cL_act 381 = .ok (.iconst 0, 1) := by decide +kernel
theorem dL_act_382 : decode cL_act 382 = .ok (.ireturn, 1) := by decide +kernel
theorem dL_act_383 : decode cL_act 383 = .ok (.iconst 1, 1) := by decide +kernel
theorem dL_act_384 : decode cL_act 384 = .ok (.iload_n 2, 1) := by decide +kernel
theorem dL_act_385 : decode cL_act 385 = .ok (.iconst 3, 1) := by decide +kernel
theorem dL_act_386 : decode cL_act 386 = .ok (.ishr, 1) := by decide +kernel
theorem dL_act_387 : decode cL_act 387 = .ok (.iload_n 2, 1) := by decide +kernel
theorem dL_act_388 : decode cL_act 388 = .ok (.iconst 2, 1) := by decide +kernel
theorem dL_act_389 : decode cL_act 389 = .ok (.invokestatic 15, 3) := by decide +kernel
theorem dL_act_392 : decode cL_act 392 = .ok (.ifCond .ne 9, 3) := by decide +kernel
theorem dL_act_395 : decode cL_act 395 = .ok (.sipush 500, 3) := by decide +kernel
theorem dL_act_398 : decode cL_act 398 = .ok (.goto 5, 3) := by decide +kernel
theorem dL_act_401 : decode cL_act 401 = .ok (.bipush 60, 2) := by decide +kernel
theorem dL_act_403 : decode cL_act 403 = .ok (.invokestatic 15, 3) := by decide +kernel
theorem dL_act_406 : decode cL_act 406 = .ok (.iadd, 1) := by decide +kernel
theorem dL_act_407 : decode cL_act 407 = .ok (.istore 10, 2) := by decide +kernel
theorem dL_act_409 : decode cL_act 409 = .ok (.aload_n 1, 1) := by decide +kernel
theorem dL_act_410 : decode cL_act 410 = .ok (.sipush 500, 3) := by decide +kernel
theorem dL_act_413 : decode cL_act 413 = .ok (.aload_n 1, 1) := by decide +kernel
theorem dL_act_414 : decode cL_act 414 = .ok (.getfield 31, 3) := by decide +kernel
theorem dL_act_417 : decode cL_act 417 = .ok (.iload 10, 2) := by decide +kernel
theorem dL_act_419 : decode cL_act 419 = .ok (.iadd, 1) := by decide +kernel
theorem dL_act_420 : decode cL_act 420 = .ok (.invokestatic 35, 3) := by decide +kernel
theorem dL_act_423 : decode cL_act 423 = .ok (.putfield 31, 3) := by decide +kernel
theorem dL_act_426 : decode cL_act 426 = .ok (.aload_n 0, 1) := by decide +kernel
theorem dL_act_427 : decode cL_act 427 = .ok (.iload 10, 2) := by decide +kernel
theorem dL_act_429 : decode cL_act 429 = .ok (.invokevirtual 56, 3) := by decide +kernel
theorem dL_act_432 : decode cL_act 432 = .ok (.aload_n 1, 1) := by decide +kernel
theorem dL_act_433 : decode cL_act 433 = .ok (.getfield 31, 3) := by decide +kernel
theorem dL_act_436 : decode cL_act 436 = .ok (.if_icmp .ne 7, 3) := by decide +kernel
theorem dL_act_439 : decode cL_act 439 = .ok (.iconst 1, 1) := by decide +kernel
theorem dL_act_440 : decode cL_act 440 = .ok (.goto 4, 3) := by decide +kernel
theorem dL_act_443 : decode cL_act 443 = .ok (.iconst 0, 1) := by decide +kernel
theorem dL_act_444 : decode cL_act 444 = .ok (.ireturn, 1) := by decide +kernel
theorem dL_act_445 : decode cL_act 445 = .ok (.iload_n 2, 1) := by decide +kernel
theorem dL_act_446 : decode cL_act 446 = .ok (.iconst 3, 1) := by decide +kernel
theorem dL_act_447 : decode cL_act 447 = .ok (.invokestatic 15, 3) := by decide +kernel
theorem dL_act_450 : decode cL_act 450 = .ok (.ifCond .le 5, 3) := by decide +kernel
theorem dL_act_453 : decode cL_act 453 = .ok (.iconst 1, 1) := by decide +kernel
theorem dL_act_454 : decode cL_act 454 = .ok (.ireturn, 1) := by decide +kernel
theorem dL_act_455 : decode cL_act 455 = .ok (.aload_n 0, 1) := by decide +kernel
theorem dL_act_456 : decode cL_act 456 = .ok (.invokevirtual 60, 3) := by decide +kernel
theorem dL_act_459 : decode cL_act 459 = .ok (.aload_n 1, 1) := by decide +kernel
theorem dL_act_460 : decode cL_act 460 = .ok (.invokevirtual 63, 3) := by decide +kernel
theorem dL_act_463 : decode cL_act 463 = .ok (.if_icmp .ne 7, 3) := by decide +kernel
theorem dL_act_466 : decode cL_act 466 = .ok (.iconst 1, 1) := by decide +kernel
theorem dL_act_467 : decode cL_act 467 = .ok (.goto 4, 3) := by decide +kernel
theorem dL_act_470 : decode cL_act 470 = .ok (.iconst 0, 1) := by decide +kernel
theorem dL_act_471 : decode cL_act 471 = .ok (.ireturn, 1) := by decide +kernel
theorem dL_act_472 : decode cL_act 472 = .ok (.iconst 1, 1) := by decide +kernel
theorem dL_act_473 : decode cL_act 473 = .ok (.iload_n 2, 1) := by decide +kernel
theorem dL_act_474 : decode cL_act 474 = .ok (.iconst 2, 1) := by decide +kernel
theorem dL_act_475 : decode cL_act 475 = .ok (.ishr, 1) := by decide +kernel
theorem dL_act_476 : decode cL_act 476 = .ok (.iload_n 2, 1) := by decide +kernel
theorem dL_act_477 : decode cL_act 477 = .ok (.bipush 6, 2) := by decide +kernel
theorem dL_act_479 : decode cL_act 479 = .ok (.invokestatic 15, 3) := by decide +kernel
theorem dL_act_482 : decode cL_act 482 = .ok (.ifCond .ne 8, 3) := by decide +kernel
theorem dL_act_485 : decode cL_act 485 = .ok (.bipush 60, 2) := by decide +kernel
theorem dL_act_487 : decode cL_act 487 = .ok (.goto 4, 3) := by decide +kernel
theorem dL_act_490 : decode cL_act 490 = .ok (.iconst 4, 1) := by decide +kernel
theorem dL_act_491 : decode cL_act 491 = .ok (.invokestatic 15, 3) := by decide +kernel
theorem dL_act_494 : decode cL_act 494 = .ok (.iadd, 1) := by decide +kernel
theorem dL_act_495 : decode cL_act 495 = .ok (.istore 11, 2) := by decide +kernel
theorem dL_act_497 : decode cL_act 497 = .ok (.aload_n 0, 1) := by decide +kernel
theorem dL_act_498 : decode cL_act 498 = .ok (.iload 11, 2) := by decide +kernel
theorem dL_act_500 : decode cL_act 500 = .ok (.invokevirtual 64, 3) := by decide +kernel
theorem dL_act_503 : decode cL_act 503 = .ok (.aload_n 1, 1) := by decide +kernel
theorem dL_act_504 : decode cL_act 504 = .ok (.iload 11, 2) := by decide +kernel
theorem dL_act_506 : decode cL_act 506 = .ok (.invokevirtual 67, 3) := by decide +kernel
theorem dL_act_509 : decode cL_act 509 = .ok (.if_icmp .ne 7, 3) := by decide +kernel
theorem dL_act_512 : decode cL_act 512 = .ok (.iconst 1, 1) := by decide +kernel
theorem dL_act_513 : decode cL_act 513 = .ok (.goto 4, 3) := by decide +kernel
theorem dL_act_516 : decode cL_act 516 = .ok (.iconst 0, 1) := by decide +kernel
theorem dL_act_517 : decode cL_act 517 = .ok (.ireturn, 1) := by decide +kernel
set_option maxRecDepth 20000 in
theorem ggL_build_X1_init : GoodIn wsL_build wsX1_init := goodIn_r _ [5, 6, 7, 8, 9, 10, 11, 12, 169, 170, 171, 172, 173] (by decide +kernel) (by decide +kernel)
set_option maxRecDepth 20000 in
theorem gL_build_X1_init_n70 : GoodIn wsL_build (wsX1_init) := ggL_build_X1_init
set_option maxRecDepth 20000 in
theorem ggL_build_L_cell : GoodIn wsL_build wsL_cell := goodIn_r _ [16, 17] (by decide +kernel) (by decide +kernel)
set_option maxRecDepth 20000 in
theorem gL_build_L_cell : GoodIn wsL_build (va_wsS RL 71 yL_cell wsL_cell) := goodIn_app (goodIn_of _ (by decide +kernel)) ggL_build_L_cell
set_option maxRecDepth 20000 in
theorem ggL_build_L_below : GoodIn wsL_build wsL_below := goodIn_r _ [20, 21] (by decide +kernel) (by decide +kernel)
set_option maxRecDepth 20000 in
theorem gL_build_L_below : GoodIn wsL_build (va_wsS RL 15 yL_below wsL_below) := goodIn_app (goodIn_of _ (by decide +kernel)) ggL_build_L_below
set_option maxRecDepth 20000 in
theorem ggL_build_L_act_r2 : GoodIn wsL_build wsL_act_r2 := goodIn_r _ [42, 43, 44, 45, 46, 47, 48, 49, 50, 51, 52, 53, 54, 55, 56, 57, 58, 59, 60, 61, 62, 63, 64, 65] (by decide +kernel) (by decide +kernel)
set_option maxRecDepth 20000 in
theorem ggL_build_L_act_r3 : GoodIn wsL_build wsL_act_r3 := goodIn_r _ [66, 67, 68, 69, 70, 71, 72, 73, 74, 75, 76, 77, 78, 79, 80, 81, 82, 83, 84, 85, 86, 87, 88, 89] (by decide +kernel) (by decide +kernel)
set_option maxRecDepth 20000 in
theorem ggL_build_L_act_r4 : GoodIn wsL_build wsL_act_r4 := goodIn_r _ [90, 91, 92, 93, 94, 95, 96, 97, 98, 99, 100, 101, 102, 103, 104, 105, 106, 11, 9, 12, 107, 108, 109, 110] (by decide +kernel) (by decide +kernel)
set_option maxRecDepth 20000 in
theorem ggL_build_L_act_r5 : GoodIn wsL_build wsL_act_r5 := goodIn_r _ [111, 112, 113, 114, 115, 116, 117, 118, 119, 120, 121, 122, 123, 124, 125, 126, 127, 128, 129, 130, 131, 132, 133, 134] (by decide +kernel) (by decide +kernel)
set_option maxRecDepth 20000 in
theorem ggL_build_L_act_r6 : GoodIn wsL_build wsL_act_r6 := goodIn_r _ [135, 136, 137, 138, 139, 140, 141, 142, 143, 144, 145, 146, 147, 148, 149, 150, 151, 152, 153, 154, 155, 156, 157, 158] (by decide +kernel) (by decide +kernel)
set_option maxRecDepth 20000 in
theorem ggL_build_L_act_r7 : GoodIn wsL_build wsL_act_r7 := goodIn_r _ [159, 160, 161, 162, 163, 164, 165, 166, 167, 168] (by decide +kernel) (by decide +kernel)
set_option maxRecDepth 20000 in
theorem ggL_build_L_act_r1 : GoodIn wsL_build (.code yL_act cL_act 12 (some .boolean) :: wsL_act_r1) := goodIn_r _ [24, 25, 26, 27, 28, 29, 30, 31, 32, 18, 19, 15, 20, 21, 33, 34, 3, 35, 10, 36, 37, 38, 39, 40, 41] (by decide +kernel) (by decide +kernel)
set_option maxRecDepth 20000 in
theorem ggL_build_L_act : GoodIn wsL_build wsL_act := goodIn_ca (goodIn_ca (goodIn_ca (goodIn_ca (goodIn_ca (goodIn_ca ggL_build_L_act_r1 (goodIn_app ggL_build_L_act_r2 (goodIn_app ggL_build_L_act_r3 (goodIn_app ggL_build_L_act_r4 (goodIn_app ggL_build_L_act_r5 (goodIn_app ggL_build_L_act_r6 (ggL_build_L_act_r7))))))) (goodIn_r _ [169, 170, 171, 172, 173] (by decide +kernel) (by decide +kernel))) (goodIn_r _ [174, 175, 176, 177, 178, 179, 180, 181, 182, 183, 184, 185, 186, 187] (by decide +kernel) (by decide +kernel))) (goodIn_sub (fun _ h => List.mem_cons_of_mem _ (List.mem_append_left _ (List.mem_append_left _ (List.mem_append_right _ h)))) (by decide +kernel))) (goodIn_sub (fun _ h => List.mem_cons_of_mem _ (List.mem_append_left _ (List.mem_append_right _ h))) (by decide +kernel))) (goodIn_sub (fun _ h => List.mem_cons_of_mem _ (List.mem_append_right _ h)) (by decide +kernel))
set_option maxRecDepth 20000 in
theorem gL_build_L_act : GoodIn wsL_build (va_wsS RL 75 yL_act wsL_act) := goodIn_app (goodIn_of _ (by decide +kernel)) ggL_build_L_act
theorem dL_build_0 : decode cL_build 0 = .ok (.new 10, 3) := by decide +kernel
theorem dL_build_3 : decode cL_build 3 = .ok (.dup, 1) := by decide +kernel
theorem dL_build_4 : decode cL_build 4 = .ok (.invokespecial 70, 3) := by decide +kernel
theorem dL_build_7 : decode cL_build 7 = .ok (.astore_n 2, 1) := by decide +kernel
theorem dL_build_8 : decode cL_build 8 = .ok (.bipush 10, 2) := by decide +kernel
theorem dL_build_10 : decode cL_build 10 = .ok (.aload_n 1, 1) := by decide +kernel
theorem dL_build_11 : decode cL_build 11 = .ok (.iconst 0, 1) := by decide +kernel
theorem dL_build_12 : decode cL_build 12 = .ok (.invokestatic 71, 3) := by decide +kernel
theorem dL_build_15 : decode cL_build 15 = .ok (.bipush 50, 2) := by decide +kernel
theorem dL_build_17 : decode cL_build 17 = .ok (.invokestatic 15, 3) := by decide +kernel
theorem dL_build_20 : decode cL_build 20 = .ok (.iadd, 1) := by decide +kernel
theorem dL_build_21 : decode cL_build 21 = .ok (.istore_n 3, 1) := by decide +kernel
theorem dL_build_22 : decode cL_build 22 = .ok (.iconst 0, 1) := by decide +kernel
theorem dL_build_23 : decode cL_build 23 = .ok (.istore 4, 2) := by decide +kernel
theorem dL_build_25 : decode cL_build 25 = .ok (.iload 4, 2) := by decide +kernel
theorem dL_build_27 : decode cL_build 27 = .ok (.iload_n 3, 1) := by decide +kernel
theorem dL_build_28 : decode cL_build 28 = .ok (.if_icmp .ge 43, 3) := by decide +kernel
theorem dL_build_31 : decode cL_build 31 = .ok (.aload_n 0, 1) := by decide +kernel
theorem dL_build_32 : decode cL_build 32 = .ok (.aload_n 2, 1) := by decide +kernel
theorem dL_build_33 : decode cL_build 33 = .ok (.aload_n 1, 1) := by decide +kernel
theorem dL_build_34 : decode cL_build 34 = .ok (.iload 4, 2) := by decide +kernel
theorem dL_build_36 : decode cL_build 36 = .ok (.bipush 16, 2) := by decide +kernel
theorem dL_build_38 : decode cL_build 38 = .ok (.irem, 1) := by decide +kernel
theorem dL_build_39 : decode cL_build 39 = .ok (.invokestatic 71, 3) := by decide +kernel
theorem dL_build_42 : decode cL_build 42 = .ok (.iload 4, 2) := by decide +kernel
theorem dL_build_44 : decode cL_build 44 = .ok (.bipush 16, 2) := by decide +kernel
theorem dL_build_46 : decode cL_build 46 = .ok (.idiv, 1) := by decide +kernel
theorem dL_build_47 : decode cL_build 47 = .ok (.iconst 3, 1) := by decide +kernel
theorem dL_build_48 : decode cL_build 48 = .ok (.imul, 1) := by decide +kernel
theorem dL_build_49 : decode cL_build 49 = .ok (.ishr, 1) := by decide +kernel
theorem dL_build_50 : decode cL_build 50 = .ok (.sipush 613, 3) := by decide +kernel
theorem dL_build_53 : decode cL_build 53 = .ok (.iload 4, 2) := by decide +kernel
theorem dL_build_55 : decode cL_build 55 = .ok (.imul, 1) := by decide +kernel
theorem dL_build_56 : decode cL_build 56 = .ok (.iadd, 1) := by decide +kernel
theorem dL_build_57 : decode cL_build 57 = .ok (.invokestatic 75, 3) := by decide +kernel
theorem dL_build_60 : decode cL_build 60 = .ok (.ifCond .ne 5, 3) := by decide +kernel
theorem dL_build_63 : decode cL_build 63 = .ok (.aconst_null, 1) := by decide +kernel
theorem dL_build_64 : decode cL_build 64 = .ok (.areturn, 1) := by decide +kernel
theorem dL_build_65 : decode cL_build 65 = .ok (.iinc 4 1, 3) := by decide +kernel
theorem dL_build_68 : decode cL_build 68 = .ok (.goto (-43), 3) := by decide +kernel
theorem dL_build_71 : decode cL_build 71 = .ok (.aload_n 2, 1) := by decide +kernel
theorem dL_build_72 : decode cL_build 72 = .ok (.areturn, 1) := by decide +kernel
set_option maxRecDepth 20000 in
theorem ggL_law_X0_init : GoodIn wsL_law wsX0_init := goodIn_r _ [13, 14, 15, 16, 3, 17, 18, 19, 20, 21, 22, 23, 24, 25, 26, 27, 28, 29, 293, 294, 295, 296, 297, 298, 299, 300, 301, 302, 303, 304, 305, 306] (by decide +kernel) (by decide +kernel)
set_option maxRecDepth 20000 in
theorem gL_law_X0_init : GoodIn wsL_law (wsX0_init) := ggL_law_X0_init
set_option maxRecDepth 20000 in
theorem ggL_law_L_build_r2 : GoodIn wsL_law wsL_build_r2 := goodIn_r _ [55, 3, 56, 4, 5, 6, 7, 57, 58, 59, 60, 61, 62, 63, 2, 64, 65, 66, 25, 17, 18, 19, 67, 68] (by decide +kernel) (by decide +kernel)
set_option maxRecDepth 20000 in
theorem ggL_law_L_build_r3 : GoodIn wsL_law wsL_build_r3 := goodIn_r _ [69, 70, 27, 71, 72, 73, 74, 75, 76, 77, 78, 79, 80, 81, 82, 83, 84, 85, 86, 87, 88, 89, 90, 91] (by decide +kernel) (by decide +kernel)
set_option maxRecDepth 20000 in
theorem ggL_law_L_build_r4 : GoodIn wsL_law wsL_build_r4 := goodIn_r _ [92, 93, 94, 95, 96, 97, 98, 99, 100, 101, 26, 102, 103, 104, 105, 106, 9, 10, 107, 108, 109, 110, 111, 112] (by decide +kernel) (by decide +kernel)
set_option maxRecDepth 20000 in
theorem ggL_law_L_build_r5 : GoodIn wsL_law wsL_build_r5 := goodIn_r _ [113, 114, 20, 22, 23, 24, 115, 116, 117, 118, 119, 120, 121, 122, 123, 124, 125, 126, 127, 128, 129, 130, 131, 132] (by decide +kernel) (by decide +kernel)
set_option maxRecDepth 20000 in
theorem ggL_law_L_build_r6 : GoodIn wsL_law wsL_build_r6 := goodIn_r _ [133, 134, 135, 29, 136, 137, 138, 139, 140, 141, 142, 143, 144, 145, 146, 147, 148, 149, 150, 151, 152, 153, 154, 155] (by decide +kernel) (by decide +kernel)
set_option maxRecDepth 20000 in
theorem ggL_law_L_build_r7 : GoodIn wsL_law wsL_build_r7 := goodIn_r _ [156, 28, 157, 158, 159, 160, 161, 162, 163, 164, 165, 166, 167, 168, 169, 170, 171, 172, 173, 174, 175, 176, 177, 178] (by decide +kernel) (by decide +kernel)
set_option maxRecDepth 20000 in
theorem ggL_law_L_build_r1 : GoodIn wsL_law (.code yL_build cL_build 5 (some (.object "SaltOrderLaw$Sim")) :: wsL_build_r1) := goodIn_r _ [33, 34, 35, 36, 37, 38, 39, 15, 16, 40, 41, 42, 43, 44, 45, 32, 46, 47, 48, 49, 50, 51, 52, 53, 54] (by decide +kernel) (by decide +kernel)
set_option maxRecDepth 20000 in
theorem ggL_law_L_build : GoodIn wsL_law wsL_build := goodIn_ca (goodIn_ca (goodIn_ca (goodIn_ca (goodIn_ca (goodIn_ca ggL_law_L_build_r1 (goodIn_app ggL_law_L_build_r2 (goodIn_app ggL_law_L_build_r3 (goodIn_app ggL_law_L_build_r4 (goodIn_app ggL_law_L_build_r5 (goodIn_app ggL_law_L_build_r6 (ggL_law_L_build_r7))))))) (goodIn_r _ [307, 308, 309, 310, 311] (by decide +kernel) (by decide +kernel))) (goodIn_r _ [293, 294, 295, 296, 297, 298, 299, 300, 301, 302, 303, 304, 305, 306] (by decide +kernel) (by decide +kernel))) (goodIn_sub (fun _ h => List.mem_append_left _ (List.mem_append_left _ (List.mem_append_right _ h))) (by decide +kernel))) (goodIn_sub (fun _ h => List.mem_append_left _ (List.mem_append_right _ h)) (by decide +kernel))) (goodIn_sub (fun _ h => List.mem_append_right _ h) (by decide +kernel))
set_option maxRecDepth 20000 in
theorem gL_law_L_build : GoodIn wsL_law (va_wsS RL 80 yL_build wsL_build) := goodIn_app (goodIn_of _ (by decide +kernel)) ggL_law_L_build
set_option maxRecDepth 20000 in
theorem ggL_law_L_cell : GoodIn wsL_law wsL_cell := goodIn_r _ [46, 47] (by decide +kernel) (by decide +kernel)
set_option maxRecDepth 20000 in
theorem gL_law_L_cell : GoodIn wsL_law (va_wsS RL 71 yL_cell wsL_cell) := goodIn_app (goodIn_of _ (by decide +kernel)) ggL_law_L_cell
set_option maxRecDepth 20000 in
theorem ggL_law_L_act_r2 : GoodIn wsL_law wsL_act_r2 := goodIn_r _ [66, 25, 17, 18, 19, 67, 68, 69, 70, 27, 71, 72, 73, 74, 75, 76, 77, 78, 79, 80, 81, 82, 83, 84] (by decide +kernel) (by decide +kernel)
set_option maxRecDepth 20000 in
theorem ggL_law_L_act_r3 : GoodIn wsL_law wsL_act_r3 := goodIn_r _ [85, 86, 87, 88, 89, 90, 91, 92, 93, 94, 95, 96, 97, 98, 99, 100, 101, 26, 102, 103, 104, 105, 106, 9] (by decide +kernel) (by decide +kernel)
set_option maxRecDepth 20000 in
theorem ggL_law_L_act_r4 : GoodIn wsL_law wsL_act_r4 := goodIn_r _ [10, 107, 108, 109, 110, 111, 112, 113, 114, 20, 22, 23, 24, 115, 116, 117, 118, 42, 40, 43, 119, 120, 121, 122] (by decide +kernel) (by decide +kernel)
set_option maxRecDepth 20000 in
theorem ggL_law_L_act_r5 : GoodIn wsL_law wsL_act_r5 := goodIn_r _ [123, 124, 125, 126, 127, 128, 129, 130, 131, 132, 133, 134, 135, 29, 136, 137, 138, 139, 140, 141, 142, 143, 144, 145] (by decide +kernel) (by decide +kernel)
set_option maxRecDepth 20000 in
theorem ggL_law_L_act_r6 : GoodIn wsL_law wsL_act_r6 := goodIn_r _ [146, 147, 148, 149, 150, 151, 152, 153, 154, 155, 156, 28, 157, 158, 159, 160, 161, 162, 163, 164, 165, 166, 167, 168] (by decide +kernel) (by decide +kernel)
set_option maxRecDepth 20000 in
theorem ggL_law_L_act_r7 : GoodIn wsL_law wsL_act_r7 := goodIn_r _ [169, 170, 171, 172, 173, 174, 175, 176, 177, 178] (by decide +kernel) (by decide +kernel)
set_option maxRecDepth 20000 in
theorem ggL_law_L_act_r1 : GoodIn wsL_law (.code yL_act cL_act 12 (some .boolean) :: wsL_act_r1) := goodIn_r _ [54, 55, 3, 56, 4, 5, 6, 7, 57, 48, 49, 32, 50, 51, 58, 59, 36, 60, 41, 61, 62, 63, 2, 64, 65] (by decide +kernel) (by decide +kernel)
set_option maxRecDepth 20000 in
theorem ggL_law_L_act : GoodIn wsL_law wsL_act := goodIn_ca (goodIn_ca (goodIn_ca (goodIn_ca (goodIn_ca (goodIn_ca ggL_law_L_act_r1 (goodIn_app ggL_law_L_act_r2 (goodIn_app ggL_law_L_act_r3 (goodIn_app ggL_law_L_act_r4 (goodIn_app ggL_law_L_act_r5 (goodIn_app ggL_law_L_act_r6 (ggL_law_L_act_r7))))))) (goodIn_r _ [307, 308, 309, 310, 311] (by decide +kernel) (by decide +kernel))) (goodIn_r _ [293, 294, 295, 296, 297, 298, 299, 300, 301, 302, 303, 304, 305, 306] (by decide +kernel) (by decide +kernel))) (goodIn_sub (fun _ h => List.mem_append_left _ (List.mem_append_left _ (List.mem_append_right _ h))) (by decide +kernel))) (goodIn_sub (fun _ h => List.mem_append_left _ (List.mem_append_right _ h)) (by decide +kernel))) (goodIn_sub (fun _ h => List.mem_append_right _ h) (by decide +kernel))
set_option maxRecDepth 20000 in
theorem gL_law_L_act : GoodIn wsL_law (va_wsS RL 75 yL_act wsL_act) := goodIn_app (goodIn_of _ (by decide +kernel)) ggL_law_L_act
set_option maxRecDepth 20000 in
theorem ggL_law_X0_members : GoodIn wsL_law wsX0_members := goodIn_r _ [182, 25, 293, 294, 295, 296, 297, 298, 299, 300, 301, 302, 303, 304, 305, 306] (by decide +kernel) (by decide +kernel)
set_option maxRecDepth 20000 in
theorem gL_law_X0_members : GoodIn wsL_law (wsV RL 84 RX0 yX0_members wsX0_members) := goodIn_app (goodIn_of _ (by decide +kernel)) ggL_law_X0_members
set_option maxRecDepth 20000 in
theorem ggL_law_X0_ledger : GoodIn wsL_law wsX0_ledger := goodIn_r _ [186, 26, 293, 294, 295, 296, 297, 298, 299, 300, 301, 302, 303, 304, 305, 306] (by decide +kernel) (by decide +kernel)
set_option maxRecDepth 20000 in
theorem gL_law_X0_ledger : GoodIn wsL_law (wsV RL 86 RX0 yX0_ledger wsX0_ledger) := goodIn_app (goodIn_of _ (by decide +kernel)) ggL_law_X0_ledger
set_option maxRecDepth 20000 in
theorem ggL_law_X0_excessOf : GoodIn wsL_law wsX0_excessOf := goodIn_ca (goodIn_r _ [190, 24, 191, 192, 193, 2, 194, 75, 76, 26, 293, 294, 295, 296, 297, 298, 299, 300, 301, 302, 303, 304, 305, 306] (by decide +kernel) (by decide +kernel)) (goodIn_sub (fun _ h => List.mem_append_left _ (List.mem_append_right _ h)) (by decide +kernel))
set_option maxRecDepth 20000 in
theorem gL_law_X0_excessOf : GoodIn wsL_law (wsV RL 88 RX0 yX0_excessOf wsX0_excessOf) := goodIn_app (goodIn_of _ (by decide +kernel)) ggL_law_X0_excessOf
set_option maxRecDepth 20000 in
theorem ggL_law_X0_grainsOf : GoodIn wsL_law wsX0_grainsOf := goodIn_ca (goodIn_r _ [198, 23, 191, 192, 193, 2, 194, 75, 76, 26, 293, 294, 295, 296, 297, 298, 299, 300, 301, 302, 303, 304, 305, 306] (by decide +kernel) (by decide +kernel)) (goodIn_sub (fun _ h => List.mem_append_left _ (List.mem_append_right _ h)) (by decide +kernel))
set_option maxRecDepth 20000 in
theorem gL_law_X0_grainsOf : GoodIn wsL_law (wsV RL 91 RX0 yX0_grainsOf wsX0_grainsOf) := goodIn_app (goodIn_of _ (by decide +kernel)) ggL_law_X0_grainsOf
set_option maxRecDepth 20000 in
theorem ggL_law_X0_isLeft : GoodIn wsL_law wsX0_isLeft := goodIn_ca (goodIn_r _ [202, 22, 191, 192, 193, 2, 194, 75, 76, 26, 293, 294, 295, 296, 297, 298, 299, 300, 301, 302, 303, 304, 305, 306] (by decide +kernel) (by decide +kernel)) (goodIn_sub (fun _ h => List.mem_append_left _ (List.mem_append_right _ h)) (by decide +kernel))
set_option maxRecDepth 20000 in
theorem gL_law_X0_isLeft : GoodIn wsL_law (wsV RL 94 RX0 yX0_isLeft wsX0_isLeft) := goodIn_app (goodIn_of _ (by decide +kernel)) ggL_law_X0_isLeft
set_option maxRecDepth 20000 in
theorem ggL_law_X0_memberOf : GoodIn wsL_law wsX0_memberOf := goodIn_ca (goodIn_r _ [206, 20, 191, 192, 193, 2, 194, 75, 76, 26, 293, 294, 295, 296, 297, 298, 299, 300, 301, 302, 303, 304, 305, 306] (by decide +kernel) (by decide +kernel)) (goodIn_sub (fun _ h => List.mem_append_left _ (List.mem_append_right _ h)) (by decide +kernel))
set_option maxRecDepth 20000 in
theorem gL_law_X0_memberOf : GoodIn wsL_law (wsV RL 98 RX0 yX0_memberOf wsX0_memberOf) := goodIn_app (goodIn_of _ (by decide +kernel)) ggL_law_X0_memberOf
set_option maxRecDepth 20000 in
theorem ggL_law_X0_luckOf : GoodIn wsL_law wsX0_luckOf := goodIn_ca (goodIn_r _ [210, 17, 71, 72, 73, 2, 74, 75, 76, 25, 293, 294, 295, 296, 297, 298, 299, 300, 301, 302, 303, 304, 305, 306] (by decide +kernel) (by decide +kernel)) (goodIn_sub (fun _ h => List.mem_append_left _ (List.mem_append_right _ h)) (by decide +kernel))
set_option maxRecDepth 20000 in
theorem gL_law_X0_luckOf : GoodIn wsL_law (wsV RL 101 RX0 yX0_luckOf wsX0_luckOf) := goodIn_app (goodIn_of _ (by decide +kernel)) ggL_law_X0_luckOf
set_option maxRecDepth 20000 in
theorem ggL_law_X0_arrearsOf : GoodIn wsL_law wsX0_arrearsOf := goodIn_ca (goodIn_r _ [214, 18, 71, 72, 73, 2, 74, 75, 76, 25, 293, 294, 295, 296, 297, 298, 299, 300, 301, 302, 303, 304, 305, 306] (by decide +kernel) (by decide +kernel)) (goodIn_sub (fun _ h => List.mem_append_left _ (List.mem_append_right _ h)) (by decide +kernel))
set_option maxRecDepth 20000 in
theorem gL_law_X0_arrearsOf : GoodIn wsL_law (wsV RL 104 RX0 yX0_arrearsOf wsX0_arrearsOf) := goodIn_app (goodIn_of _ (by decide +kernel)) ggL_law_X0_arrearsOf
set_option maxRecDepth 20000 in
theorem ggL_law_X0_lumpsOf : GoodIn wsL_law wsX0_lumpsOf := goodIn_ca (goodIn_r _ [218, 19, 71, 72, 73, 2, 74, 75, 76, 25, 293, 294, 295, 296, 297, 298, 299, 300, 301, 302, 303, 304, 305, 306] (by decide +kernel) (by decide +kernel)) (goodIn_sub (fun _ h => List.mem_append_left _ (List.mem_append_right _ h)) (by decide +kernel))
set_option maxRecDepth 20000 in
theorem gL_law_X0_lumpsOf : GoodIn wsL_law (wsV RL 107 RX0 yX0_lumpsOf wsX0_lumpsOf) := goodIn_app (goodIn_of _ (by decide +kernel)) ggL_law_X0_lumpsOf
set_option maxRecDepth 20000 in
theorem ggL_law_X0_arrearsByAudit : GoodIn wsL_law wsX0_arrearsByAudit := goodIn_ca (goodIn_r _ [222, 71, 72, 73, 2, 74, 75, 76, 25, 140, 141, 142, 143, 26, 20, 24, 293, 294, 295, 296, 297, 298, 299, 300, 301, 302, 303, 304, 305, 306] (by decide +kernel) (by decide +kernel)) (goodIn_sub (fun _ h => List.mem_append_left _ (List.mem_append_right _ h)) (by decide +kernel))
set_option maxRecDepth 20000 in
theorem gL_law_X0_arrearsByAudit : GoodIn wsL_law (wsV RL 110 RX0 yX0_arrearsByAudit wsX0_arrearsByAudit) := goodIn_app (goodIn_of _ (by decide +kernel)) ggL_law_X0_arrearsByAudit
set_option maxRecDepth 20000 in
theorem ggL_law_X0_luckiest : GoodIn wsL_law wsX0_luckiest := goodIn_r _ [226, 25, 17, 293, 294, 295, 296, 297, 298, 299, 300, 301, 302, 303, 304, 305, 306] (by decide +kernel) (by decide +kernel)
set_option maxRecDepth 20000 in
theorem gL_law_X0_luckiest : GoodIn wsL_law (wsV RL 113 RX0 yX0_luckiest wsX0_luckiest) := goodIn_app (goodIn_of _ (by decide +kernel)) ggL_law_X0_luckiest
set_option maxRecDepth 20000 in
theorem ggL_law_X0_dailyLoss : GoodIn wsL_law wsX0_dailyLoss := goodIn_ca (goodIn_r _ [230, 71, 72, 73, 2, 74, 75, 76, 25, 165, 166, 167, 168, 19, 18, 293, 294, 295, 296, 297, 298, 299, 300, 301, 302, 303, 304, 305, 306] (by decide +kernel) (by decide +kernel)) (goodIn_sub (fun _ h => List.mem_append_left _ (List.mem_append_right _ h)) (by decide +kernel))
set_option maxRecDepth 20000 in
theorem gL_law_X0_dailyLoss : GoodIn wsL_law (wsV RL 116 RX0 yX0_dailyLoss wsX0_dailyLoss) := goodIn_app (goodIn_of _ (by decide +kernel)) ggL_law_X0_dailyLoss
set_option maxRecDepth 20000 in
theorem ggL_law_X0_salt : GoodIn wsL_law wsX0_salt := goodIn_r _ [234, 27, 293, 294, 295, 296, 297, 298, 299, 300, 301, 302, 303, 304, 305, 306] (by decide +kernel) (by decide +kernel)
end
section
set_option maxRecDepth 20000 in
theorem gL_law_X0_salt : GoodIn wsL_law (wsV RL 119 RX0 yX0_salt wsX0_salt) := goodIn_app (goodIn_of _ (by decide +kernel)) ggL_law_X0_salt
set_option maxRecDepth 20000 in
theorem ggL_law_X0_faults : GoodIn wsL_law wsX0_faults := goodIn_r _ [139, 26, 24, 293, 294, 295, 296, 297, 298, 299, 300, 301, 302, 303, 304, 305, 306] (by decide +kernel) (by decide +kernel)
set_option maxRecDepth 20000 in
theorem gL_law_X0_faults : GoodIn wsL_law (wsV RL 121 RX0 yX0_faults wsX0_faults) := goodIn_app (goodIn_of _ (by decide +kernel)) ggL_law_X0_faults
set_option maxRecDepth 20000 in
theorem ggL_law_X0_allArrears : GoodIn wsL_law wsX0_allArrears := goodIn_r _ [239, 25, 18, 293, 294, 295, 296, 297, 298, 299, 300, 301, 302, 303, 304, 305, 306] (by decide +kernel) (by decide +kernel)
set_option maxRecDepth 20000 in
theorem gL_law_X0_allArrears : GoodIn wsL_law (wsV RL 124 RX0 yX0_allArrears wsX0_allArrears) := goodIn_app (goodIn_of _ (by decide +kernel)) ggL_law_X0_allArrears
set_option maxRecDepth 20000 in
theorem ggL_law_X0_clearMembers : GoodIn wsL_law wsX0_clearMembers := goodIn_r _ [243, 25, 18, 293, 294, 295, 296, 297, 298, 299, 300, 301, 302, 303, 304, 305, 306] (by decide +kernel) (by decide +kernel)
set_option maxRecDepth 20000 in
theorem gL_law_X0_clearMembers : GoodIn wsL_law (wsV RL 127 RX0 yX0_clearMembers wsX0_clearMembers) := goodIn_app (goodIn_of _ (by decide +kernel)) ggL_law_X0_clearMembers
set_option maxRecDepth 20000 in
theorem ggL_law_X0_meanLuck : GoodIn wsL_law wsX0_meanLuck := goodIn_r _ [247, 25, 17, 293, 294, 295, 296, 297, 298, 299, 300, 301, 302, 303, 304, 305, 306] (by decide +kernel) (by decide +kernel)
set_option maxRecDepth 20000 in
theorem gL_law_X0_meanLuck : GoodIn wsL_law (wsV RL 130 RX0 yX0_meanLuck wsX0_meanLuck) := goodIn_app (goodIn_of _ (by decide +kernel)) ggL_law_X0_meanLuck
set_option maxRecDepth 20000 in
theorem ggL_law_X0_daysUntilAudit : GoodIn wsL_law wsX0_daysUntilAudit := goodIn_r _ [251, 28, 293, 294, 295, 296, 297, 298, 299, 300, 301, 302, 303, 304, 305, 306] (by decide +kernel) (by decide +kernel)
set_option maxRecDepth 20000 in
theorem gL_law_X0_daysUntilAudit : GoodIn wsL_law (wsV RL 134 RX0 yX0_daysUntilAudit wsX0_daysUntilAudit) := goodIn_app (goodIn_of _ (by decide +kernel)) ggL_law_X0_daysUntilAudit
set_option maxRecDepth 20000 in
theorem ggL_law_X0_day : GoodIn wsL_law wsX0_day := goodIn_r _ [255, 28, 293, 294, 295, 296, 297, 298, 299, 300, 301, 302, 303, 304, 305, 306] (by decide +kernel) (by decide +kernel)
set_option maxRecDepth 20000 in
theorem gL_law_X0_day : GoodIn wsL_law (wsV RL 137 RX0 yX0_day wsX0_day) := goodIn_app (goodIn_of _ (by decide +kernel)) ggL_law_X0_day
set_option maxRecDepth 20000 in
theorem ggL_law_X0_faultsFound : GoodIn wsL_law wsX0_faultsFound := goodIn_r _ [259, 29, 293, 294, 295, 296, 297, 298, 299, 300, 301, 302, 303, 304, 305, 306] (by decide +kernel) (by decide +kernel)
set_option maxRecDepth 20000 in
theorem gL_law_X0_faultsFound : GoodIn wsL_law (wsV RL 140 RX0 yX0_faultsFound wsX0_faultsFound) := goodIn_app (goodIn_of _ (by decide +kernel)) ggL_law_X0_faultsFound
set_option maxRecDepth 20000 in
theorem ggL_law_X0_pass : GoodIn wsL_law wsX0_pass := goodIn_ca (goodIn_r _ [152, 77, 78, 2, 79, 80, 81, 153, 154, 155, 156, 28, 25, 157, 158, 159, 160, 133, 134, 135, 26, 29, 136, 137, 138, 139, 24, 140, 141, 142, 143, 20, 86, 87, 88, 89, 18, 90, 5, 6, 7, 161, 162, 163, 164, 19, 17, 106, 9, 10, 107, 108, 109, 110, 165, 166, 167, 168, 293, 294, 295, 296, 297, 298, 299, 300, 301, 302, 303, 304, 305, 306] (by decide +kernel) (by decide +kernel)) (goodIn_sub (fun _ h => List.mem_append_right _ h) (by decide +kernel))
set_option maxRecDepth 20000 in
theorem gL_law_X0_pass : GoodIn wsL_law (wsV RL 64 RX0 yX0_pass wsX0_pass) := goodIn_app (goodIn_of _ (by decide +kernel)) ggL_law_X0_pass
set_option maxRecDepth 20000 in
theorem ggL_law_X1_pass : GoodIn wsL_law wsX1_pass := goodIn_r _ [176, 177, 42, 178, 145, 146, 36, 147, 43, 41, 148, 307, 308, 309, 310, 311] (by decide +kernel) (by decide +kernel)
set_option maxRecDepth 20000 in
theorem gL_law_X1_pass : GoodIn wsL_law (wsV RL 143 RX1 yX1_pass wsX1_pass) := goodIn_app (goodIn_of _ (by decide +kernel)) ggL_law_X1_pass
set_option maxRecDepth 20000 in
theorem ggL_law_X1_isSame_r2 : GoodIn wsL_law wsX1_isSame_r2 := goodIn_r _ [186, 26, 269, 137, 138, 139, 24, 270, 271, 272, 36, 273, 274, 257, 258, 259, 29, 275, 204, 205, 206, 20, 191, 192] (by decide +kernel) (by decide +kernel)
set_option maxRecDepth 20000 in
theorem ggL_law_X1_isSame_r3 : GoodIn wsL_law wsX1_isSame_r3 := goodIn_r _ [193, 194, 75, 76, 276, 200, 201, 202, 22, 277, 196, 197, 198, 23, 278, 188, 189, 190, 279, 208, 209, 210, 17, 71] (by decide +kernel) (by decide +kernel)
set_option maxRecDepth 20000 in
theorem ggL_law_X1_isSame_r4 : GoodIn wsL_law wsX1_isSame_r4 := goodIn_r _ [72, 73, 74, 280, 212, 213, 214, 18, 281, 216, 217, 218, 19, 282, 228, 229, 230, 165, 166, 167, 168, 283, 220, 221] (by decide +kernel) (by decide +kernel)
set_option maxRecDepth 20000 in
theorem ggL_law_X1_isSame_r5 : GoodIn wsL_law wsX1_isSame_r5 := goodIn_r _ [222, 140, 141, 142, 143, 284, 285, 286, 287, 288, 224, 225, 226, 289, 237, 238, 239, 290, 241, 242, 243, 291, 249, 250] (by decide +kernel) (by decide +kernel)
set_option maxRecDepth 20000 in
theorem ggL_law_X1_isSame_r6 : GoodIn wsL_law wsX1_isSame_r6 := goodIn_r _ [251, 292, 245, 246, 247] (by decide +kernel) (by decide +kernel)
set_option maxRecDepth 20000 in
theorem ggL_law_X1_isSame_r1 : GoodIn wsL_law (.code yX1_isSame cX1_isSame 9 (some .boolean) :: wsX1_isSame_r1) := goodIn_r _ [264, 42, 177, 40, 43, 148, 265, 253, 254, 2, 255, 28, 266, 180, 181, 182, 25, 267, 232, 233, 234, 27, 268, 184, 185] (by decide +kernel) (by decide +kernel)
set_option maxRecDepth 20000 in
theorem ggL_law_X1_isSame : GoodIn wsL_law wsX1_isSame := goodIn_ca (goodIn_ca (goodIn_ca (goodIn_ca ggL_law_X1_isSame_r1 (goodIn_app ggL_law_X1_isSame_r2 (goodIn_app ggL_law_X1_isSame_r3 (goodIn_app ggL_law_X1_isSame_r4 (goodIn_app ggL_law_X1_isSame_r5 (ggL_law_X1_isSame_r6)))))) (goodIn_r _ [307, 308, 309, 310, 311] (by decide +kernel) (by decide +kernel))) (goodIn_r _ [293, 294, 295, 296, 297, 298, 299, 300, 301, 302, 303, 304, 305, 306] (by decide +kernel) (by decide +kernel))) (goodIn_sub (fun _ h => List.mem_append_left _ (List.mem_append_right _ h)) (by decide +kernel))
set_option maxRecDepth 20000 in
theorem gL_law_X1_isSame : GoodIn wsL_law (wsV RL 148 RX1 yX1_isSame wsX1_isSame) := goodIn_app (goodIn_of _ (by decide +kernel)) ggL_law_X1_isSame
theorem dL_law_0 : decode cL_law 0 = .ok (.new 26, 3) := by decide +kernel
theorem dL_law_3 : decode cL_law 3 = .ok (.dup, 1) := by decide +kernel
theorem dL_law_4 : decode cL_law 4 = .ok (.invokespecial 79, 3) := by decide +kernel
theorem dL_law_7 : decode cL_law 7 = .ok (.astore_n 1, 1) := by decide +kernel
theorem dL_law_8 : decode cL_law 8 = .ok (.aload_n 1, 1) := by decide +kernel
theorem dL_law_9 : decode cL_law 9 = .ok (.aload_n 0, 1) := by decide +kernel
theorem dL_law_10 : decode cL_law 10 = .ok (.invokestatic 80, 3) := by decide +kernel
theorem dL_law_13 : decode cL_law 13 = .ok (.astore_n 2, 1) := by decide +kernel
theorem dL_law_14 : decode cL_law 14 = .ok (.aload_n 2, 1) := by decide +kernel
theorem dL_law_15 : decode cL_law 15 = .ok (.ifnonnull 5, 3) := by decide +kernel
theorem dL_law_18 : decode cL_law 18 = .ok (.iconst 0, 1) := by decide +kernel
theorem dL_law_19 : decode cL_law 19 = .ok (.ireturn, 1) := by decide +kernel
theorem dL_law_20 : decode cL_law 20 = .ok (.iconst 0, 1) := by decide +kernel
theorem dL_law_21 : decode cL_law 21 = .ok (.istore_n 3, 1) := by decide +kernel
theorem dL_law_22 : decode cL_law 22 = .ok (.iload_n 3, 1) := by decide +kernel
theorem dL_law_23 : decode cL_law 23 = .ok (.bipush 40, 2) := by decide +kernel
theorem dL_law_25 : decode cL_law 25 = .ok (.if_icmp .ge 852, 3) := by decide +kernel
theorem dL_law_28 : decode cL_law 28 = .ok (.aload_n 0, 1) := by decide +kernel
theorem dL_law_29 : decode cL_law 29 = .ok (.iload_n 3, 1) := by decide +kernel
theorem dL_law_30 : decode cL_law 30 = .ok (.bipush 16, 2) := by decide +kernel
theorem dL_law_32 : decode cL_law 32 = .ok (.irem, 1) := by decide +kernel
theorem dL_law_33 : decode cL_law 33 = .ok (.invokestatic 71, 3) := by decide +kernel
theorem dL_law_36 : decode cL_law 36 = .ok (.iload_n 3, 1) := by decide +kernel
theorem dL_law_37 : decode cL_law 37 = .ok (.bipush 16, 2) := by decide +kernel
theorem dL_law_39 : decode cL_law 39 = .ok (.idiv, 1) := by decide +kernel
theorem dL_law_40 : decode cL_law 40 = .ok (.iconst 3, 1) := by decide +kernel
theorem dL_law_41 : decode cL_law 41 = .ok (.imul, 1) := by decide +kernel
theorem dL_law_42 : decode cL_law 42 = .ok (.ishr, 1) := by decide +kernel
theorem dL_law_43 : decode cL_law 43 = .ok (.sipush 613, 3) := by decide +kernel
theorem dL_law_46 : decode cL_law 46 = .ok (.iload_n 3, 1) := by decide +kernel
theorem dL_law_47 : decode cL_law 47 = .ok (.imul, 1) := by decide +kernel
theorem dL_law_48 : decode cL_law 48 = .ok (.iadd, 1) := by decide +kernel
theorem dL_law_49 : decode cL_law 49 = .ok (.istore 4, 2) := by decide +kernel
theorem dL_law_51 : decode cL_law 51 = .ok (.aload_n 1, 1) := by decide +kernel
theorem dL_law_52 : decode cL_law 52 = .ok (.aload_n 2, 1) := by decide +kernel
theorem dL_law_53 : decode cL_law 53 = .ok (.iload 4, 2) := by decide +kernel
theorem dL_law_55 : decode cL_law 55 = .ok (.invokestatic 75, 3) := by decide +kernel
theorem dL_law_58 : decode cL_law 58 = .ok (.ifCond .ne 5, 3) := by decide +kernel
theorem dL_law_61 : decode cL_law 61 = .ok (.iconst 0, 1) := by decide +kernel
theorem dL_law_62 : decode cL_law 62 = .ok (.ireturn, 1) := by decide +kernel
theorem dL_law_63 : decode cL_law 63 = .ok (.aload_n 1, 1) := by decide +kernel
theorem dL_law_64 : decode cL_law 64 = .ok (.invokevirtual 84, 3) := by decide +kernel
theorem dL_law_67 : decode cL_law 67 = .ok (.istore 5, 2) := by decide +kernel
theorem dL_law_69 : decode cL_law 69 = .ok (.iconst 0, 1) := by decide +kernel
theorem dL_law_70 : decode cL_law 70 = .ok (.istore 6, 2) := by decide +kernel
theorem dL_law_72 : decode cL_law 72 = .ok (.iload 5, 2) := by decide +kernel
theorem dL_law_74 : decode cL_law 74 = .ok (.newarray .int, 2) := by decide +kernel
theorem dL_law_76 : decode cL_law 76 = .ok (.astore 7, 2) := by decide +kernel
theorem dL_law_78 : decode cL_law 78 = .ok (.iconst 0, 1) := by decide +kernel
theorem dL_law_79 : decode cL_law 79 = .ok (.istore 8, 2) := by decide +kernel
theorem dL_law_81 : decode cL_law 81 = .ok (.iload 8, 2) := by decide +kernel
theorem dL_law_83 : decode cL_law 83 = .ok (.aload_n 1, 1) := by decide +kernel
theorem dL_law_84 : decode cL_law 84 = .ok (.invokevirtual 86, 3) := by decide +kernel
theorem dL_law_87 : decode cL_law 87 = .ok (.if_icmp .ge 127, 3) := by decide +kernel
theorem dL_law_90 : decode cL_law 90 = .ok (.aload_n 1, 1) := by decide +kernel
theorem dL_law_91 : decode cL_law 91 = .ok (.iload 8, 2) := by decide +kernel
theorem dL_law_93 : decode cL_law 93 = .ok (.invokevirtual 88, 3) := by decide +kernel
theorem dL_law_96 : decode cL_law 96 = .ok (.istore 9, 2) := by decide +kernel
theorem dL_law_98 : decode cL_law 98 = .ok (.aload_n 1, 1) := by decide +kernel
theorem dL_law_99 : decode cL_law 99 = .ok (.iload 8, 2) := by decide +kernel
theorem dL_law_101 : decode cL_law 101 = .ok (.invokevirtual 91, 3) := by decide +kernel
theorem dL_law_104 : decode cL_law 104 = .ok (.iconst 1, 1) := by decide +kernel
theorem dL_law_105 : decode cL_law 105 = .ok (.if_icmp .lt 70, 3) := by decide +kernel
theorem dL_law_108 : decode cL_law 108 = .ok (.aload_n 1, 1) := by decide +kernel
theorem dL_law_109 : decode cL_law 109 = .ok (.iload 8, 2) := by decide +kernel
theorem dL_law_111 : decode cL_law 111 = .ok (.invokevirtual 91, 3) := by decide +kernel
theorem dL_law_114 : decode cL_law 114 = .ok (.bipush 9, 2) := by decide +kernel
theorem dL_law_116 : decode cL_law 116 = .ok (.if_icmp .gt 59, 3) := by decide +kernel
theorem dL_law_119 : decode cL_law 119 = .ok (.iload 9, 2) := by decide +kernel
theorem dL_law_121 : decode cL_law 121 = .ok (.ifCond .lt 54, 3) := by decide +kernel
theorem dL_law_124 : decode cL_law 124 = .ok (.iload 9, 2) := by decide +kernel
theorem dL_law_126 : decode cL_law 126 = .ok (.aload_n 1, 1) := by decide +kernel
theorem dL_law_127 : decode cL_law 127 = .ok (.iload 8, 2) := by decide +kernel
theorem dL_law_129 : decode cL_law 129 = .ok (.invokevirtual 91, 3) := by decide +kernel
theorem dL_law_132 : decode cL_law 132 = .ok (.if_icmp .gt 43, 3) := by decide +kernel
theorem dL_law_135 : decode cL_law 135 = .ok (.aload_n 1, 1) := by decide +kernel
theorem dL_law_136 : decode cL_law 136 = .ok (.iload 8, 2) := by decide +kernel
theorem dL_law_138 : decode cL_law 138 = .ok (.invokevirtual 94, 3) := by decide +kernel
theorem dL_law_141 : decode cL_law 141 = .ok (.ifCond .ne 14, 3) := by decide +kernel
theorem dL_law_144 : decode cL_law 144 = .ok (.iload 9, 2) := by decide +kernel
theorem dL_law_146 : decode cL_law 146 = .ok (.aload_n 1, 1) := by decide +kernel
theorem dL_law_147 : decode cL_law 147 = .ok (.iload 8, 2) := by decide +kernel
theorem dL_law_149 : decode cL_law 149 = .ok (.invokevirtual 91, 3) := by decide +kernel
theorem dL_law_152 : decode cL_law 152 = .ok (.if_icmp .ne 23, 3) := by decide +kernel
theorem dL_law_155 : decode cL_law 155 = .ok (.aload_n 1, 1) := by decide +kernel
theorem dL_law_156 : decode cL_law 156 = .ok (.iload 8, 2) := by decide +kernel
theorem dL_law_158 : decode cL_law 158 = .ok (.invokevirtual 98, 3) := by decide +kernel
theorem dL_law_161 : decode cL_law 161 = .ok (.ifCond .lt 14, 3) := by decide +kernel
theorem dL_law_164 : decode cL_law 164 = .ok (.aload_n 1, 1) := by decide +kernel
theorem dL_law_165 : decode cL_law 165 = .ok (.iload 8, 2) := by decide +kernel
theorem dL_law_167 : decode cL_law 167 = .ok (.invokevirtual 98, 3) := by decide +kernel
theorem dL_law_170 : decode cL_law 170 = .ok (.iload 5, 2) := by decide +kernel
theorem dL_law_172 : decode cL_law 172 = .ok (.if_icmp .lt 5, 3) := by decide +kernel
theorem dL_law_175 : decode cL_law 175 = .ok (.iconst 0, 1) := by decide +kernel
theorem dL_law_176 : decode cL_law 176 = .ok (.ireturn, 1) := by decide +kernel
theorem dL_law_177 : decode cL_law 177 = .ok (.iload 6, 2) := by decide +kernel
theorem dL_law_179 : decode cL_law 179 = .ok (.iload 9, 2) := by decide +kernel
theorem dL_law_181 : decode cL_law 181 = .ok (.ifCond .le 7, 3) := by decide +kernel
theorem dL_law_184 : decode cL_law 184 = .ok (.iconst 1, 1) := by decide +kernel
theorem dL_law_185 : decode cL_law 185 = .ok (.goto 4, 3) := by decide +kernel
theorem dL_law_188 : decode cL_law 188 = .ok (.iconst 0, 1) := by decide +kernel
theorem dL_law_189 : decode cL_law 189 = .ok (.iadd, 1) := by decide +kernel
theorem dL_law_190 : decode cL_law 190 = .ok (.istore 6, 2) := by decide +kernel
theorem dL_law_192 : decode cL_law 192 = .ok (.aload 7, 2) := by decide +kernel
theorem dL_law_194 : decode cL_law 194 = .ok (.aload_n 1, 1) := by decide +kernel
theorem dL_law_195 : decode cL_law 195 = .ok (.iload 8, 2) := by decide +kernel
theorem dL_law_197 : decode cL_law 197 = .ok (.invokevirtual 98, 3) := by decide +kernel
theorem dL_law_200 : decode cL_law 200 = .ok (.dup2, 1) := by decide +kernel
theorem dL_law_201 : decode cL_law 201 = .ok (.iaload, 1) := by decide +kernel
theorem dL_law_202 : decode cL_law 202 = .ok (.iconst 2, 1) := by decide +kernel
theorem dL_law_203 : decode cL_law 203 = .ok (.iload 9, 2) := by decide +kernel
theorem dL_law_205 : decode cL_law 205 = .ok (.imul, 1) := by decide +kernel
theorem dL_law_206 : decode cL_law 206 = .ok (.iadd, 1) := by decide +kernel
theorem dL_law_207 : decode cL_law 207 = .ok (.iastore, 1) := by decide +kernel
theorem dL_law_208 : decode cL_law 208 = .ok (.iinc 8 1, 3) := by decide +kernel
theorem dL_law_211 : decode cL_law 211 = .ok (.goto (-130), 3) := by decide +kernel
theorem dL_law_214 : decode cL_law 214 = .ok (.iconst 0, 1) := by decide +kernel
theorem dL_law_215 : decode cL_law 215 = .ok (.istore 8, 2) := by decide +kernel
theorem dL_law_217 : decode cL_law 217 = .ok (.iconst 0, 1) := by decide +kernel
theorem dL_law_218 : decode cL_law 218 = .ok (.istore 9, 2) := by decide +kernel
theorem dL_law_220 : decode cL_law 220 = .ok (.iconst 0, 1) := by decide +kernel
theorem dL_law_221 : decode cL_law 221 = .ok (.istore 10, 2) := by decide +kernel
theorem dL_law_223 : decode cL_law 223 = .ok (.iload 5, 2) := by decide +kernel
theorem dL_law_225 : decode cL_law 225 = .ok (.newarray .int, 2) := by decide +kernel
theorem dL_law_227 : decode cL_law 227 = .ok (.astore 11, 2) := by decide +kernel
theorem dL_law_229 : decode cL_law 229 = .ok (.iload 5, 2) := by decide +kernel
theorem dL_law_231 : decode cL_law 231 = .ok (.newarray .int, 2) := by decide +kernel
theorem dL_law_233 : decode cL_law 233 = .ok (.astore 12, 2) := by decide +kernel
theorem dL_law_235 : decode cL_law 235 = .ok (.iload 5, 2) := by decide +kernel
theorem dL_law_237 : decode cL_law 237 = .ok (.newarray .int, 2) := by decide +kernel
theorem dL_law_239 : decode cL_law 239 = .ok (.astore 13, 2) := by decide +kernel
theorem dL_law_241 : decode cL_law 241 = .ok (.iconst 0, 1) := by decide +kernel
theorem dL_law_242 : decode cL_law 242 = .ok (.istore 14, 2) := by decide +kernel
theorem dL_law_244 : decode cL_law 244 = .ok (.iload 14, 2) := by decide +kernel
theorem dL_law_246 : decode cL_law 246 = .ok (.iload 5, 2) := by decide +kernel
theorem dL_law_248 : decode cL_law 248 = .ok (.if_icmp .ge 251, 3) := by decide +kernel
theorem dL_law_251 : decode cL_law 251 = .ok (.aload 11, 2) := by decide +kernel
theorem dL_law_253 : decode cL_law 253 = .ok (.iload 14, 2) := by decide +kernel
theorem dL_law_255 : decode cL_law 255 = .ok (.aload_n 1, 1) := by decide +kernel
theorem dL_law_256 : decode cL_law 256 = .ok (.iload 14, 2) := by decide +kernel
theorem dL_law_258 : decode cL_law 258 = .ok (.invokevirtual 101, 3) := by decide +kernel
theorem dL_law_261 : decode cL_law 261 = .ok (.iastore, 1) := by decide +kernel
theorem dL_law_262 : decode cL_law 262 = .ok (.aload 12, 2) := by decide +kernel
theorem dL_law_264 : decode cL_law 264 = .ok (.iload 14, 2) := by decide +kernel
theorem dL_law_266 : decode cL_law 266 = .ok (.aload_n 1, 1) := by decide +kernel
theorem dL_law_267 : decode cL_law 267 = .ok (.iload 14, 2) := by decide +kernel
theorem dL_law_269 : decode cL_law 269 = .ok (.invokevirtual 104, 3) := by decide +kernel
theorem dL_law_272 : decode cL_law 272 = .ok (.iastore, 1) := by decide +kernel
theorem dL_law_273 : decode cL_law 273 = .ok (.aload 13, 2) := by decide +kernel
theorem dL_law_275 : decode cL_law 275 = .ok (.iload 14, 2) := by decide +kernel
theorem dL_law_277 : decode cL_law 277 = .ok (.aload_n 1, 1) := by decide +kernel
theorem dL_law_278 : decode cL_law 278 = .ok (.iload 14, 2) := by decide +kernel
theorem dL_law_280 : decode cL_law 280 = .ok (.invokevirtual 107, 3) := by decide +kernel
theorem dL_law_283 : decode cL_law 283 = .ok (.iastore, 1) := by decide +kernel
theorem dL_law_284 : decode cL_law 284 = .ok (.iload 8, 2) := by decide +kernel
theorem dL_law_286 : decode cL_law 286 = .ok (.aload 12, 2) := by decide +kernel
theorem dL_law_288 : decode cL_law 288 = .ok (.iload 14, 2) := by decide +kernel
theorem dL_law_290 : decode cL_law 290 = .ok (.iaload, 1) := by decide +kernel
theorem dL_law_291 : decode cL_law 291 = .ok (.iadd, 1) := by decide +kernel
theorem dL_law_292 : decode cL_law 292 = .ok (.istore 8, 2) := by decide +kernel
theorem dL_law_294 : decode cL_law 294 = .ok (.iload 9, 2) := by decide +kernel
theorem dL_law_296 : decode cL_law 296 = .ok (.aload 12, 2) := by decide +kernel
theorem dL_law_298 : decode cL_law 298 = .ok (.iload 14, 2) := by decide +kernel
theorem dL_law_300 : decode cL_law 300 = .ok (.iaload, 1) := by decide +kernel
theorem dL_law_301 : decode cL_law 301 = .ok (.ifCond .ne 7, 3) := by decide +kernel
theorem dL_law_304 : decode cL_law 304 = .ok (.iconst 1, 1) := by decide +kernel
theorem dL_law_305 : decode cL_law 305 = .ok (.goto 4, 3) := by decide +kernel
theorem dL_law_308 : decode cL_law 308 = .ok (.iconst 0, 1) := by decide +kernel
theorem dL_law_309 : decode cL_law 309 = .ok (.iadd, 1) := by decide +kernel
theorem dL_law_310 : decode cL_law 310 = .ok (.istore 9, 2) := by decide +kernel
theorem dL_law_312 : decode cL_law 312 = .ok (.iload 10, 2) := by decide +kernel
theorem dL_law_314 : decode cL_law 314 = .ok (.aload 11, 2) := by decide +kernel
theorem dL_law_316 : decode cL_law 316 = .ok (.iload 14, 2) := by decide +kernel
theorem dL_law_318 : decode cL_law 318 = .ok (.iaload, 1) := by decide +kernel
theorem dL_law_319 : decode cL_law 319 = .ok (.iadd, 1) := by decide +kernel
theorem dL_law_320 : decode cL_law 320 = .ok (.istore 10, 2) := by decide +kernel
theorem dL_law_322 : decode cL_law 322 = .ok (.aload 11, 2) := by decide +kernel
theorem dL_law_324 : decode cL_law 324 = .ok (.iload 14, 2) := by decide +kernel
theorem dL_law_326 : decode cL_law 326 = .ok (.iaload, 1) := by decide +kernel
theorem dL_law_327 : decode cL_law 327 = .ok (.ifCond .lt 79, 3) := by decide +kernel
theorem dL_law_330 : decode cL_law 330 = .ok (.aload 11, 2) := by decide +kernel
theorem dL_law_332 : decode cL_law 332 = .ok (.iload 14, 2) := by decide +kernel
theorem dL_law_334 : decode cL_law 334 = .ok (.iaload, 1) := by decide +kernel
theorem dL_law_335 : decode cL_law 335 = .ok (.bipush 100, 2) := by decide +kernel
theorem dL_law_337 : decode cL_law 337 = .ok (.if_icmp .gt 69, 3) := by decide +kernel
theorem dL_law_340 : decode cL_law 340 = .ok (.aload 12, 2) := by decide +kernel
theorem dL_law_342 : decode cL_law 342 = .ok (.iload 14, 2) := by decide +kernel
theorem dL_law_344 : decode cL_law 344 = .ok (.iaload, 1) := by decide +kernel
theorem dL_law_345 : decode cL_law 345 = .ok (.ifCond .lt 61, 3) := by decide +kernel
theorem dL_law_348 : decode cL_law 348 = .ok (.aload 12, 2) := by decide +kernel
theorem dL_law_350 : decode cL_law 350 = .ok (.iload 14, 2) := by decide +kernel
theorem dL_law_352 : decode cL_law 352 = .ok (.iaload, 1) := by decide +kernel
theorem dL_law_353 : decode cL_law 353 = .ok (.bipush 99, 2) := by decide +kernel
theorem dL_law_355 : decode cL_law 355 = .ok (.if_icmp .gt 51, 3) := by decide +kernel
theorem dL_law_358 : decode cL_law 358 = .ok (.aload 13, 2) := by decide +kernel
theorem dL_law_360 : decode cL_law 360 = .ok (.iload 14, 2) := by decide +kernel
theorem dL_law_362 : decode cL_law 362 = .ok (.iaload, 1) := by decide +kernel
theorem dL_law_363 : decode cL_law 363 = .ok (.ifCond .lt 43, 3) := by decide +kernel
theorem dL_law_366 : decode cL_law 366 = .ok (.aload 13, 2) := by decide +kernel
theorem dL_law_368 : decode cL_law 368 = .ok (.iload 14, 2) := by decide +kernel
theorem dL_law_370 : decode cL_law 370 = .ok (.iaload, 1) := by decide +kernel
theorem dL_law_371 : decode cL_law 371 = .ok (.bipush 9, 2) := by decide +kernel
theorem dL_law_373 : decode cL_law 373 = .ok (.if_icmp .gt 33, 3) := by decide +kernel
theorem dL_law_376 : decode cL_law 376 = .ok (.aload_n 1, 1) := by decide +kernel
theorem dL_law_377 : decode cL_law 377 = .ok (.iload 14, 2) := by decide +kernel
theorem dL_law_379 : decode cL_law 379 = .ok (.invokevirtual 110, 3) := by decide +kernel
theorem dL_law_382 : decode cL_law 382 = .ok (.aload 7, 2) := by decide +kernel
theorem dL_law_384 : decode cL_law 384 = .ok (.iload 14, 2) := by decide +kernel
theorem dL_law_386 : decode cL_law 386 = .ok (.iaload, 1) := by decide +kernel
theorem dL_law_387 : decode cL_law 387 = .ok (.if_icmp .ne 19, 3) := by decide +kernel
theorem dL_law_390 : decode cL_law 390 = .ok (.aload 11, 2) := by decide +kernel
theorem dL_law_392 : decode cL_law 392 = .ok (.iload 14, 2) := by decide +kernel
theorem dL_law_394 : decode cL_law 394 = .ok (.iaload, 1) := by decide +kernel
theorem dL_law_395 : decode cL_law 395 = .ok (.aload_n 1, 1) := by decide +kernel
theorem dL_law_396 : decode cL_law 396 = .ok (.aload_n 1, 1) := by decide +kernel
theorem dL_law_397 : decode cL_law 397 = .ok (.invokevirtual 113, 3) := by decide +kernel
theorem dL_law_400 : decode cL_law 400 = .ok (.invokevirtual 101, 3) := by decide +kernel
theorem dL_law_403 : decode cL_law 403 = .ok (.if_icmp .le 5, 3) := by decide +kernel
theorem dL_law_406 : decode cL_law 406 = .ok (.iconst 0, 1) := by decide +kernel
theorem dL_law_407 : decode cL_law 407 = .ok (.ireturn, 1) := by decide +kernel
theorem dL_law_408 : decode cL_law 408 = .ok (.aload_n 1, 1) := by decide +kernel
theorem dL_law_409 : decode cL_law 409 = .ok (.iload 14, 2) := by decide +kernel
theorem dL_law_411 : decode cL_law 411 = .ok (.invokevirtual 116, 3) := by decide +kernel
theorem dL_law_414 : decode cL_law 414 = .ok (.istore 15, 2) := by decide +kernel
theorem dL_law_416 : decode cL_law 416 = .ok (.iload 15, 2) := by decide +kernel
theorem dL_law_418 : decode cL_law 418 = .ok (.ifCond .le 7, 3) := by decide +kernel
theorem dL_law_421 : decode cL_law 421 = .ok (.iconst 1, 1) := by decide +kernel
theorem dL_law_422 : decode cL_law 422 = .ok (.goto 4, 3) := by decide +kernel
theorem dL_law_425 : decode cL_law 425 = .ok (.iconst 0, 1) := by decide +kernel
theorem dL_law_426 : decode cL_law 426 = .ok (.aload 13, 2) := by decide +kernel
theorem dL_law_428 : decode cL_law 428 = .ok (.iload 14, 2) := by decide +kernel
theorem dL_law_430 : decode cL_law 430 = .ok (.iaload, 1) := by decide +kernel
theorem dL_law_431 : decode cL_law 431 = .ok (.ifCond .ne 15, 3) := by decide +kernel
theorem dL_law_434 : decode cL_law 434 = .ok (.aload 12, 2) := by decide +kernel
theorem dL_law_436 : decode cL_law 436 = .ok (.iload 14, 2) := by decide +kernel
theorem dL_law_438 : decode cL_law 438 = .ok (.iaload, 1) := by decide +kernel
theorem dL_law_439 : decode cL_law 439 = .ok (.ifCond .le 7, 3) := by decide +kernel
theorem dL_law_442 : decode cL_law 442 = .ok (.iconst 1, 1) := by decide +kernel
theorem dL_law_443 : decode cL_law 443 = .ok (.goto 4, 3) := by decide +kernel
theorem dL_law_446 : decode cL_law 446 = .ok (.iconst 0, 1) := by decide +kernel
theorem dL_law_447 : decode cL_law 447 = .ok (.if_icmp .ne 44, 3) := by decide +kernel
theorem dL_law_450 : decode cL_law 450 = .ok (.iload 15, 2) := by decide +kernel
theorem dL_law_452 : decode cL_law 452 = .ok (.bipush 10, 2) := by decide +kernel
theorem dL_law_454 : decode cL_law 454 = .ok (.if_icmp .gt 37, 3) := by decide +kernel
theorem dL_law_457 : decode cL_law 457 = .ok (.iload 15, 2) := by decide +kernel
theorem dL_law_459 : decode cL_law 459 = .ok (.ifCond .le 34, 3) := by decide +kernel
theorem dL_law_462 : decode cL_law 462 = .ok (.bipush 10, 2) := by decide +kernel
theorem dL_law_464 : decode cL_law 464 = .ok (.iload 15, 2) := by decide +kernel
theorem dL_law_466 : decode cL_law 466 = .ok (.imul, 1) := by decide +kernel
theorem dL_law_467 : decode cL_law 467 = .ok (.aload 12, 2) := by decide +kernel
theorem dL_law_469 : decode cL_law 469 = .ok (.iload 14, 2) := by decide +kernel
theorem dL_law_471 : decode cL_law 471 = .ok (.iaload, 1) := by decide +kernel
theorem dL_law_472 : decode cL_law 472 = .ok (.if_icmp .lt 19, 3) := by decide +kernel
theorem dL_law_475 : decode cL_law 475 = .ok (.bipush 10, 2) := by decide +kernel
theorem dL_law_477 : decode cL_law 477 = .ok (.iload 15, 2) := by decide +kernel
theorem dL_law_479 : decode cL_law 479 = .ok (.imul, 1) := by decide +kernel
theorem dL_law_480 : decode cL_law 480 = .ok (.bipush 10, 2) := by decide +kernel
theorem dL_law_482 : decode cL_law 482 = .ok (.isub, 1) := by decide +kernel
theorem dL_law_483 : decode cL_law 483 = .ok (.aload 12, 2) := by decide +kernel
theorem dL_law_485 : decode cL_law 485 = .ok (.iload 14, 2) := by decide +kernel
theorem dL_law_487 : decode cL_law 487 = .ok (.iaload, 1) := by decide +kernel
theorem dL_law_488 : decode cL_law 488 = .ok (.if_icmp .lt 5, 3) := by decide +kernel
theorem dL_law_491 : decode cL_law 491 = .ok (.iconst 0, 1) := by decide +kernel
theorem dL_law_492 : decode cL_law 492 = .ok (.ireturn, 1) := by decide +kernel
theorem dL_law_493 : decode cL_law 493 = .ok (.iinc 14 1, 3) := by decide +kernel
theorem dL_law_496 : decode cL_law 496 = .ok (.goto (-252), 3) := by decide +kernel
theorem dL_law_499 : decode cL_law 499 = .ok (.aload_n 1, 1) := by decide +kernel
theorem dL_law_500 : decode cL_law 500 = .ok (.invokevirtual 86, 3) := by decide +kernel
theorem dL_law_503 : decode cL_law 503 = .ok (.bipush 30, 2) := by decide +kernel
theorem dL_law_505 : decode cL_law 505 = .ok (.if_icmp .gt 79, 3) := by decide +kernel
theorem dL_law_508 : decode cL_law 508 = .ok (.aload_n 1, 1) := by decide +kernel
theorem dL_law_509 : decode cL_law 509 = .ok (.invokevirtual 119, 3) := by decide +kernel
theorem dL_law_512 : decode cL_law 512 = .ok (.ifCond .lt 72, 3) := by decide +kernel
theorem dL_law_515 : decode cL_law 515 = .ok (.aload_n 1, 1) := by decide +kernel
theorem dL_law_516 : decode cL_law 516 = .ok (.invokevirtual 119, 3) := by decide +kernel
theorem dL_law_519 : decode cL_law 519 = .ok (.sipush 500, 3) := by decide +kernel
theorem dL_law_522 : decode cL_law 522 = .ok (.if_icmp .gt 62, 3) := by decide +kernel
theorem dL_law_525 : decode cL_law 525 = .ok (.iload 6, 2) := by decide +kernel
theorem dL_law_527 : decode cL_law 527 = .ok (.aload_n 1, 1) := by decide +kernel
theorem dL_law_528 : decode cL_law 528 = .ok (.invokevirtual 121, 3) := by decide +kernel
theorem dL_law_531 : decode cL_law 531 = .ok (.if_icmp .ne 53, 3) := by decide +kernel
theorem dL_law_534 : decode cL_law 534 = .ok (.iload 8, 2) := by decide +kernel
theorem dL_law_536 : decode cL_law 536 = .ok (.aload_n 1, 1) := by decide +kernel
theorem dL_law_537 : decode cL_law 537 = .ok (.invokevirtual 124, 3) := by decide +kernel
theorem dL_law_540 : decode cL_law 540 = .ok (.if_icmp .ne 44, 3) := by decide +kernel
theorem dL_law_543 : decode cL_law 543 = .ok (.iload 9, 2) := by decide +kernel
theorem dL_law_545 : decode cL_law 545 = .ok (.aload_n 1, 1) := by decide +kernel
theorem dL_law_546 : decode cL_law 546 = .ok (.invokevirtual 127, 3) := by decide +kernel
theorem dL_law_549 : decode cL_law 549 = .ok (.if_icmp .ne 35, 3) := by decide +kernel
theorem dL_law_552 : decode cL_law 552 = .ok (.aload_n 1, 1) := by decide +kernel
theorem dL_law_553 : decode cL_law 553 = .ok (.invokevirtual 130, 3) := by decide +kernel
theorem dL_law_556 : decode cL_law 556 = .ok (.iload 10, 2) := by decide +kernel
theorem dL_law_558 : decode cL_law 558 = .ok (.i2d, 1) := by decide +kernel
theorem dL_law_559 : decode cL_law 559 = .ok (.iload 5, 2) := by decide +kernel
theorem dL_law_561 : decode cL_law 561 = .ok (.i2d, 1) := by decide +kernel
theorem dL_law_562 : decode cL_law 562 = .ok (.ddiv, 1) := by decide +kernel
theorem dL_law_563 : decode cL_law 563 = .ok (.dcmp .l, 1) := by decide +kernel
theorem dL_law_564 : decode cL_law 564 = .ok (.ifCond .ne 20, 3) := by decide +kernel
theorem dL_law_567 : decode cL_law 567 = .ok (.aload_n 1, 1) := by decide +kernel
theorem dL_law_568 : decode cL_law 568 = .ok (.invokevirtual 134, 3) := by decide +kernel
theorem dL_law_571 : decode cL_law 571 = .ok (.bipush 6, 2) := by decide +kernel
theorem dL_law_573 : decode cL_law 573 = .ok (.aload_n 1, 1) := by decide +kernel
theorem dL_law_574 : decode cL_law 574 = .ok (.invokevirtual 137, 3) := by decide +kernel
theorem dL_law_577 : decode cL_law 577 = .ok (.bipush 7, 2) := by decide +kernel
theorem dL_law_579 : decode cL_law 579 = .ok (.irem, 1) := by decide +kernel
theorem dL_law_580 : decode cL_law 580 = .ok (.isub, 1) := by decide +kernel
theorem dL_law_581 : decode cL_law 581 = .ok (.if_icmp .eq 5, 3) := by decide +kernel
theorem dL_law_584 : decode cL_law 584 = .ok (.iconst 0, 1) := by decide +kernel
theorem dL_law_585 : decode cL_law 585 = .ok (.ireturn, 1) := by decide +kernel
theorem dL_law_586 : decode cL_law 586 = .ok (.aload_n 1, 1) := by decide +kernel
theorem dL_law_587 : decode cL_law 587 = .ok (.invokevirtual 134, 3) := by decide +kernel
theorem dL_law_590 : decode cL_law 590 = .ok (.ifCond .ne 7, 3) := by decide +kernel
theorem dL_law_593 : decode cL_law 593 = .ok (.iconst 1, 1) := by decide +kernel
theorem dL_law_594 : decode cL_law 594 = .ok (.goto 4, 3) := by decide +kernel
theorem dL_law_597 : decode cL_law 597 = .ok (.iconst 0, 1) := by decide +kernel
theorem dL_law_598 : decode cL_law 598 = .ok (.istore 14, 2) := by decide +kernel
theorem dL_law_600 : decode cL_law 600 = .ok (.aload_n 1, 1) := by decide +kernel
theorem dL_law_601 : decode cL_law 601 = .ok (.invokevirtual 119, 3) := by decide +kernel
theorem dL_law_604 : decode cL_law 604 = .ok (.istore 15, 2) := by decide +kernel
theorem dL_law_606 : decode cL_law 606 = .ok (.aload_n 1, 1) := by decide +kernel
theorem dL_law_607 : decode cL_law 607 = .ok (.invokevirtual 86, 3) := by decide +kernel
theorem dL_law_610 : decode cL_law 610 = .ok (.istore 16, 2) := by decide +kernel
theorem dL_law_612 : decode cL_law 612 = .ok (.aload_n 1, 1) := by decide +kernel
theorem dL_law_613 : decode cL_law 613 = .ok (.invokevirtual 140, 3) := by decide +kernel
theorem dL_law_616 : decode cL_law 616 = .ok (.istore 17, 2) := by decide +kernel
theorem dL_law_618 : decode cL_law 618 = .ok (.aload_n 1, 1) := by decide +kernel
theorem dL_law_619 : decode cL_law 619 = .ok (.iconst 1, 1) := by decide +kernel
theorem dL_law_620 : decode cL_law 620 = .ok (.invokevirtual 64, 3) := by decide +kernel
theorem dL_law_623 : decode cL_law 623 = .ok (.istore 18, 2) := by decide +kernel
theorem dL_law_625 : decode cL_law 625 = .ok (.aload_n 2, 1) := by decide +kernel
theorem dL_law_626 : decode cL_law 626 = .ok (.invokevirtual 143, 3) := by decide +kernel
theorem dL_law_629 : decode cL_law 629 = .ok (.pop, 1) := by decide +kernel
theorem dL_law_630 : decode cL_law 630 = .ok (.iload 18, 2) := by decide +kernel
theorem dL_law_632 : decode cL_law 632 = .ok (.iload 14, 2) := by decide +kernel
theorem dL_law_634 : decode cL_law 634 = .ok (.ifCond .eq 8, 3) := by decide +kernel
theorem dL_law_637 : decode cL_law 637 = .ok (.iload 6, 2) := by decide +kernel
theorem dL_law_639 : decode cL_law 639 = .ok (.goto 4, 3) := by decide +kernel
theorem dL_law_642 : decode cL_law 642 = .ok (.iconst 0, 1) := by decide +kernel
theorem dL_law_643 : decode cL_law 643 = .ok (.if_icmp .ne 42, 3) := by decide +kernel
theorem dL_law_646 : decode cL_law 646 = .ok (.aload_n 1, 1) := by decide +kernel
theorem dL_law_647 : decode cL_law 647 = .ok (.invokevirtual 140, 3) := by decide +kernel
theorem dL_law_650 : decode cL_law 650 = .ok (.iload 17, 2) := by decide +kernel
theorem dL_law_652 : decode cL_law 652 = .ok (.iload 18, 2) := by decide +kernel
theorem dL_law_654 : decode cL_law 654 = .ok (.iadd, 1) := by decide +kernel
theorem dL_law_655 : decode cL_law 655 = .ok (.if_icmp .ne 30, 3) := by decide +kernel
theorem dL_law_658 : decode cL_law 658 = .ok (.aload_n 1, 1) := by decide +kernel
theorem dL_law_659 : decode cL_law 659 = .ok (.invokevirtual 86, 3) := by decide +kernel
theorem dL_law_662 : decode cL_law 662 = .ok (.iload 14, 2) := by decide +kernel
theorem dL_law_664 : decode cL_law 664 = .ok (.ifCond .eq 7, 3) := by decide +kernel
theorem dL_law_667 : decode cL_law 667 = .ok (.iconst 0, 1) := by decide +kernel
theorem dL_law_668 : decode cL_law 668 = .ok (.goto 5, 3) := by decide +kernel
theorem dL_law_671 : decode cL_law 671 = .ok (.iload 16, 2) := by decide +kernel
theorem dL_law_673 : decode cL_law 673 = .ok (.if_icmp .ne 12, 3) := by decide +kernel
theorem dL_law_676 : decode cL_law 676 = .ok (.aload_n 1, 1) := by decide +kernel
theorem dL_law_677 : decode cL_law 677 = .ok (.invokevirtual 119, 3) := by decide +kernel
theorem dL_law_680 : decode cL_law 680 = .ok (.iload 15, 2) := by decide +kernel
theorem dL_law_682 : decode cL_law 682 = .ok (.if_icmp .eq 5, 3) := by decide +kernel
theorem dL_law_685 : decode cL_law 685 = .ok (.iconst 0, 1) := by decide +kernel
theorem dL_law_686 : decode cL_law 686 = .ok (.ireturn, 1) := by decide +kernel
theorem dL_law_687 : decode cL_law 687 = .ok (.iconst 0, 1) := by decide +kernel
theorem dL_law_688 : decode cL_law 688 = .ok (.istore 19, 2) := by decide +kernel
theorem dL_law_690 : decode cL_law 690 = .ok (.iload 19, 2) := by decide +kernel
theorem dL_law_692 : decode cL_law 692 = .ok (.iload 5, 2) := by decide +kernel
theorem dL_law_694 : decode cL_law 694 = .ok (.if_icmp .ge 177, 3) := by decide +kernel
theorem dL_law_697 : decode cL_law 697 = .ok (.iload 14, 2) := by decide +kernel
theorem dL_law_699 : decode cL_law 699 = .ok (.ifCond .eq 22, 3) := by decide +kernel
theorem dL_law_702 : decode cL_law 702 = .ok (.bipush 99, 2) := by decide +kernel
theorem dL_law_704 : decode cL_law 704 = .ok (.aload 12, 2) := by decide +kernel
theorem dL_law_706 : decode cL_law 706 = .ok (.iload 19, 2) := by decide +kernel
theorem dL_law_708 : decode cL_law 708 = .ok (.iaload, 1) := by decide +kernel
theorem dL_law_709 : decode cL_law 709 = .ok (.aload 7, 2) := by decide +kernel
theorem dL_law_711 : decode cL_law 711 = .ok (.iload 19, 2) := by decide +kernel
theorem dL_law_713 : decode cL_law 713 = .ok (.iaload, 1) := by decide +kernel
theorem dL_law_714 : decode cL_law 714 = .ok (.iadd, 1) := by decide +kernel
theorem dL_law_715 : decode cL_law 715 = .ok (.invokestatic 35, 3) := by decide +kernel
theorem dL_law_718 : decode cL_law 718 = .ok (.goto 8, 3) := by decide +kernel
theorem dL_law_721 : decode cL_law 721 = .ok (.aload 12, 2) := by decide +kernel
theorem dL_law_723 : decode cL_law 723 = .ok (.iload 19, 2) := by decide +kernel
theorem dL_law_725 : decode cL_law 725 = .ok (.iaload, 1) := by decide +kernel
theorem dL_law_726 : decode cL_law 726 = .ok (.istore 20, 2) := by decide +kernel
theorem dL_law_728 : decode cL_law 728 = .ok (.aload 13, 2) := by decide +kernel
theorem dL_law_730 : decode cL_law 730 = .ok (.iload 19, 2) := by decide +kernel
theorem dL_law_732 : decode cL_law 732 = .ok (.iaload, 1) := by decide +kernel
theorem dL_law_733 : decode cL_law 733 = .ok (.ifCond .le 7, 3) := by decide +kernel
theorem dL_law_736 : decode cL_law 736 = .ok (.iconst 1, 1) := by decide +kernel
theorem dL_law_737 : decode cL_law 737 = .ok (.goto 4, 3) := by decide +kernel
theorem dL_law_740 : decode cL_law 740 = .ok (.iconst 0, 1) := by decide +kernel
theorem dL_law_741 : decode cL_law 741 = .ok (.istore 21, 2) := by decide +kernel
theorem dL_law_743 : decode cL_law 743 = .ok (.iload 21, 2) := by decide +kernel
theorem dL_law_745 : decode cL_law 745 = .ok (.ifCond .eq 14, 3) := by decide +kernel
theorem dL_law_748 : decode cL_law 748 = .ok (.iconst 0, 1) := by decide +kernel
theorem dL_law_749 : decode cL_law 749 = .ok (.iload 20, 2) := by decide +kernel
theorem dL_law_751 : decode cL_law 751 = .ok (.iconst 3, 1) := by decide +kernel
theorem dL_law_752 : decode cL_law 752 = .ok (.isub, 1) := by decide +kernel
theorem dL_law_753 : decode cL_law 753 = .ok (.invokestatic 145, 3) := by decide +kernel
theorem dL_law_756 : decode cL_law 756 = .ok (.goto 5, 3) := by decide +kernel
theorem dL_law_759 : decode cL_law 759 = .ok (.iload 20, 2) := by decide +kernel
theorem dL_law_761 : decode cL_law 761 = .ok (.istore 22, 2) := by decide +kernel
theorem dL_law_763 : decode cL_law 763 = .ok (.iload 21, 2) := by decide +kernel
theorem dL_law_765 : decode cL_law 765 = .ok (.ifCond .eq 11, 3) := by decide +kernel
theorem dL_law_768 : decode cL_law 768 = .ok (.aload 11, 2) := by decide +kernel
theorem dL_law_770 : decode cL_law 770 = .ok (.iload 19, 2) := by decide +kernel
theorem dL_law_772 : decode cL_law 772 = .ok (.iaload, 1) := by decide +kernel
theorem dL_law_773 : decode cL_law 773 = .ok (.goto 41, 3) := by decide +kernel
theorem dL_law_776 : decode cL_law 776 = .ok (.iload 20, 2) := by decide +kernel
theorem dL_law_778 : decode cL_law 778 = .ok (.ifCond .ne 18, 3) := by decide +kernel
theorem dL_law_781 : decode cL_law 781 = .ok (.bipush 100, 2) := by decide +kernel
theorem dL_law_783 : decode cL_law 783 = .ok (.aload 11, 2) := by decide +kernel
theorem dL_law_785 : decode cL_law 785 = .ok (.iload 19, 2) := by decide +kernel
theorem dL_law_787 : decode cL_law 787 = .ok (.iaload, 1) := by decide +kernel
theorem dL_law_788 : decode cL_law 788 = .ok (.iconst 1, 1) := by decide +kernel
theorem dL_law_789 : decode cL_law 789 = .ok (.iadd, 1) := by decide +kernel
theorem dL_law_790 : decode cL_law 790 = .ok (.invokestatic 35, 3) := by decide +kernel
theorem dL_law_793 : decode cL_law 793 = .ok (.goto 21, 3) := by decide +kernel
theorem dL_law_796 : decode cL_law 796 = .ok (.iconst 0, 1) := by decide +kernel
theorem dL_law_797 : decode cL_law 797 = .ok (.aload 11, 2) := by decide +kernel
theorem dL_law_799 : decode cL_law 799 = .ok (.iload 19, 2) := by decide +kernel
theorem dL_law_801 : decode cL_law 801 = .ok (.iaload, 1) := by decide +kernel
theorem dL_law_802 : decode cL_law 802 = .ok (.iload 20, 2) := by decide +kernel
theorem dL_law_804 : decode cL_law 804 = .ok (.bipush 9, 2) := by decide +kernel
theorem dL_law_806 : decode cL_law 806 = .ok (.iadd, 1) := by decide +kernel
theorem dL_law_807 : decode cL_law 807 = .ok (.bipush 10, 2) := by decide +kernel
theorem dL_law_809 : decode cL_law 809 = .ok (.idiv, 1) := by decide +kernel
theorem dL_law_810 : decode cL_law 810 = .ok (.isub, 1) := by decide +kernel
theorem dL_law_811 : decode cL_law 811 = .ok (.invokestatic 145, 3) := by decide +kernel
theorem dL_law_814 : decode cL_law 814 = .ok (.istore 23, 2) := by decide +kernel
theorem dL_law_816 : decode cL_law 816 = .ok (.aload_n 1, 1) := by decide +kernel
theorem dL_law_817 : decode cL_law 817 = .ok (.iload 19, 2) := by decide +kernel
theorem dL_law_819 : decode cL_law 819 = .ok (.invokevirtual 104, 3) := by decide +kernel
theorem dL_law_822 : decode cL_law 822 = .ok (.iload 22, 2) := by decide +kernel
theorem dL_law_824 : decode cL_law 824 = .ok (.if_icmp .ne 39, 3) := by decide +kernel
theorem dL_law_827 : decode cL_law 827 = .ok (.aload_n 1, 1) := by decide +kernel
theorem dL_law_828 : decode cL_law 828 = .ok (.iload 19, 2) := by decide +kernel
theorem dL_law_830 : decode cL_law 830 = .ok (.invokevirtual 101, 3) := by decide +kernel
theorem dL_law_833 : decode cL_law 833 = .ok (.iload 23, 2) := by decide +kernel
theorem dL_law_835 : decode cL_law 835 = .ok (.if_icmp .ne 28, 3) := by decide +kernel
theorem dL_law_838 : decode cL_law 838 = .ok (.aload_n 1, 1) := by decide +kernel
theorem dL_law_839 : decode cL_law 839 = .ok (.iload 19, 2) := by decide +kernel
theorem dL_law_841 : decode cL_law 841 = .ok (.invokevirtual 107, 3) := by decide +kernel
theorem dL_law_844 : decode cL_law 844 = .ok (.iload 21, 2) := by decide +kernel
theorem dL_law_846 : decode cL_law 846 = .ok (.ifCond .eq 13, 3) := by decide +kernel
theorem dL_law_849 : decode cL_law 849 = .ok (.aload 13, 2) := by decide +kernel
theorem dL_law_851 : decode cL_law 851 = .ok (.iload 19, 2) := by decide +kernel
theorem dL_law_853 : decode cL_law 853 = .ok (.iaload, 1) := by decide +kernel
theorem dL_law_854 : decode cL_law 854 = .ok (.iconst 1, 1) := by decide +kernel
theorem dL_law_855 : decode cL_law 855 = .ok (.isub, 1) := by decide +kernel
theorem dL_law_856 : decode cL_law 856 = .ok (.goto 4, 3) := by decide +kernel
theorem dL_law_859 : decode cL_law 859 = .ok (.iconst 0, 1) := by decide +kernel
theorem dL_law_860 : decode cL_law 860 = .ok (.if_icmp .eq 5, 3) := by decide +kernel
theorem dL_law_863 : decode cL_law 863 = .ok (.iconst 0, 1) := by decide +kernel
theorem dL_law_864 : decode cL_law 864 = .ok (.ireturn, 1) := by decide +kernel
theorem dL_law_865 : decode cL_law 865 = .ok (.iinc 19 1, 3) := by decide +kernel
theorem dL_law_868 : decode cL_law 868 = .ok (.goto (-178), 3) := by decide +kernel
theorem dL_law_871 : decode cL_law 871 = .ok (.iinc 3 1, 3) := by decide +kernel
theorem dL_law_874 : decode cL_law 874 = .ok (.goto (-852), 3) := by decide +kernel
theorem dL_law_877 : decode cL_law 877 = .ok (.aload_n 2, 1) := by decide +kernel
theorem dL_law_878 : decode cL_law 878 = .ok (.aload_n 1, 1) := by decide +kernel
theorem dL_law_879 : decode cL_law 879 = .ok (.invokevirtual 148, 3) := by decide +kernel
theorem dL_law_882 : decode cL_law 882 = .ok (.ireturn, 1) := by decide +kernel
end
section
abbrev vwCl : List vw_C := [(RX0, TX0, 14), (RX1, TX1, 5)]
/-- Math.min, Math.max, as the machine answers them -/
def imin (x y : Int32) : Int32 := if y < x then y else x
def imax (x y : Int32) : Int32 := if x < y then y else x
theorem imin_nI {a b : Nat} (ha : a < 2 ^ 31) (hb : b < 2 ^ 31) : imin (nI a) (nI b) = nI (min a b) := by
  unfold imin
  by_cases h : b < a
  · rw [if_pos ((nI_ltI hb ha).mpr h), Nat.min_eq_right (Nat.le_of_lt h)]
  · rw [if_neg (fun q => h ((nI_ltI hb ha).mp q)), Nat.min_eq_left (Nat.le_of_not_lt h)]
section ZB
variable {p : Program} {l : Launch} {e : Env} {R : Room} {s : State} {m : MethodId} {args : Array Value} {below : List Frame} {meth : Method} {c : Code}
variable {cc : ByteArray} {nL : Nat} {own : String} {Ts : List Cond} {D : va_G} {tys : List (ClassId × FieldType)} {A : Nat → Prop} {cells slots : Nat} {Q : State → Prop} {pc : Nat} {L : List (Nat × Value)} {st : List Value} {ws : va_W}
/-- the machine at pc with locals L, operand stack st, in any heap that holds the world ws, comes to Q -/
def zG (p : Program) (l : Launch) (e : Env) (R : Room) (s : State) (m : MethodId) (args : Array Value) (below : List Frame) (meth : Method) (c : Code) (D : va_G) (nL : Nat) (A : Nat → Prop) (cells slots : Nat) (Q : State → Prop) (pc : Nat) (L : List (Nat × Value)) (st : List Value) (ws : va_W) : Prop :=
  ∀ (H : Heap) (locs : List Loc) (ls : Array Slot), lv_has ls nL L → va_P D vwCl ws H → va_D A ws → va_S A s.heap H locs → W p l e R s m args below meth c H locs cells slots Q (F0 m pc ls st)
/-- what every row of a body takes -/
def zC (p : Program) (s : State) (m : MethodId) (args : Array Value) (c : Code) (cc : ByteArray) (nL : Nat) (own : String) (Ts : List Cond) (D : va_G) (tys : List (ClassId × FieldType)) (A : Nat → Prop) : Prop :=
  CallFix p m c cc nL s args Ts own ∧ va_K D vwCl tys s ∧ ∀ q : Nat, s.heap.size ≤ q → A q
theorem zC.exec (C : zC p s m args c cc nL own Ts D tys A) : p.tables.exec = Jvm.exec := C.1.1
theorem zC.code (C : zC p s m args c cc nL own Ts D tys A) : c.code = cc := C.1.2.1
theorem zC.maxl (C : zC p s m args c cc nL own Ts D tys A) : c.maxLocals = nL := C.1.2.2.1
theorem zC.here (C : zC p s m args c cc nL own Ts D tys A) : s.vm.findClass own = some m.cls := C.1.2.2.2.1
theorem zC.words (C : zC p s m args c cc nL own Ts D tys A) : ∀ w ∈ Ts, w.before args s = true := C.1.2.2.2.2
theorem zC.known (C : zC p s m args c cc nL own Ts D tys A) : va_K D vwCl tys s := C.2.1
theorem zC.new (C : zC p s m args c cc nL own Ts D tys A) : ∀ q : Nat, s.heap.size ≤ q → A q := C.2.2
theorem z_iconst (C : zC p s m args c cc nL own Ts D tys A) {n : Int} {v : Int32} (hdg : decode cc pc = .ok (.iconst n, 1)) (hv : Int32.ofInt n = v) (k : zG p l e R s m args below meth c D nL A cells slots Q (pc + 1) L (.int v :: st) ws) : zG p l e R s m args below meth c D nL A cells slots Q (pc) L (st) ws := fun H locs ls hl hP hD hS => lv_iconst C.exec C.code hdg hv (k H locs ls hl hP hD hS)
theorem z_bipush (C : zC p s m args c cc nL own Ts D tys A) {n : Int} {v : Int32} (hdg : decode cc pc = .ok (.bipush n, 2)) (hv : (Int8.ofInt n).toInt32 = v) (k : zG p l e R s m args below meth c D nL A cells slots Q (pc + 2) L (.int v :: st) ws) : zG p l e R s m args below meth c D nL A cells slots Q (pc) L (st) ws := fun H locs ls hl hP hD hS => lv_bipush C.exec C.code hdg hv (k H locs ls hl hP hD hS)
theorem z_sipush (C : zC p s m args c cc nL own Ts D tys A) {n : Int} {v : Int32} (hdg : decode cc pc = .ok (.sipush n, 3)) (hv : (Int16.ofInt n).toInt32 = v) (k : zG p l e R s m args below meth c D nL A cells slots Q (pc + 3) L (.int v :: st) ws) : zG p l e R s m args below meth c D nL A cells slots Q (pc) L (st) ws := fun H locs ls hl hP hD hS => lv_sipush C.exec C.code hdg hv (k H locs ls hl hP hD hS)
theorem z_lconst (C : zC p s m args c cc nL own Ts D tys A) {n : Fin 2} {v : Int64} (hdg : decode cc pc = .ok (.lconst n, 1)) (hv : Int64.ofNat (n : Nat) = v) (k : zG p l e R s m args below meth c D nL A cells slots Q (pc + 1) L (.long v :: st) ws) : zG p l e R s m args below meth c D nL A cells slots Q (pc) L (st) ws := fun H locs ls hl hP hD hS => lv_lconst C.exec C.code hdg hv (k H locs ls hl hP hD hS)
theorem z_dconst0 (C : zC p s m args c cc nL own Ts D tys A)  (hdg : decode cc pc = .ok (.dconst 0, 1)) (k : zG p l e R s m args below meth c D nL A cells slots Q (pc + 1) L (.double 0 :: st) ws) : zG p l e R s m args below meth c D nL A cells slots Q (pc) L (st) ws := fun H locs ls hl hP hD hS => lv_dconst0 C.exec C.code hdg (k H locs ls hl hP hD hS)
theorem z_ldc2 (C : zC p s m args c cc nL own Ts D tys A) {index : Nat} {v : Int64} (hc : (Cond.constantLong own index v) ∈ Ts) (hdg : decode cc pc = .ok (.ldc2_w index, 3)) (k : zG p l e R s m args below meth c D nL A cells slots Q (pc + 3) L (.long v :: st) ws) : zG p l e R s m args below meth c D nL A cells slots Q (pc) L (st) ws := fun H locs ls hl hP hD hS => lv_ldc2 C.exec C.code C.here (C.words _ hc) hdg (k H locs ls hl hP hD hS)
theorem z_iload_n (C : zC p s m args c cc nL own Ts D tys A) {k : Fin 4} {i : Nat} {x : Int32} (j : Nat) (hdg : decode cc pc = .ok (.iload_n k, 1)) (hi : (k : Nat) = i) (hj : L[j]? = some (i, .int x)) (kk : zG p l e R s m args below meth c D nL A cells slots Q (pc + 1) L (.int x :: st) ws) : zG p l e R s m args below meth c D nL A cells slots Q (pc) L (st) ws := fun H locs ls hl hP hD hS => lv_iload_n C.exec C.code hdg hi (lv_at hl j hj) (kk H locs ls hl hP hD hS)
theorem z_lload_n (C : zC p s m args c cc nL own Ts D tys A) {k : Fin 4} {i : Nat} {x : Int64} (j : Nat) (hdg : decode cc pc = .ok (.lload_n k, 1)) (hi : (k : Nat) = i) (hj : L[j]? = some (i, .long x)) (kk : zG p l e R s m args below meth c D nL A cells slots Q (pc + 1) L (.long x :: st) ws) : zG p l e R s m args below meth c D nL A cells slots Q (pc) L (st) ws := fun H locs ls hl hP hD hS => lv_lload_n C.exec C.code hdg hi (lv_at hl j hj) (kk H locs ls hl hP hD hS)
theorem z_aload_n (C : zC p s m args c cc nL own Ts D tys A) {k : Fin 4} {i : Nat} {x : Nat} (j : Nat) (hdg : decode cc pc = .ok (.aload_n k, 1)) (hi : (k : Nat) = i) (hj : L[j]? = some (i, .ref x)) (kk : zG p l e R s m args below meth c D nL A cells slots Q (pc + 1) L (.ref x :: st) ws) : zG p l e R s m args below meth c D nL A cells slots Q (pc) L (st) ws := fun H locs ls hl hP hD hS => lv_aload_n C.exec C.code hdg hi (lv_at hl j hj) (kk H locs ls hl hP hD hS)
theorem z_iload (C : zC p s m args c cc nL own Ts D tys A) {i : Nat} {x : Int32} (j : Nat) (hdg : decode cc pc = .ok (.iload i, 2)) (hj : L[j]? = some (i, .int x)) (kk : zG p l e R s m args below meth c D nL A cells slots Q (pc + 2) L (.int x :: st) ws) : zG p l e R s m args below meth c D nL A cells slots Q (pc) L (st) ws := fun H locs ls hl hP hD hS => lv_iload C.exec C.code hdg (lv_at hl j hj) (kk H locs ls hl hP hD hS)
theorem z_lload (C : zC p s m args c cc nL own Ts D tys A) {i : Nat} {x : Int64} (j : Nat) (hdg : decode cc pc = .ok (.lload i, 2)) (hj : L[j]? = some (i, .long x)) (kk : zG p l e R s m args below meth c D nL A cells slots Q (pc + 2) L (.long x :: st) ws) : zG p l e R s m args below meth c D nL A cells slots Q (pc) L (st) ws := fun H locs ls hl hP hD hS => lv_lload C.exec C.code hdg (lv_at hl j hj) (kk H locs ls hl hP hD hS)
theorem z_aload (C : zC p s m args c cc nL own Ts D tys A) {i : Nat} {x : Nat} (j : Nat) (hdg : decode cc pc = .ok (.aload i, 2)) (hj : L[j]? = some (i, .ref x)) (kk : zG p l e R s m args below meth c D nL A cells slots Q (pc + 2) L (.ref x :: st) ws) : zG p l e R s m args below meth c D nL A cells slots Q (pc) L (st) ws := fun H locs ls hl hP hD hS => lv_aload C.exec C.code hdg (lv_at hl j hj) (kk H locs ls hl hP hD hS)
theorem z_dload (C : zC p s m args c cc nL own Ts D tys A) {i : Nat} {x : UInt64} (j : Nat) (hdg : decode cc pc = .ok (.dload i, 2)) (hj : L[j]? = some (i, .double x)) (kk : zG p l e R s m args below meth c D nL A cells slots Q (pc + 2) L (.double x :: st) ws) : zG p l e R s m args below meth c D nL A cells slots Q (pc) L (st) ws := fun H locs ls hl hP hD hS => lv_dload C.exec C.code hdg (lv_at hl j hj) (kk H locs ls hl hP hD hS)
theorem z_istore_n (C : zC p s m args c cc nL own Ts D tys A) {k : Fin 4} {i : Nat} {x : Int32} {L' : List (Nat × Value)} (hdg : decode cc pc = .ok (.istore_n k, 1)) (hi : (k : Nat) = i) (hn : i < nL) (hL : (i, Value.int x) :: L.filter (fun q => !(q.1 == i) && !(q.1 + 1 == i && q.2.category == 2)) = L') (kk : zG p l e R s m args below meth c D nL A cells slots Q (pc + 1) L' (st) ws) : zG p l e R s m args below meth c D nL A cells slots Q (pc) L (.int x :: st) ws := fun H locs ls hl hP hD hS => lv_istore_n C.exec C.code hdg hi hl hn hL (fun ls' hl' => kk H locs ls' hl' hP hD hS)
theorem z_lstore_n (C : zC p s m args c cc nL own Ts D tys A) {k : Fin 4} {i : Nat} {x : Int64} {L' : List (Nat × Value)} (hdg : decode cc pc = .ok (.lstore_n k, 1)) (hi : (k : Nat) = i) (hn : i + 1 < nL) (hL : (i, Value.long x) :: L.filter (fun q => !(q.1 == i) && (!(q.1 == i + 1) && !(q.1 + 1 == i && q.2.category == 2))) = L') (kk : zG p l e R s m args below meth c D nL A cells slots Q (pc + 1) L' (st) ws) : zG p l e R s m args below meth c D nL A cells slots Q (pc) L (.long x :: st) ws := fun H locs ls hl hP hD hS => lv_lstore_n C.exec C.code hdg hi hl hn hL (fun ls' hl' => kk H locs ls' hl' hP hD hS)
theorem z_astore_n (C : zC p s m args c cc nL own Ts D tys A) {k : Fin 4} {i : Nat} {x : Nat} {L' : List (Nat × Value)} (hdg : decode cc pc = .ok (.astore_n k, 1)) (hi : (k : Nat) = i) (hn : i < nL) (hL : (i, Value.ref x) :: L.filter (fun q => !(q.1 == i) && !(q.1 + 1 == i && q.2.category == 2)) = L') (kk : zG p l e R s m args below meth c D nL A cells slots Q (pc + 1) L' (st) ws) : zG p l e R s m args below meth c D nL A cells slots Q (pc) L (.ref x :: st) ws := fun H locs ls hl hP hD hS => lv_astore_n C.exec C.code hdg hi hl hn hL (fun ls' hl' => kk H locs ls' hl' hP hD hS)
theorem z_istore (C : zC p s m args c cc nL own Ts D tys A) {i : Nat} {x : Int32} {L' : List (Nat × Value)} (hdg : decode cc pc = .ok (.istore i, 2)) (hn : i < nL) (hL : (i, Value.int x) :: L.filter (fun q => !(q.1 == i) && !(q.1 + 1 == i && q.2.category == 2)) = L') (kk : zG p l e R s m args below meth c D nL A cells slots Q (pc + 2) L' (st) ws) : zG p l e R s m args below meth c D nL A cells slots Q (pc) L (.int x :: st) ws := fun H locs ls hl hP hD hS => lv_istore C.exec C.code hdg hl hn hL (fun ls' hl' => kk H locs ls' hl' hP hD hS)
theorem z_lstore (C : zC p s m args c cc nL own Ts D tys A) {i : Nat} {x : Int64} {L' : List (Nat × Value)} (hdg : decode cc pc = .ok (.lstore i, 2)) (hn : i + 1 < nL) (hL : (i, Value.long x) :: L.filter (fun q => !(q.1 == i) && (!(q.1 == i + 1) && !(q.1 + 1 == i && q.2.category == 2))) = L') (kk : zG p l e R s m args below meth c D nL A cells slots Q (pc + 2) L' (st) ws) : zG p l e R s m args below meth c D nL A cells slots Q (pc) L (.long x :: st) ws := fun H locs ls hl hP hD hS => lv_lstore C.exec C.code hdg hl hn hL (fun ls' hl' => kk H locs ls' hl' hP hD hS)
theorem z_astore (C : zC p s m args c cc nL own Ts D tys A) {i : Nat} {x : Nat} {L' : List (Nat × Value)} (hdg : decode cc pc = .ok (.astore i, 2)) (hn : i < nL) (hL : (i, Value.ref x) :: L.filter (fun q => !(q.1 == i) && !(q.1 + 1 == i && q.2.category == 2)) = L') (kk : zG p l e R s m args below meth c D nL A cells slots Q (pc + 2) L' (st) ws) : zG p l e R s m args below meth c D nL A cells slots Q (pc) L (.ref x :: st) ws := fun H locs ls hl hP hD hS => lv_astore C.exec C.code hdg hl hn hL (fun ls' hl' => kk H locs ls' hl' hP hD hS)
theorem z_dstore (C : zC p s m args c cc nL own Ts D tys A) {i : Nat} {x : UInt64} {L' : List (Nat × Value)} (hdg : decode cc pc = .ok (.dstore i, 2)) (hn : i + 1 < nL) (hL : (i, Value.double x) :: L.filter (fun q => !(q.1 == i) && (!(q.1 == i + 1) && !(q.1 + 1 == i && q.2.category == 2))) = L') (kk : zG p l e R s m args below meth c D nL A cells slots Q (pc + 2) L' (st) ws) : zG p l e R s m args below meth c D nL A cells slots Q (pc) L (.double x :: st) ws := fun H locs ls hl hP hD hS => lv_dstore C.exec C.code hdg hl hn hL (fun ls' hl' => kk H locs ls' hl' hP hD hS)
theorem z_iinc (C : zC p s m args c cc nL own Ts D tys A) {i : Nat} {n : Int} {x v : Int32} {L' : List (Nat × Value)} (j : Nat) (hdg : decode cc pc = .ok (.iinc i n, 3)) (hj : L[j]? = some (i, .int x)) (hv : x + Int32.ofInt n = v) (hn : i < nL) (hL : (i, Value.int v) :: L.filter (fun q => !(q.1 == i) && !(q.1 + 1 == i && q.2.category == 2)) = L') (kk : zG p l e R s m args below meth c D nL A cells slots Q (pc + 3) L' (st) ws) : zG p l e R s m args below meth c D nL A cells slots Q (pc) L (st) ws := fun H locs ls hl hP hD hS => lv_iinc C.exec C.code hdg hl hj hv hn hL (fun ls' hl' => kk H locs ls' hl' hP hD hS)
theorem z_sub (ks : List Nat) {L' : List (Nat × Value)} (hL : lv_pick L ks = L') (kk : zG p l e R s m args below meth c D nL A cells slots Q (pc) L' (st) ws) : zG p l e R s m args below meth c D nL A cells slots Q (pc) L (st) ws := fun H locs ls hl hP hD hS => kk H locs ls (lv_sub hl ks hL) hP hD hS
theorem z_iadd (C : zC p s m args c cc nL own Ts D tys A) {x y : Int32} (hdg : decode cc pc = .ok (.iadd, 1)) (k : zG p l e R s m args below meth c D nL A cells slots Q (pc + 1) L (.int (x + y) :: st) ws) : zG p l e R s m args below meth c D nL A cells slots Q (pc) L (.int y :: .int x :: st) ws := fun H locs ls hl hP hD hS => lv_iadd C.exec C.code hdg (k H locs ls hl hP hD hS)
theorem z_isub (C : zC p s m args c cc nL own Ts D tys A) {x y : Int32} (hdg : decode cc pc = .ok (.isub, 1)) (k : zG p l e R s m args below meth c D nL A cells slots Q (pc + 1) L (.int (x - y) :: st) ws) : zG p l e R s m args below meth c D nL A cells slots Q (pc) L (.int y :: .int x :: st) ws := fun H locs ls hl hP hD hS => lv_isub C.exec C.code hdg (k H locs ls hl hP hD hS)
theorem z_imul (C : zC p s m args c cc nL own Ts D tys A) {x y : Int32} (hdg : decode cc pc = .ok (.imul, 1)) (k : zG p l e R s m args below meth c D nL A cells slots Q (pc + 1) L (.int (x * y) :: st) ws) : zG p l e R s m args below meth c D nL A cells slots Q (pc) L (.int y :: .int x :: st) ws := fun H locs ls hl hP hD hS => lv_imul C.exec C.code hdg (k H locs ls hl hP hD hS)
theorem z_iand (C : zC p s m args c cc nL own Ts D tys A) {x y : Int32} (hdg : decode cc pc = .ok (.iand, 1)) (k : zG p l e R s m args below meth c D nL A cells slots Q (pc + 1) L (.int (x &&& y) :: st) ws) : zG p l e R s m args below meth c D nL A cells slots Q (pc) L (.int y :: .int x :: st) ws := fun H locs ls hl hP hD hS => lv_iand C.exec C.code hdg (k H locs ls hl hP hD hS)
theorem z_ladd (C : zC p s m args c cc nL own Ts D tys A) {x y : Int64} (hdg : decode cc pc = .ok (.ladd, 1)) (k : zG p l e R s m args below meth c D nL A cells slots Q (pc + 1) L (.long (x + y) :: st) ws) : zG p l e R s m args below meth c D nL A cells slots Q (pc) L (.long y :: .long x :: st) ws := fun H locs ls hl hP hD hS => lv_ladd C.exec C.code hdg (k H locs ls hl hP hD hS)
theorem z_lmul (C : zC p s m args c cc nL own Ts D tys A) {x y : Int64} (hdg : decode cc pc = .ok (.lmul, 1)) (k : zG p l e R s m args below meth c D nL A cells slots Q (pc + 1) L (.long (x * y) :: st) ws) : zG p l e R s m args below meth c D nL A cells slots Q (pc) L (.long y :: .long x :: st) ws := fun H locs ls hl hP hD hS => lv_lmul C.exec C.code hdg (k H locs ls hl hP hD hS)
theorem z_idiv (C : zC p s m args c cc nL own Ts D tys A) {x y : Int32} (hdg : decode cc pc = .ok (.idiv, 1)) (hne : ¬ y = 0) (k : zG p l e R s m args below meth c D nL A cells slots Q (pc + 1) L (.int (x / y) :: st) ws) : zG p l e R s m args below meth c D nL A cells slots Q (pc) L (.int y :: .int x :: st) ws := fun H locs ls hl hP hD hS => lv_idiv C.exec C.code hdg hne (k H locs ls hl hP hD hS)
theorem z_irem (C : zC p s m args c cc nL own Ts D tys A) {x y : Int32} (hdg : decode cc pc = .ok (.irem, 1)) (hne : ¬ y = 0) (k : zG p l e R s m args below meth c D nL A cells slots Q (pc + 1) L (.int (x - x / y * y) :: st) ws) : zG p l e R s m args below meth c D nL A cells slots Q (pc) L (.int y :: .int x :: st) ws := fun H locs ls hl hP hD hS => lv_irem C.exec C.code hdg hne (k H locs ls hl hP hD hS)
theorem z_i2l (C : zC p s m args c cc nL own Ts D tys A) {x : Int32} {v : Int64} (hdg : decode cc pc = .ok (.i2l, 1)) (hv : x.toInt64 = v) (k : zG p l e R s m args below meth c D nL A cells slots Q (pc + 1) L (.long v :: st) ws) : zG p l e R s m args below meth c D nL A cells slots Q (pc) L (.int x :: st) ws := fun H locs ls hl hP hD hS => lv_i2l C.exec C.code hdg hv (k H locs ls hl hP hD hS)
theorem z_dup (C : zC p s m args c cc nL own Ts D tys A) {va : Value} (hdg : decode cc pc = .ok (.dup, 1)) (hva : va.category = 1) (k : zG p l e R s m args below meth c D nL A cells slots Q (pc + 1) L (va :: va :: st) ws) : zG p l e R s m args below meth c D nL A cells slots Q (pc) L (va :: st) ws := fun H locs ls hl hP hD hS => lv_dup C.exec C.code hdg hva (k H locs ls hl hP hD hS)
theorem z_pop (C : zC p s m args c cc nL own Ts D tys A) {va : Value} (hdg : decode cc pc = .ok (.pop, 1)) (hva : va.category = 1) (k : zG p l e R s m args below meth c D nL A cells slots Q (pc + 1) L (st) ws) : zG p l e R s m args below meth c D nL A cells slots Q (pc) L (va :: st) ws := fun H locs ls hl hP hD hS => lv_pop C.exec C.code hdg hva (k H locs ls hl hP hD hS)
theorem z_dup2 (C : zC p s m args c cc nL own Ts D tys A) {va vb : Value} (hdg : decode cc pc = .ok (.dup2, 1)) (hva : va.category = 1) (hvb : vb.category = 1) (k : zG p l e R s m args below meth c D nL A cells slots Q (pc + 1) L (va :: vb :: va :: vb :: st) ws) : zG p l e R s m args below meth c D nL A cells slots Q (pc) L (va :: vb :: st) ws := fun H locs ls hl hP hD hS => lv_dup2_11 C.exec C.code hdg hva hvb (k H locs ls hl hP hD hS)
theorem z_icmp_eq (C : zC p s m args c cc nL own Ts D tys A) {x y : Int32} {off : Int} {tgt : Nat} (hdg : decode cc pc = .ok (.if_icmp .eq off, 3)) (ht : (pc : Int) + off = (tgt : Int)) (kt : x = y → zG p l e R s m args below meth c D nL A cells slots Q (tgt) L (st) ws) (kf : ¬ x = y → zG p l e R s m args below meth c D nL A cells slots Q (pc + 3) L (st) ws) : zG p l e R s m args below meth c D nL A cells slots Q (pc) L (.int y :: .int x :: st) ws := fun H locs ls hl hP hD hS => lv_icmp_eq C.exec C.code hdg ht (fun h => kt h H locs ls hl hP hD hS) (fun h => kf h H locs ls hl hP hD hS)
theorem z_icmp_ne (C : zC p s m args c cc nL own Ts D tys A) {x y : Int32} {off : Int} {tgt : Nat} (hdg : decode cc pc = .ok (.if_icmp .ne off, 3)) (ht : (pc : Int) + off = (tgt : Int)) (kt : ¬ x = y → zG p l e R s m args below meth c D nL A cells slots Q (tgt) L (st) ws) (kf : x = y → zG p l e R s m args below meth c D nL A cells slots Q (pc + 3) L (st) ws) : zG p l e R s m args below meth c D nL A cells slots Q (pc) L (.int y :: .int x :: st) ws := fun H locs ls hl hP hD hS => lv_icmp_ne C.exec C.code hdg ht (fun h => kt h H locs ls hl hP hD hS) (fun h => kf h H locs ls hl hP hD hS)
theorem z_icmp_lt (C : zC p s m args c cc nL own Ts D tys A) {x y : Int32} {off : Int} {tgt : Nat} (hdg : decode cc pc = .ok (.if_icmp .lt off, 3)) (ht : (pc : Int) + off = (tgt : Int)) (kt : x < y → zG p l e R s m args below meth c D nL A cells slots Q (tgt) L (st) ws) (kf : ¬ x < y → zG p l e R s m args below meth c D nL A cells slots Q (pc + 3) L (st) ws) : zG p l e R s m args below meth c D nL A cells slots Q (pc) L (.int y :: .int x :: st) ws := fun H locs ls hl hP hD hS => lv_icmp_lt C.exec C.code hdg ht (fun h => kt h H locs ls hl hP hD hS) (fun h => kf h H locs ls hl hP hD hS)
theorem z_icmp_ge (C : zC p s m args c cc nL own Ts D tys A) {x y : Int32} {off : Int} {tgt : Nat} (hdg : decode cc pc = .ok (.if_icmp .ge off, 3)) (ht : (pc : Int) + off = (tgt : Int)) (kt : y ≤ x → zG p l e R s m args below meth c D nL A cells slots Q (tgt) L (st) ws) (kf : ¬ y ≤ x → zG p l e R s m args below meth c D nL A cells slots Q (pc + 3) L (st) ws) : zG p l e R s m args below meth c D nL A cells slots Q (pc) L (.int y :: .int x :: st) ws := fun H locs ls hl hP hD hS => lv_icmp_ge C.exec C.code hdg ht (fun h => kt h H locs ls hl hP hD hS) (fun h => kf h H locs ls hl hP hD hS)
theorem z_icmp_gt (C : zC p s m args c cc nL own Ts D tys A) {x y : Int32} {off : Int} {tgt : Nat} (hdg : decode cc pc = .ok (.if_icmp .gt off, 3)) (ht : (pc : Int) + off = (tgt : Int)) (kt : y < x → zG p l e R s m args below meth c D nL A cells slots Q (tgt) L (st) ws) (kf : ¬ y < x → zG p l e R s m args below meth c D nL A cells slots Q (pc + 3) L (st) ws) : zG p l e R s m args below meth c D nL A cells slots Q (pc) L (.int y :: .int x :: st) ws := fun H locs ls hl hP hD hS => lv_icmp_gt C.exec C.code hdg ht (fun h => kt h H locs ls hl hP hD hS) (fun h => kf h H locs ls hl hP hD hS)
theorem z_icmp_le (C : zC p s m args c cc nL own Ts D tys A) {x y : Int32} {off : Int} {tgt : Nat} (hdg : decode cc pc = .ok (.if_icmp .le off, 3)) (ht : (pc : Int) + off = (tgt : Int)) (kt : x ≤ y → zG p l e R s m args below meth c D nL A cells slots Q (tgt) L (st) ws) (kf : ¬ x ≤ y → zG p l e R s m args below meth c D nL A cells slots Q (pc + 3) L (st) ws) : zG p l e R s m args below meth c D nL A cells slots Q (pc) L (.int y :: .int x :: st) ws := fun H locs ls hl hP hD hS => lv_icmp_le C.exec C.code hdg ht (fun h => kt h H locs ls hl hP hD hS) (fun h => kf h H locs ls hl hP hD hS)
theorem z_if_eq (C : zC p s m args c cc nL own Ts D tys A) {x : Int32} {off : Int} {tgt : Nat} (hdg : decode cc pc = .ok (.ifCond .eq off, 3)) (ht : (pc : Int) + off = (tgt : Int)) (kt : x = 0 → zG p l e R s m args below meth c D nL A cells slots Q (tgt) L (st) ws) (kf : ¬ x = 0 → zG p l e R s m args below meth c D nL A cells slots Q (pc + 3) L (st) ws) : zG p l e R s m args below meth c D nL A cells slots Q (pc) L (.int x :: st) ws := fun H locs ls hl hP hD hS => lv_if_eq C.exec C.code hdg ht (fun h => kt h H locs ls hl hP hD hS) (fun h => kf h H locs ls hl hP hD hS)
theorem z_if_ne (C : zC p s m args c cc nL own Ts D tys A) {x : Int32} {off : Int} {tgt : Nat} (hdg : decode cc pc = .ok (.ifCond .ne off, 3)) (ht : (pc : Int) + off = (tgt : Int)) (kt : ¬ x = 0 → zG p l e R s m args below meth c D nL A cells slots Q (tgt) L (st) ws) (kf : x = 0 → zG p l e R s m args below meth c D nL A cells slots Q (pc + 3) L (st) ws) : zG p l e R s m args below meth c D nL A cells slots Q (pc) L (.int x :: st) ws := fun H locs ls hl hP hD hS => lv_if_ne C.exec C.code hdg ht (fun h => kt h H locs ls hl hP hD hS) (fun h => kf h H locs ls hl hP hD hS)
theorem z_if_lt (C : zC p s m args c cc nL own Ts D tys A) {x : Int32} {off : Int} {tgt : Nat} (hdg : decode cc pc = .ok (.ifCond .lt off, 3)) (ht : (pc : Int) + off = (tgt : Int)) (kt : x < 0 → zG p l e R s m args below meth c D nL A cells slots Q (tgt) L (st) ws) (kf : ¬ x < 0 → zG p l e R s m args below meth c D nL A cells slots Q (pc + 3) L (st) ws) : zG p l e R s m args below meth c D nL A cells slots Q (pc) L (.int x :: st) ws := fun H locs ls hl hP hD hS => lv_if_lt C.exec C.code hdg ht (fun h => kt h H locs ls hl hP hD hS) (fun h => kf h H locs ls hl hP hD hS)
theorem z_if_ge (C : zC p s m args c cc nL own Ts D tys A) {x : Int32} {off : Int} {tgt : Nat} (hdg : decode cc pc = .ok (.ifCond .ge off, 3)) (ht : (pc : Int) + off = (tgt : Int)) (kt : 0 ≤ x → zG p l e R s m args below meth c D nL A cells slots Q (tgt) L (st) ws) (kf : ¬ 0 ≤ x → zG p l e R s m args below meth c D nL A cells slots Q (pc + 3) L (st) ws) : zG p l e R s m args below meth c D nL A cells slots Q (pc) L (.int x :: st) ws := fun H locs ls hl hP hD hS => lv_if_ge C.exec C.code hdg ht (fun h => kt h H locs ls hl hP hD hS) (fun h => kf h H locs ls hl hP hD hS)
theorem z_if_gt (C : zC p s m args c cc nL own Ts D tys A) {x : Int32} {off : Int} {tgt : Nat} (hdg : decode cc pc = .ok (.ifCond .gt off, 3)) (ht : (pc : Int) + off = (tgt : Int)) (kt : 0 < x → zG p l e R s m args below meth c D nL A cells slots Q (tgt) L (st) ws) (kf : ¬ 0 < x → zG p l e R s m args below meth c D nL A cells slots Q (pc + 3) L (st) ws) : zG p l e R s m args below meth c D nL A cells slots Q (pc) L (.int x :: st) ws := fun H locs ls hl hP hD hS => lv_if_gt C.exec C.code hdg ht (fun h => kt h H locs ls hl hP hD hS) (fun h => kf h H locs ls hl hP hD hS)
theorem z_if_le (C : zC p s m args c cc nL own Ts D tys A) {x : Int32} {off : Int} {tgt : Nat} (hdg : decode cc pc = .ok (.ifCond .le off, 3)) (ht : (pc : Int) + off = (tgt : Int)) (kt : x ≤ 0 → zG p l e R s m args below meth c D nL A cells slots Q (tgt) L (st) ws) (kf : ¬ x ≤ 0 → zG p l e R s m args below meth c D nL A cells slots Q (pc + 3) L (st) ws) : zG p l e R s m args below meth c D nL A cells slots Q (pc) L (.int x :: st) ws := fun H locs ls hl hP hD hS => lv_if_le C.exec C.code hdg ht (fun h => kt h H locs ls hl hP hD hS) (fun h => kf h H locs ls hl hP hD hS)
theorem z_goto (C : zC p s m args c cc nL own Ts D tys A) {off : Int} {tgt : Nat} (hdg : decode cc pc = .ok (.goto off, 3)) (ht : (pc : Int) + off = (tgt : Int)) (k : zG p l e R s m args below meth c D nL A cells slots Q (tgt) L (st) ws) : zG p l e R s m args below meth c D nL A cells slots Q (pc) L (st) ws := fun H locs ls hl hP hD hS => lv_goto C.exec C.code hdg ht (k H locs ls hl hP hD hS)
theorem z_top {x y : Int32} (h : x = y) (k : zG p l e R s m args below meth c D nL A cells slots Q (pc) L (.int y :: st) ws) : zG p l e R s m args below meth c D nL A cells slots Q (pc) L (.int x :: st) ws := h ▸ k
theorem z_topl {x y : Int64} (h : x = y) (k : zG p l e R s m args below meth c D nL A cells slots Q (pc) L (.long y :: st) ws) : zG p l e R s m args below meth c D nL A cells slots Q (pc) L (.long x :: st) ws := h ▸ k
theorem z_ws {ws' : va_W} (h : ws = ws') (k : zG p l e R s m args below meth c D nL A cells slots Q (pc) L (st) ws') : zG p l e R s m args below meth c D nL A cells slots Q (pc) L (st) ws := h ▸ k
theorem z_loc {L' : List (Nat × Value)} (h : L = L') (k : zG p l e R s m args below meth c D nL A cells slots Q (pc) L' (st) ws) : zG p l e R s m args below meth c D nL A cells slots Q (pc) L (st) ws := h ▸ k
theorem z_pc {pc' : Nat} (h : pc = pc') (k : zG p l e R s m args below meth c D nL A cells slots Q (pc') L (st) ws) : zG p l e R s m args below meth c D nL A cells slots Q (pc) L (st) ws := h ▸ k
theorem z_more {cells' slots' : Nat} (h1 : cells ≤ cells') (h2 : slots ≤ slots') (k : zG p l e R s m args below meth c D nL A cells' slots' Q (pc) L (st) ws) : zG p l e R s m args below meth c D nL A cells slots Q (pc) L (st) ws := fun H locs ls hl hP hD hS => W.widen h1 h2 (k H locs ls hl hP hD hS)
theorem z_get0 (C : zC p s m args c cc nL own Ts D tys A) (hin : ∀ w ∈ u_ws RX0 TX0 14, w ∈ Ts) {index a : Nat} (q0 k : Nat) (hk : k < 14) {fs : List Value} {v : Value} (he : ws[q0]? = some (a, .inr (0, fs))) (hv : fs[k]? = some v) (hlink : Cond.fieldLink own index (TX0 k).1 (TX0 k).2.1 (TX0 k).2.2.1 ∈ Ts) (hdg : decode cc pc = .ok (.getfield index, 3)) (kk : zG p l e R s m args below meth c D nL A cells slots Q (pc + 3) L (v :: st) ws) : zG p l e R s m args below meth c D nL A cells slots Q (pc) L (.ref a :: st) ws := fun H locs ls hl hP hD hS => va_get (C := RX0) (T := TX0) (N := 14) C.exec C.code C.words hin C.here C.known hP q0 he rfl k hk (C.words _ hlink) (fun _ h => h) hv hdg (kk H locs ls hl hP hD hS)
theorem z_put0 (C : zC p s m args c cc nL own Ts D tys A) (hin : ∀ w ∈ u_ws RX0 TX0 14, w ∈ Ts) {index a : Nat} (q0 k : Nat) (hk : k < 14) {fs : List Value} {v : Int32} {ws' : va_W} (he : ws[q0]? = some (a, .inr (0, fs))) (hlen : fs.length = 14) (hty : (TX0 k).2.2.1 = "I" ∧ (TX0 k).2.2.2 = false) (hws : ws.set q0 (a, .inr (0, fs.set k (.int v))) = ws') (hlink : Cond.fieldLink own index (TX0 k).1 (TX0 k).2.1 (TX0 k).2.2.1 ∈ Ts) (hdg : decode cc pc = .ok (.putfield index, 3)) (kk : zG p l e R s m args below meth c D nL A cells slots Q (pc + 3) L (st) ws') : zG p l e R s m args below meth c D nL A cells slots Q (pc) L (.int v :: .ref a :: st) ws := fun H locs ls hl hP hD hS => va_put (C := RX0) (T := TX0) (N := 14) (ty := .int) C.exec C.code C.words hin tyX0 tyX0_ok nmX0 C.here C.known hP hD hS q0 he rfl k hk (C.words _ hlink) (fun _ h => h) hty.2 (by rw [hty.1]; decide +kernel) rfl rfl (by rw [hlen]; exact hk) hdg (fun H1 locs1 hP hD hS => kk H1 locs1 ls hl (hws ▸ hP) (hws ▸ hD) hS)
theorem z_putq0 (C : zC p s m args c cc nL RX0 Ts D tys A) (hin : ∀ w ∈ u_ws RX0 TX0 14, w ∈ Ts) (hin2 : meth.name = "<init>") {index a : Nat} (q0 k : Nat) (hk : k < 14) {fs : List Value} {v : Nat} {ty : FieldType} {ws' : va_W} (he : ws[q0]? = some (a, .inr (0, fs))) (hlen : fs.length = 14) (hfin : (TX0 k).2.2.2 = true) (hdecl : (TX0 k).1 = RX0) (hty : parseFieldDescriptor (TX0 k).2.2.1 = some ty) (hn : narrow ty (.ref v) = .ref v) (hf : fits ty (.ref v) = true) (hws : ws.set q0 (a, .inr (0, fs.set k (.ref v))) = ws') (hlink : Cond.fieldLink RX0 index (TX0 k).1 (TX0 k).2.1 (TX0 k).2.2.1 ∈ Ts) (hdg : decode cc pc = .ok (.putfield index, 3)) (kk : zG p l e R s m args below meth c D nL A cells slots Q (pc + 3) L (st) ws') : zG p l e R s m args below meth c D nL A cells slots Q (pc) L (.ref v :: .ref a :: st) ws := fun H locs ls hl hP hD hS => va_putF (C := RX0) (T := TX0) (N := 14) (ty := ty) C.exec C.code C.words hin tyX0 tyX0_ok nmX0 C.here C.known hP hD hS q0 he rfl k hk (C.words _ hlink) (fun _ h => h) hfin hin2 hdecl hty hn hf (by rw [hlen]; exact hk) hdg (fun H1 locs1 hP hD hS => kk H1 locs1 ls hl (hws ▸ hP) (hws ▸ hD) hS)
theorem z_get1 (C : zC p s m args c cc nL own Ts D tys A) (hin : ∀ w ∈ u_ws RX1 TX1 5, w ∈ Ts) {index a : Nat} (q0 k : Nat) (hk : k < 5) {fs : List Value} {v : Value} (he : ws[q0]? = some (a, .inr (1, fs))) (hv : fs[k]? = some v) (hlink : Cond.fieldLink own index (TX1 k).1 (TX1 k).2.1 (TX1 k).2.2.1 ∈ Ts) (hdg : decode cc pc = .ok (.getfield index, 3)) (kk : zG p l e R s m args below meth c D nL A cells slots Q (pc + 3) L (v :: st) ws) : zG p l e R s m args below meth c D nL A cells slots Q (pc) L (.ref a :: st) ws := fun H locs ls hl hP hD hS => va_get (C := RX1) (T := TX1) (N := 5) C.exec C.code C.words hin C.here C.known hP q0 he rfl k hk (C.words _ hlink) (fun _ h => h) hv hdg (kk H locs ls hl hP hD hS)
theorem z_put1 (C : zC p s m args c cc nL own Ts D tys A) (hin : ∀ w ∈ u_ws RX1 TX1 5, w ∈ Ts) {index a : Nat} (q0 k : Nat) (hk : k < 5) {fs : List Value} {v : Int32} {ws' : va_W} (he : ws[q0]? = some (a, .inr (1, fs))) (hlen : fs.length = 5) (hty : (TX1 k).2.2.1 = "I" ∧ (TX1 k).2.2.2 = false) (hws : ws.set q0 (a, .inr (1, fs.set k (.int v))) = ws') (hlink : Cond.fieldLink own index (TX1 k).1 (TX1 k).2.1 (TX1 k).2.2.1 ∈ Ts) (hdg : decode cc pc = .ok (.putfield index, 3)) (kk : zG p l e R s m args below meth c D nL A cells slots Q (pc + 3) L (st) ws') : zG p l e R s m args below meth c D nL A cells slots Q (pc) L (.int v :: .ref a :: st) ws := fun H locs ls hl hP hD hS => va_put (C := RX1) (T := TX1) (N := 5) (ty := .int) C.exec C.code C.words hin tyX1 tyX1_ok nmX1 C.here C.known hP hD hS q0 he rfl k hk (C.words _ hlink) (fun _ h => h) hty.2 (by rw [hty.1]; decide +kernel) rfl rfl (by rw [hlen]; exact hk) hdg (fun H1 locs1 hP hD hS => kk H1 locs1 ls hl (hws ▸ hP) (hws ▸ hD) hS)
theorem z_putq1 (C : zC p s m args c cc nL RX1 Ts D tys A) (hin : ∀ w ∈ u_ws RX1 TX1 5, w ∈ Ts) (hin2 : meth.name = "<init>") {index a : Nat} (q0 k : Nat) (hk : k < 5) {fs : List Value} {v : Nat} {ty : FieldType} {ws' : va_W} (he : ws[q0]? = some (a, .inr (1, fs))) (hlen : fs.length = 5) (hfin : (TX1 k).2.2.2 = true) (hdecl : (TX1 k).1 = RX1) (hty : parseFieldDescriptor (TX1 k).2.2.1 = some ty) (hn : narrow ty (.ref v) = .ref v) (hf : fits ty (.ref v) = true) (hws : ws.set q0 (a, .inr (1, fs.set k (.ref v))) = ws') (hlink : Cond.fieldLink RX1 index (TX1 k).1 (TX1 k).2.1 (TX1 k).2.2.1 ∈ Ts) (hdg : decode cc pc = .ok (.putfield index, 3)) (kk : zG p l e R s m args below meth c D nL A cells slots Q (pc + 3) L (st) ws') : zG p l e R s m args below meth c D nL A cells slots Q (pc) L (.ref v :: .ref a :: st) ws := fun H locs ls hl hP hD hS => va_putF (C := RX1) (T := TX1) (N := 5) (ty := ty) C.exec C.code C.words hin tyX1 tyX1_ok nmX1 C.here C.known hP hD hS q0 he rfl k hk (C.words _ hlink) (fun _ h => h) hfin hin2 hdecl hty hn hf (by rw [hlen]; exact hk) hdg (fun H1 locs1 hP hD hS => kk H1 locs1 ls hl (hws ▸ hP) (hws ▸ hD) hS)
theorem z_cl {i : Int32} {j n : Nat} (hi : i = nI j) (hj : j < n) (hn : n < 2 ^ 31) : vp_in i n ∧ i.toNatClampNeg = j := by
  subst hi
  exact ⟨vp_in_nI hj hn, nI_clamp (Nat.lt_trans hj hn)⟩
theorem z_iald (C : zC p s m args c cc nL own Ts D tys A) {a : Nat} (q0 t0 : Nat) {cA : ClassId} {n : Nat} {f : Nat → Int32} (ha : ws[q0]? = some (a, .inl (cA, n, .inl f))) (ht : tys[t0]? = some (cA, .int)) {i : Int32} (j : Nat) (hi : i = nI j) (hj : j < n) (hn : n < 2 ^ 31) (hdg : decode cc pc = .ok (.iaload, 1)) (kk : zG p l e R s m args below meth c D nL A cells slots Q (pc + 1) L (.int (f j) :: st) ws) : zG p l e R s m args below meth c D nL A cells slots Q (pc) L (.int i :: .ref a :: st) ws := fun H locs ls hl hP hD hS => va_iald C.exec C.code C.known hP q0 t0 ha ht (z_cl hi hj hn).1 hdg (by rw [(z_cl hi hj hn).2]; exact kk H locs ls hl hP hD hS)
theorem z_zald (C : zC p s m args c cc nL own Ts D tys A) {a : Nat} (q0 t0 : Nat) {cA : ClassId} {n : Nat} {f : Nat → Int32} (ha : ws[q0]? = some (a, .inl (cA, n, .inl f))) (ht : tys[t0]? = some (cA, .boolean)) {i : Int32} (j : Nat) (hi : i = nI j) (hj : j < n) (hn : n < 2 ^ 31) (hdg : decode cc pc = .ok (.baload, 1)) (kk : zG p l e R s m args below meth c D nL A cells slots Q (pc + 1) L (.int (f j) :: st) ws) : zG p l e R s m args below meth c D nL A cells slots Q (pc) L (.int i :: .ref a :: st) ws := fun H locs ls hl hP hD hS => va_zald C.exec C.code C.known hP q0 t0 ha ht (z_cl hi hj hn).1 hdg (by rw [(z_cl hi hj hn).2]; exact kk H locs ls hl hP hD hS)
theorem z_iast (C : zC p s m args c cc nL own Ts D tys A) {a : Nat} (q0 t0 : Nat) {cA : ClassId} {n : Nat} {f : Nat → Int32} {ws' : va_W} (ha : ws[q0]? = some (a, .inl (cA, n, .inl f))) (ht : tys[t0]? = some (cA, .int)) {i x : Int32} (j : Nat) (hi : i = nI j) (hj : j < n) (hn : n < 2 ^ 31) (hws : ws.set q0 (a, .inl (cA, n, .inl (upd f j x))) = ws') (hdg : decode cc pc = .ok (.iastore, 1)) (kk : zG p l e R s m args below meth c D nL A cells slots Q (pc + 1) L (st) ws') : zG p l e R s m args below meth c D nL A cells slots Q (pc) L (.int x :: .int i :: .ref a :: st) ws := fun H locs ls hl hP hD hS => va_iast C.exec C.code C.known hP hD hS q0 t0 ha ht (z_cl hi hj hn).1 hdg (by rw [(z_cl hi hj hn).2, hws]; exact fun H1 locs1 hP hD hS => kk H1 locs1 ls hl hP hD hS)
theorem z_zast (C : zC p s m args c cc nL own Ts D tys A) {a : Nat} (q0 t0 : Nat) {cA : ClassId} {n : Nat} {f : Nat → Int32} {ws' : va_W} (ha : ws[q0]? = some (a, .inl (cA, n, .inl f))) (ht : tys[t0]? = some (cA, .boolean)) {i x : Int32} (j : Nat) (hi : i = nI j) (hj : j < n) (hn : n < 2 ^ 31) (hx : x = 0 ∨ x = 1) (hws : ws.set q0 (a, .inl (cA, n, .inl (upd f j x))) = ws') (hdg : decode cc pc = .ok (.bastore, 1)) (kk : zG p l e R s m args below meth c D nL A cells slots Q (pc + 1) L (st) ws') : zG p l e R s m args below meth c D nL A cells slots Q (pc) L (.int x :: .int i :: .ref a :: st) ws := fun H locs ls hl hP hD hS => va_zast C.exec C.code C.known hP hD hS q0 t0 ha ht (z_cl hi hj hn).1 hdg (by rw [(z_cl hi hj hn).2, show vp_nar .boolean x = x from by rcases hx with h | h <;> rw [h] <;> decide, hws]; exact fun H1 locs1 hP hD hS => kk H1 locs1 ls hl hP hD hS)
theorem z_last (C : zC p s m args c cc nL own Ts D tys A) {a : Nat} (q0 t0 : Nat) {cA : ClassId} {n : Nat} {f : Nat → Int64} {ws' : va_W} (ha : ws[q0]? = some (a, .inl (cA, n, .inr (.inl f)))) (ht : tys[t0]? = some (cA, .long)) {i : Int32} {x : Int64} (j : Nat) (hi : i = nI j) (hj : j < n) (hn : n < 2 ^ 31) (hws : ws.set q0 (a, .inl (cA, n, .inr (.inl (vp_updL f j x)))) = ws') (hdg : decode cc pc = .ok (.lastore, 1)) (kk : zG p l e R s m args below meth c D nL A cells slots Q (pc + 1) L (st) ws') : zG p l e R s m args below meth c D nL A cells slots Q (pc) L (.long x :: .int i :: .ref a :: st) ws := fun H locs ls hl hP hD hS => va_last C.exec C.code C.known hP hD hS q0 t0 ha ht (z_cl hi hj hn).1 hdg (by rw [(z_cl hi hj hn).2, hws]; exact fun H1 locs1 hP hD hS => kk H1 locs1 ls hl hP hD hS)
theorem z_lald (C : zC p s m args c cc nL own Ts D tys A) {a : Nat} (q0 t0 : Nat) {cA : ClassId} {n : Nat} {f : Nat → Int64} (ha : ws[q0]? = some (a, .inl (cA, n, .inr (.inl f)))) (ht : tys[t0]? = some (cA, .long)) {i : Int32} (j : Nat) (hi : i = nI j) (hj : j < n) (hn : n < 2 ^ 31) (hdg : decode cc pc = .ok (.laload, 1)) (kk : zG p l e R s m args below meth c D nL A cells slots Q (pc + 1) L (.long (f j) :: st) ws) : zG p l e R s m args below meth c D nL A cells slots Q (pc) L (.int i :: .ref a :: st) ws := fun H locs ls hl hP hD hS => va_lald C.exec C.code C.known hP q0 t0 ha ht (z_cl hi hj hn).1 hdg (by rw [(z_cl hi hj hn).2]; exact kk H locs ls hl hP hD hS)
theorem z_alen (C : zC p s m args c cc nL own Ts D tys A) {a : Nat} (q0 t0 : Nat) {cA : ClassId} {x : vp_A} (ha : ws[q0]? = some (a, .inl (cA, x))) {ty : FieldType} (ht : tys[t0]? = some (cA, ty)) {v : Int32} (hv : Int32.ofNat x.1 = v) (hdg : decode cc pc = .ok (.arraylength, 1)) (kk : zG p l e R s m args below meth c D nL A cells slots Q (pc + 1) L (.int v :: st) ws) : zG p l e R s m args below meth c D nL A cells slots Q (pc) L (.ref a :: st) ws := fun H locs ls hl hP hD hS => va_alen C.exec C.code C.known hP q0 t0 ha ht hv hdg (kk H locs ls hl hP hD hS)
theorem z_mmin (C : zC p s m args c cc nL own Ts D tys A) {index : Nat} {x y : Int32} (h1 : Cond.methodLink own index Lib.Math.min.name ∈ Ts) (h2 : Cond.static Lib.Math.min.name ∈ Ts) (h3 : Cond.initialized "java/lang/Math" ∈ Ts) (h4 : Cond.code Lib.Math.min.name Lib.Math.min.code 2 (some .int) ∈ Ts) (hfr : 1 ≤ R.frames) (hlo : (st.map fun v => v.category).sum + 13 ≤ R.locals) (hc : cells ≤ R.cells) (hs : slots ≤ R.slots) (hdg : decode cc pc = .ok (.invokestatic index, 3)) (kk : zG p l e R s m args below meth c D nL A cells slots Q (pc + 3) L (.int (imin x y) :: st) ws) : zG p l e R s m args below meth c D nL A cells slots Q (pc) L (.int y :: .int x :: st) ws := fun H locs ls hl hP hD hS => va_mmin C.exec C.code (C.maxl.trans hl.1.symm) C.here (C.words _ h1) (C.words _ h2) (C.words _ h3) (C.words _ h4) hfr hlo hc hs hdg (kk H locs ls hl hP hD hS)
theorem z_mmax (C : zC p s m args c cc nL own Ts D tys A) {index : Nat} {x y : Int32} (h1 : Cond.methodLink own index Lib.Math.max.name ∈ Ts) (h2 : Cond.static Lib.Math.max.name ∈ Ts) (h3 : Cond.initialized "java/lang/Math" ∈ Ts) (h4 : Cond.code Lib.Math.max.name Lib.Math.max.code 2 (some .int) ∈ Ts) (hfr : 1 ≤ R.frames) (hlo : (st.map fun v => v.category).sum + 13 ≤ R.locals) (hc : cells ≤ R.cells) (hs : slots ≤ R.slots) (hdg : decode cc pc = .ok (.invokestatic index, 3)) (kk : zG p l e R s m args below meth c D nL A cells slots Q (pc + 3) L (.int (imax x y) :: st) ws) : zG p l e R s m args below meth c D nL A cells slots Q (pc) L (.int y :: .int x :: st) ws := fun H locs ls hl hP hD hS => va_mmax C.exec C.code (C.maxl.trans hl.1.symm) C.here (C.words _ h1) (C.words _ h2) (C.words _ h3) (C.words _ h4) hfr hlo hc hs hdg (kk H locs ls hl hP hD hS)
theorem z_i2d (C : zC p s m args c cc nL own Ts D tys A) {x : Int32} (hdg : decode cc pc = .ok (.i2d, 1)) (k : zG p l e R s m args below meth c D nL A cells slots Q (pc + 1) L (.double (FP.i2d x) :: st) ws) : zG p l e R s m args below meth c D nL A cells slots Q (pc) L (.int x :: st) ws := fun H locs ls hl hP hD hS => lv_i2d C.exec C.code hdg (k H locs ls hl hP hD hS)
theorem z_ddiv (C : zC p s m args c cc nL own Ts D tys A) {x y : UInt64} (hdg : decode cc pc = .ok (.ddiv, 1)) (hne : vf_n64 (FP.ddiv x y)) (k : zG p l e R s m args below meth c D nL A cells slots Q (pc + 1) L (.double (FP.ddiv x y) :: st) ws) : zG p l e R s m args below meth c D nL A cells slots Q (pc) L (.double y :: .double x :: st) ws := fun H locs ls hl hP hD hS => lv_ddiv C.exec C.code hdg hne (k H locs ls hl hP hD hS)
theorem z_lcmp (C : zC p s m args c cc nL own Ts D tys A) {x y : Int64} (hdg : decode cc pc = .ok (.lcmp, 1)) (k : zG p l e R s m args below meth c D nL A cells slots Q (pc + 1) L (.int (lg_cmp x y) :: st) ws) : zG p l e R s m args below meth c D nL A cells slots Q (pc) L (.long y :: .long x :: st) ws := fun H locs ls hl hP hD hS => W.lcmp C.exec C.code hdg (k H locs ls hl hP hD hS)
theorem z_dcmp (C : zC p s m args c cc nL own Ts D tys A) {x y : UInt64} {op : CmpOp} (hdg : decode cc pc = .ok (.dcmp op, 1)) (k : zG p l e R s m args below meth c D nL A cells slots Q (pc + 1) L (.int (Op.cmpValue (FP.dcmp x y) op) :: st) ws) : zG p l e R s m args below meth c D nL A cells slots Q (pc) L (.double y :: .double x :: st) ws := fun H locs ls hl hP hD hS => lv_dcmp C.exec C.code hdg (k H locs ls hl hP hD hS)
theorem z_newi (C : zC p s m args c cc nL own Ts D tys A) (t0 : Nat) {cI : ClassId} {n : Int32} {N : Nat} (ht : tys[t0]? = some (cI, .int)) (harr : Cond.arrayClass .int ∈ Ts) (hn : ¬ n < 0) (hN : n.toNatClampNeg = N) (hb : N ≤ 1000) (hcells : cells + 1 ≤ R.cells) (hslots : slots + N ≤ R.slots) (hdg : decode cc pc = .ok (.newarray .int, 2)) (kk : ∀ q : Nat, zG p l e R s m args below meth c D nL A (cells + 1) (slots + N) Q (pc + 2) L (.ref q :: st) (ws ++ [(q, .inl (cI, N, .inl (fun _ => 0)))])) : zG p l e R s m args below meth c D nL A cells slots Q (pc) L (.int n :: st) ws := by
  intro H locs ls hl hP hD hS
  refine va_newa (atype := .int) (ty := .int) (a0 := (N, .inl (fun _ => 0))) C.exec C.code (C.words _ harr) rfl C.known hP hD hS C.new (fun _ => rfl) hn hN (by show N * 4 ≤ _; omega) hcells hslots hdg (fun q cA H1 hK hP hD hS => ?_)
  have h1 : va_RA s cA .int := (hK.2 tys.length (cA, .int) (by simp)).2
  have h2 : va_RA s cI .int := (C.known.2 t0 _ ht).2
  have e : cA = cI := Option.some.inj (h1.symm.trans h2)
  subst e
  exact kk q H1 locs ls hl hP hD hS
theorem z_newz (C : zC p s m args c cc nL own Ts D tys A) (t0 : Nat) {cI : ClassId} {n : Int32} {N : Nat} (ht : tys[t0]? = some (cI, .boolean)) (harr : Cond.arrayClass .boolean ∈ Ts) (hn : ¬ n < 0) (hN : n.toNatClampNeg = N) (hb : N ≤ 1000) (hcells : cells + 1 ≤ R.cells) (hslots : slots + N ≤ R.slots) (hdg : decode cc pc = .ok (.newarray .boolean, 2)) (kk : ∀ q : Nat, zG p l e R s m args below meth c D nL A (cells + 1) (slots + N) Q (pc + 2) L (.ref q :: st) (ws ++ [(q, .inl (cI, N, .inl (fun _ => 0)))])) : zG p l e R s m args below meth c D nL A cells slots Q (pc) L (.int n :: st) ws := by
  intro H locs ls hl hP hD hS
  refine va_newa (atype := .boolean) (ty := .boolean) (a0 := (N, .inl (fun _ => 0))) C.exec C.code (C.words _ harr) rfl C.known hP hD hS C.new (fun _ => rfl) hn hN (by show N * 1 ≤ _; omega) hcells hslots hdg (fun q cA H1 hK hP hD hS => ?_)
  have h1 : va_RA s cA .boolean := (hK.2 tys.length (cA, .boolean) (by simp)).2
  have h2 : va_RA s cI .boolean := (C.known.2 t0 _ ht).2
  have e : cA = cI := Option.some.inj (h1.symm.trans h2)
  subst e
  exact kk q H1 locs ls hl hP hD hS
theorem z_newl (C : zC p s m args c cc nL own Ts D tys A) (t0 : Nat) {cI : ClassId} {n : Int32} {N : Nat} (ht : tys[t0]? = some (cI, .long)) (harr : Cond.arrayClass .long ∈ Ts) (hn : ¬ n < 0) (hN : n.toNatClampNeg = N) (hb : N ≤ 1000) (hcells : cells + 1 ≤ R.cells) (hslots : slots + N ≤ R.slots) (hdg : decode cc pc = .ok (.newarray .long, 2)) (kk : ∀ q : Nat, zG p l e R s m args below meth c D nL A (cells + 1) (slots + N) Q (pc + 2) L (.ref q :: st) (ws ++ [(q, .inl (cI, N, .inr (.inl (fun _ => 0))))])) : zG p l e R s m args below meth c D nL A cells slots Q (pc) L (.int n :: st) ws := by
  intro H locs ls hl hP hD hS
  refine va_newa (atype := .long) (ty := .long) (a0 := (N, .inr (.inl (fun _ => 0)))) C.exec C.code (C.words _ harr) rfl C.known hP hD hS C.new (fun _ => rfl) hn hN (by show N * 8 ≤ _; omega) hcells hslots hdg (fun q cA H1 hK hP hD hS => ?_)
  have h1 : va_RA s cA .long := (hK.2 tys.length (cA, .long) (by simp)).2
  have h2 : va_RA s cI .long := (C.known.2 t0 _ ht).2
  have e : cA = cI := Option.some.inj (h1.symm.trans h2)
  subst e
  exact kk q H1 locs ls hl hP hD hS
theorem z_copy (C : zC p s m args c cc nL own Ts D tys A) {index : Nat} (h1 : Cond.methodLink own index arraycopyName ∈ Ts) (h2 : Cond.native arraycopyName ∈ Ts) (h3 : Cond.static arraycopyName ∈ Ts) (h4 : Cond.initialized "java/lang/System" ∈ Ts) (q0 q1 : Nat) {a0 a : Nat} {c0 : ClassId} {f g : Nat → Int32} {ws' : va_W} (ha0 : ws[q0]? = some (a0, .inl (c0, 148, .inl f))) (ha1 : ws[q1]? = some (a, .inl (c0, 148, .inl g))) (ht : tys[0]? = some (c0, .int)) (hfr : 1 ≤ R.frames) (hlo : (st.map fun v => v.category).sum + 18 ≤ R.locals) (hws : ws.set q1 (a, .inl (c0, 148, .inl (va_cpy f g 0 0 148))) = ws') (hdg : decode cc pc = .ok (.invokestatic index, 3)) (kk : zG p l e R s m args below meth c D nL A cells slots Q (pc + 3) L (st) ws') : zG p l e R s m args below meth c D nL A cells slots Q (pc) L (.int 148 :: .int 0 :: .ref a :: .int 0 :: .ref a0 :: st) ws := by
  intro H locs ls hl hP hD hS
  have e1 : (148 : Int32).toNatClampNeg = 148 := by decide
  have e0 : (0 : Int32).toNatClampNeg = 0 := by decide
  refine va_copyi C.exec C.code (C.maxl.trans hl.1.symm) C.here (C.words _ h1) (C.words _ h2) (C.words _ h3) (C.words _ h4) C.known hP hD hS q0 q1 0 0 ha0 ha1 ht ht rfl (by decide) (by decide) (by decide) (by rw [e0, e1]; exact Nat.le_refl _) (by rw [e0, e1]; exact Nat.le_refl _) (fun _ _ => rfl) hfr hlo hdg ?_
  rw [e0, e1, hws]
  exact fun H1 locs1 hP hD hS => kk H1 locs1 ls hl hP hD hS
end ZB
theorem z_incs (i : Nat) : nI i + Int32.ofInt 4 = nI (i + 4) := nI_add i 4
end
section
section ZM
/-- a return with the answer rv -/
def zQ (rv : Option Value) (B : State → Prop) (A : Nat → Prop) : Array Value → State → Outcome → State → Prop := fun _ st oc t => (oc = .returned rv ∧ B t) ∧ va_F A st t
def zP (D : va_G) (tys : List (ClassId × FieldType)) (w : va_W) (sz : Nat) (U : State) : Prop := U.heap.size = sz ∧ va_P D vwCl w U.heap ∧ va_K D vwCl tys U ∧ va_D (fun _ => True) w
/-- a contract: from the world w the method y returns rv and leaves the world w' -/
def zM (l : Launch) (y : MethodName) (ws : List Cond) (fr lo mc ms : Nat) (av : List Value) (tys : List (ClassId × FieldType)) (D : va_G) (w w' : va_W) (rv : Option Value) : Prop :=
  ∀ sz : Nat, Met l y ws ({ frames := fr, cells := mc, slots := ms, locals := lo } : Room) (va_Pc av (zP D tys w sz)) (zQ rv (fun t => va_P D vwCl w' t.heap) (va_A w sz)) mc ms (va_A w sz)
theorem z_met {l : Launch} {y : MethodName} {ws ws' : List Cond} {fr lo mc ms : Nat} {av : List Value} {tys : List (ClassId × FieldType)} {D : va_G} {w w' : va_W} {rv : Option Value} {cc : ByteArray} {maxL : Nat} {ret : Option FieldType} (hy : plainName y.cls = true) (hw : ws = Cond.code y cc maxL ret :: ws') (hlen : (lg_sl av).length ≤ maxL)
    (body : ∀ (p : Program) (e : Env) (s : State) (m : MethodId) (args : Array Value) (below : List Frame) (meth : Method) (c : Code) (A : Nat → Prop), zC p s m args c cc maxL y.cls ws D tys A → meth.sig.returnType = ret → meth.locks = false →
      zG p l e ({ frames := fr, cells := mc, slots := ms, locals := lo } : Room) s m args below meth c D maxL A 0 0 (MQ below (zQ rv (fun t => va_P D vwCl w' t.heap) A) args s mc ms A) 0 (lv_args 0 av) [] w) : zM l y ws fr lo mc ms av tys D w w' rv := by
  intro sz
  refine Met.ofW (cc := cc) (maxL := maxL) (ret := ret) hy hw ?_
  intro p e s m args below meth c s₁ B hml hv
  obtain ⟨rfl, hsz, hP, hK, hD0⟩ := hv
  have hts := atoms_spec (ws := ws) B.pre
  have hown : s.vm.findClass y.cls = some m.cls := findClass_of_methodNamed B.named
  subst hsz
  have hD := hD0.self (sz := s.heap.size)
  have hl := lv_entry av (n := maxL) hlen
  rw [lg_entry_eq]
  exact body p e s m _ below meth c (va_A w s.heap.size) ⟨⟨B.exec, B.bytes, hml, hown, hts⟩, hK, fun q h => Or.inr h⟩ B.returns B.notSynchronized s.heap [] _ hl hP hD va_S.rf
theorem z_Dfst {A : Nat → Prop} {ws ws' : va_W} (h : ws.map Prod.fst = ws'.map Prod.fst) (hD : va_D A ws) : va_D A ws' := by
  have key : ∀ (k : Nat) (q : Nat × va_E), ws'[k]? = some q → ∃ q0, ws[k]? = some q0 ∧ q0.1 = q.1 := by
    intro k q hq
    have h1 : (ws'.map Prod.fst)[k]? = some q.1 := by rw [List.getElem?_map, hq]; rfl
    rw [← h, List.getElem?_map] at h1
    cases h2 : ws[k]? with
    | none => rw [h2] at h1; cases h1
    | some q0 => rw [h2] at h1; exact ⟨q0, rfl, Option.some.inj h1⟩
  refine ⟨fun i j x y hi hj hxy => ?_, fun k q hk => ?_⟩
  · obtain ⟨a, a1, a2⟩ := key i x hi
    obtain ⟨b, b1, b2⟩ := key j y hj
    exact hD.1 i j a b a1 b1 (by rw [a2, b2, hxy])
  · obtain ⟨a, a1, a2⟩ := key k q hk
    rw [← a2]; exact hD.2 k a a1
theorem z_join {A0 : Nat → Prop} {D : va_G} {cl : List vw_C} {w1 wc w2 wc' : va_W} {H H1 : Heap} (hP : va_P D cl (w1 ++ wc ++ w2) H) (hD : va_D A0 (w1 ++ wc ++ w2)) (hk : ∀ q : Nat, q < H.size → ¬ va_A wc H.size q → H1[q]? = H[q]?) (hP1 : va_P D cl wc' H1) (ha : wc.map Prod.fst = wc'.map Prod.fst) : va_P D cl (w1 ++ wc' ++ w2) H1 ∧ va_D A0 (w1 ++ wc' ++ w2) := by
  have hlen : wc.length = wc'.length := by simpa using congrArg List.length ha
  refine ⟨fun k q hq => ?_, z_Dfst (by simp only [List.map_append, ha]) hD⟩
  have key : wc'[k - w1.length]? = some q ∨ ((k < w1.length ∨ w1.length + wc.length ≤ k) ∧ (w1 ++ wc ++ w2)[k]? = some q) := by
    rcases Nat.lt_or_ge k w1.length with h | h
    · refine Or.inr ⟨Or.inl h, ?_⟩
      rw [List.append_assoc, List.getElem?_append_left h] at hq ⊢
      exact hq
    · rcases Nat.lt_or_ge k (w1.length + wc.length) with h2 | h2
      · rw [List.append_assoc, List.getElem?_append_right h, List.getElem?_append_left (by omega)] at hq
        exact Or.inl hq
      · refine Or.inr ⟨Or.inr h2, ?_⟩
        rw [List.append_assoc, List.getElem?_append_right h, List.getElem?_append_right (by omega)] at hq ⊢
        rw [hlen]; exact hq
  rcases key with h | ⟨hk1, h⟩
  · exact hP1 _ q h
  · have hlt := (hP k q h).lt
    refine (hP k q h).kept (hk q.1 hlt (fun hA => ?_))
    rcases hA with ⟨j, e, hj⟩ | hge
    · have hjl : j < wc.length := (List.getElem?_eq_some_iff.mp hj).1
      have h3 : (w1 ++ wc ++ w2)[w1.length + j]? = some (q.1, e) := by
        rw [List.append_assoc, List.getElem?_append_right (by omega), Nat.add_sub_cancel_left, List.getElem?_append_left hjl]; exact hj
      have := hD.1 k (w1.length + j) q (q.1, e) h h3 rfl
      omega
    · omega
theorem z_mid {w1 wc w2 : va_W} {k : Nat} {q : Nat × va_E} (h : wc[k]? = some q) : (w1 ++ wc ++ w2)[w1.length + k]? = some q := by
  have hkl : k < wc.length := (List.getElem?_eq_some_iff.mp h).1
  rw [List.append_assoc, List.getElem?_append_right (by omega), Nat.add_sub_cancel_left, List.getElem?_append_left hkl]; exact h
theorem z_midP {D : va_G} {w1 wc w2 : va_W} {H : Heap} (h : va_P D vwCl (w1 ++ wc ++ w2) H) : va_P D vwCl wc H := fun _ q hk => h _ q (z_mid hk)
theorem z_midD {A B : Nat → Prop} {w1 wc w2 : va_W} (h : va_D A (w1 ++ wc ++ w2)) (hB : ∀ q, A q → B q) : va_D B wc := ⟨fun i j x y hi hj hxy => by have := h.1 _ _ x y (z_mid hi) (z_mid hj) hxy; omega, fun k q hk => hB _ (h.2 _ q (z_mid hk))⟩
theorem zP.blind {D : va_G} {tys : List (ClassId × FieldType)} {w : va_W} {sz : Nat} {U : State} {g : JFrame} {mk : MethodId} {a : Array Value} (h : zP D tys w sz U) : zP D tys w sz (U.calling g mk a) := ⟨h.1, h.2.1, va_K.moved (u := U) (U := U.calling g mk a) (Vm.Alike.refl U.vm) h.2.2.1, h.2.2.2⟩
section ZR
variable {p : Program} {l : Launch} {e : Env} {R : Room} {s : State} {m : MethodId} {args : Array Value} {below : List Frame} {meth : Method} {c : Code}
variable {cc : ByteArray} {nL : Nat} {own : String} {Ts : List Cond} {D : va_G} {tys : List (ClassId × FieldType)} {A : Nat → Prop} {cells slots : Nat} {Q : State → Prop} {pc : Nat} {L : List (Nat × Value)} {st : List Value} {ws : va_W}
theorem z_iret (C : zC p s m args c cc nL own Ts D tys A) {v v' : Int32} {w' : va_W} {mc ms : Nat} (hr : meth.sig.returnType = some .int) (hlocks : meth.locks = false) (hc : cells ≤ mc) (hs : slots ≤ ms) (hdg : decode cc pc = .ok (.ireturn, 1)) (e1 : v = v') (e2 : ws = w') : zG p l e R s m args below meth c D nL A cells slots (MQ below (zQ (some (.int v')) (fun t => va_P D vwCl w' t.heap) A) args s mc ms A) (pc) L ([.int v]) ws := by
  subst e1; subst e2
  intro H locs ls hl hP hD hS
  exact W.widen hc hs (W.iret C.exec C.code hr (fun t ht hW => ⟨⟨rfl, by show va_P D vwCl _ t.heap; rw [ht]; exact hP⟩, hS.F ht⟩) hS.2.2 hdg hlocks)
theorem z_lret (C : zC p s m args c cc nL own Ts D tys A) {v v' : Int64} {w' : va_W} {mc ms : Nat} (hr : meth.sig.returnType = some .long) (hlocks : meth.locks = false) (hc : cells ≤ mc) (hs : slots ≤ ms) (hdg : decode cc pc = .ok (.lreturn, 1)) (e1 : v = v') (e2 : ws = w') : zG p l e R s m args below meth c D nL A cells slots (MQ below (zQ (some (.long v')) (fun t => va_P D vwCl w' t.heap) A) args s mc ms A) (pc) L ([.long v]) ws := by
  subst e1; subst e2
  intro H locs ls hl hP hD hS
  exact W.widen hc hs (W.lret C.exec C.code hr (fun t ht hW => ⟨⟨rfl, by show va_P D vwCl _ t.heap; rw [ht]; exact hP⟩, hS.F ht⟩) hS.2.2 hdg hlocks)
theorem z_dret (C : zC p s m args c cc nL own Ts D tys A) {v v' : UInt64} {w' : va_W} {mc ms : Nat} (hr : meth.sig.returnType = some .double) (hlocks : meth.locks = false) (hc : cells ≤ mc) (hs : slots ≤ ms) (hdg : decode cc pc = .ok (.dreturn, 1)) (e1 : v = v') (e2 : ws = w') : zG p l e R s m args below meth c D nL A cells slots (MQ below (zQ (some (.double v')) (fun t => va_P D vwCl w' t.heap) A) args s mc ms A) (pc) L ([.double v]) ws := by
  subst e1; subst e2
  intro H locs ls hl hP hD hS
  exact W.widen hc hs (W.dret C.exec C.code hr (fun t ht hW => ⟨⟨rfl, by show va_P D vwCl _ t.heap; rw [ht]; exact hP⟩, hS.F ht⟩) hS.2.2 hdg hlocks)
theorem z_zret (C : zC p s m args c cc nL own Ts D tys A) {v v' : Int32} {w' : va_W} {mc ms : Nat} (hr : meth.sig.returnType = some .boolean) (hlocks : meth.locks = false) (hc : cells ≤ mc) (hs : slots ≤ ms) (hv : v = 0 ∨ v = 1) (hdg : decode cc pc = .ok (.ireturn, 1)) (e1 : v = v') (e2 : ws = w') : zG p l e R s m args below meth c D nL A cells slots (MQ below (zQ (some (.int v')) (fun t => va_P D vwCl w' t.heap) A) args s mc ms A) (pc) L ([.int v]) ws := by
  subst e1; subst e2
  intro H locs ls hl hP hD hS
  exact W.widen hc hs (W.zret C.exec C.code hr (by rcases hv with h | h <;> rw [h] <;> rfl) (fun t ht hW => ⟨⟨rfl, by show va_P D vwCl _ t.heap; rw [ht]; exact hP⟩, hS.F ht⟩) hS.2.2 hdg hlocks)
theorem z_vret (C : zC p s m args c cc nL own Ts D tys A) {w' : va_W} {mc ms : Nat} (hr : meth.sig.returnType = none) (hlocks : meth.locks = false) (hc : cells ≤ mc) (hs : slots ≤ ms) (hdg : decode cc pc = .ok (.return_, 1)) (e2 : ws = w') : zG p l e R s m args below meth c D nL A cells slots (MQ below (zQ none (fun t => va_P D vwCl w' t.heap) A) args s mc ms A) (pc) L ([]) ws := by
  subst e2
  intro H locs ls hl hP hD hS
  exact W.widen hc hs (W.vret C.exec C.code hr (fun t ht hW => ⟨⟨rfl, by show va_P D vwCl _ t.heap; rw [ht]; exact hP⟩, hS.F ht⟩) hS.2.2 hdg hlocks)
theorem z_part (is : List Nat) {ws' : va_W} (hn : va_nd is = true) (h1 : is.filterMap (fun i => ws[i]?) = ws') (h2 : is.map (fun i => ws[i]?) = ws'.map some) (k : zG p l e R s m args below meth c D nL A cells slots Q (pc) L (st) ws') : zG p l e R s m args below meth c D nL A cells slots Q (pc) L (st) ws := fun H locs ls hl hP hD hS => k H locs ls hl (hP.sub is h1) (hD.sub is hn h2) hS
theorem z_callV (C : zC p s m args c cc nL own Ts D tys A) {y : MethodName} {bytes : ByteArray} {maxL index : Nat} {ret : Option FieldType} {ws2 : List Cond} {fr lo mc ms : Nat} {As : List Value} {rv : Option Value} {w w' w1 w2 ws' : va_W} {tys2 : List (ClassId × FieldType)} {rest st' : List Value} {n : Nat} {b q0 ci : Nat} {C2 : String} {fs : List Value} {r : vw_C} (hM : zM l y ws2 fr lo mc ms (.ref b :: As) tys2 D w w' rv) (cw : CallW R s args own C2 index y bytes maxL ret ws2 ({ frames := fr, cells := mc, slots := ms, locals := lo } : Room) mc ms n) (hq : w[q0]? = some (b, .inr (ci, fs))) (hc : vwCl[ci]? = some r) (hr : r.1 = C2) (is : List Nat) (ht : is.filterMap (fun i => tys[i]?) = tys2) (hn : As.length = n) (hroom : (rest.map fun v => v.category).sum ≤ 8) (hf : cells + mc ≤ R.cells ∧ slots + ms ≤ R.slots) (hw : ws = w1 ++ w ++ w2) (hw' : w1 ++ w' ++ w2 = ws') (ha : w.map Prod.fst = w'.map Prod.fst) (hst : st = As.reverse ++ .ref b :: rest) (hst' : rv.toList ++ rest = st') (hdg : decode cc pc = .ok (.invokevirtual index, 3)) (kk : zG p l e R s m args below meth c D nL A (cells + mc) (slots + ms) Q (pc + 3) L (st') ws') : zG p l e R s m args below meth c D nL A cells slots Q (pc) L (st) ws := by
  intro H locs ls hl hP hD hS T hT X
  subst hw; subst hst; subst hst'
  have hPc : va_P D vwCl w H := z_midP hP
  have hDc : va_D (fun _ => True) w := z_midD hD (fun _ _ => trivial)
  have hKc := C.known.sub is ht
  have hFc : ∀ q, va_A w H.size q → A q := by
    rintro q (⟨k, e, h⟩ | h)
    · exact hD.2 _ (q, e) (z_mid h)
    · exact C.new q (Nat.le_trans hS.1 h)
  obtain ⟨v, st₀, t, T', L', h0, X', hL, e1, e2, ⟨⟨hv, hb⟩, hz, hkk⟩, stp⟩ := va_runV (As := As) (rest := rest) (g := F0 m pc ls (As.reverse ++ .ref b :: rest)) C.1 (hM H.size) cw ⟨fun a U g mk q => ⟨q.1, q.2.blind⟩, by rw [← hr]; exact va_recv hKc hPc hc hq, fun U hU hW => ⟨rfl, by rw [hU], by rw [hU]; exact hPc, va_K.moved hW.alike hKc, hDc⟩⟩ rfl hn hl.1 rfl (lv_room (pc := pc) (ls := ls) (rest := As.reverse ++ .ref b :: rest) hroom) hdg hf T hT X
  have hv : v = rv := by injection hv
  subst hv
  rw [h0] at hz hkk
  obtain ⟨hP', hD'⟩ := z_join hP hD (H1 := T'.heap) (fun q h1 h2 => by rw [e1]; exact hkk q h1 h2) (by rw [e1]; exact hb) ha
  subst hw'
  obtain ⟨t2, a1, b1⟩ := kk T'.heap (locs ++ L') ls hl hP' hD' ⟨Nat.le_trans hS.1 (by rw [e1]; exact hz), fun q h1 h2 => by rw [e1, hkk q (Nat.lt_of_lt_of_le h1 hS.1) (fun z => h2 (hFc q z))]; exact hS.2.1 q h1 h2, fun q hq => by
    rcases List.mem_append.mp hq with h | h
    · exact hS.2.2 q h
    · exact hFc _ (hL q h)⟩ T' rfl X'
  exact ⟨t2, stp t2 a1, b1⟩
theorem z_callS (C : zC p s m args c cc nL own Ts D tys A) {y : MethodName} {bytes : ByteArray} {maxL index : Nat} {ret : Option FieldType} {ws2 : List Cond} {fr lo mc ms : Nat} {As : List Value} {rv : Option Value} {w w' w1 w2 ws' : va_W} {tys2 : List (ClassId × FieldType)} {rest st' : List Value} {n : Nat} (hM : zM l y ws2 fr lo mc ms As tys2 D w w' rv) (cw : CallB R s args own index y bytes maxL ret ws2 ({ frames := fr, cells := mc, slots := ms, locals := lo } : Room) mc ms n ∧ (Cond.static y).before args s = true) (is : List Nat) (ht : is.filterMap (fun i => tys[i]?) = tys2) (hn : As.length = n) (hroom : (rest.map fun v => v.category).sum ≤ 8) (hf : cells + mc ≤ R.cells ∧ slots + ms ≤ R.slots) (hw : ws = w1 ++ w ++ w2) (hw' : w1 ++ w' ++ w2 = ws') (ha : w.map Prod.fst = w'.map Prod.fst) (hst : st = As.reverse ++ rest) (hst' : rv.toList ++ rest = st') (hdg : decode cc pc = .ok (.invokestatic index, 3)) (kk : zG p l e R s m args below meth c D nL A (cells + mc) (slots + ms) Q (pc + 3) L (st') ws') : zG p l e R s m args below meth c D nL A cells slots Q (pc) L (st) ws := by
  intro H locs ls hl hP hD hS T hT X
  subst hw; subst hst; subst hst'
  have hPc : va_P D vwCl w H := z_midP hP
  have hDc : va_D (fun _ => True) w := z_midD hD (fun _ _ => trivial)
  have hKc := C.known.sub is ht
  have hFc : ∀ q, va_A w H.size q → A q := by
    rintro q (⟨k, e, h⟩ | h)
    · exact hD.2 _ (q, e) (z_mid h)
    · exact C.new q (Nat.le_trans hS.1 h)
  obtain ⟨v, st₀, t, T', L', h0, X', hL, e1, e2, ⟨⟨hv, hb⟩, hz, hkk⟩, stp⟩ := va_runS (As := As) (rest := rest) (g := F0 m pc ls (As.reverse ++ rest)) C.1 (hM H.size) cw ⟨fun a U g mk q => ⟨q.1, q.2.blind⟩, fun U hU hW => ⟨rfl, by rw [hU], by rw [hU]; exact hPc, va_K.moved hW.alike hKc, hDc⟩⟩ rfl hn hl.1 rfl (lv_room (pc := pc) (ls := ls) (rest := As.reverse ++ rest) hroom) hdg hf T hT X
  have hv : v = rv := by injection hv
  subst hv
  rw [h0] at hz hkk
  obtain ⟨hP', hD'⟩ := z_join hP hD (H1 := T'.heap) (fun q h1 h2 => by rw [e1]; exact hkk q h1 h2) (by rw [e1]; exact hb) ha
  subst hw'
  obtain ⟨t2, a1, b1⟩ := kk T'.heap (locs ++ L') ls hl hP' hD' ⟨Nat.le_trans hS.1 (by rw [e1]; exact hz), fun q h1 h2 => by rw [e1, hkk q (Nat.lt_of_lt_of_le h1 hS.1) (fun z => h2 (hFc q z))]; exact hS.2.1 q h1 h2, fun q hq => by
    rcases List.mem_append.mp hq with h | h
    · exact hS.2.2 q h
    · exact hFc _ (hL q h)⟩ T' rfl X'
  exact ⟨t2, stp t2 a1, b1⟩
end ZR
end ZM
end
section
/-! what the class does, as functions of its state; then the reference -/
/-- luck, arrears, lumps, members, (throwers, lefts, grains, excesses), throws, cellar, day, found, trial's day, trial's debt -/
abbrev S0 : Type := (Nat → Int32) × (Nat → Int32) × (Nat → Int32) × Nat × (Nat → Int32) × (Nat → Int32) × (Nat → Int32) × (Nat → Int32) × Nat × Nat × Int32 × Int32 × Int32 × Int32
abbrev xl (v : S0) : Nat → Int32 := v.1
abbrev xa (v : S0) : Nat → Int32 := v.2.1
abbrev xe (v : S0) : Nat → Int32 := v.2.2.1
abbrev xn (v : S0) : Nat := v.2.2.2.1
abbrev xw (v : S0) : Nat → Int32 := v.2.2.2.2.1
abbrev xf (v : S0) : Nat → Int32 := v.2.2.2.2.2.1
abbrev xg (v : S0) : Nat → Int32 := v.2.2.2.2.2.2.1
abbrev xx (v : S0) : Nat → Int32 := v.2.2.2.2.2.2.2.1
abbrev xk (v : S0) : Nat := v.2.2.2.2.2.2.2.2.1
abbrev xc (v : S0) : Nat := v.2.2.2.2.2.2.2.2.2.1
abbrev xd (v : S0) : Int32 := v.2.2.2.2.2.2.2.2.2.2.1
abbrev xo (v : S0) : Int32 := v.2.2.2.2.2.2.2.2.2.2.2.1
abbrev xy (v : S0) : Int32 := v.2.2.2.2.2.2.2.2.2.2.2.2.1
abbrev xb (v : S0) : Int32 := v.2.2.2.2.2.2.2.2.2.2.2.2.2
def ul (v : S0) (f : Nat → Int32) : S0 := (f, xa v, xe v, xn v, xw v, xf v, xg v, xx v, xk v, xc v, xd v, xo v, xy v, xb v)
def ua (v : S0) (f : Nat → Int32) : S0 := (xl v, f, xe v, xn v, xw v, xf v, xg v, xx v, xk v, xc v, xd v, xo v, xy v, xb v)
def ue (v : S0) (f : Nat → Int32) : S0 := (xl v, xa v, f, xn v, xw v, xf v, xg v, xx v, xk v, xc v, xd v, xo v, xy v, xb v)
def un (v : S0) (n : Nat) : S0 := (xl v, xa v, xe v, n, xw v, xf v, xg v, xx v, xk v, xc v, xd v, xo v, xy v, xb v)
def uk (v : S0) (n : Nat) : S0 := (xl v, xa v, xe v, xn v, xw v, xf v, xg v, xx v, n, xc v, xd v, xo v, xy v, xb v)
def uc (v : S0) (n : Nat) : S0 := (xl v, xa v, xe v, xn v, xw v, xf v, xg v, xx v, xk v, n, xd v, xo v, xy v, xb v)
def ud (v : S0) (z : Int32) : S0 := (xl v, xa v, xe v, xn v, xw v, xf v, xg v, xx v, xk v, xc v, z, xo v, xy v, xb v)
def uo (v : S0) (z : Int32) : S0 := (xl v, xa v, xe v, xn v, xw v, xf v, xg v, xx v, xk v, xc v, xd v, z, xy v, xb v)
def uy (v : S0) (z : Int32) : S0 := (xl v, xa v, xe v, xn v, xw v, xf v, xg v, xx v, xk v, xc v, xd v, xo v, z, xb v)
def ub (v : S0) (z : Int32) : S0 := (xl v, xa v, xe v, xn v, xw v, xf v, xg v, xx v, xk v, xc v, xd v, xo v, xy v, z)
/-- the class's cells: the object at hh 0, its arrays at hh 1 to hh 7 -/
def wX0 (hh : Nat → Nat) (cI cZ : ClassId) (v : S0) : va_W := [(hh 0, .inr (0, [.ref (hh 1), .ref (hh 2), .ref (hh 3), .int (nI (xn v)), .ref (hh 4), .ref (hh 5), .ref (hh 6), .ref (hh 7), .int (nI (xk v)), .int (nI (xc v)), .int (xd v), .int (xo v), .int (xy v), .int (xb v)])),
  (hh 1, .inl (cI, 9, .inl (xl v))), (hh 2, .inl (cI, 9, .inl (xa v))), (hh 3, .inl (cI, 9, .inl (xe v))), (hh 4, .inl (cI, 30, .inl (xw v))), (hh 5, .inl (cZ, 30, .inl (xf v))), (hh 6, .inl (cI, 30, .inl (xg v))), (hh 7, .inl (cI, 30, .inl (xx v)))]
/-- the reference's: thrown, members, now, kept -/
abbrev S1 : Type := Int32 × Nat × (Nat → Int32) × (Nat → Int32)
abbrev rt (v : S1) : Int32 := v.1
abbrev rn (v : S1) : Nat := v.2.1
abbrev rf (v : S1) : Nat → Int32 := v.2.2.1
abbrev rk (v : S1) : Nat → Int32 := v.2.2.2
def vt (v : S1) (z : Int32) : S1 := (z, rn v, rf v, rk v)
def vn (v : S1) (n : Nat) : S1 := (rt v, n, rf v, rk v)
def vf (v : S1) (f : Nat → Int32) : S1 := (rt v, rn v, f, rk v)
def vk (v : S1) (f : Nat → Int32) : S1 := (rt v, rn v, rf v, f)
def wX1 (gg : Nat → Nat) (cI : ClassId) (v : S1) : va_W := [(gg 0, .inr (1, [.int (rt v), .int (nI (rn v)), .ref (gg 1), .ref (gg 2)])), (gg 1, .inl (cI, 148, .inl (rf v))), (gg 2, .inl (cI, 148, .inl (rk v)))]
theorem z_inc (i : Nat) : nI i + Int32.ofInt 1 = nI (i + 1) := nI_1 i
theorem z_1 (i : Nat) : nI i + 1 = nI (i + 1) := nI_1 i
theorem z_dec (i : Nat) (h : 0 < i) : nI i - 1 = nI (i - 1) := pk_sub h
/-! the class -/
def xadd (v : S0) (j : Nat) (g : Int32) : S0 := ua v (upd (xa v) j (imin 99 (xa v j + g)))
def xless (v : S0) (j : Nat) (g : Int32) : S0 := ua v (upd (xa v) j (imax 0 (xa v j - g)))
def xlump (v : S0) (j : Nat) (g : Int32) : S0 := ue v (upd (xe v) j (imin 9 (xe v j + g)))
def xlexc (v : S0) (j : Nat) (g : Int32) : Int32 := imax 0 (g - xa v j)
def xloss (v : S0) (j : Nat) : Int32 := if xe v j ≤ 0 then (xa v j + 10 - 1) / 10 else 0
def xeat (v : S0) (j : Nat) : S0 :=
  if xe v j ≤ 0 then (if xa v j ≤ 0 then ul v (upd (xl v) j (imin 100 (xl v j + 1))) else ul v (upd (xl v) j (imax 0 (xl v j - xloss v j))))
  else xless (ue v (upd (xe v) j (xe v j - 1))) j 3
def xdebtN (w x : Nat → Int32) (j : Int32) : Nat → Int32
  | 0 => 0
  | t + 1 => if w t = j then xdebtN w x j t + 2 * x t else xdebtN w x j t
def xdebt (v : S0) (j : Int32) : Int32 := xdebtN (xw v) (xx v) j (xk v)
def xfltN (x : Nat → Int32) : Nat → Int32
  | 0 => 0
  | t + 1 => if x t ≤ 0 then xfltN x t else xfltN x t + 1
def xflt (v : S0) : Int32 := xfltN (xx v) (xk v)
def xaudN (v : S0) : Nat → S0
  | 0 => v
  | i + 1 => xadd (xaudN v i) i (xdebt (xaudN v i) (nI i))
def xaud (v : S0) : S0 := uo (uk (xaudN v (xn v)) 0) (xo (xaudN v (xn v)) + xflt v)
def isA (d : Int32) : Int32 := if d - d / 7 * 7 = 6 then 1 else 0
def xeatN (v : S0) : Nat → S0
  | 0 => v
  | i + 1 => xeat (xeatN v i) i
def xday1 (v : S0) : S0 := if isA (xd v) = 0 then v else xaud v
def xdayF (v : S0) : Int32 := if isA (xd v) = 0 then 0 else xflt v
def xday (v : S0) : S0 := ud (xeatN (xday1 v) (xn v)) (xd (xeatN (xday1 v) (xn v)) + 1)
def xpass (v : S0) : Nat → S0
  | 0 => v
  | i + 1 => xday (xpass v i)
def xpassF (v : S0) : Nat → Int32
  | 0 => 0
  | i + 1 => xpassF v i + xdayF (xpass v i)
def xwrite (v : S0) (j b g z : Int32) : S0 := (xl v, xa v, xe v, xn v, upd (xw v) (xk v) j, upd (xf v) (xk v) b, upd (xg v) (xk v) g, upd (xx v) (xk v) z, xk v + 1, xc v, xd v, xo v, xy v, xb v)
def xbegin (v : S0) (j : Nat) : S0 := (upd (xl v) 8 (xl v j), upd (xa v) 8 (xa v j), upd (xe v) 8 (xe v j), xn v, xw v, xf v, xg v, xx v, xk v, xc v, xd v, xo v, xd v, xdebt v (nI j))
def xbpin (v : S0) (j : Nat) (g : Int32) : S0 := xless (ub (xbegin v j) (xb (xbegin v j) + 2 * xlexc (xbegin v j) 8 g)) 8 g
def xbpen (v : S0) (j : Nat) (g : Int32) : S0 := xlump (xbegin v j) 8 g
def xtd1 (v : S0) : S0 := if isA (xy v) = 0 then v else ub (xadd v 8 (xb v)) 0
def xtd (v : S0) : S0 := uy (xeat (xtd1 v) 8) (xy (xeat (xtd1 v) 8) + 1)
def xtdN (v : S0) : Nat → S0
  | 0 => v
  | i + 1 => xtd (xtdN v i)
def sumI (f : Nat → Int32) : Nat → Int32
  | 0 => 0
  | i + 1 => sumI f i + f i
def clrI (f : Nat → Int32) : Nat → Int32
  | 0 => 0
  | i + 1 => if f i = 0 then clrI f i + 1 else clrI f i
/-- the loop of luckiest: best, and its luck -/
def lukN (f : Nat → Int32) : Nat → Int32 × Int32
  | 0 => (-1, -1)
  | i + 1 => if f i ≤ (lukN f i).2 then lukN f i else (nI i, f i)
/-- the first of days 0 to 60 with 0 in f, by fuel -/
def untN (z : S0 → Int32) (v : S0) (i : Nat) : Nat → Int32
  | 0 => -1
  | d + 1 => if z (xtdN v i) = 0 then nI i else untN z v (i + 1) d
/-- the state behind such a loop -/
def untS (z : S0 → Int32) (v : S0) (i : Nat) : Nat → S0
  | 0 => xtdN v i
  | d + 1 => if z (xtdN v i) = 0 then xtdN v i else untS z v (i + 1) d
/-- a loop of looks ahead: best, its luck, the state; z the look of a state -/
def pinG (z : S0 → Nat → S0) (v : S0) : Nat → Int32 × Int32 × S0
  | 0 => (0, -1, v)
  | i + 1 => if xl (z (pinG z v i).2.2 i) 8 ≤ (pinG z v i).2.1 then ((pinG z v i).1, (pinG z v i).2.1, z (pinG z v i).2.2 i) else (nI i, xl (z (pinG z v i).2.2 i) 8, z (pinG z v i).2.2 i)
theorem pinG_pos {z : S0 → Nat → S0} {v : S0} {i : Nat} (c : xl (z (pinG z v i).2.2 i) 8 ≤ (pinG z v i).2.1) : pinG z v (i + 1) = ((pinG z v i).1, (pinG z v i).2.1, z (pinG z v i).2.2 i) := if_pos c
theorem pinG_neg {z : S0 → Nat → S0} {v : S0} {i : Nat} (c : ¬ xl (z (pinG z v i).2.2 i) 8 ≤ (pinG z v i).2.1) : pinG z v (i + 1) = (nI i, xl (z (pinG z v i).2.2 i) 8, z (pinG z v i).2.2 i) := if_neg c
theorem pinG_S (z : S0 → Nat → S0) (v : S0) (i : Nat) : (pinG z v (i + 1)).2.2 = z (pinG z v i).2.2 i := by
  by_cases c : xl (z (pinG z v i).2.2 i) 8 ≤ (pinG z v i).2.1
  · rw [pinG_pos c]
  · rw [pinG_neg c]
theorem pinG_keep {α : Type} (P : S0 → α) {z : S0 → Nat → S0} (h : ∀ s i, P (z s i) = P s) (v : S0) : ∀ i, P (pinG z v i).2.2 = P v := by
  intro i
  induction i with
  | zero => rfl
  | succ i ih => rw [pinG_S, h, ih]
def pinZ (j : Nat) (s : S0) (i : Nat) : S0 := xtdN (xbpin s j (nI i)) 14
def penZ (j : Nat) (s : S0) (i : Nat) : S0 := xtdN (xbpen s j (nI i)) 20
def pinN (v : S0) (j : Nat) : Nat → Int32 × Int32 × S0 := pinG (pinZ j) v
def penN (v : S0) (j : Nat) : Nat → Int32 × Int32 × S0 := pinG (penZ j) v
theorem pinN_pos {v : S0} {j i : Nat} {g : S0} (e : pinZ j (pinN v j i).2.2 i = g) (c : xl g 8 ≤ (pinN v j i).2.1) : pinN v j (i + 1) = ((pinN v j i).1, (pinN v j i).2.1, g) := by subst e; unfold pinN at c ⊢; exact pinG_pos c
theorem pinN_neg {v : S0} {j i : Nat} {g : S0} (e : pinZ j (pinN v j i).2.2 i = g) (c : ¬ xl g 8 ≤ (pinN v j i).2.1) : pinN v j (i + 1) = (nI i, xl g 8, g) := by subst e; unfold pinN at c ⊢; exact pinG_neg c
theorem penN_pos {v : S0} {j i : Nat} {g : S0} (e : penZ j (penN v j i).2.2 i = g) (c : xl g 8 ≤ (penN v j i).2.1) : penN v j (i + 1) = ((penN v j i).1, (penN v j i).2.1, g) := by subst e; unfold penN at c ⊢; exact pinG_pos c
theorem penN_neg {v : S0} {j i : Nat} {g : S0} (e : penZ j (penN v j i).2.2 i = g) (c : ¬ xl g 8 ≤ (penN v j i).2.1) : penN v j (i + 1) = (nI i, xl g 8, g) := by subst e; unfold penN at c ⊢; exact pinG_neg c
def xspill (v : S0) (j g : Nat) : S0 := xadd (uc v (xc v - g)) j (nI g)
def xthrow (v : S0) (j : Nat) (b : Int32) (g : Nat) : S0 :=
  if b = 0 then xwrite (uc (xless v j (nI g)) (xc (xless v j (nI g)) - g)) (nI j) 1 (nI g) (xlexc v j (nI g))
  else xwrite (uc v (xc v - g)) (nI j) 0 (nI g) (nI g)
def xthrowR (v : S0) (j : Nat) (b : Int32) (g : Nat) : Int32 := if b = 0 then xlexc v j (nI g) else nI g
def xjoin (v : S0) : S0 := (upd (xl v) (xn v) 50, upd (xa v) (xn v) 0, upd (xe v) (xn v) 0, xn v + 1, xw v, xf v, xg v, xx v, xk v, xc v, xd v, xo v, xy v, xb v)
def xmean (v : S0) : UInt64 := if nI (xn v) = 0 then 0 else FP.ddiv (FP.i2d (sumI (xl v) (xn v))) (FP.i2d (nI (xn v)))
def mixd (d : Int64) (x : Int32) : Int64 := d * 31 + x.toInt64
def xpin (v : S0) (j : Nat) : S0 := if nI (xk v) < 30 then (pinN v j (min 9 (xc v) + 1)).2.2 else v
def xpinR (v : S0) (j : Nat) : Int32 := if nI (xk v) < 30 then (pinN v j (min 9 (xc v) + 1)).1 else 0
def xpen (v : S0) (j : Nat) : S0 := (penN v j 10).2.2
def xpenR (v : S0) (j : Nat) : Int32 := (penN v j 10).1
def xmemD (v : S0) (d : Int64) (j : Nat) : Int64 := mixd (mixd (mixd (mixd (mixd (mixd (mixd d (xl v j)) (xa v j)) (xe v j)) (xloss v j)) (xdebt v (nI j))) (xpinR v j)) (xpenR (xpin v j) j)
def xmem (v : S0) (j : Nat) : S0 := xpen (xpin v j) j
def xmemN (v : S0) : Nat → S0
  | 0 => v
  | i + 1 => xmem (xmemN v i) i
def xmemDN (v : S0) (d : Int64) : Nat → Int64
  | 0 => d
  | i + 1 => xmemD (xmemN v i) (xmemDN v d i) i
def xthD (v : S0) (d : Int64) (t : Nat) : Int64 := mixd (mixd (mixd (mixd d (xw v t)) (if xf v t = 0 then 0 else 1)) (xg v t)) (xx v t)
def xthDN (v : S0) (d : Int64) : Nat → Int64
  | 0 => d
  | i + 1 => xthD v (xthDN v d i) i
def xdig8 (v : S0) : Int64 := mixd (mixd (mixd (mixd (mixd (mixd (mixd (mixd 2011 (xd v)) (nI (xn v))) (nI (xc v))) (nI (xk v))) (xflt v)) (xo v)) (lukN (xl v) (xn v)).1) (sumI (xa v) (xn v))
def xdig (v : S0) : S0 := xmemN v (xn v)
def xdigR (v : S0) : Int64 := xthDN (xdig v) (xmemDN v (xdig8 v) (xn v)) (xk v)
/-! what stays -/
theorem ul_n (v : S0) (f : Nat → Int32) : xn (ul v f) = xn v := rfl
theorem ul_k (v : S0) (f : Nat → Int32) : xk (ul v f) = xk v := rfl
theorem ul_c (v : S0) (f : Nat → Int32) : xc (ul v f) = xc v := rfl
theorem ul_f (v : S0) (f : Nat → Int32) : xf (ul v f) = xf v := rfl
theorem ua_n (v : S0) (f : Nat → Int32) : xn (ua v f) = xn v := rfl
theorem ua_k (v : S0) (f : Nat → Int32) : xk (ua v f) = xk v := rfl
theorem ua_c (v : S0) (f : Nat → Int32) : xc (ua v f) = xc v := rfl
theorem ua_f (v : S0) (f : Nat → Int32) : xf (ua v f) = xf v := rfl
theorem ue_n (v : S0) (f : Nat → Int32) : xn (ue v f) = xn v := rfl
theorem ue_k (v : S0) (f : Nat → Int32) : xk (ue v f) = xk v := rfl
theorem ue_c (v : S0) (f : Nat → Int32) : xc (ue v f) = xc v := rfl
theorem ue_f (v : S0) (f : Nat → Int32) : xf (ue v f) = xf v := rfl
theorem un_k (v : S0) (f : Nat) : xk (un v f) = xk v := rfl
theorem un_c (v : S0) (f : Nat) : xc (un v f) = xc v := rfl
theorem un_f (v : S0) (f : Nat) : xf (un v f) = xf v := rfl
theorem uk_n (v : S0) (f : Nat) : xn (uk v f) = xn v := rfl
theorem uk_c (v : S0) (f : Nat) : xc (uk v f) = xc v := rfl
theorem uk_f (v : S0) (f : Nat) : xf (uk v f) = xf v := rfl
theorem uc_n (v : S0) (f : Nat) : xn (uc v f) = xn v := rfl
theorem uc_k (v : S0) (f : Nat) : xk (uc v f) = xk v := rfl
theorem uc_f (v : S0) (f : Nat) : xf (uc v f) = xf v := rfl
theorem ud_n (v : S0) (f : Int32) : xn (ud v f) = xn v := rfl
theorem ud_k (v : S0) (f : Int32) : xk (ud v f) = xk v := rfl
theorem ud_c (v : S0) (f : Int32) : xc (ud v f) = xc v := rfl
theorem ud_f (v : S0) (f : Int32) : xf (ud v f) = xf v := rfl
theorem uo_n (v : S0) (f : Int32) : xn (uo v f) = xn v := rfl
theorem uo_k (v : S0) (f : Int32) : xk (uo v f) = xk v := rfl
theorem uo_c (v : S0) (f : Int32) : xc (uo v f) = xc v := rfl
theorem uo_f (v : S0) (f : Int32) : xf (uo v f) = xf v := rfl
theorem uy_n (v : S0) (f : Int32) : xn (uy v f) = xn v := rfl
theorem uy_k (v : S0) (f : Int32) : xk (uy v f) = xk v := rfl
theorem uy_c (v : S0) (f : Int32) : xc (uy v f) = xc v := rfl
theorem uy_f (v : S0) (f : Int32) : xf (uy v f) = xf v := rfl
theorem ub_n (v : S0) (f : Int32) : xn (ub v f) = xn v := rfl
theorem ub_k (v : S0) (f : Int32) : xk (ub v f) = xk v := rfl
theorem ub_c (v : S0) (f : Int32) : xc (ub v f) = xc v := rfl
theorem ub_f (v : S0) (f : Int32) : xf (ub v f) = xf v := rfl
theorem xadd_n (v : S0) (j : Nat) (g : Int32) : xn (xadd v j g) = xn v := rfl
theorem xless_n (v : S0) (j : Nat) (g : Int32) : xn (xless v j g) = xn v := rfl
theorem xlump_n (v : S0) (j : Nat) (g : Int32) : xn (xlump v j g) = xn v := rfl
theorem xbegin_n (v : S0) (j : Nat) : xn (xbegin v j) = xn v := rfl
theorem xeat_n (v : S0) (j : Nat) : xn (xeat v j) = xn v := by
  unfold xeat
  split
  · split
    · exact ul_n _ _
    · exact ul_n _ _
  · exact (xless_n _ _ _).trans (ue_n _ _)
theorem xaudN_n (v : S0) (i : Nat) : xn (xaudN v i) = xn v := by
  induction i with
  | zero => rfl
  | succ i ih => unfold xaudN; exact (xadd_n _ _ _).trans ih
theorem xaud_n (v : S0) : xn (xaud v) = xn v := by unfold xaud; exact (uo_n _ _).trans ((uk_n _ _).trans (xaudN_n v (xn v)))
theorem xday1_n (v : S0) : xn (xday1 v) = xn v := by
  unfold xday1
  split
  · rfl
  · exact xaud_n v
theorem xeatN_n (v : S0) (i : Nat) : xn (xeatN v i) = xn v := by
  induction i with
  | zero => rfl
  | succ i ih => unfold xeatN; exact (xeat_n _ _).trans ih
theorem xday_n (v : S0) : xn (xday v) = xn v := by unfold xday; exact (ud_n _ _).trans ((xeatN_n _ _).trans (xday1_n v))
theorem xpass_n (v : S0) (i : Nat) : xn (xpass v i) = xn v := by
  induction i with
  | zero => rfl
  | succ i ih => unfold xpass; exact (xday_n _).trans ih
theorem xtd1_n (v : S0) : xn (xtd1 v) = xn v := by
  unfold xtd1
  split
  · rfl
  · exact (ub_n _ _).trans (xadd_n _ _ _)
theorem xtd_n (v : S0) : xn (xtd v) = xn v := by unfold xtd; exact (uy_n _ _).trans ((xeat_n _ _).trans (xtd1_n v))
theorem xtdN_n (v : S0) (i : Nat) : xn (xtdN v i) = xn v := by
  induction i with
  | zero => rfl
  | succ i ih => unfold xtdN; exact (xtd_n _).trans ih
theorem xbpin_n (v : S0) (j : Nat) (g : Int32) : xn (xbpin v j g) = xn v := by unfold xbpin; exact (xless_n _ _ _).trans ((ub_n _ _).trans (xbegin_n v j))
theorem xbpen_n (v : S0) (j : Nat) (g : Int32) : xn (xbpen v j g) = xn v := by unfold xbpen; exact (xlump_n _ _ _).trans (xbegin_n v j)
theorem pinN_n (v : S0) (j i : Nat) : xn (pinN v j i).2.2 = xn v := pinG_keep (fun s => xn s) (fun s i => by unfold pinZ; exact (xtdN_n _ _).trans (xbpin_n _ _ _)) v i
theorem penN_n (v : S0) (j i : Nat) : xn (penN v j i).2.2 = xn v := pinG_keep (fun s => xn s) (fun s i => by unfold penZ; exact (xtdN_n _ _).trans (xbpen_n _ _ _)) v i
theorem xpin_n (v : S0) (j : Nat) : xn (xpin v j) = xn v := by
  unfold xpin
  split
  · exact pinN_n v j _
  · rfl
theorem xpen_n (v : S0) (j : Nat) : xn (xpen v j) = xn v := by unfold xpen; exact penN_n v j 10
theorem xmem_n (v : S0) (j : Nat) : xn (xmem v j) = xn v := by unfold xmem; exact (xpen_n _ _).trans (xpin_n v j)
theorem xmemN_n (v : S0) (i : Nat) : xn (xmemN v i) = xn v := by
  induction i with
  | zero => rfl
  | succ i ih => unfold xmemN; exact (xmem_n _ _).trans ih
theorem xadd_k (v : S0) (j : Nat) (g : Int32) : xk (xadd v j g) = xk v := rfl
theorem xless_k (v : S0) (j : Nat) (g : Int32) : xk (xless v j g) = xk v := rfl
theorem xlump_k (v : S0) (j : Nat) (g : Int32) : xk (xlump v j g) = xk v := rfl
theorem xbegin_k (v : S0) (j : Nat) : xk (xbegin v j) = xk v := rfl
theorem xeat_k (v : S0) (j : Nat) : xk (xeat v j) = xk v := by
  unfold xeat
  split
  · split
    · exact ul_k _ _
    · exact ul_k _ _
  · exact (xless_k _ _ _).trans (ue_k _ _)
theorem xaudN_k (v : S0) (i : Nat) : xk (xaudN v i) = xk v := by
  induction i with
  | zero => rfl
  | succ i ih => unfold xaudN; exact (xadd_k _ _ _).trans ih
theorem xaud_k (v : S0) : xk (xaud v) = 0 := by unfold xaud; exact (uo_k _ _).trans rfl
theorem xday1_k (v : S0) : xk (xday1 v) ≤ xk v := by
  unfold xday1
  split
  · exact Nat.le_refl _
  · rw [xaud_k]; exact Nat.zero_le _
theorem xeatN_k (v : S0) (i : Nat) : xk (xeatN v i) = xk v := by
  induction i with
  | zero => rfl
  | succ i ih => unfold xeatN; exact (xeat_k _ _).trans ih
theorem xday_k (v : S0) : xk (xday v) ≤ xk v := by unfold xday; rw [ud_k, xeatN_k]; exact xday1_k v
theorem xpass_k (v : S0) (i : Nat) : xk (xpass v i) ≤ xk v := by
  induction i with
  | zero => exact Nat.le_refl _
  | succ i ih => unfold xpass; exact Nat.le_trans (xday_k _) ih
theorem xtd1_k (v : S0) : xk (xtd1 v) = xk v := by
  unfold xtd1
  split
  · rfl
  · exact (ub_k _ _).trans (xadd_k _ _ _)
theorem xtd_k (v : S0) : xk (xtd v) = xk v := by unfold xtd; exact (uy_k _ _).trans ((xeat_k _ _).trans (xtd1_k v))
theorem xtdN_k (v : S0) (i : Nat) : xk (xtdN v i) = xk v := by
  induction i with
  | zero => rfl
  | succ i ih => unfold xtdN; exact (xtd_k _).trans ih
theorem xbpin_k (v : S0) (j : Nat) (g : Int32) : xk (xbpin v j g) = xk v := by unfold xbpin; exact (xless_k _ _ _).trans ((ub_k _ _).trans (xbegin_k v j))
theorem xbpen_k (v : S0) (j : Nat) (g : Int32) : xk (xbpen v j g) = xk v := by unfold xbpen; exact (xlump_k _ _ _).trans (xbegin_k v j)
theorem pinN_k (v : S0) (j i : Nat) : xk (pinN v j i).2.2 = xk v := pinG_keep (fun s => xk s) (fun s i => by unfold pinZ; exact (xtdN_k _ _).trans (xbpin_k _ _ _)) v i
theorem penN_k (v : S0) (j i : Nat) : xk (penN v j i).2.2 = xk v := pinG_keep (fun s => xk s) (fun s i => by unfold penZ; exact (xtdN_k _ _).trans (xbpen_k _ _ _)) v i
theorem xpin_k (v : S0) (j : Nat) : xk (xpin v j) = xk v := by
  unfold xpin
  split
  · exact pinN_k v j _
  · rfl
theorem xpen_k (v : S0) (j : Nat) : xk (xpen v j) = xk v := by unfold xpen; exact penN_k v j 10
theorem xmem_k (v : S0) (j : Nat) : xk (xmem v j) = xk v := by unfold xmem; exact (xpen_k _ _).trans (xpin_k v j)
theorem xmemN_k (v : S0) (i : Nat) : xk (xmemN v i) = xk v := by
  induction i with
  | zero => rfl
  | succ i ih => unfold xmemN; exact (xmem_k _ _).trans ih
theorem xadd_c (v : S0) (j : Nat) (g : Int32) : xc (xadd v j g) = xc v := rfl
theorem xless_c (v : S0) (j : Nat) (g : Int32) : xc (xless v j g) = xc v := rfl
theorem xlump_c (v : S0) (j : Nat) (g : Int32) : xc (xlump v j g) = xc v := rfl
theorem xbegin_c (v : S0) (j : Nat) : xc (xbegin v j) = xc v := rfl
theorem xeat_c (v : S0) (j : Nat) : xc (xeat v j) = xc v := by
  unfold xeat
  split
  · split
    · exact ul_c _ _
    · exact ul_c _ _
  · exact (xless_c _ _ _).trans (ue_c _ _)
theorem xaudN_c (v : S0) (i : Nat) : xc (xaudN v i) = xc v := by
  induction i with
  | zero => rfl
  | succ i ih => unfold xaudN; exact (xadd_c _ _ _).trans ih
theorem xaud_c (v : S0) : xc (xaud v) = xc v := by unfold xaud; exact (uo_c _ _).trans ((uk_c _ _).trans (xaudN_c v (xn v)))
theorem xday1_c (v : S0) : xc (xday1 v) = xc v := by
  unfold xday1
  split
  · rfl
  · exact xaud_c v
theorem xeatN_c (v : S0) (i : Nat) : xc (xeatN v i) = xc v := by
  induction i with
  | zero => rfl
  | succ i ih => unfold xeatN; exact (xeat_c _ _).trans ih
theorem xday_c (v : S0) : xc (xday v) = xc v := by unfold xday; exact (ud_c _ _).trans ((xeatN_c _ _).trans (xday1_c v))
theorem xpass_c (v : S0) (i : Nat) : xc (xpass v i) = xc v := by
  induction i with
  | zero => rfl
  | succ i ih => unfold xpass; exact (xday_c _).trans ih
theorem xtd1_c (v : S0) : xc (xtd1 v) = xc v := by
  unfold xtd1
  split
  · rfl
  · exact (ub_c _ _).trans (xadd_c _ _ _)
theorem xtd_c (v : S0) : xc (xtd v) = xc v := by unfold xtd; exact (uy_c _ _).trans ((xeat_c _ _).trans (xtd1_c v))
theorem xtdN_c (v : S0) (i : Nat) : xc (xtdN v i) = xc v := by
  induction i with
  | zero => rfl
  | succ i ih => unfold xtdN; exact (xtd_c _).trans ih
theorem xbpin_c (v : S0) (j : Nat) (g : Int32) : xc (xbpin v j g) = xc v := by unfold xbpin; exact (xless_c _ _ _).trans ((ub_c _ _).trans (xbegin_c v j))
theorem xbpen_c (v : S0) (j : Nat) (g : Int32) : xc (xbpen v j g) = xc v := by unfold xbpen; exact (xlump_c _ _ _).trans (xbegin_c v j)
theorem pinN_c (v : S0) (j i : Nat) : xc (pinN v j i).2.2 = xc v := pinG_keep (fun s => xc s) (fun s i => by unfold pinZ; exact (xtdN_c _ _).trans (xbpin_c _ _ _)) v i
theorem penN_c (v : S0) (j i : Nat) : xc (penN v j i).2.2 = xc v := pinG_keep (fun s => xc s) (fun s i => by unfold penZ; exact (xtdN_c _ _).trans (xbpen_c _ _ _)) v i
theorem xpin_c (v : S0) (j : Nat) : xc (xpin v j) = xc v := by
  unfold xpin
  split
  · exact pinN_c v j _
  · rfl
theorem xpen_c (v : S0) (j : Nat) : xc (xpen v j) = xc v := by unfold xpen; exact penN_c v j 10
theorem xmem_c (v : S0) (j : Nat) : xc (xmem v j) = xc v := by unfold xmem; exact (xpen_c _ _).trans (xpin_c v j)
theorem xmemN_c (v : S0) (i : Nat) : xc (xmemN v i) = xc v := by
  induction i with
  | zero => rfl
  | succ i ih => unfold xmemN; exact (xmem_c _ _).trans ih
theorem xadd_f (v : S0) (j : Nat) (g : Int32) : xf (xadd v j g) = xf v := rfl
theorem xless_f (v : S0) (j : Nat) (g : Int32) : xf (xless v j g) = xf v := rfl
theorem xlump_f (v : S0) (j : Nat) (g : Int32) : xf (xlump v j g) = xf v := rfl
theorem xbegin_f (v : S0) (j : Nat) : xf (xbegin v j) = xf v := rfl
theorem xeat_f (v : S0) (j : Nat) : xf (xeat v j) = xf v := by
  unfold xeat
  split
  · split
    · exact ul_f _ _
    · exact ul_f _ _
  · exact (xless_f _ _ _).trans (ue_f _ _)
theorem xaudN_f (v : S0) (i : Nat) : xf (xaudN v i) = xf v := by
  induction i with
  | zero => rfl
  | succ i ih => unfold xaudN; exact (xadd_f _ _ _).trans ih
theorem xaud_f (v : S0) : xf (xaud v) = xf v := by unfold xaud; exact (uo_f _ _).trans ((uk_f _ _).trans (xaudN_f v (xn v)))
theorem xday1_f (v : S0) : xf (xday1 v) = xf v := by
  unfold xday1
  split
  · rfl
  · exact xaud_f v
theorem xeatN_f (v : S0) (i : Nat) : xf (xeatN v i) = xf v := by
  induction i with
  | zero => rfl
  | succ i ih => unfold xeatN; exact (xeat_f _ _).trans ih
theorem xday_f (v : S0) : xf (xday v) = xf v := by unfold xday; exact (ud_f _ _).trans ((xeatN_f _ _).trans (xday1_f v))
theorem xpass_f (v : S0) (i : Nat) : xf (xpass v i) = xf v := by
  induction i with
  | zero => rfl
  | succ i ih => unfold xpass; exact (xday_f _).trans ih
theorem xtd1_f (v : S0) : xf (xtd1 v) = xf v := by
  unfold xtd1
  split
  · rfl
  · exact (ub_f _ _).trans (xadd_f _ _ _)
theorem xtd_f (v : S0) : xf (xtd v) = xf v := by unfold xtd; exact (uy_f _ _).trans ((xeat_f _ _).trans (xtd1_f v))
theorem xtdN_f (v : S0) (i : Nat) : xf (xtdN v i) = xf v := by
  induction i with
  | zero => rfl
  | succ i ih => unfold xtdN; exact (xtd_f _).trans ih
theorem xbpin_f (v : S0) (j : Nat) (g : Int32) : xf (xbpin v j g) = xf v := by unfold xbpin; exact (xless_f _ _ _).trans ((ub_f _ _).trans (xbegin_f v j))
theorem xbpen_f (v : S0) (j : Nat) (g : Int32) : xf (xbpen v j g) = xf v := by unfold xbpen; exact (xlump_f _ _ _).trans (xbegin_f v j)
theorem pinN_f (v : S0) (j i : Nat) : xf (pinN v j i).2.2 = xf v := pinG_keep (fun s => xf s) (fun s i => by unfold pinZ; exact (xtdN_f _ _).trans (xbpin_f _ _ _)) v i
theorem penN_f (v : S0) (j i : Nat) : xf (penN v j i).2.2 = xf v := pinG_keep (fun s => xf s) (fun s i => by unfold penZ; exact (xtdN_f _ _).trans (xbpen_f _ _ _)) v i
theorem xpin_f (v : S0) (j : Nat) : xf (xpin v j) = xf v := by
  unfold xpin
  split
  · exact pinN_f v j _
  · rfl
theorem xpen_f (v : S0) (j : Nat) : xf (xpen v j) = xf v := by unfold xpen; exact penN_f v j 10
theorem xmem_f (v : S0) (j : Nat) : xf (xmem v j) = xf v := by unfold xmem; exact (xpen_f _ _).trans (xpin_f v j)
theorem xmemN_f (v : S0) (i : Nat) : xf (xmemN v i) = xf v := by
  induction i with
  | zero => rfl
  | succ i ih => unfold xmemN; exact (xmem_f _ _).trans ih
def za8 (v : S0) : Int32 := xa v 8
def zl8 (v : S0) : Int32 := xl v 8
end
section
set_option maxHeartbeats 4000000 in
set_option maxRecDepth 100000 in
theorem c_X0_isAuditDay (l : Launch) (D : va_G) (d : Int32) : zM l yX0_isAuditDay wsX0_isAuditDay 0 0 0 0 [.int d] [] D ([] : va_W) ([] : va_W) (some (.int (isA d))) := by
  refine z_met (cc := cX0_isAuditDay) (maxL := 1) (ret := (some .boolean)) (by decide) rfl (Nat.le_of_ble_eq_true rfl) ?_
  intro p e s m args below meth c A C hr hlocks
  refine z_sub (L' := [(0, .int d)]) [0] rfl ?_
  refine z_iload_n C 0 dX0_isAuditDay_0 rfl rfl ?_
  refine z_bipush (v := 7) C dX0_isAuditDay_1 (by decide) ?_
  refine z_irem C dX0_isAuditDay_3 (by decide) ?_
  refine z_bipush (v := 6) C dX0_isAuditDay_4 (by decide) ?_
  refine z_icmp_ne (tgt := 13) C dX0_isAuditDay_6 (by decide) (fun c6 => ?_) (fun c6 => ?_)
  · skip
    refine z_iconst (v := 0) C dX0_isAuditDay_13 (by decide) ?_
    exact z_zret C hr hlocks (Nat.le_of_ble_eq_true rfl) (Nat.le_of_ble_eq_true rfl) (by first | exact Or.inl rfl | exact Or.inr rfl) dX0_isAuditDay_14 (by first | rfl | (simp only [isA, c6, ↓reduceIte]; done) | (simp only [isA, c6, ↓reduceIte]; rfl)) rfl
  · skip
    refine z_iconst (v := 1) C dX0_isAuditDay_9 (by decide) ?_
    refine z_goto (tgt := 14) C dX0_isAuditDay_10 (by decide) ?_
    exact z_zret C hr hlocks (Nat.le_of_ble_eq_true rfl) (Nat.le_of_ble_eq_true rfl) (by first | exact Or.inl rfl | exact Or.inr rfl) dX0_isAuditDay_14 (by first | rfl | (simp only [isA, c6, ↓reduceIte]; done) | (simp only [isA, c6, ↓reduceIte]; rfl)) rfl
set_option maxHeartbeats 4000000 in
set_option maxRecDepth 100000 in
theorem c_X0_addArrears (l : Launch) (D : va_G) (hh : Nat → Nat) (cI cZ : ClassId) (v : S0) (j : Nat) (g : Int32) (hj : j < 9) : zM l yX0_addArrears wsX0_addArrears 1 15 0 0 [.ref (hh 0), .int (nI j), .int g] [(cI, .int), (cZ, .boolean)] D (wX0 hh cI cZ v) (wX0 hh cI cZ (xadd v j g)) none := by
  refine z_met (cc := cX0_addArrears) (maxL := 3) (ret := none) (by decide) rfl (Nat.le_of_ble_eq_true rfl) ?_
  intro p e s m args below meth c A C hr hlocks
  have inl : ∀ w ∈ u_ws RX0 TX0 14, w ∈ wsX0_addArrears := by decide +kernel
  have wd0 : Cond.fieldLink RX0 13 "SaltOrder" "arrears" "[I" ∈ wsX0_addArrears := by decide +kernel
  have wd1 : Cond.methodLink RX0 89 Lib.Math.min.name ∈ wsX0_addArrears := by decide +kernel
  have wd2 : Cond.static Lib.Math.min.name ∈ wsX0_addArrears := by decide +kernel
  have wd3 : Cond.initialized "java/lang/Math" ∈ wsX0_addArrears := by decide +kernel
  have wd4 : Cond.code Lib.Math.min.name Lib.Math.min.code 2 (some .int) ∈ wsX0_addArrears := by decide +kernel
  refine z_sub (L' := [(0, .ref (hh 0)), (1, .int (nI j)), (2, .int g)]) [0, 1, 2] rfl ?_
  refine z_aload_n C 0 dX0_addArrears_0 rfl rfl ?_
  refine z_get0 (v := .ref (hh 2)) C inl 0 1 (by decide) rfl rfl wd0 dX0_addArrears_1 ?_
  refine z_iload_n C 1 dX0_addArrears_4 rfl rfl ?_
  refine z_bipush (v := 99) C dX0_addArrears_5 (by decide) ?_
  refine z_aload_n C 0 dX0_addArrears_7 rfl rfl ?_
  refine z_get0 (v := .ref (hh 2)) C inl 0 1 (by decide) rfl rfl wd0 dX0_addArrears_8 ?_
  refine z_iload_n C 1 dX0_addArrears_11 rfl rfl ?_
  refine z_iald (f := xa v) C 2 0 rfl rfl j rfl (by omega) (by decide) dX0_addArrears_12 ?_
  refine z_iload_n C 2 dX0_addArrears_13 rfl rfl ?_
  refine z_iadd C dX0_addArrears_14 ?_
  refine z_mmin C wd1 wd2 wd3 wd4 (Nat.le_of_ble_eq_true rfl) (Nat.le_of_ble_eq_true rfl) (Nat.le_of_ble_eq_true rfl) (Nat.le_of_ble_eq_true rfl) dX0_addArrears_15 ?_
  refine z_iast (ws' := (wX0 hh cI cZ (xl v, upd (xa v) j (imin 99 (((xa v) j) + g)), xe v, xn v, xw v, xf v, xg v, xx v, xk v, xc v, xd v, xo v, xy v, xb v))) C 2 0 rfl rfl j rfl (by omega) (by decide) rfl dX0_addArrears_18 ?_
  exact z_vret C hr hlocks (Nat.le_of_ble_eq_true rfl) (Nat.le_of_ble_eq_true rfl) dX0_addArrears_19 (congrArg (wX0 hh cI cZ) (by first | rfl | (simp only [xadd, ↓reduceIte]; done) | (simp only [xadd, ↓reduceIte]; rfl)))
set_option maxHeartbeats 4000000 in
set_option maxRecDepth 100000 in
theorem c_X0_lessenArrears (l : Launch) (D : va_G) (hh : Nat → Nat) (cI cZ : ClassId) (v : S0) (j : Nat) (g : Int32) (hj : j < 9) : zM l yX0_lessenArrears wsX0_lessenArrears 1 15 0 0 [.ref (hh 0), .int (nI j), .int g] [(cI, .int), (cZ, .boolean)] D (wX0 hh cI cZ v) (wX0 hh cI cZ (xless v j g)) none := by
  refine z_met (cc := cX0_lessenArrears) (maxL := 3) (ret := none) (by decide) rfl (Nat.le_of_ble_eq_true rfl) ?_
  intro p e s m args below meth c A C hr hlocks
  have inl : ∀ w ∈ u_ws RX0 TX0 14, w ∈ wsX0_lessenArrears := by decide +kernel
  have wd0 : Cond.fieldLink RX0 13 "SaltOrder" "arrears" "[I" ∈ wsX0_lessenArrears := by decide +kernel
  have wd1 : Cond.methodLink RX0 213 Lib.Math.max.name ∈ wsX0_lessenArrears := by decide +kernel
  have wd2 : Cond.static Lib.Math.max.name ∈ wsX0_lessenArrears := by decide +kernel
  have wd3 : Cond.initialized "java/lang/Math" ∈ wsX0_lessenArrears := by decide +kernel
  have wd4 : Cond.code Lib.Math.max.name Lib.Math.max.code 2 (some .int) ∈ wsX0_lessenArrears := by decide +kernel
  refine z_sub (L' := [(0, .ref (hh 0)), (1, .int (nI j)), (2, .int g)]) [0, 1, 2] rfl ?_
  refine z_aload_n C 0 dX0_lessenArrears_0 rfl rfl ?_
  refine z_get0 (v := .ref (hh 2)) C inl 0 1 (by decide) rfl rfl wd0 dX0_lessenArrears_1 ?_
  refine z_iload_n C 1 dX0_lessenArrears_4 rfl rfl ?_
  refine z_iconst (v := 0) C dX0_lessenArrears_5 (by decide) ?_
  refine z_aload_n C 0 dX0_lessenArrears_6 rfl rfl ?_
  refine z_get0 (v := .ref (hh 2)) C inl 0 1 (by decide) rfl rfl wd0 dX0_lessenArrears_7 ?_
  refine z_iload_n C 1 dX0_lessenArrears_10 rfl rfl ?_
  refine z_iald (f := xa v) C 2 0 rfl rfl j rfl (by omega) (by decide) dX0_lessenArrears_11 ?_
  refine z_iload_n C 2 dX0_lessenArrears_12 rfl rfl ?_
  refine z_isub C dX0_lessenArrears_13 ?_
  refine z_mmax C wd1 wd2 wd3 wd4 (Nat.le_of_ble_eq_true rfl) (Nat.le_of_ble_eq_true rfl) (Nat.le_of_ble_eq_true rfl) (Nat.le_of_ble_eq_true rfl) dX0_lessenArrears_14 ?_
  refine z_iast (ws' := (wX0 hh cI cZ (xl v, upd (xa v) j (imax 0 (((xa v) j) - g)), xe v, xn v, xw v, xf v, xg v, xx v, xk v, xc v, xd v, xo v, xy v, xb v))) C 2 0 rfl rfl j rfl (by omega) (by decide) rfl dX0_lessenArrears_17 ?_
  exact z_vret C hr hlocks (Nat.le_of_ble_eq_true rfl) (Nat.le_of_ble_eq_true rfl) dX0_lessenArrears_18 (congrArg (wX0 hh cI cZ) (by first | rfl | (simp only [xless, ↓reduceIte]; done) | (simp only [xless, ↓reduceIte]; rfl)))
set_option maxHeartbeats 4000000 in
set_option maxRecDepth 100000 in
theorem c_X0_addLumps (l : Launch) (D : va_G) (hh : Nat → Nat) (cI cZ : ClassId) (v : S0) (j : Nat) (g : Int32) (hj : j < 9) : zM l yX0_addLumps wsX0_addLumps 1 15 0 0 [.ref (hh 0), .int (nI j), .int g] [(cI, .int), (cZ, .boolean)] D (wX0 hh cI cZ v) (wX0 hh cI cZ (xlump v j g)) none := by
  refine z_met (cc := cX0_addLumps) (maxL := 3) (ret := none) (by decide) rfl (Nat.le_of_ble_eq_true rfl) ?_
  intro p e s m args below meth c A C hr hlocks
  have inl : ∀ w ∈ u_ws RX0 TX0 14, w ∈ wsX0_addLumps := by decide +kernel
  have wd0 : Cond.fieldLink RX0 16 "SaltOrder" "toEat" "[I" ∈ wsX0_addLumps := by decide +kernel
  have wd1 : Cond.methodLink RX0 89 Lib.Math.min.name ∈ wsX0_addLumps := by decide +kernel
  have wd2 : Cond.static Lib.Math.min.name ∈ wsX0_addLumps := by decide +kernel
  have wd3 : Cond.initialized "java/lang/Math" ∈ wsX0_addLumps := by decide +kernel
  have wd4 : Cond.code Lib.Math.min.name Lib.Math.min.code 2 (some .int) ∈ wsX0_addLumps := by decide +kernel
  refine z_sub (L' := [(0, .ref (hh 0)), (1, .int (nI j)), (2, .int g)]) [0, 1, 2] rfl ?_
  refine z_aload_n C 0 dX0_addLumps_0 rfl rfl ?_
  refine z_get0 (v := .ref (hh 3)) C inl 0 2 (by decide) rfl rfl wd0 dX0_addLumps_1 ?_
  refine z_iload_n C 1 dX0_addLumps_4 rfl rfl ?_
  refine z_bipush (v := 9) C dX0_addLumps_5 (by decide) ?_
  refine z_aload_n C 0 dX0_addLumps_7 rfl rfl ?_
  refine z_get0 (v := .ref (hh 3)) C inl 0 2 (by decide) rfl rfl wd0 dX0_addLumps_8 ?_
  refine z_iload_n C 1 dX0_addLumps_11 rfl rfl ?_
  refine z_iald (f := xe v) C 3 0 rfl rfl j rfl (by omega) (by decide) dX0_addLumps_12 ?_
  refine z_iload_n C 2 dX0_addLumps_13 rfl rfl ?_
  refine z_iadd C dX0_addLumps_14 ?_
  refine z_mmin C wd1 wd2 wd3 wd4 (Nat.le_of_ble_eq_true rfl) (Nat.le_of_ble_eq_true rfl) (Nat.le_of_ble_eq_true rfl) (Nat.le_of_ble_eq_true rfl) dX0_addLumps_15 ?_
  refine z_iast (ws' := (wX0 hh cI cZ (xl v, xa v, upd (xe v) j (imin 9 (((xe v) j) + g)), xn v, xw v, xf v, xg v, xx v, xk v, xc v, xd v, xo v, xy v, xb v))) C 3 0 rfl rfl j rfl (by omega) (by decide) rfl dX0_addLumps_18 ?_
  exact z_vret C hr hlocks (Nat.le_of_ble_eq_true rfl) (Nat.le_of_ble_eq_true rfl) dX0_addLumps_19 (congrArg (wX0 hh cI cZ) (by first | rfl | (simp only [xlump, ↓reduceIte]; done) | (simp only [xlump, ↓reduceIte]; rfl)))
set_option maxHeartbeats 4000000 in
set_option maxRecDepth 100000 in
theorem c_X0_leftExcess (l : Launch) (D : va_G) (hh : Nat → Nat) (cI cZ : ClassId) (v : S0) (j : Nat) (g : Int32) (hj : j < 9) : zM l yX0_leftExcess wsX0_leftExcess 1 13 0 0 [.ref (hh 0), .int (nI j), .int g] [(cI, .int), (cZ, .boolean)] D (wX0 hh cI cZ v) (wX0 hh cI cZ v) (some (.int (xlexc v j g))) := by
  refine z_met (cc := cX0_leftExcess) (maxL := 3) (ret := (some .int)) (by decide) rfl (Nat.le_of_ble_eq_true rfl) ?_
  intro p e s m args below meth c A C hr hlocks
  have inl : ∀ w ∈ u_ws RX0 TX0 14, w ∈ wsX0_leftExcess := by decide +kernel
  have wd0 : Cond.fieldLink RX0 13 "SaltOrder" "arrears" "[I" ∈ wsX0_leftExcess := by decide +kernel
  have wd1 : Cond.methodLink RX0 213 Lib.Math.max.name ∈ wsX0_leftExcess := by decide +kernel
  have wd2 : Cond.static Lib.Math.max.name ∈ wsX0_leftExcess := by decide +kernel
  have wd3 : Cond.initialized "java/lang/Math" ∈ wsX0_leftExcess := by decide +kernel
  have wd4 : Cond.code Lib.Math.max.name Lib.Math.max.code 2 (some .int) ∈ wsX0_leftExcess := by decide +kernel
  refine z_sub (L' := [(0, .ref (hh 0)), (1, .int (nI j)), (2, .int g)]) [0, 1, 2] rfl ?_
  refine z_iconst (v := 0) C dX0_leftExcess_0 (by decide) ?_
  refine z_iload_n C 2 dX0_leftExcess_1 rfl rfl ?_
  refine z_aload_n C 0 dX0_leftExcess_2 rfl rfl ?_
  refine z_get0 (v := .ref (hh 2)) C inl 0 1 (by decide) rfl rfl wd0 dX0_leftExcess_3 ?_
  refine z_iload_n C 1 dX0_leftExcess_6 rfl rfl ?_
  refine z_iald (f := xa v) C 2 0 rfl rfl j rfl (by omega) (by decide) dX0_leftExcess_7 ?_
  refine z_isub C dX0_leftExcess_8 ?_
  refine z_mmax C wd1 wd2 wd3 wd4 (Nat.le_of_ble_eq_true rfl) (Nat.le_of_ble_eq_true rfl) (Nat.le_of_ble_eq_true rfl) (Nat.le_of_ble_eq_true rfl) dX0_leftExcess_9 ?_
  exact z_iret C hr hlocks (Nat.le_of_ble_eq_true rfl) (Nat.le_of_ble_eq_true rfl) dX0_leftExcess_12 (by first | rfl | (simp only [xlexc, ↓reduceIte]; done) | (simp only [xlexc, ↓reduceIte]; rfl)) rfl
set_option maxHeartbeats 4000000 in
set_option maxRecDepth 100000 in
theorem c_X0_lossOf (l : Launch) (D : va_G) (hh : Nat → Nat) (cI cZ : ClassId) (v : S0) (j : Nat) (hj : j < 9) : zM l yX0_lossOf wsX0_lossOf 0 0 0 0 [.ref (hh 0), .int (nI j)] [(cI, .int), (cZ, .boolean)] D (wX0 hh cI cZ v) (wX0 hh cI cZ v) (some (.int (xloss v j))) := by
  refine z_met (cc := cX0_lossOf) (maxL := 2) (ret := (some .int)) (by decide) rfl (Nat.le_of_ble_eq_true rfl) ?_
  intro p e s m args below meth c A C hr hlocks
  have inl : ∀ w ∈ u_ws RX0 TX0 14, w ∈ wsX0_lossOf := by decide +kernel
  have wd0 : Cond.fieldLink RX0 16 "SaltOrder" "toEat" "[I" ∈ wsX0_lossOf := by decide +kernel
  have wd1 : Cond.fieldLink RX0 13 "SaltOrder" "arrears" "[I" ∈ wsX0_lossOf := by decide +kernel
  refine z_sub (L' := [(0, .ref (hh 0)), (1, .int (nI j))]) [0, 1] rfl ?_
  refine z_aload_n C 0 dX0_lossOf_0 rfl rfl ?_
  refine z_get0 (v := .ref (hh 3)) C inl 0 2 (by decide) rfl rfl wd0 dX0_lossOf_1 ?_
  refine z_iload_n C 1 dX0_lossOf_4 rfl rfl ?_
  refine z_iald (f := xe v) C 3 0 rfl rfl j rfl (by omega) (by decide) dX0_lossOf_5 ?_
  refine z_if_le (tgt := 11) C dX0_lossOf_6 (by decide) (fun c6 => ?_) (fun c6 => ?_)
  · skip
    refine z_aload_n C 0 dX0_lossOf_11 rfl rfl ?_
    refine z_get0 (v := .ref (hh 2)) C inl 0 1 (by decide) rfl rfl wd1 dX0_lossOf_12 ?_
    refine z_iload_n C 1 dX0_lossOf_15 rfl rfl ?_
    refine z_iald (f := xa v) C 2 0 rfl rfl j rfl (by omega) (by decide) dX0_lossOf_16 ?_
    refine z_bipush (v := 10) C dX0_lossOf_17 (by decide) ?_
    refine z_iadd C dX0_lossOf_19 ?_
    refine z_iconst (v := 1) C dX0_lossOf_20 (by decide) ?_
    refine z_isub C dX0_lossOf_21 ?_
    refine z_bipush (v := 10) C dX0_lossOf_22 (by decide) ?_
    refine z_idiv C dX0_lossOf_24 (by decide) ?_
    exact z_iret C hr hlocks (Nat.le_of_ble_eq_true rfl) (Nat.le_of_ble_eq_true rfl) dX0_lossOf_25 (by first | rfl | (simp only [xloss, c6, ↓reduceIte]; done) | (simp only [xloss, c6, ↓reduceIte]; rfl)) rfl
  · skip
    refine z_iconst (v := 0) C dX0_lossOf_9 (by decide) ?_
    exact z_iret C hr hlocks (Nat.le_of_ble_eq_true rfl) (Nat.le_of_ble_eq_true rfl) dX0_lossOf_10 (by first | rfl | (simp only [xloss, c6, ↓reduceIte]; done) | (simp only [xloss, c6, ↓reduceIte]; rfl)) rfl
set_option maxHeartbeats 4000000 in
set_option maxRecDepth 100000 in
theorem c_X0_eatOrFeelLuck (l : Launch) (D : va_G) (hh : Nat → Nat) (cI cZ : ClassId) (v : S0) (j : Nat) (hj : j < 9) : zM l yX0_eatOrFeelLuck wsX0_eatOrFeelLuck 2 37 0 0 [.ref (hh 0), .int (nI j)] [(cI, .int), (cZ, .boolean)] D (wX0 hh cI cZ v) (wX0 hh cI cZ (xeat v j)) none := by
  refine z_met (cc := cX0_eatOrFeelLuck) (maxL := 2) (ret := none) (by decide) rfl (Nat.le_of_ble_eq_true rfl) ?_
  intro p e s m args below meth c A C hr hlocks
  have inl : ∀ w ∈ u_ws RX0 TX0 14, w ∈ wsX0_eatOrFeelLuck := by decide +kernel
  have wd0 : Cond.fieldLink RX0 16 "SaltOrder" "toEat" "[I" ∈ wsX0_eatOrFeelLuck := by decide +kernel
  have wd1 : Cond.fieldLink RX0 13 "SaltOrder" "arrears" "[I" ∈ wsX0_eatOrFeelLuck := by decide +kernel
  have wd2 : Cond.fieldLink RX0 9 "SaltOrder" "luck" "[I" ∈ wsX0_eatOrFeelLuck := by decide +kernel
  have wd3 : Cond.methodLink RX0 89 Lib.Math.min.name ∈ wsX0_eatOrFeelLuck := by decide +kernel
  have wd4 : Cond.static Lib.Math.min.name ∈ wsX0_eatOrFeelLuck := by decide +kernel
  have wd5 : Cond.initialized "java/lang/Math" ∈ wsX0_eatOrFeelLuck := by decide +kernel
  have wd6 : Cond.code Lib.Math.min.name Lib.Math.min.code 2 (some .int) ∈ wsX0_eatOrFeelLuck := by decide +kernel
  have wd7 : Cond.methodLink RX0 213 Lib.Math.max.name ∈ wsX0_eatOrFeelLuck := by decide +kernel
  have wd8 : Cond.static Lib.Math.max.name ∈ wsX0_eatOrFeelLuck := by decide +kernel
  have wd9 : Cond.code Lib.Math.max.name Lib.Math.max.code 2 (some .int) ∈ wsX0_eatOrFeelLuck := by decide +kernel
  refine z_sub (L' := [(0, .ref (hh 0)), (1, .int (nI j))]) [0, 1] rfl ?_
  refine z_aload_n C 0 dX0_eatOrFeelLuck_0 rfl rfl ?_
  refine z_get0 (v := .ref (hh 3)) C inl 0 2 (by decide) rfl rfl wd0 dX0_eatOrFeelLuck_1 ?_
  refine z_iload_n C 1 dX0_eatOrFeelLuck_4 rfl rfl ?_
  refine z_iald (f := xe v) C 3 0 rfl rfl j rfl (by omega) (by decide) dX0_eatOrFeelLuck_5 ?_
  refine z_if_le (tgt := 28) C dX0_eatOrFeelLuck_6 (by decide) (fun c6 => ?_) (fun c6 => ?_)
  · skip
    refine z_aload_n C 0 dX0_eatOrFeelLuck_28 rfl rfl ?_
    refine z_get0 (v := .ref (hh 2)) C inl 0 1 (by decide) rfl rfl wd1 dX0_eatOrFeelLuck_29 ?_
    refine z_iload_n C 1 dX0_eatOrFeelLuck_32 rfl rfl ?_
    refine z_iald (f := xa v) C 2 0 rfl rfl j rfl (by omega) (by decide) dX0_eatOrFeelLuck_33 ?_
    refine z_if_le (tgt := 62) C dX0_eatOrFeelLuck_34 (by decide) (fun c34 => ?_) (fun c34 => ?_)
    · skip
      refine z_aload_n C 0 dX0_eatOrFeelLuck_62 rfl rfl ?_
      refine z_get0 (v := .ref (hh 1)) C inl 0 0 (by decide) rfl rfl wd2 dX0_eatOrFeelLuck_63 ?_
      refine z_iload_n C 1 dX0_eatOrFeelLuck_66 rfl rfl ?_
      refine z_bipush (v := 100) C dX0_eatOrFeelLuck_67 (by decide) ?_
      refine z_aload_n C 0 dX0_eatOrFeelLuck_69 rfl rfl ?_
      refine z_get0 (v := .ref (hh 1)) C inl 0 0 (by decide) rfl rfl wd2 dX0_eatOrFeelLuck_70 ?_
      refine z_iload_n C 1 dX0_eatOrFeelLuck_73 rfl rfl ?_
      refine z_iald (f := xl v) C 1 0 rfl rfl j rfl (by omega) (by decide) dX0_eatOrFeelLuck_74 ?_
      refine z_iconst (v := 1) C dX0_eatOrFeelLuck_75 (by decide) ?_
      refine z_iadd C dX0_eatOrFeelLuck_76 ?_
      refine z_mmin C wd3 wd4 wd5 wd6 (Nat.le_of_ble_eq_true rfl) (Nat.le_of_ble_eq_true rfl) (Nat.le_of_ble_eq_true rfl) (Nat.le_of_ble_eq_true rfl) dX0_eatOrFeelLuck_77 ?_
      refine z_iast (ws' := (wX0 hh cI cZ (upd (xl v) j (imin 100 (((xl v) j) + 1)), xa v, xe v, xn v, xw v, xf v, xg v, xx v, xk v, xc v, xd v, xo v, xy v, xb v))) C 1 0 rfl rfl j rfl (by omega) (by decide) rfl dX0_eatOrFeelLuck_80 ?_
      exact z_vret C hr hlocks (Nat.le_of_ble_eq_true rfl) (Nat.le_of_ble_eq_true rfl) dX0_eatOrFeelLuck_81 (congrArg (wX0 hh cI cZ) (by first | rfl | (simp only [xeat, c6, c34, ↓reduceIte]; done) | (simp only [xeat, c6, c34, ↓reduceIte]; rfl)))
    · skip
      refine z_aload_n C 0 dX0_eatOrFeelLuck_37 rfl rfl ?_
      refine z_get0 (v := .ref (hh 1)) C inl 0 0 (by decide) rfl rfl wd2 dX0_eatOrFeelLuck_38 ?_
      refine z_iload_n C 1 dX0_eatOrFeelLuck_41 rfl rfl ?_
      refine z_iconst (v := 0) C dX0_eatOrFeelLuck_42 (by decide) ?_
      refine z_aload_n C 0 dX0_eatOrFeelLuck_43 rfl rfl ?_
      refine z_get0 (v := .ref (hh 1)) C inl 0 0 (by decide) rfl rfl wd2 dX0_eatOrFeelLuck_44 ?_
      refine z_iload_n C 1 dX0_eatOrFeelLuck_47 rfl rfl ?_
      refine z_iald (f := xl v) C 1 0 rfl rfl j rfl (by omega) (by decide) dX0_eatOrFeelLuck_48 ?_
      refine z_aload_n C 0 dX0_eatOrFeelLuck_49 rfl rfl ?_
      refine z_iload_n C 1 dX0_eatOrFeelLuck_50 rfl rfl ?_
      refine z_callV (w := (wX0 hh cI cZ v)) (w' := (wX0 hh cI cZ v)) (w1 := ([] : va_W)) (w2 := ([] : va_W)) (ws' := (wX0 hh cI cZ v)) (As := [.int (nI j)]) (rest := [.int ((xl v) j), .int 0, .int (nI j), .ref (hh 1)]) (st' := [.int (xloss v j), .int ((xl v) j), .int 0, .int (nI j), .ref (hh 1)]) (rv := some (.int (xloss v j))) C (c_X0_lossOf l D hh cI cZ v j (by omega)) (cwV 1 C.words gX0_eatOrFeelLuck_X0_lossOf rfl rfl rfl (by decide +kernel) ⟨(Nat.le_of_ble_eq_true rfl), (Nat.le_of_ble_eq_true rfl)⟩) (q0 := 0) (ci := 0) rfl rfl rfl [0, 1] rfl rfl (Nat.le_of_ble_eq_true rfl) ⟨(Nat.le_of_ble_eq_true rfl), (Nat.le_of_ble_eq_true rfl)⟩ rfl rfl rfl rfl rfl dX0_eatOrFeelLuck_51 ?_
      refine z_isub C dX0_eatOrFeelLuck_54 ?_
      refine z_mmax C wd7 wd8 wd5 wd9 (Nat.le_of_ble_eq_true rfl) (Nat.le_of_ble_eq_true rfl) (Nat.le_of_ble_eq_true rfl) (Nat.le_of_ble_eq_true rfl) dX0_eatOrFeelLuck_55 ?_
      refine z_iast (ws' := (wX0 hh cI cZ (upd (xl v) j (imax 0 (((xl v) j) - (xloss v j))), xa v, xe v, xn v, xw v, xf v, xg v, xx v, xk v, xc v, xd v, xo v, xy v, xb v))) C 1 0 rfl rfl j rfl (by omega) (by decide) rfl dX0_eatOrFeelLuck_58 ?_
      refine z_goto (tgt := 81) C dX0_eatOrFeelLuck_59 (by decide) ?_
      exact z_vret C hr hlocks (Nat.le_of_ble_eq_true rfl) (Nat.le_of_ble_eq_true rfl) dX0_eatOrFeelLuck_81 (congrArg (wX0 hh cI cZ) (by first | rfl | (simp only [xeat, c6, c34, ↓reduceIte]; done) | (simp only [xeat, c6, c34, ↓reduceIte]; rfl)))
  · skip
    refine z_aload_n C 0 dX0_eatOrFeelLuck_9 rfl rfl ?_
    refine z_get0 (v := .ref (hh 3)) C inl 0 2 (by decide) rfl rfl wd0 dX0_eatOrFeelLuck_10 ?_
    refine z_iload_n C 1 dX0_eatOrFeelLuck_13 rfl rfl ?_
    refine z_dup2 C dX0_eatOrFeelLuck_14 rfl rfl ?_
    refine z_iald (f := xe v) C 3 0 rfl rfl j rfl (by omega) (by decide) dX0_eatOrFeelLuck_15 ?_
    refine z_iconst (v := 1) C dX0_eatOrFeelLuck_16 (by decide) ?_
    refine z_isub C dX0_eatOrFeelLuck_17 ?_
    refine z_iast (ws' := (wX0 hh cI cZ (xl v, xa v, upd (xe v) j (((xe v) j) - 1), xn v, xw v, xf v, xg v, xx v, xk v, xc v, xd v, xo v, xy v, xb v))) C 3 0 rfl rfl j rfl (by omega) (by decide) rfl dX0_eatOrFeelLuck_18 ?_
    refine z_aload_n C 0 dX0_eatOrFeelLuck_19 rfl rfl ?_
    refine z_iload_n C 1 dX0_eatOrFeelLuck_20 rfl rfl ?_
    refine z_iconst (v := 3) C dX0_eatOrFeelLuck_21 (by decide) ?_
    obtain ⟨v1, hv1⟩ : ∃ z, z = xless (xl v, xa v, upd (xe v) j (((xe v) j) - 1), xn v, xw v, xf v, xg v, xx v, xk v, xc v, xd v, xo v, xy v, xb v) j 3 := ⟨_, rfl⟩
    refine z_callV (w := (wX0 hh cI cZ (xl v, xa v, upd (xe v) j (((xe v) j) - 1), xn v, xw v, xf v, xg v, xx v, xk v, xc v, xd v, xo v, xy v, xb v))) (w' := (wX0 hh cI cZ v1)) (w1 := ([] : va_W)) (w2 := ([] : va_W)) (ws' := (wX0 hh cI cZ v1)) (As := [.int (nI j), .int 3]) (rest := []) (st' := []) (rv := none) C (by rw [hv1]; exact c_X0_lessenArrears l D hh cI cZ (xl v, xa v, upd (xe v) j (((xe v) j) - 1), xn v, xw v, xf v, xg v, xx v, xk v, xc v, xd v, xo v, xy v, xb v) j 3 (by omega)) (cwV 2 C.words gX0_eatOrFeelLuck_X0_lessenArrears rfl rfl rfl (by decide +kernel) ⟨(Nat.le_of_ble_eq_true rfl), (Nat.le_of_ble_eq_true rfl)⟩) (q0 := 0) (ci := 0) rfl rfl rfl [0, 1] rfl rfl (Nat.le_of_ble_eq_true rfl) ⟨(Nat.le_of_ble_eq_true rfl), (Nat.le_of_ble_eq_true rfl)⟩ rfl rfl rfl rfl rfl dX0_eatOrFeelLuck_22 ?_
    have hv1k0 : xn v1 = xn (xl v, xa v, upd (xe v) j (((xe v) j) - 1), xn v, xw v, xf v, xg v, xx v, xk v, xc v, xd v, xo v, xy v, xb v) := by rw [hv1]; exact (rfl : xn (xless (xl v, xa v, upd (xe v) j (((xe v) j) - 1), xn v, xw v, xf v, xg v, xx v, xk v, xc v, xd v, xo v, xy v, xb v) j 3) = xn (xl v, xa v, upd (xe v) j (((xe v) j) - 1), xn v, xw v, xf v, xg v, xx v, xk v, xc v, xd v, xo v, xy v, xb v))
    have hv1k1 : xk v1 = xk (xl v, xa v, upd (xe v) j (((xe v) j) - 1), xn v, xw v, xf v, xg v, xx v, xk v, xc v, xd v, xo v, xy v, xb v) := by rw [hv1]; exact (rfl : xk (xless (xl v, xa v, upd (xe v) j (((xe v) j) - 1), xn v, xw v, xf v, xg v, xx v, xk v, xc v, xd v, xo v, xy v, xb v) j 3) = xk (xl v, xa v, upd (xe v) j (((xe v) j) - 1), xn v, xw v, xf v, xg v, xx v, xk v, xc v, xd v, xo v, xy v, xb v))
    have hv1k2 : xc v1 = xc (xl v, xa v, upd (xe v) j (((xe v) j) - 1), xn v, xw v, xf v, xg v, xx v, xk v, xc v, xd v, xo v, xy v, xb v) := by rw [hv1]; exact (rfl : xc (xless (xl v, xa v, upd (xe v) j (((xe v) j) - 1), xn v, xw v, xf v, xg v, xx v, xk v, xc v, xd v, xo v, xy v, xb v) j 3) = xc (xl v, xa v, upd (xe v) j (((xe v) j) - 1), xn v, xw v, xf v, xg v, xx v, xk v, xc v, xd v, xo v, xy v, xb v))
    refine z_goto (tgt := 81) C dX0_eatOrFeelLuck_25 (by decide) ?_
    subst hv1
    exact z_vret C hr hlocks (Nat.le_of_ble_eq_true rfl) (Nat.le_of_ble_eq_true rfl) dX0_eatOrFeelLuck_81 (congrArg (wX0 hh cI cZ) (by first | rfl | (simp only [xeat, c6, ↓reduceIte]; done) | (simp only [xeat, c6, ↓reduceIte]; rfl)))
set_option maxHeartbeats 4000000 in
set_option maxRecDepth 100000 in
theorem c_X0_debtOf (l : Launch) (D : va_G) (hh : Nat → Nat) (cI cZ : ClassId) (v : S0) (j : Int32) (hk : xk v ≤ 30) : zM l yX0_debtOf wsX0_debtOf 0 0 0 0 [.ref (hh 0), .int j] [(cI, .int), (cZ, .boolean)] D (wX0 hh cI cZ v) (wX0 hh cI cZ v) (some (.int (xdebt v j))) := by
  refine z_met (cc := cX0_debtOf) (maxL := 4) (ret := (some .int)) (by decide) rfl (Nat.le_of_ble_eq_true rfl) ?_
  intro p e s m args below meth c A C hr hlocks
  have inl : ∀ w ∈ u_ws RX0 TX0 14, w ∈ wsX0_debtOf := by decide +kernel
  have wd0 : Cond.fieldLink RX0 36 "SaltOrder" "throwCount" "I" ∈ wsX0_debtOf := by decide +kernel
  have wd1 : Cond.fieldLink RX0 19 "SaltOrder" "throwers" "[I" ∈ wsX0_debtOf := by decide +kernel
  have wd2 : Cond.fieldLink RX0 29 "SaltOrder" "excesses" "[I" ∈ wsX0_debtOf := by decide +kernel
  refine z_sub (L' := [(0, .ref (hh 0)), (1, .int j)]) [0, 1] rfl ?_
  have lp4 : ∀ (dd i : Nat), i + dd = xk v → zG p l e ({ frames := 0, cells := 0, slots := 0, locals := 0 } : Room) s m args below meth c D 4 A 0 0 (MQ below (zQ (some (.int (xdebt v j))) (fun t => va_P D vwCl (wX0 hh cI cZ v) t.heap) A) args s 0 0 A) 4 [(0, .ref (hh 0)), (1, .int j), (2, .int (xdebtN (xw v) (xx v) j i)), (3, .int (nI i))] [] (wX0 hh cI cZ v) := by
    intro dd
    induction dd with
    | zero =>
      intro i hi
      have hi : i = xk v := by omega
      subst hi
      refine z_iload_n C 3 dX0_debtOf_4 rfl rfl ?_
      refine z_aload_n C 0 dX0_debtOf_5 rfl rfl ?_
      refine z_get0 (v := .int (nI (xk v))) C inl 0 8 (by decide) rfl rfl wd0 dX0_debtOf_6 ?_
      refine z_icmp_ge (tgt := 39) C dX0_debtOf_9 (by decide) (fun _ => ?_) (fun h9 => absurd (nI_le (by omega) (by omega)) h9)
      refine z_iload_n C 2 dX0_debtOf_39 rfl rfl ?_
      exact z_iret C hr hlocks (Nat.le_of_ble_eq_true rfl) (Nat.le_of_ble_eq_true rfl) dX0_debtOf_40 (by rfl) rfl
    | succ dd ih =>
      intro i hi
      refine z_iload_n C 3 dX0_debtOf_4 rfl rfl ?_
      refine z_aload_n C 0 dX0_debtOf_5 rfl rfl ?_
      refine z_get0 (v := .int (nI (xk v))) C inl 0 8 (by decide) rfl rfl wd0 dX0_debtOf_6 ?_
      refine z_icmp_ge (tgt := 39) C dX0_debtOf_9 (by decide) (fun h9 => absurd h9 (nI_ge (by omega) (by omega))) (fun _ => ?_)
      refine z_aload_n C 0 dX0_debtOf_12 rfl rfl ?_
      refine z_get0 (v := .ref (hh 4)) C inl 0 4 (by decide) rfl rfl wd1 dX0_debtOf_13 ?_
      refine z_iload_n C 3 dX0_debtOf_16 rfl rfl ?_
      refine z_iald (f := xw v) C 4 0 rfl rfl i rfl (by omega) (by decide) dX0_debtOf_17 ?_
      refine z_iload_n C 1 dX0_debtOf_18 rfl rfl ?_
      refine z_icmp_ne (tgt := 33) C dX0_debtOf_19 (by decide) (fun c19 => ?_) (fun c19 => ?_)
      · skip
        refine z_iinc (v := nI (i + 1)) (L' := [(3, .int (nI (i + 1))), (0, .ref (hh 0)), (1, .int j), (2, .int (xdebtN (xw v) (xx v) j i))]) C 3 dX0_debtOf_33 rfl (z_inc _) (by decide) rfl ?_
        refine z_goto (tgt := 4) C dX0_debtOf_36 (by decide) ?_
        refine z_sub (L' := [(0, .ref (hh 0)), (1, .int j), (2, .int (xdebtN (xw v) (xx v) j i)), (3, .int (nI (i + 1)))]) [1, 2, 3, 0] rfl ?_
        exact (by have e9 := ih (i + 1) (by omega); simp only [xdebtN, c19, ↓reduceIte] at e9; exact e9)
      · skip
        refine z_iload_n C 2 dX0_debtOf_22 rfl rfl ?_
        refine z_iconst (v := 2) C dX0_debtOf_23 (by decide) ?_
        refine z_aload_n C 0 dX0_debtOf_24 rfl rfl ?_
        refine z_get0 (v := .ref (hh 7)) C inl 0 7 (by decide) rfl rfl wd2 dX0_debtOf_25 ?_
        refine z_iload_n C 3 dX0_debtOf_28 rfl rfl ?_
        refine z_iald (f := xx v) C 7 0 rfl rfl i rfl (by omega) (by decide) dX0_debtOf_29 ?_
        refine z_imul C dX0_debtOf_30 ?_
        refine z_iadd C dX0_debtOf_31 ?_
        refine z_istore_n (L' := [(2, .int ((xdebtN (xw v) (xx v) j i) + (2 * ((xx v) i)))), (0, .ref (hh 0)), (1, .int j), (3, .int (nI i))]) C dX0_debtOf_32 rfl (by decide) rfl ?_
        refine z_iinc (v := nI (i + 1)) (L' := [(3, .int (nI (i + 1))), (2, .int ((xdebtN (xw v) (xx v) j i) + (2 * ((xx v) i)))), (0, .ref (hh 0)), (1, .int j)]) C 3 dX0_debtOf_33 rfl (z_inc _) (by decide) rfl ?_
        refine z_goto (tgt := 4) C dX0_debtOf_36 (by decide) ?_
        refine z_sub (L' := [(0, .ref (hh 0)), (1, .int j), (2, .int ((xdebtN (xw v) (xx v) j i) + (2 * ((xx v) i)))), (3, .int (nI (i + 1)))]) [2, 3, 1, 0] rfl ?_
        exact (by have e9 := ih (i + 1) (by omega); simp only [xdebtN, c19, ↓reduceIte] at e9; exact e9)
  refine z_iconst (v := 0) C dX0_debtOf_0 (by decide) ?_
  refine z_istore_n (L' := [(2, .int 0), (0, .ref (hh 0)), (1, .int j)]) C dX0_debtOf_1 rfl (by decide) rfl ?_
  refine z_iconst (v := 0) C dX0_debtOf_2 (by decide) ?_
  refine z_istore_n (L' := [(3, .int 0), (2, .int 0), (0, .ref (hh 0)), (1, .int j)]) C dX0_debtOf_3 rfl (by decide) rfl ?_
  refine z_sub (L' := [(0, .ref (hh 0)), (1, .int j), (2, .int 0), (3, .int 0)]) [2, 3, 1, 0] rfl ?_
  exact lp4 (xk v) 0 (by omega)
set_option maxHeartbeats 4000000 in
set_option maxRecDepth 100000 in
theorem c_X0_faults (l : Launch) (D : va_G) (hh : Nat → Nat) (cI cZ : ClassId) (v : S0) (hk : xk v ≤ 30) : zM l yX0_faults wsX0_faults 0 0 0 0 [.ref (hh 0)] [(cI, .int), (cZ, .boolean)] D (wX0 hh cI cZ v) (wX0 hh cI cZ v) (some (.int (xflt v))) := by
  refine z_met (cc := cX0_faults) (maxL := 3) (ret := (some .int)) (by decide) rfl (Nat.le_of_ble_eq_true rfl) ?_
  intro p e s m args below meth c A C hr hlocks
  have inl : ∀ w ∈ u_ws RX0 TX0 14, w ∈ wsX0_faults := by decide +kernel
  have wd0 : Cond.fieldLink RX0 36 "SaltOrder" "throwCount" "I" ∈ wsX0_faults := by decide +kernel
  have wd1 : Cond.fieldLink RX0 29 "SaltOrder" "excesses" "[I" ∈ wsX0_faults := by decide +kernel
  refine z_sub (L' := [(0, .ref (hh 0))]) [0] rfl ?_
  have lp4 : ∀ (dd i : Nat), i + dd = xk v → zG p l e ({ frames := 0, cells := 0, slots := 0, locals := 0 } : Room) s m args below meth c D 3 A 0 0 (MQ below (zQ (some (.int (xflt v))) (fun t => va_P D vwCl (wX0 hh cI cZ v) t.heap) A) args s 0 0 A) 4 [(0, .ref (hh 0)), (1, .int (xfltN (xx v) i)), (2, .int (nI i))] [] (wX0 hh cI cZ v) := by
    intro dd
    induction dd with
    | zero =>
      intro i hi
      have hi : i = xk v := by omega
      subst hi
      refine z_iload_n C 2 dX0_faults_4 rfl rfl ?_
      refine z_aload_n C 0 dX0_faults_5 rfl rfl ?_
      refine z_get0 (v := .int (nI (xk v))) C inl 0 8 (by decide) rfl rfl wd0 dX0_faults_6 ?_
      refine z_icmp_ge (tgt := 30) C dX0_faults_9 (by decide) (fun _ => ?_) (fun h9 => absurd (nI_le (by omega) (by omega)) h9)
      refine z_iload_n C 1 dX0_faults_30 rfl rfl ?_
      exact z_iret C hr hlocks (Nat.le_of_ble_eq_true rfl) (Nat.le_of_ble_eq_true rfl) dX0_faults_31 (by rfl) rfl
    | succ dd ih =>
      intro i hi
      refine z_iload_n C 2 dX0_faults_4 rfl rfl ?_
      refine z_aload_n C 0 dX0_faults_5 rfl rfl ?_
      refine z_get0 (v := .int (nI (xk v))) C inl 0 8 (by decide) rfl rfl wd0 dX0_faults_6 ?_
      refine z_icmp_ge (tgt := 30) C dX0_faults_9 (by decide) (fun h9 => absurd h9 (nI_ge (by omega) (by omega))) (fun _ => ?_)
      refine z_aload_n C 0 dX0_faults_12 rfl rfl ?_
      refine z_get0 (v := .ref (hh 7)) C inl 0 7 (by decide) rfl rfl wd1 dX0_faults_13 ?_
      refine z_iload_n C 2 dX0_faults_16 rfl rfl ?_
      refine z_iald (f := xx v) C 7 0 rfl rfl i rfl (by omega) (by decide) dX0_faults_17 ?_
      refine z_if_le (tgt := 24) C dX0_faults_18 (by decide) (fun c18 => ?_) (fun c18 => ?_)
      · skip
        refine z_iinc (v := nI (i + 1)) (L' := [(2, .int (nI (i + 1))), (0, .ref (hh 0)), (1, .int (xfltN (xx v) i))]) C 2 dX0_faults_24 rfl (z_inc _) (by decide) rfl ?_
        refine z_goto (tgt := 4) C dX0_faults_27 (by decide) ?_
        refine z_sub (L' := [(0, .ref (hh 0)), (1, .int (xfltN (xx v) i)), (2, .int (nI (i + 1)))]) [1, 2, 0] rfl ?_
        exact (by have e9 := ih (i + 1) (by omega); simp only [xfltN, c18, ↓reduceIte] at e9; exact e9)
      · skip
        refine z_iinc (v := xfltN (xx v) i + 1) (L' := [(1, .int (xfltN (xx v) i + 1)), (0, .ref (hh 0)), (2, .int (nI i))]) C 1 dX0_faults_21 rfl rfl (by decide) rfl ?_
        refine z_iinc (v := nI (i + 1)) (L' := [(2, .int (nI (i + 1))), (1, .int (xfltN (xx v) i + 1)), (0, .ref (hh 0))]) C 2 dX0_faults_24 rfl (z_inc _) (by decide) rfl ?_
        refine z_goto (tgt := 4) C dX0_faults_27 (by decide) ?_
        refine z_sub (L' := [(0, .ref (hh 0)), (1, .int (xfltN (xx v) i + 1)), (2, .int (nI (i + 1)))]) [2, 1, 0] rfl ?_
        exact (by have e9 := ih (i + 1) (by omega); simp only [xfltN, c18, ↓reduceIte] at e9; exact e9)
  refine z_iconst (v := 0) C dX0_faults_0 (by decide) ?_
  refine z_istore_n (L' := [(1, .int 0), (0, .ref (hh 0))]) C dX0_faults_1 rfl (by decide) rfl ?_
  refine z_iconst (v := 0) C dX0_faults_2 (by decide) ?_
  refine z_istore_n (L' := [(2, .int 0), (1, .int 0), (0, .ref (hh 0))]) C dX0_faults_3 rfl (by decide) rfl ?_
  refine z_sub (L' := [(0, .ref (hh 0)), (1, .int 0), (2, .int 0)]) [2, 1, 0] rfl ?_
  exact lp4 (xk v) 0 (by omega)
set_option maxHeartbeats 4000000 in
set_option maxRecDepth 100000 in
theorem c_X0_audit (l : Launch) (D : va_G) (hh : Nat → Nat) (cI cZ : ClassId) (v : S0) (hn : xn v ≤ 8) (hk : xk v ≤ 30) : zM l yX0_audit wsX0_audit 2 37 0 0 [.ref (hh 0)] [(cI, .int), (cZ, .boolean)] D (wX0 hh cI cZ v) (wX0 hh cI cZ (xaud v)) (some (.int (xflt v))) := by
  refine z_met (cc := cX0_audit) (maxL := 3) (ret := (some .int)) (by decide) rfl (Nat.le_of_ble_eq_true rfl) ?_
  intro p e s m args below meth c A C hr hlocks
  have inl : ∀ w ∈ u_ws RX0 TX0 14, w ∈ wsX0_audit := by decide +kernel
  have wd0 : Cond.fieldLink RX0 32 "SaltOrder" "memberCount" "I" ∈ wsX0_audit := by decide +kernel
  have wd1 : Cond.fieldLink RX0 36 "SaltOrder" "throwCount" "I" ∈ wsX0_audit := by decide +kernel
  have wd2 : Cond.fieldLink RX0 45 "SaltOrder" "found" "I" ∈ wsX0_audit := by decide +kernel
  refine z_sub (L' := [(0, .ref (hh 0))]) [0] rfl ?_
  have lp7 : ∀ (dd i : Nat), i + dd = xn v → zG p l e ({ frames := 2, cells := 0, slots := 0, locals := 37 } : Room) s m args below meth c D 3 A 0 0 (MQ below (zQ (some (.int (xflt v))) (fun t => va_P D vwCl (wX0 hh cI cZ (xaud v)) t.heap) A) args s 0 0 A) 7 [(0, .ref (hh 0)), (1, .int (xflt v)), (2, .int (nI i))] [] (wX0 hh cI cZ (xaudN v i)) := by
    intro dd
    induction dd with
    | zero =>
      intro i hi
      have hi : i = xn v := by omega
      subst hi
      have hn1 := xaudN_n v (xn v)
      have hk1 := xaudN_k v (xn v)
      refine z_iload_n C 2 dX0_audit_7 rfl rfl ?_
      refine z_aload_n C 0 dX0_audit_8 rfl rfl ?_
      refine z_get0 (v := .int (nI (xn (xaudN v (xn v))))) C inl 0 3 (by decide) rfl rfl wd0 dX0_audit_9 ?_
      refine z_icmp_ge (tgt := 31) C dX0_audit_12 (by decide) (fun _ => ?_) (fun h9 => absurd (nI_le (by omega) (by omega)) h9)
      refine z_aload_n C 0 dX0_audit_31 rfl rfl ?_
      refine z_iconst (v := 0) C dX0_audit_32 (by decide) ?_
      refine z_put0 (ws' := (wX0 hh cI cZ (xl (xaudN v (xn v)), xa (xaudN v (xn v)), xe (xaudN v (xn v)), xn (xaudN v (xn v)), xw (xaudN v (xn v)), xf (xaudN v (xn v)), xg (xaudN v (xn v)), xx (xaudN v (xn v)), 0, xc (xaudN v (xn v)), xd (xaudN v (xn v)), xo (xaudN v (xn v)), xy (xaudN v (xn v)), xb (xaudN v (xn v))))) C inl 0 8 (by decide) rfl rfl (by decide) rfl wd1 dX0_audit_33 ?_
      refine z_aload_n C 0 dX0_audit_36 rfl rfl ?_
      refine z_dup C dX0_audit_37 rfl ?_
      refine z_get0 (v := .int (xo (xaudN v (xn v)))) C inl 0 11 (by decide) rfl rfl wd2 dX0_audit_38 ?_
      refine z_iload_n C 1 dX0_audit_41 rfl rfl ?_
      refine z_iadd C dX0_audit_42 ?_
      refine z_put0 (ws' := (wX0 hh cI cZ (xl (xaudN v (xn v)), xa (xaudN v (xn v)), xe (xaudN v (xn v)), xn (xaudN v (xn v)), xw (xaudN v (xn v)), xf (xaudN v (xn v)), xg (xaudN v (xn v)), xx (xaudN v (xn v)), 0, xc (xaudN v (xn v)), xd (xaudN v (xn v)), (xo (xaudN v (xn v))) + (xflt v), xy (xaudN v (xn v)), xb (xaudN v (xn v))))) C inl 0 11 (by decide) rfl rfl (by decide) rfl wd2 dX0_audit_43 ?_
      refine z_iload_n C 1 dX0_audit_46 rfl rfl ?_
      exact z_iret C hr hlocks (Nat.le_of_ble_eq_true rfl) (Nat.le_of_ble_eq_true rfl) dX0_audit_47 rfl (congrArg (wX0 hh cI cZ) (by first | rfl | (simp only [xaud, ↓reduceIte]; done) | (simp only [xaud, ↓reduceIte]; rfl)))
    | succ dd ih =>
      intro i hi
      have hn1 := xaudN_n v i
      have hk1 := xaudN_k v i
      refine z_iload_n C 2 dX0_audit_7 rfl rfl ?_
      refine z_aload_n C 0 dX0_audit_8 rfl rfl ?_
      refine z_get0 (v := .int (nI (xn (xaudN v i)))) C inl 0 3 (by decide) rfl rfl wd0 dX0_audit_9 ?_
      refine z_icmp_ge (tgt := 31) C dX0_audit_12 (by decide) (fun h9 => absurd h9 (nI_ge (by omega) (by omega))) (fun _ => ?_)
      refine z_aload_n C 0 dX0_audit_15 rfl rfl ?_
      refine z_iload_n C 2 dX0_audit_16 rfl rfl ?_
      refine z_aload_n C 0 dX0_audit_17 rfl rfl ?_
      refine z_iload_n C 2 dX0_audit_18 rfl rfl ?_
      refine z_callV (w := (wX0 hh cI cZ (xaudN v i))) (w' := (wX0 hh cI cZ (xaudN v i))) (w1 := ([] : va_W)) (w2 := ([] : va_W)) (ws' := (wX0 hh cI cZ (xaudN v i))) (As := [.int (nI i)]) (rest := [.int (nI i), .ref (hh 0)]) (st' := [.int (xdebt (xaudN v i) (nI i)), .int (nI i), .ref (hh 0)]) (rv := some (.int (xdebt (xaudN v i) (nI i)))) C (c_X0_debtOf l D hh cI cZ (xaudN v i) (nI i) (by omega)) (cwV 1 C.words gX0_audit_X0_debtOf rfl rfl rfl (by decide +kernel) ⟨(Nat.le_of_ble_eq_true rfl), (Nat.le_of_ble_eq_true rfl)⟩) (q0 := 0) (ci := 0) rfl rfl rfl [0, 1] rfl rfl (Nat.le_of_ble_eq_true rfl) ⟨(Nat.le_of_ble_eq_true rfl), (Nat.le_of_ble_eq_true rfl)⟩ rfl rfl rfl rfl rfl dX0_audit_19 ?_
      obtain ⟨v1, hv1⟩ : ∃ z, z = xadd (xaudN v i) i (xdebt (xaudN v i) (nI i)) := ⟨_, rfl⟩
      refine z_callV (w := (wX0 hh cI cZ (xaudN v i))) (w' := (wX0 hh cI cZ v1)) (w1 := ([] : va_W)) (w2 := ([] : va_W)) (ws' := (wX0 hh cI cZ v1)) (As := [.int (nI i), .int (xdebt (xaudN v i) (nI i))]) (rest := []) (st' := []) (rv := none) C (by rw [hv1]; exact c_X0_addArrears l D hh cI cZ (xaudN v i) i (xdebt (xaudN v i) (nI i)) (by omega)) (cwV 2 C.words gX0_audit_X0_addArrears rfl rfl rfl (by decide +kernel) ⟨(Nat.le_of_ble_eq_true rfl), (Nat.le_of_ble_eq_true rfl)⟩) (q0 := 0) (ci := 0) rfl rfl rfl [0, 1] rfl rfl (Nat.le_of_ble_eq_true rfl) ⟨(Nat.le_of_ble_eq_true rfl), (Nat.le_of_ble_eq_true rfl)⟩ rfl rfl rfl rfl rfl dX0_audit_22 ?_
      have hv1k0 : xn v1 = xn (xaudN v i) := by rw [hv1]; exact (rfl : xn (xadd (xaudN v i) i (xdebt (xaudN v i) (nI i))) = xn (xaudN v i))
      have hv1k1 : xk v1 = xk (xaudN v i) := by rw [hv1]; exact (rfl : xk (xadd (xaudN v i) i (xdebt (xaudN v i) (nI i))) = xk (xaudN v i))
      refine z_iinc (v := nI (i + 1)) (L' := [(2, .int (nI (i + 1))), (0, .ref (hh 0)), (1, .int (xflt v))]) C 2 dX0_audit_25 rfl (z_inc _) (by decide) rfl ?_
      refine z_goto (tgt := 7) C dX0_audit_28 (by decide) ?_
      refine z_sub (L' := [(0, .ref (hh 0)), (1, .int (xflt v)), (2, .int (nI (i + 1)))]) [1, 2, 0] rfl ?_
      subst hv1
      exact ih (i + 1) (by omega)
  refine z_aload_n C 0 dX0_audit_0 rfl rfl ?_
  refine z_callV (w := (wX0 hh cI cZ v)) (w' := (wX0 hh cI cZ v)) (w1 := ([] : va_W)) (w2 := ([] : va_W)) (ws' := (wX0 hh cI cZ v)) (As := []) (rest := []) (st' := [.int (xflt v)]) (rv := some (.int (xflt v))) C (c_X0_faults l D hh cI cZ v (by omega)) (cwV 0 C.words gX0_audit_X0_faults rfl rfl rfl (by decide +kernel) ⟨(Nat.le_of_ble_eq_true rfl), (Nat.le_of_ble_eq_true rfl)⟩) (q0 := 0) (ci := 0) rfl rfl rfl [0, 1] rfl rfl (Nat.le_of_ble_eq_true rfl) ⟨(Nat.le_of_ble_eq_true rfl), (Nat.le_of_ble_eq_true rfl)⟩ rfl rfl rfl rfl rfl dX0_audit_1 ?_
  refine z_istore_n (L' := [(1, .int (xflt v)), (0, .ref (hh 0))]) C dX0_audit_4 rfl (by decide) rfl ?_
  refine z_iconst (v := 0) C dX0_audit_5 (by decide) ?_
  refine z_istore_n (L' := [(2, .int 0), (1, .int (xflt v)), (0, .ref (hh 0))]) C dX0_audit_6 rfl (by decide) rfl ?_
  refine z_sub (L' := [(0, .ref (hh 0)), (1, .int (xflt v)), (2, .int 0)]) [2, 1, 0] rfl ?_
  exact lp7 (xn v) 0 (by omega)
set_option maxHeartbeats 4000000 in
set_option maxRecDepth 100000 in
theorem c_X0_passOneDay (l : Launch) (D : va_G) (hh : Nat → Nat) (cI cZ : ClassId) (v : S0) (hn : xn v ≤ 8) (hk : xk v ≤ 30) : zM l yX0_passOneDay wsX0_passOneDay 3 59 0 0 [.ref (hh 0)] [(cI, .int), (cZ, .boolean)] D (wX0 hh cI cZ v) (wX0 hh cI cZ (xday v)) (some (.int (xdayF v))) := by
  refine z_met (cc := cX0_passOneDay) (maxL := 3) (ret := (some .int)) (by decide) rfl (Nat.le_of_ble_eq_true rfl) ?_
  intro p e s m args below meth c A C hr hlocks
  have inl : ∀ w ∈ u_ws RX0 TX0 14, w ∈ wsX0_passOneDay := by decide +kernel
  have wd0 : Cond.fieldLink RX0 32 "SaltOrder" "memberCount" "I" ∈ wsX0_passOneDay := by decide +kernel
  have wd1 : Cond.fieldLink RX0 42 "SaltOrder" "today" "I" ∈ wsX0_passOneDay := by decide +kernel
  refine z_sub (L' := [(0, .ref (hh 0))]) [0] rfl ?_
  have lp21 : ∀ (dd i : Nat), i + dd = xn v → zG p l e ({ frames := 3, cells := 0, slots := 0, locals := 59 } : Room) s m args below meth c D 3 A 0 0 (MQ below (zQ (some (.int (xdayF v))) (fun t => va_P D vwCl (wX0 hh cI cZ (xday v)) t.heap) A) args s 0 0 A) 21 [(0, .ref (hh 0)), (1, .int (xdayF v)), (2, .int (nI i))] [] (wX0 hh cI cZ (xeatN (xday1 v) i)) := by
    intro dd
    induction dd with
    | zero =>
      intro i hi
      have hi : i = xn v := by omega
      subst hi
      have hn1 : xn (xeatN (xday1 v) (xn v)) = xn v := (xeatN_n _ _).trans (xday1_n v)
      refine z_iload_n C 2 dX0_passOneDay_21 rfl rfl ?_
      refine z_aload_n C 0 dX0_passOneDay_22 rfl rfl ?_
      refine z_get0 (v := .int (nI (xn (xeatN (xday1 v) (xn v))))) C inl 0 3 (by decide) rfl rfl wd0 dX0_passOneDay_23 ?_
      refine z_icmp_ge (tgt := 40) C dX0_passOneDay_26 (by decide) (fun _ => ?_) (fun h9 => absurd (nI_le (by omega) (by omega)) h9)
      refine z_aload_n C 0 dX0_passOneDay_40 rfl rfl ?_
      refine z_dup C dX0_passOneDay_41 rfl ?_
      refine z_get0 (v := .int (xd (xeatN (xday1 v) (xn v)))) C inl 0 10 (by decide) rfl rfl wd1 dX0_passOneDay_42 ?_
      refine z_iconst (v := 1) C dX0_passOneDay_45 (by decide) ?_
      refine z_iadd C dX0_passOneDay_46 ?_
      refine z_put0 (ws' := (wX0 hh cI cZ (xl (xeatN (xday1 v) (xn v)), xa (xeatN (xday1 v) (xn v)), xe (xeatN (xday1 v) (xn v)), xn (xeatN (xday1 v) (xn v)), xw (xeatN (xday1 v) (xn v)), xf (xeatN (xday1 v) (xn v)), xg (xeatN (xday1 v) (xn v)), xx (xeatN (xday1 v) (xn v)), xk (xeatN (xday1 v) (xn v)), xc (xeatN (xday1 v) (xn v)), (xd (xeatN (xday1 v) (xn v))) + 1, xo (xeatN (xday1 v) (xn v)), xy (xeatN (xday1 v) (xn v)), xb (xeatN (xday1 v) (xn v))))) C inl 0 10 (by decide) rfl rfl (by decide) rfl wd1 dX0_passOneDay_47 ?_
      refine z_iload_n C 1 dX0_passOneDay_50 rfl rfl ?_
      exact z_iret C hr hlocks (Nat.le_of_ble_eq_true rfl) (Nat.le_of_ble_eq_true rfl) dX0_passOneDay_51 rfl (congrArg (wX0 hh cI cZ) (by first | rfl | (simp only [xday, xdayF, xday1, ↓reduceIte]; done) | (simp only [xday, xdayF, xday1, ↓reduceIte]; rfl)))
    | succ dd ih =>
      intro i hi
      have hn1 : xn (xeatN (xday1 v) i) = xn v := (xeatN_n _ i).trans (xday1_n v)
      refine z_iload_n C 2 dX0_passOneDay_21 rfl rfl ?_
      refine z_aload_n C 0 dX0_passOneDay_22 rfl rfl ?_
      refine z_get0 (v := .int (nI (xn (xeatN (xday1 v) i)))) C inl 0 3 (by decide) rfl rfl wd0 dX0_passOneDay_23 ?_
      refine z_icmp_ge (tgt := 40) C dX0_passOneDay_26 (by decide) (fun h9 => absurd h9 (nI_ge (by omega) (by omega))) (fun _ => ?_)
      refine z_aload_n C 0 dX0_passOneDay_29 rfl rfl ?_
      refine z_iload_n C 2 dX0_passOneDay_30 rfl rfl ?_
      obtain ⟨v1, hv1⟩ : ∃ z, z = xeat (xeatN (xday1 v) i) i := ⟨_, rfl⟩
      refine z_callV (w := (wX0 hh cI cZ (xeatN (xday1 v) i))) (w' := (wX0 hh cI cZ v1)) (w1 := ([] : va_W)) (w2 := ([] : va_W)) (ws' := (wX0 hh cI cZ v1)) (As := [.int (nI i)]) (rest := []) (st' := []) (rv := none) C (by rw [hv1]; exact c_X0_eatOrFeelLuck l D hh cI cZ (xeatN (xday1 v) i) i (by omega)) (cwV 1 C.words gX0_passOneDay_X0_eatOrFeelLuck rfl rfl rfl (by decide +kernel) ⟨(Nat.le_of_ble_eq_true rfl), (Nat.le_of_ble_eq_true rfl)⟩) (q0 := 0) (ci := 0) rfl rfl rfl [0, 1] rfl rfl (Nat.le_of_ble_eq_true rfl) ⟨(Nat.le_of_ble_eq_true rfl), (Nat.le_of_ble_eq_true rfl)⟩ rfl rfl rfl rfl rfl dX0_passOneDay_31 ?_
      have hv1k0 : xn v1 = xn (xeatN (xday1 v) i) := by rw [hv1]; exact xeat_n (xeatN (xday1 v) i) i
      have hv1k1 : xk v1 = xk (xeatN (xday1 v) i) := by rw [hv1]; exact xeat_k (xeatN (xday1 v) i) i
      refine z_iinc (v := nI (i + 1)) (L' := [(2, .int (nI (i + 1))), (0, .ref (hh 0)), (1, .int (xdayF v))]) C 2 dX0_passOneDay_34 rfl (z_inc _) (by decide) rfl ?_
      refine z_goto (tgt := 21) C dX0_passOneDay_37 (by decide) ?_
      refine z_sub (L' := [(0, .ref (hh 0)), (1, .int (xdayF v)), (2, .int (nI (i + 1)))]) [1, 2, 0] rfl ?_
      subst hv1
      exact ih (i + 1) (by omega)
  refine z_aload_n C 0 dX0_passOneDay_0 rfl rfl ?_
  refine z_get0 (v := .int (xd v)) C inl 0 10 (by decide) rfl rfl wd1 dX0_passOneDay_1 ?_
  refine z_callS (w := ([] : va_W)) (w' := ([] : va_W)) (w1 := (wX0 hh cI cZ v)) (w2 := ([] : va_W)) (ws' := (wX0 hh cI cZ v)) (As := [.int (xd v)]) (rest := []) (st' := [.int (isA (xd v))]) (rv := some (.int (isA (xd v)))) C (c_X0_isAuditDay l D (xd v)) (va_cwS 1 C.words gX0_passOneDay_X0_isAuditDay rfl rfl rfl (by decide +kernel) ⟨(Nat.le_of_ble_eq_true rfl), (Nat.le_of_ble_eq_true rfl)⟩) [] rfl rfl (Nat.le_of_ble_eq_true rfl) ⟨(Nat.le_of_ble_eq_true rfl), (Nat.le_of_ble_eq_true rfl)⟩ rfl rfl rfl rfl rfl dX0_passOneDay_4 ?_
  refine z_if_eq (tgt := 17) C dX0_passOneDay_7 (by decide) (fun c7 => ?_) (fun c7 => ?_)
  · skip
    refine z_iconst (v := 0) C dX0_passOneDay_17 (by decide) ?_
    refine z_istore_n (L' := [(1, .int 0), (0, .ref (hh 0))]) C dX0_passOneDay_18 rfl (by decide) rfl ?_
    refine z_iconst (v := 0) C dX0_passOneDay_19 (by decide) ?_
    refine z_istore_n (L' := [(2, .int 0), (1, .int 0), (0, .ref (hh 0))]) C dX0_passOneDay_20 rfl (by decide) rfl ?_
    refine z_sub (L' := [(0, .ref (hh 0)), (1, .int 0), (2, .int 0)]) [2, 1, 0] rfl ?_
    exact (by have e9 := lp21 (xn v) 0 (by omega); simp only [xeatN, xday1, xdayF, c7, ↓reduceIte] at e9 ⊢; exact e9)
  · skip
    refine z_aload_n C 0 dX0_passOneDay_10 rfl rfl ?_
    obtain ⟨v2, hv2⟩ : ∃ z, z = xaud v := ⟨_, rfl⟩
    refine z_callV (w := (wX0 hh cI cZ v)) (w' := (wX0 hh cI cZ v2)) (w1 := ([] : va_W)) (w2 := ([] : va_W)) (ws' := (wX0 hh cI cZ v2)) (As := []) (rest := []) (st' := [.int (xflt v)]) (rv := some (.int (xflt v))) C (by rw [hv2]; exact c_X0_audit l D hh cI cZ v (by omega) (by omega)) (cwV 0 C.words gX0_passOneDay_X0_audit rfl rfl rfl (by decide +kernel) ⟨(Nat.le_of_ble_eq_true rfl), (Nat.le_of_ble_eq_true rfl)⟩) (q0 := 0) (ci := 0) rfl rfl rfl [0, 1] rfl rfl (Nat.le_of_ble_eq_true rfl) ⟨(Nat.le_of_ble_eq_true rfl), (Nat.le_of_ble_eq_true rfl)⟩ rfl rfl rfl rfl rfl dX0_passOneDay_11 ?_
    have hv2k0 : xn v2 = xn v := by rw [hv2]; exact xaud_n v
    refine z_goto (tgt := 18) C dX0_passOneDay_14 (by decide) ?_
    refine z_istore_n (L' := [(1, .int (xflt v)), (0, .ref (hh 0))]) C dX0_passOneDay_18 rfl (by decide) rfl ?_
    refine z_iconst (v := 0) C dX0_passOneDay_19 (by decide) ?_
    refine z_istore_n (L' := [(2, .int 0), (1, .int (xflt v)), (0, .ref (hh 0))]) C dX0_passOneDay_20 rfl (by decide) rfl ?_
    refine z_sub (L' := [(0, .ref (hh 0)), (1, .int (xflt v)), (2, .int 0)]) [2, 1, 0] rfl ?_
    subst hv2
    exact (by have e9 := lp21 (xn v) 0 (by omega); simp only [xeatN, xday1, xdayF, c7, ↓reduceIte] at e9 ⊢; exact e9)
end
section
set_option maxHeartbeats 4000000 in
set_option maxRecDepth 100000 in
theorem c_X0_checkAmount (l : Launch) (D : va_G) (x mo : Int32) (h1 : ¬ x < 1) (h2 : x ≤ mo) : zM l yX0_checkAmount wsX0_checkAmount 0 0 0 0 [.int x, .int mo] [] D ([] : va_W) ([] : va_W) none := by
  refine z_met (cc := cX0_checkAmount) (maxL := 2) (ret := none) (by decide) rfl (Nat.le_of_ble_eq_true rfl) ?_
  intro p e s m args below meth c A C hr hlocks
  refine z_sub (L' := [(0, .int x), (1, .int mo)]) [0, 1] rfl ?_
  refine z_iload_n C 0 dX0_checkAmount_0 rfl rfl ?_
  refine z_iconst (v := 1) C dX0_checkAmount_1 (by decide) ?_
  refine z_icmp_lt (tgt := 10) C dX0_checkAmount_2 (by decide) (fun h9 => absurd h9 (h1)) (fun _ => ?_)
  refine z_iload_n C 0 dX0_checkAmount_5 rfl rfl ?_
  refine z_iload_n C 1 dX0_checkAmount_6 rfl rfl ?_
  refine z_icmp_le (tgt := 20) C dX0_checkAmount_7 (by decide) (fun _ => ?_) (fun h9 => absurd (h2) h9)
  exact z_vret C hr hlocks (Nat.le_of_ble_eq_true rfl) (Nat.le_of_ble_eq_true rfl) dX0_checkAmount_20 rfl
set_option maxHeartbeats 4000000 in
set_option maxRecDepth 100000 in
theorem c_X0_checkMember (l : Launch) (D : va_G) (hh : Nat → Nat) (cI cZ : ClassId) (v : S0) (j : Nat) (hj : j < xn v) (hn : xn v ≤ 8) : zM l yX0_checkMember wsX0_checkMember 0 0 0 0 [.ref (hh 0), .int (nI j)] [(cI, .int), (cZ, .boolean)] D (wX0 hh cI cZ v) (wX0 hh cI cZ v) none := by
  refine z_met (cc := cX0_checkMember) (maxL := 2) (ret := none) (by decide) rfl (Nat.le_of_ble_eq_true rfl) ?_
  intro p e s m args below meth c A C hr hlocks
  have inl : ∀ w ∈ u_ws RX0 TX0 14, w ∈ wsX0_checkMember := by decide +kernel
  have wd0 : Cond.fieldLink RX0 32 "SaltOrder" "memberCount" "I" ∈ wsX0_checkMember := by decide +kernel
  refine z_sub (L' := [(0, .ref (hh 0)), (1, .int (nI j))]) [0, 1] rfl ?_
  refine z_iload_n C 1 dX0_checkMember_0 rfl rfl ?_
  refine z_if_lt (tgt := 12) C dX0_checkMember_1 (by decide) (fun h9 => absurd h9 (nI_pos (by omega))) (fun _ => ?_)
  refine z_iload_n C 1 dX0_checkMember_4 rfl rfl ?_
  refine z_aload_n C 0 dX0_checkMember_5 rfl rfl ?_
  refine z_get0 (v := .int (nI (xn v))) C inl 0 3 (by decide) rfl rfl wd0 dX0_checkMember_6 ?_
  refine z_icmp_lt (tgt := 22) C dX0_checkMember_9 (by decide) (fun _ => ?_) (fun h9 => absurd (nI_lt (by omega) (by omega)) h9)
  exact z_vret C hr hlocks (Nat.le_of_ble_eq_true rfl) (Nat.le_of_ble_eq_true rfl) dX0_checkMember_22 rfl
set_option maxHeartbeats 4000000 in
set_option maxRecDepth 100000 in
theorem c_X0_checkEntry (l : Launch) (D : va_G) (hh : Nat → Nat) (cI cZ : ClassId) (v : S0) (j : Nat) (hj : j < xk v) (hk : xk v ≤ 30) : zM l yX0_checkEntry wsX0_checkEntry 0 0 0 0 [.ref (hh 0), .int (nI j)] [(cI, .int), (cZ, .boolean)] D (wX0 hh cI cZ v) (wX0 hh cI cZ v) none := by
  refine z_met (cc := cX0_checkEntry) (maxL := 2) (ret := none) (by decide) rfl (Nat.le_of_ble_eq_true rfl) ?_
  intro p e s m args below meth c A C hr hlocks
  have inl : ∀ w ∈ u_ws RX0 TX0 14, w ∈ wsX0_checkEntry := by decide +kernel
  have wd0 : Cond.fieldLink RX0 36 "SaltOrder" "throwCount" "I" ∈ wsX0_checkEntry := by decide +kernel
  refine z_sub (L' := [(0, .ref (hh 0)), (1, .int (nI j))]) [0, 1] rfl ?_
  refine z_iload_n C 1 dX0_checkEntry_0 rfl rfl ?_
  refine z_if_lt (tgt := 12) C dX0_checkEntry_1 (by decide) (fun h9 => absurd h9 (nI_pos (by omega))) (fun _ => ?_)
  refine z_iload_n C 1 dX0_checkEntry_4 rfl rfl ?_
  refine z_aload_n C 0 dX0_checkEntry_5 rfl rfl ?_
  refine z_get0 (v := .int (nI (xk v))) C inl 0 8 (by decide) rfl rfl wd0 dX0_checkEntry_6 ?_
  refine z_icmp_lt (tgt := 22) C dX0_checkEntry_9 (by decide) (fun _ => ?_) (fun h9 => absurd (nI_lt (by omega) (by omega)) h9)
  exact z_vret C hr hlocks (Nat.le_of_ble_eq_true rfl) (Nat.le_of_ble_eq_true rfl) dX0_checkEntry_22 rfl
set_option maxHeartbeats 4000000 in
set_option maxRecDepth 100000 in
theorem c_X0_checkShoulder (l : Launch) (D : va_G) (b : Int32) (hb : b = 0 ∨ b = 1) : zM l yX0_checkShoulder wsX0_checkShoulder 0 0 0 0 [.int b] [] D ([] : va_W) ([] : va_W) none := by
  refine z_met (cc := cX0_checkShoulder) (maxL := 1) (ret := none) (by decide) rfl (Nat.le_of_ble_eq_true rfl) ?_
  intro p e s m args below meth c A C hr hlocks
  refine z_sub (L' := [(0, .int b)]) [0] rfl ?_
  refine z_iload_n C 0 dX0_checkShoulder_0 rfl rfl ?_
  refine z_if_eq (tgt := 19) C dX0_checkShoulder_1 (by decide) (fun c1 => ?_) (fun c1 => ?_)
  · skip
    exact z_vret C hr hlocks (Nat.le_of_ble_eq_true rfl) (Nat.le_of_ble_eq_true rfl) dX0_checkShoulder_19 rfl
  · skip
    refine z_iload_n C 0 dX0_checkShoulder_4 rfl rfl ?_
    refine z_iconst (v := 1) C dX0_checkShoulder_5 (by decide) ?_
    refine z_icmp_eq (tgt := 19) C dX0_checkShoulder_6 (by decide) (fun _ => ?_) (fun h9 => absurd (hb.resolve_left c1) h9)
    exact z_vret C hr hlocks (Nat.le_of_ble_eq_true rfl) (Nat.le_of_ble_eq_true rfl) dX0_checkShoulder_19 rfl
set_option maxHeartbeats 4000000 in
set_option maxRecDepth 100000 in
theorem c_X0_checkCellar (l : Launch) (D : va_G) (hh : Nat → Nat) (cI cZ : ClassId) (v : S0) (g : Int32) (hg : g ≤ nI (xc v)) : zM l yX0_checkCellar wsX0_checkCellar 0 0 0 0 [.ref (hh 0), .int g] [(cI, .int), (cZ, .boolean)] D (wX0 hh cI cZ v) (wX0 hh cI cZ v) none := by
  refine z_met (cc := cX0_checkCellar) (maxL := 2) (ret := none) (by decide) rfl (Nat.le_of_ble_eq_true rfl) ?_
  intro p e s m args below meth c A C hr hlocks
  have inl : ∀ w ∈ u_ws RX0 TX0 14, w ∈ wsX0_checkCellar := by decide +kernel
  have wd0 : Cond.fieldLink RX0 39 "SaltOrder" "cellar" "I" ∈ wsX0_checkCellar := by decide +kernel
  refine z_sub (L' := [(0, .ref (hh 0)), (1, .int g)]) [0, 1] rfl ?_
  refine z_aload_n C 0 dX0_checkCellar_0 rfl rfl ?_
  refine z_get0 (v := .int (nI (xc v))) C inl 0 9 (by decide) rfl rfl wd0 dX0_checkCellar_1 ?_
  refine z_iload_n C 1 dX0_checkCellar_4 rfl rfl ?_
  refine z_icmp_ge (tgt := 18) C dX0_checkCellar_5 (by decide) (fun _ => ?_) (fun h9 => absurd (hg) h9)
  exact z_vret C hr hlocks (Nat.le_of_ble_eq_true rfl) (Nat.le_of_ble_eq_true rfl) dX0_checkCellar_18 rfl
set_option maxHeartbeats 4000000 in
set_option maxRecDepth 100000 in
theorem c_X0_checkLedgerHasRoom (l : Launch) (D : va_G) (hh : Nat → Nat) (cI cZ : ClassId) (v : S0) (hk : xk v < 30) : zM l yX0_checkLedgerHasRoom wsX0_checkLedgerHasRoom 0 0 0 0 [.ref (hh 0)] [(cI, .int), (cZ, .boolean)] D (wX0 hh cI cZ v) (wX0 hh cI cZ v) none := by
  refine z_met (cc := cX0_checkLedgerHasRoom) (maxL := 1) (ret := none) (by decide) rfl (Nat.le_of_ble_eq_true rfl) ?_
  intro p e s m args below meth c A C hr hlocks
  have inl : ∀ w ∈ u_ws RX0 TX0 14, w ∈ wsX0_checkLedgerHasRoom := by decide +kernel
  have wd0 : Cond.fieldLink RX0 36 "SaltOrder" "throwCount" "I" ∈ wsX0_checkLedgerHasRoom := by decide +kernel
  refine z_sub (L' := [(0, .ref (hh 0))]) [0] rfl ?_
  refine z_aload_n C 0 dX0_checkLedgerHasRoom_0 rfl rfl ?_
  refine z_get0 (v := .int (nI (xk v))) C inl 0 8 (by decide) rfl rfl wd0 dX0_checkLedgerHasRoom_1 ?_
  refine z_bipush (v := 30) C dX0_checkLedgerHasRoom_4 (by decide) ?_
  refine z_icmp_lt (tgt := 19) C dX0_checkLedgerHasRoom_6 (by decide) (fun _ => ?_) (fun h9 => absurd (nI_lt (b := 30) (by omega) (by omega)) h9)
  exact z_vret C hr hlocks (Nat.le_of_ble_eq_true rfl) (Nat.le_of_ble_eq_true rfl) dX0_checkLedgerHasRoom_19 rfl
set_option maxHeartbeats 4000000 in
set_option maxRecDepth 100000 in
theorem c_X0_pass (l : Launch) (D : va_G) (hh : Nat → Nat) (cI cZ : ClassId) (v : S0) (d : Nat) (h1 : 1 ≤ d) (h2 : d ≤ 60) (hn : xn v ≤ 8) (hk : xk v ≤ 30) : zM l yX0_pass wsX0_pass 4 81 0 0 [.ref (hh 0), .int (nI d)] [(cI, .int), (cZ, .boolean)] D (wX0 hh cI cZ v) (wX0 hh cI cZ (xpass v d)) (some (.int (xpassF v d))) := by
  refine z_met (cc := cX0_pass) (maxL := 4) (ret := (some .int)) (by decide) rfl (Nat.le_of_ble_eq_true rfl) ?_
  intro p e s m args below meth c A C hr hlocks
  have inl : ∀ w ∈ u_ws RX0 TX0 14, w ∈ wsX0_pass := by decide +kernel
  refine z_sub (L' := [(0, .ref (hh 0)), (1, .int (nI d))]) [0, 1] rfl ?_
  have lp10 : ∀ (dd i : Nat), i + dd = d → zG p l e ({ frames := 4, cells := 0, slots := 0, locals := 81 } : Room) s m args below meth c D 4 A 0 0 (MQ below (zQ (some (.int (xpassF v d))) (fun t => va_P D vwCl (wX0 hh cI cZ (xpass v d)) t.heap) A) args s 0 0 A) 10 [(0, .ref (hh 0)), (1, .int (nI d)), (2, .int (xpassF v i)), (3, .int (nI i))] [] (wX0 hh cI cZ (xpass v i)) := by
    intro dd
    induction dd with
    | zero =>
      intro i hi
      obtain rfl : d = i := by omega
      refine z_iload_n C 3 dX0_pass_10 rfl rfl ?_
      refine z_iload_n C 1 dX0_pass_11 rfl rfl ?_
      refine z_icmp_ge (tgt := 28) C dX0_pass_12 (by decide) (fun _ => ?_) (fun h9 => absurd (nI_le (by omega) (by omega)) h9)
      refine z_iload_n C 2 dX0_pass_28 rfl rfl ?_
      exact z_iret C hr hlocks (Nat.le_of_ble_eq_true rfl) (Nat.le_of_ble_eq_true rfl) dX0_pass_29 rfl rfl
    | succ dd ih =>
      intro i hi
      have hn1 := xpass_n v i
      have hk1 := xpass_k v i
      refine z_iload_n C 3 dX0_pass_10 rfl rfl ?_
      refine z_iload_n C 1 dX0_pass_11 rfl rfl ?_
      refine z_icmp_ge (tgt := 28) C dX0_pass_12 (by decide) (fun h9 => absurd h9 (nI_ge (by omega) (by omega))) (fun _ => ?_)
      refine z_iload_n C 2 dX0_pass_15 rfl rfl ?_
      refine z_aload_n C 0 dX0_pass_16 rfl rfl ?_
      obtain ⟨v1, hv1⟩ : ∃ z, z = xday (xpass v i) := ⟨_, rfl⟩
      refine z_callV (w := (wX0 hh cI cZ (xpass v i))) (w' := (wX0 hh cI cZ v1)) (w1 := ([] : va_W)) (w2 := ([] : va_W)) (ws' := (wX0 hh cI cZ v1)) (As := []) (rest := [.int (xpassF v i)]) (st' := [.int (xdayF (xpass v i)), .int (xpassF v i)]) (rv := some (.int (xdayF (xpass v i)))) C (by rw [hv1]; exact c_X0_passOneDay l D hh cI cZ (xpass v i) (by omega) (by omega)) (cwV 0 C.words gX0_pass_X0_passOneDay rfl rfl rfl (by decide +kernel) ⟨(Nat.le_of_ble_eq_true rfl), (Nat.le_of_ble_eq_true rfl)⟩) (q0 := 0) (ci := 0) rfl rfl rfl [0, 1] rfl rfl (Nat.le_of_ble_eq_true rfl) ⟨(Nat.le_of_ble_eq_true rfl), (Nat.le_of_ble_eq_true rfl)⟩ rfl rfl rfl rfl rfl dX0_pass_17 ?_
      have hv1k0 : xn v1 = xn (xpass v i) := by rw [hv1]; exact xday_n (xpass v i)
      refine z_iadd C dX0_pass_20 ?_
      refine z_istore_n (L' := [(2, .int ((xpassF v i) + (xdayF (xpass v i)))), (0, .ref (hh 0)), (1, .int (nI d)), (3, .int (nI i))]) C dX0_pass_21 rfl (by decide) rfl ?_
      refine z_iinc (v := nI (i + 1)) (L' := [(3, .int (nI (i + 1))), (2, .int ((xpassF v i) + (xdayF (xpass v i)))), (0, .ref (hh 0)), (1, .int (nI d))]) C 3 dX0_pass_22 rfl (z_inc _) (by decide) rfl ?_
      refine z_goto (tgt := 10) C dX0_pass_25 (by decide) ?_
      refine z_sub (L' := [(0, .ref (hh 0)), (1, .int (nI d)), (2, .int ((xpassF v i) + (xdayF (xpass v i)))), (3, .int (nI (i + 1)))]) [2, 3, 1, 0] rfl ?_
      subst hv1
      exact ih (i + 1) (by omega)
  refine z_iload_n C 1 dX0_pass_0 rfl rfl ?_
  refine z_bipush (v := 60) C dX0_pass_1 (by decide) ?_
  refine z_callS (w := ([] : va_W)) (w' := ([] : va_W)) (w1 := (wX0 hh cI cZ v)) (w2 := ([] : va_W)) (ws' := (wX0 hh cI cZ v)) (As := [.int (nI d), .int 60]) (rest := []) (st' := []) (rv := none) C (c_X0_checkAmount l D (nI d) 60 (nI_nlt (by omega) (by omega)) (nI_le (b := 60) (by omega) (by omega))) (va_cwS 2 C.words gX0_pass_X0_checkAmount rfl rfl rfl (by decide +kernel) ⟨(Nat.le_of_ble_eq_true rfl), (Nat.le_of_ble_eq_true rfl)⟩) [] rfl rfl (Nat.le_of_ble_eq_true rfl) ⟨(Nat.le_of_ble_eq_true rfl), (Nat.le_of_ble_eq_true rfl)⟩ rfl rfl rfl rfl rfl dX0_pass_3 ?_
  refine z_iconst (v := 0) C dX0_pass_6 (by decide) ?_
  refine z_istore_n (L' := [(2, .int 0), (0, .ref (hh 0)), (1, .int (nI d))]) C dX0_pass_7 rfl (by decide) rfl ?_
  refine z_iconst (v := 0) C dX0_pass_8 (by decide) ?_
  refine z_istore_n (L' := [(3, .int 0), (2, .int 0), (0, .ref (hh 0)), (1, .int (nI d))]) C dX0_pass_9 rfl (by decide) rfl ?_
  refine z_sub (L' := [(0, .ref (hh 0)), (1, .int (nI d)), (2, .int 0), (3, .int 0)]) [2, 3, 1, 0] rfl ?_
  exact lp10 d 0 (by omega)
set_option maxHeartbeats 4000000 in
set_option maxRecDepth 100000 in
theorem c_X0_writeThrow (l : Launch) (D : va_G) (hh : Nat → Nat) (cI cZ : ClassId) (v : S0) (j b g z : Int32) (hk : xk v < 30) (hb : b = 0 ∨ b = 1) : zM l yX0_writeThrow wsX0_writeThrow 0 0 0 0 [.ref (hh 0), .int j, .int b, .int g, .int z] [(cI, .int), (cZ, .boolean)] D (wX0 hh cI cZ v) (wX0 hh cI cZ (xwrite v j b g z)) none := by
  refine z_met (cc := cX0_writeThrow) (maxL := 5) (ret := none) (by decide) rfl (Nat.le_of_ble_eq_true rfl) ?_
  intro p e s m args below meth c A C hr hlocks
  have inl : ∀ w ∈ u_ws RX0 TX0 14, w ∈ wsX0_writeThrow := by decide +kernel
  have wd0 : Cond.fieldLink RX0 19 "SaltOrder" "throwers" "[I" ∈ wsX0_writeThrow := by decide +kernel
  have wd1 : Cond.fieldLink RX0 36 "SaltOrder" "throwCount" "I" ∈ wsX0_writeThrow := by decide +kernel
  have wd2 : Cond.fieldLink RX0 22 "SaltOrder" "lefts" "[Z" ∈ wsX0_writeThrow := by decide +kernel
  have wd3 : Cond.fieldLink RX0 26 "SaltOrder" "thrown" "[I" ∈ wsX0_writeThrow := by decide +kernel
  have wd4 : Cond.fieldLink RX0 29 "SaltOrder" "excesses" "[I" ∈ wsX0_writeThrow := by decide +kernel
  refine z_sub (L' := [(0, .ref (hh 0)), (1, .int j), (2, .int b), (3, .int g), (4, .int z)]) [0, 1, 2, 3, 4] rfl ?_
  refine z_aload_n C 0 dX0_writeThrow_0 rfl rfl ?_
  refine z_get0 (v := .ref (hh 4)) C inl 0 4 (by decide) rfl rfl wd0 dX0_writeThrow_1 ?_
  refine z_aload_n C 0 dX0_writeThrow_4 rfl rfl ?_
  refine z_get0 (v := .int (nI (xk v))) C inl 0 8 (by decide) rfl rfl wd1 dX0_writeThrow_5 ?_
  refine z_iload_n C 1 dX0_writeThrow_8 rfl rfl ?_
  refine z_iast (ws' := (wX0 hh cI cZ (xl v, xa v, xe v, xn v, upd (xw v) (xk v) j, xf v, xg v, xx v, xk v, xc v, xd v, xo v, xy v, xb v))) C 4 0 rfl rfl (xk v) rfl (by omega) (by decide) rfl dX0_writeThrow_9 ?_
  refine z_aload_n C 0 dX0_writeThrow_10 rfl rfl ?_
  refine z_get0 (v := .ref (hh 5)) C inl 0 5 (by decide) rfl rfl wd2 dX0_writeThrow_11 ?_
  refine z_aload_n C 0 dX0_writeThrow_14 rfl rfl ?_
  refine z_get0 (v := .int (nI (xk v))) C inl 0 8 (by decide) rfl rfl wd1 dX0_writeThrow_15 ?_
  refine z_iload_n C 2 dX0_writeThrow_18 rfl rfl ?_
  refine z_zast (ws' := (wX0 hh cI cZ (xl v, xa v, xe v, xn v, upd (xw v) (xk v) j, upd (xf v) (xk v) b, xg v, xx v, xk v, xc v, xd v, xo v, xy v, xb v))) C 5 1 rfl rfl (xk v) rfl (by omega) (by decide) hb rfl dX0_writeThrow_19 ?_
  refine z_aload_n C 0 dX0_writeThrow_20 rfl rfl ?_
  refine z_get0 (v := .ref (hh 6)) C inl 0 6 (by decide) rfl rfl wd3 dX0_writeThrow_21 ?_
  refine z_aload_n C 0 dX0_writeThrow_24 rfl rfl ?_
  refine z_get0 (v := .int (nI (xk v))) C inl 0 8 (by decide) rfl rfl wd1 dX0_writeThrow_25 ?_
  refine z_iload_n C 3 dX0_writeThrow_28 rfl rfl ?_
  refine z_iast (ws' := (wX0 hh cI cZ (xl v, xa v, xe v, xn v, upd (xw v) (xk v) j, upd (xf v) (xk v) b, upd (xg v) (xk v) g, xx v, xk v, xc v, xd v, xo v, xy v, xb v))) C 6 0 rfl rfl (xk v) rfl (by omega) (by decide) rfl dX0_writeThrow_29 ?_
  refine z_aload_n C 0 dX0_writeThrow_30 rfl rfl ?_
  refine z_get0 (v := .ref (hh 7)) C inl 0 7 (by decide) rfl rfl wd4 dX0_writeThrow_31 ?_
  refine z_aload_n C 0 dX0_writeThrow_34 rfl rfl ?_
  refine z_get0 (v := .int (nI (xk v))) C inl 0 8 (by decide) rfl rfl wd1 dX0_writeThrow_35 ?_
  refine z_iload C 4 dX0_writeThrow_38 rfl ?_
  refine z_iast (ws' := (wX0 hh cI cZ (xl v, xa v, xe v, xn v, upd (xw v) (xk v) j, upd (xf v) (xk v) b, upd (xg v) (xk v) g, upd (xx v) (xk v) z, xk v, xc v, xd v, xo v, xy v, xb v))) C 7 0 rfl rfl (xk v) rfl (by omega) (by decide) rfl dX0_writeThrow_40 ?_
  refine z_aload_n C 0 dX0_writeThrow_41 rfl rfl ?_
  refine z_dup C dX0_writeThrow_42 rfl ?_
  refine z_get0 (v := .int (nI (xk v))) C inl 0 8 (by decide) rfl rfl wd1 dX0_writeThrow_43 ?_
  refine z_iconst (v := 1) C dX0_writeThrow_46 (by decide) ?_
  refine z_iadd C dX0_writeThrow_47 ?_
  refine z_top (y := nI ((xk v) + 1)) (z_1 _) ?_
  refine z_put0 (ws' := (wX0 hh cI cZ (xl v, xa v, xe v, xn v, upd (xw v) (xk v) j, upd (xf v) (xk v) b, upd (xg v) (xk v) g, upd (xx v) (xk v) z, ((xk v) + 1), xc v, xd v, xo v, xy v, xb v))) C inl 0 8 (by decide) rfl rfl (by decide) rfl wd1 dX0_writeThrow_48 ?_
  exact z_vret C hr hlocks (Nat.le_of_ble_eq_true rfl) (Nat.le_of_ble_eq_true rfl) dX0_writeThrow_51 (congrArg (wX0 hh cI cZ) (by first | rfl | (simp only [xwrite, ↓reduceIte]; done) | (simp only [xwrite, ↓reduceIte]; rfl)))
end
section
set_option maxHeartbeats 4000000 in
set_option maxRecDepth 100000 in
theorem c_X0_join (l : Launch) (D : va_G) (hh : Nat → Nat) (cI cZ : ClassId) (v : S0) (hn : xn v < 8) : zM l yX0_join wsX0_join 0 0 0 0 [.ref (hh 0)] [(cI, .int), (cZ, .boolean)] D (wX0 hh cI cZ v) (wX0 hh cI cZ (xjoin v)) (some (.int (nI (xn v)))) := by
  refine z_met (cc := cX0_join) (maxL := 2) (ret := (some .int)) (by decide) rfl (Nat.le_of_ble_eq_true rfl) ?_
  intro p e s m args below meth c A C hr hlocks
  have inl : ∀ w ∈ u_ws RX0 TX0 14, w ∈ wsX0_join := by decide +kernel
  have wd0 : Cond.fieldLink RX0 32 "SaltOrder" "memberCount" "I" ∈ wsX0_join := by decide +kernel
  have wd1 : Cond.fieldLink RX0 9 "SaltOrder" "luck" "[I" ∈ wsX0_join := by decide +kernel
  have wd2 : Cond.fieldLink RX0 13 "SaltOrder" "arrears" "[I" ∈ wsX0_join := by decide +kernel
  have wd3 : Cond.fieldLink RX0 16 "SaltOrder" "toEat" "[I" ∈ wsX0_join := by decide +kernel
  refine z_sub (L' := [(0, .ref (hh 0))]) [0] rfl ?_
  refine z_aload_n C 0 dX0_join_0 rfl rfl ?_
  refine z_get0 (v := .int (nI (xn v))) C inl 0 3 (by decide) rfl rfl wd0 dX0_join_1 ?_
  refine z_bipush (v := 8) C dX0_join_4 (by decide) ?_
  refine z_icmp_lt (tgt := 19) C dX0_join_6 (by decide) (fun _ => ?_) (fun h9 => absurd (nI_lt (b := 8) (by omega) (by omega)) h9)
  refine z_aload_n C 0 dX0_join_19 rfl rfl ?_
  refine z_get0 (v := .int (nI (xn v))) C inl 0 3 (by decide) rfl rfl wd0 dX0_join_20 ?_
  refine z_istore_n (L' := [(1, .int (nI (xn v))), (0, .ref (hh 0))]) C dX0_join_23 rfl (by decide) rfl ?_
  refine z_aload_n C 1 dX0_join_24 rfl rfl ?_
  refine z_get0 (v := .ref (hh 1)) C inl 0 0 (by decide) rfl rfl wd1 dX0_join_25 ?_
  refine z_iload_n C 0 dX0_join_28 rfl rfl ?_
  refine z_bipush (v := 50) C dX0_join_29 (by decide) ?_
  refine z_iast (ws' := (wX0 hh cI cZ (upd (xl v) (xn v) 50, xa v, xe v, xn v, xw v, xf v, xg v, xx v, xk v, xc v, xd v, xo v, xy v, xb v))) C 1 0 rfl rfl (xn v) rfl (by omega) (by decide) rfl dX0_join_31 ?_
  refine z_aload_n C 1 dX0_join_32 rfl rfl ?_
  refine z_get0 (v := .ref (hh 2)) C inl 0 1 (by decide) rfl rfl wd2 dX0_join_33 ?_
  refine z_iload_n C 0 dX0_join_36 rfl rfl ?_
  refine z_iconst (v := 0) C dX0_join_37 (by decide) ?_
  refine z_iast (ws' := (wX0 hh cI cZ (upd (xl v) (xn v) 50, upd (xa v) (xn v) 0, xe v, xn v, xw v, xf v, xg v, xx v, xk v, xc v, xd v, xo v, xy v, xb v))) C 2 0 rfl rfl (xn v) rfl (by omega) (by decide) rfl dX0_join_38 ?_
  refine z_aload_n C 1 dX0_join_39 rfl rfl ?_
  refine z_get0 (v := .ref (hh 3)) C inl 0 2 (by decide) rfl rfl wd3 dX0_join_40 ?_
  refine z_iload_n C 0 dX0_join_43 rfl rfl ?_
  refine z_iconst (v := 0) C dX0_join_44 (by decide) ?_
  refine z_iast (ws' := (wX0 hh cI cZ (upd (xl v) (xn v) 50, upd (xa v) (xn v) 0, upd (xe v) (xn v) 0, xn v, xw v, xf v, xg v, xx v, xk v, xc v, xd v, xo v, xy v, xb v))) C 3 0 rfl rfl (xn v) rfl (by omega) (by decide) rfl dX0_join_45 ?_
  refine z_aload_n C 1 dX0_join_46 rfl rfl ?_
  refine z_dup C dX0_join_47 rfl ?_
  refine z_get0 (v := .int (nI (xn v))) C inl 0 3 (by decide) rfl rfl wd0 dX0_join_48 ?_
  refine z_iconst (v := 1) C dX0_join_51 (by decide) ?_
  refine z_iadd C dX0_join_52 ?_
  refine z_top (y := nI ((xn v) + 1)) (z_1 _) ?_
  refine z_put0 (ws' := (wX0 hh cI cZ (upd (xl v) (xn v) 50, upd (xa v) (xn v) 0, upd (xe v) (xn v) 0, ((xn v) + 1), xw v, xf v, xg v, xx v, xk v, xc v, xd v, xo v, xy v, xb v))) C inl 0 3 (by decide) rfl rfl (by decide) rfl wd0 dX0_join_53 ?_
  refine z_iload_n C 0 dX0_join_56 rfl rfl ?_
  exact z_iret C hr hlocks (Nat.le_of_ble_eq_true rfl) (Nat.le_of_ble_eq_true rfl) dX0_join_57 rfl (congrArg (wX0 hh cI cZ) (by first | rfl | (simp only [xjoin, ↓reduceIte]; done) | (simp only [xjoin, ↓reduceIte]; rfl)))
set_option maxHeartbeats 4000000 in
set_option maxRecDepth 100000 in
theorem c_X0_spill (l : Launch) (D : va_G) (hh : Nat → Nat) (cI cZ : ClassId) (v : S0) (j g : Nat) (hj : j < xn v) (hn : xn v ≤ 8) (h1 : 1 ≤ g) (h2 : g ≤ 30) (hc : g ≤ xc v) (hc5 : xc v ≤ 500) : zM l yX0_spill wsX0_spill 2 37 0 0 [.ref (hh 0), .int (nI j), .int (nI g)] [(cI, .int), (cZ, .boolean)] D (wX0 hh cI cZ v) (wX0 hh cI cZ (xspill v j g)) (some (.int (xa (xspill v j g) j))) := by
  refine z_met (cc := cX0_spill) (maxL := 3) (ret := (some .int)) (by decide) rfl (Nat.le_of_ble_eq_true rfl) ?_
  intro p e s m args below meth c A C hr hlocks
  have inl : ∀ w ∈ u_ws RX0 TX0 14, w ∈ wsX0_spill := by decide +kernel
  have wd0 : Cond.fieldLink RX0 39 "SaltOrder" "cellar" "I" ∈ wsX0_spill := by decide +kernel
  have wd1 : Cond.fieldLink RX0 13 "SaltOrder" "arrears" "[I" ∈ wsX0_spill := by decide +kernel
  refine z_sub (L' := [(0, .ref (hh 0)), (1, .int (nI j)), (2, .int (nI g))]) [0, 1, 2] rfl ?_
  refine z_aload_n C 0 dX0_spill_0 rfl rfl ?_
  refine z_iload_n C 1 dX0_spill_1 rfl rfl ?_
  refine z_callV (w := (wX0 hh cI cZ v)) (w' := (wX0 hh cI cZ v)) (w1 := ([] : va_W)) (w2 := ([] : va_W)) (ws' := (wX0 hh cI cZ v)) (As := [.int (nI j)]) (rest := []) (st' := []) (rv := none) C (c_X0_checkMember l D hh cI cZ v j (by omega) (by omega)) (cwV 1 C.words gX0_spill_X0_checkMember rfl rfl rfl (by decide +kernel) ⟨(Nat.le_of_ble_eq_true rfl), (Nat.le_of_ble_eq_true rfl)⟩) (q0 := 0) (ci := 0) rfl rfl rfl [0, 1] rfl rfl (Nat.le_of_ble_eq_true rfl) ⟨(Nat.le_of_ble_eq_true rfl), (Nat.le_of_ble_eq_true rfl)⟩ rfl rfl rfl rfl rfl dX0_spill_2 ?_
  refine z_iload_n C 2 dX0_spill_5 rfl rfl ?_
  refine z_bipush (v := 30) C dX0_spill_6 (by decide) ?_
  refine z_callS (w := ([] : va_W)) (w' := ([] : va_W)) (w1 := (wX0 hh cI cZ v)) (w2 := ([] : va_W)) (ws' := (wX0 hh cI cZ v)) (As := [.int (nI g), .int 30]) (rest := []) (st' := []) (rv := none) C (c_X0_checkAmount l D (nI g) 30 (nI_nlt (by omega) (by omega)) (nI_le (b := 30) (by omega) (by omega))) (va_cwS 2 C.words gX0_spill_X0_checkAmount rfl rfl rfl (by decide +kernel) ⟨(Nat.le_of_ble_eq_true rfl), (Nat.le_of_ble_eq_true rfl)⟩) [] rfl rfl (Nat.le_of_ble_eq_true rfl) ⟨(Nat.le_of_ble_eq_true rfl), (Nat.le_of_ble_eq_true rfl)⟩ rfl rfl rfl rfl rfl dX0_spill_8 ?_
  refine z_aload_n C 0 dX0_spill_11 rfl rfl ?_
  refine z_iload_n C 2 dX0_spill_12 rfl rfl ?_
  refine z_callV (w := (wX0 hh cI cZ v)) (w' := (wX0 hh cI cZ v)) (w1 := ([] : va_W)) (w2 := ([] : va_W)) (ws' := (wX0 hh cI cZ v)) (As := [.int (nI g)]) (rest := []) (st' := []) (rv := none) C (c_X0_checkCellar l D hh cI cZ v (nI g) (nI_le (by omega) (by omega))) (cwV 1 C.words gX0_spill_X0_checkCellar rfl rfl rfl (by decide +kernel) ⟨(Nat.le_of_ble_eq_true rfl), (Nat.le_of_ble_eq_true rfl)⟩) (q0 := 0) (ci := 0) rfl rfl rfl [0, 1] rfl rfl (Nat.le_of_ble_eq_true rfl) ⟨(Nat.le_of_ble_eq_true rfl), (Nat.le_of_ble_eq_true rfl)⟩ rfl rfl rfl rfl rfl dX0_spill_13 ?_
  refine z_aload_n C 0 dX0_spill_16 rfl rfl ?_
  refine z_dup C dX0_spill_17 rfl ?_
  refine z_get0 (v := .int (nI (xc v))) C inl 0 9 (by decide) rfl rfl wd0 dX0_spill_18 ?_
  refine z_iload_n C 2 dX0_spill_21 rfl rfl ?_
  refine z_isub C dX0_spill_22 ?_
  refine z_top (y := nI (xc v - g)) (pk_sub hc) ?_
  refine z_put0 (ws' := (wX0 hh cI cZ (xl v, xa v, xe v, xn v, xw v, xf v, xg v, xx v, xk v, (xc v - g), xd v, xo v, xy v, xb v))) C inl 0 9 (by decide) rfl rfl (by decide) rfl wd0 dX0_spill_23 ?_
  refine z_aload_n C 0 dX0_spill_26 rfl rfl ?_
  refine z_iload_n C 1 dX0_spill_27 rfl rfl ?_
  refine z_iload_n C 2 dX0_spill_28 rfl rfl ?_
  obtain ⟨v1, hv1⟩ : ∃ z, z = xadd (xl v, xa v, xe v, xn v, xw v, xf v, xg v, xx v, xk v, (xc v - g), xd v, xo v, xy v, xb v) j (nI g) := ⟨_, rfl⟩
  refine z_callV (w := (wX0 hh cI cZ (xl v, xa v, xe v, xn v, xw v, xf v, xg v, xx v, xk v, (xc v - g), xd v, xo v, xy v, xb v))) (w' := (wX0 hh cI cZ v1)) (w1 := ([] : va_W)) (w2 := ([] : va_W)) (ws' := (wX0 hh cI cZ v1)) (As := [.int (nI j), .int (nI g)]) (rest := []) (st' := []) (rv := none) C (by rw [hv1]; exact c_X0_addArrears l D hh cI cZ (xl v, xa v, xe v, xn v, xw v, xf v, xg v, xx v, xk v, (xc v - g), xd v, xo v, xy v, xb v) j (nI g) (by omega)) (cwV 2 C.words gX0_spill_X0_addArrears rfl rfl rfl (by decide +kernel) ⟨(Nat.le_of_ble_eq_true rfl), (Nat.le_of_ble_eq_true rfl)⟩) (q0 := 0) (ci := 0) rfl rfl rfl [0, 1] rfl rfl (Nat.le_of_ble_eq_true rfl) ⟨(Nat.le_of_ble_eq_true rfl), (Nat.le_of_ble_eq_true rfl)⟩ rfl rfl rfl rfl rfl dX0_spill_29 ?_
  have hv1k0 : xn v1 = xn (xl v, xa v, xe v, xn v, xw v, xf v, xg v, xx v, xk v, (xc v - g), xd v, xo v, xy v, xb v) := by rw [hv1]; exact (rfl : xn (xadd (xl v, xa v, xe v, xn v, xw v, xf v, xg v, xx v, xk v, (xc v - g), xd v, xo v, xy v, xb v) j (nI g)) = xn (xl v, xa v, xe v, xn v, xw v, xf v, xg v, xx v, xk v, (xc v - g), xd v, xo v, xy v, xb v))
  have hv1k1 : xk v1 = xk (xl v, xa v, xe v, xn v, xw v, xf v, xg v, xx v, xk v, (xc v - g), xd v, xo v, xy v, xb v) := by rw [hv1]; exact (rfl : xk (xadd (xl v, xa v, xe v, xn v, xw v, xf v, xg v, xx v, xk v, (xc v - g), xd v, xo v, xy v, xb v) j (nI g)) = xk (xl v, xa v, xe v, xn v, xw v, xf v, xg v, xx v, xk v, (xc v - g), xd v, xo v, xy v, xb v))
  refine z_aload_n C 0 dX0_spill_32 rfl rfl ?_
  refine z_get0 (v := .ref (hh 2)) C inl 0 1 (by decide) rfl rfl wd1 dX0_spill_33 ?_
  refine z_iload_n C 1 dX0_spill_36 rfl rfl ?_
  refine z_iald (f := xa v1) C 2 0 rfl rfl j rfl (by omega) (by decide) dX0_spill_37 ?_
  subst hv1
  exact z_iret C hr hlocks (Nat.le_of_ble_eq_true rfl) (Nat.le_of_ble_eq_true rfl) dX0_spill_38 (by first | rfl | (simp only [xspill, ↓reduceIte]; done) | (simp only [xspill, ↓reduceIte]; rfl)) (congrArg (wX0 hh cI cZ) (by first | rfl | (simp only [xspill, ↓reduceIte]; done) | (simp only [xspill, ↓reduceIte]; rfl)))
set_option maxHeartbeats 4000000 in
set_option maxRecDepth 100000 in
theorem c_X0_throwSalt (l : Launch) (D : va_G) (hh : Nat → Nat) (cI cZ : ClassId) (v : S0) (j : Nat) (b : Int32) (g : Nat) (hj : j < xn v) (hn : xn v ≤ 8) (hb : b = 0 ∨ b = 1) (h1 : 1 ≤ g) (h2 : g ≤ 9) (hc : g ≤ xc v) (hc5 : xc v ≤ 500) (hk : xk v < 30) : zM l yX0_throwSalt wsX0_throwSalt 2 37 0 0 [.ref (hh 0), .int (nI j), .int b, .int (nI g)] [(cI, .int), (cZ, .boolean)] D (wX0 hh cI cZ v) (wX0 hh cI cZ (xthrow v j b g)) (some (.int (xthrowR v j b g))) := by
  refine z_met (cc := cX0_throwSalt) (maxL := 6) (ret := (some .int)) (by decide) rfl (Nat.le_of_ble_eq_true rfl) ?_
  intro p e s m args below meth c A C hr hlocks
  have inl : ∀ w ∈ u_ws RX0 TX0 14, w ∈ wsX0_throwSalt := by decide +kernel
  have wd0 : Cond.fieldLink RX0 39 "SaltOrder" "cellar" "I" ∈ wsX0_throwSalt := by decide +kernel
  refine z_sub (L' := [(0, .ref (hh 0)), (1, .int (nI j)), (2, .int b), (3, .int (nI g))]) [0, 1, 2, 3] rfl ?_
  refine z_aload_n C 0 dX0_throwSalt_0 rfl rfl ?_
  refine z_iload_n C 1 dX0_throwSalt_1 rfl rfl ?_
  refine z_callV (w := (wX0 hh cI cZ v)) (w' := (wX0 hh cI cZ v)) (w1 := ([] : va_W)) (w2 := ([] : va_W)) (ws' := (wX0 hh cI cZ v)) (As := [.int (nI j)]) (rest := []) (st' := []) (rv := none) C (c_X0_checkMember l D hh cI cZ v j (by omega) (by omega)) (cwV 1 C.words gX0_throwSalt_X0_checkMember rfl rfl rfl (by decide +kernel) ⟨(Nat.le_of_ble_eq_true rfl), (Nat.le_of_ble_eq_true rfl)⟩) (q0 := 0) (ci := 0) rfl rfl rfl [0, 1] rfl rfl (Nat.le_of_ble_eq_true rfl) ⟨(Nat.le_of_ble_eq_true rfl), (Nat.le_of_ble_eq_true rfl)⟩ rfl rfl rfl rfl rfl dX0_throwSalt_2 ?_
  refine z_iload_n C 2 dX0_throwSalt_5 rfl rfl ?_
  refine z_callS (w := ([] : va_W)) (w' := ([] : va_W)) (w1 := (wX0 hh cI cZ v)) (w2 := ([] : va_W)) (ws' := (wX0 hh cI cZ v)) (As := [.int b]) (rest := []) (st' := []) (rv := none) C (c_X0_checkShoulder l D b hb) (va_cwS 1 C.words gX0_throwSalt_X0_checkShoulder rfl rfl rfl (by decide +kernel) ⟨(Nat.le_of_ble_eq_true rfl), (Nat.le_of_ble_eq_true rfl)⟩) [] rfl rfl (Nat.le_of_ble_eq_true rfl) ⟨(Nat.le_of_ble_eq_true rfl), (Nat.le_of_ble_eq_true rfl)⟩ rfl rfl rfl rfl rfl dX0_throwSalt_6 ?_
  refine z_iload_n C 3 dX0_throwSalt_9 rfl rfl ?_
  refine z_bipush (v := 9) C dX0_throwSalt_10 (by decide) ?_
  refine z_callS (w := ([] : va_W)) (w' := ([] : va_W)) (w1 := (wX0 hh cI cZ v)) (w2 := ([] : va_W)) (ws' := (wX0 hh cI cZ v)) (As := [.int (nI g), .int 9]) (rest := []) (st' := []) (rv := none) C (c_X0_checkAmount l D (nI g) 9 (nI_nlt (by omega) (by omega)) (nI_le (b := 9) (by omega) (by omega))) (va_cwS 2 C.words gX0_throwSalt_X0_checkAmount rfl rfl rfl (by decide +kernel) ⟨(Nat.le_of_ble_eq_true rfl), (Nat.le_of_ble_eq_true rfl)⟩) [] rfl rfl (Nat.le_of_ble_eq_true rfl) ⟨(Nat.le_of_ble_eq_true rfl), (Nat.le_of_ble_eq_true rfl)⟩ rfl rfl rfl rfl rfl dX0_throwSalt_12 ?_
  refine z_aload_n C 0 dX0_throwSalt_15 rfl rfl ?_
  refine z_iload_n C 3 dX0_throwSalt_16 rfl rfl ?_
  refine z_callV (w := (wX0 hh cI cZ v)) (w' := (wX0 hh cI cZ v)) (w1 := ([] : va_W)) (w2 := ([] : va_W)) (ws' := (wX0 hh cI cZ v)) (As := [.int (nI g)]) (rest := []) (st' := []) (rv := none) C (c_X0_checkCellar l D hh cI cZ v (nI g) (nI_le (by omega) (by omega))) (cwV 1 C.words gX0_throwSalt_X0_checkCellar rfl rfl rfl (by decide +kernel) ⟨(Nat.le_of_ble_eq_true rfl), (Nat.le_of_ble_eq_true rfl)⟩) (q0 := 0) (ci := 0) rfl rfl rfl [0, 1] rfl rfl (Nat.le_of_ble_eq_true rfl) ⟨(Nat.le_of_ble_eq_true rfl), (Nat.le_of_ble_eq_true rfl)⟩ rfl rfl rfl rfl rfl dX0_throwSalt_17 ?_
  refine z_aload_n C 0 dX0_throwSalt_20 rfl rfl ?_
  refine z_callV (w := (wX0 hh cI cZ v)) (w' := (wX0 hh cI cZ v)) (w1 := ([] : va_W)) (w2 := ([] : va_W)) (ws' := (wX0 hh cI cZ v)) (As := []) (rest := []) (st' := []) (rv := none) C (c_X0_checkLedgerHasRoom l D hh cI cZ v (by omega)) (cwV 0 C.words gX0_throwSalt_X0_checkLedgerHasRoom rfl rfl rfl (by decide +kernel) ⟨(Nat.le_of_ble_eq_true rfl), (Nat.le_of_ble_eq_true rfl)⟩) (q0 := 0) (ci := 0) rfl rfl rfl [0, 1] rfl rfl (Nat.le_of_ble_eq_true rfl) ⟨(Nat.le_of_ble_eq_true rfl), (Nat.le_of_ble_eq_true rfl)⟩ rfl rfl rfl rfl rfl dX0_throwSalt_21 ?_
  refine z_iload_n C 2 dX0_throwSalt_24 rfl rfl ?_
  refine z_if_ne (tgt := 32) C dX0_throwSalt_25 (by decide) (fun c25 => ?_) (fun c25 => ?_)
  · skip
    refine z_iconst (v := 0) C dX0_throwSalt_32 (by decide) ?_
    refine z_istore (L' := [(4, .int 0), (0, .ref (hh 0)), (1, .int (nI j)), (2, .int b), (3, .int (nI g))]) C dX0_throwSalt_33 (by decide) rfl ?_
    refine z_iload C 0 dX0_throwSalt_35 rfl ?_
    refine z_if_eq (tgt := 49) C dX0_throwSalt_37 (by decide) (fun _ => ?_) (fun h9 => absurd (by decide) h9)
    refine z_iload_n C 4 dX0_throwSalt_49 rfl rfl ?_
    refine z_istore (L' := [(5, .int (nI g)), (4, .int 0), (0, .ref (hh 0)), (1, .int (nI j)), (2, .int b), (3, .int (nI g))]) C dX0_throwSalt_50 (by decide) rfl ?_
    refine z_iload C 1 dX0_throwSalt_52 rfl ?_
    refine z_if_eq (tgt := 63) C dX0_throwSalt_54 (by decide) (fun _ => ?_) (fun h9 => absurd (by decide) h9)
    refine z_aload_n C 2 dX0_throwSalt_63 rfl rfl ?_
    refine z_dup C dX0_throwSalt_64 rfl ?_
    refine z_get0 (v := .int (nI (xc v))) C inl 0 9 (by decide) rfl rfl wd0 dX0_throwSalt_65 ?_
    refine z_iload_n C 5 dX0_throwSalt_68 rfl rfl ?_
    refine z_isub C dX0_throwSalt_69 ?_
    refine z_top (y := nI (xc v - g)) (pk_sub (by omega)) ?_
    refine z_put0 (ws' := (wX0 hh cI cZ (xl v, xa v, xe v, xn v, xw v, xf v, xg v, xx v, xk v, (xc v - g), xd v, xo v, xy v, xb v))) C inl 0 9 (by decide) rfl rfl (by decide) rfl wd0 dX0_throwSalt_70 ?_
    refine z_aload_n C 2 dX0_throwSalt_73 rfl rfl ?_
    refine z_iload_n C 3 dX0_throwSalt_74 rfl rfl ?_
    refine z_iload C 1 dX0_throwSalt_75 rfl ?_
    refine z_iload_n C 5 dX0_throwSalt_77 rfl rfl ?_
    refine z_iload C 0 dX0_throwSalt_78 rfl ?_
    obtain ⟨v1, hv1⟩ : ∃ z, z = xwrite (xl v, xa v, xe v, xn v, xw v, xf v, xg v, xx v, xk v, (xc v - g), xd v, xo v, xy v, xb v) (nI j) 0 (nI g) (nI g) := ⟨_, rfl⟩
    refine z_callV (w := (wX0 hh cI cZ (xl v, xa v, xe v, xn v, xw v, xf v, xg v, xx v, xk v, (xc v - g), xd v, xo v, xy v, xb v))) (w' := (wX0 hh cI cZ v1)) (w1 := ([] : va_W)) (w2 := ([] : va_W)) (ws' := (wX0 hh cI cZ v1)) (As := [.int (nI j), .int 0, .int (nI g), .int (nI g)]) (rest := []) (st' := []) (rv := none) C (by rw [hv1]; exact c_X0_writeThrow l D hh cI cZ (xl v, xa v, xe v, xn v, xw v, xf v, xg v, xx v, xk v, (xc v - g), xd v, xo v, xy v, xb v) (nI j) 0 (nI g) (nI g) (by first | omega | exact hk | (show xk v2 < 30; omega)) (by first | exact Or.inl rfl | exact Or.inr rfl)) (cwV 4 C.words gX0_throwSalt_X0_writeThrow rfl rfl rfl (by decide +kernel) ⟨(Nat.le_of_ble_eq_true rfl), (Nat.le_of_ble_eq_true rfl)⟩) (q0 := 0) (ci := 0) rfl rfl rfl [0, 1] rfl rfl (Nat.le_of_ble_eq_true rfl) ⟨(Nat.le_of_ble_eq_true rfl), (Nat.le_of_ble_eq_true rfl)⟩ rfl rfl rfl rfl rfl dX0_throwSalt_80 ?_
    refine z_iload C 0 dX0_throwSalt_83 rfl ?_
    subst hv1
    exact z_iret C hr hlocks (Nat.le_of_ble_eq_true rfl) (Nat.le_of_ble_eq_true rfl) dX0_throwSalt_85 (by first | rfl | (simp only [xthrow, xthrowR, c25, ↓reduceIte]; done) | (simp only [xthrow, xthrowR, c25, ↓reduceIte]; rfl)) (congrArg (wX0 hh cI cZ) (by first | rfl | (simp only [xthrow, xthrowR, c25, ↓reduceIte]; done) | (simp only [xthrow, xthrowR, c25, ↓reduceIte]; rfl)))
  · skip
    refine z_iconst (v := 1) C dX0_throwSalt_28 (by decide) ?_
    refine z_goto (tgt := 33) C dX0_throwSalt_29 (by decide) ?_
    refine z_istore (L' := [(4, .int 1), (0, .ref (hh 0)), (1, .int (nI j)), (2, .int b), (3, .int (nI g))]) C dX0_throwSalt_33 (by decide) rfl ?_
    refine z_iload C 0 dX0_throwSalt_35 rfl ?_
    refine z_if_eq (tgt := 49) C dX0_throwSalt_37 (by decide) (fun h9 => absurd h9 (by decide)) (fun _ => ?_)
    refine z_aload_n C 1 dX0_throwSalt_40 rfl rfl ?_
    refine z_iload_n C 2 dX0_throwSalt_41 rfl rfl ?_
    refine z_iload_n C 4 dX0_throwSalt_42 rfl rfl ?_
    refine z_callV (w := (wX0 hh cI cZ v)) (w' := (wX0 hh cI cZ v)) (w1 := ([] : va_W)) (w2 := ([] : va_W)) (ws' := (wX0 hh cI cZ v)) (As := [.int (nI j), .int (nI g)]) (rest := []) (st' := [.int (xlexc v j (nI g))]) (rv := some (.int (xlexc v j (nI g)))) C (c_X0_leftExcess l D hh cI cZ v j (nI g) (by omega)) (cwV 2 C.words gX0_throwSalt_X0_leftExcess rfl rfl rfl (by decide +kernel) ⟨(Nat.le_of_ble_eq_true rfl), (Nat.le_of_ble_eq_true rfl)⟩) (q0 := 0) (ci := 0) rfl rfl rfl [0, 1] rfl rfl (Nat.le_of_ble_eq_true rfl) ⟨(Nat.le_of_ble_eq_true rfl), (Nat.le_of_ble_eq_true rfl)⟩ rfl rfl rfl rfl rfl dX0_throwSalt_43 ?_
    refine z_goto (tgt := 50) C dX0_throwSalt_46 (by decide) ?_
    refine z_istore (L' := [(5, .int (xlexc v j (nI g))), (4, .int 1), (0, .ref (hh 0)), (1, .int (nI j)), (2, .int b), (3, .int (nI g))]) C dX0_throwSalt_50 (by decide) rfl ?_
    refine z_iload C 1 dX0_throwSalt_52 rfl ?_
    refine z_if_eq (tgt := 63) C dX0_throwSalt_54 (by decide) (fun h9 => absurd h9 (by decide)) (fun _ => ?_)
    refine z_aload_n C 2 dX0_throwSalt_57 rfl rfl ?_
    refine z_iload_n C 3 dX0_throwSalt_58 rfl rfl ?_
    refine z_iload_n C 5 dX0_throwSalt_59 rfl rfl ?_
    obtain ⟨v2, hv2⟩ : ∃ z, z = xless v j (nI g) := ⟨_, rfl⟩
    refine z_callV (w := (wX0 hh cI cZ v)) (w' := (wX0 hh cI cZ v2)) (w1 := ([] : va_W)) (w2 := ([] : va_W)) (ws' := (wX0 hh cI cZ v2)) (As := [.int (nI j), .int (nI g)]) (rest := []) (st' := []) (rv := none) C (by rw [hv2]; exact c_X0_lessenArrears l D hh cI cZ v j (nI g) (by omega)) (cwV 2 C.words gX0_throwSalt_X0_lessenArrears rfl rfl rfl (by decide +kernel) ⟨(Nat.le_of_ble_eq_true rfl), (Nat.le_of_ble_eq_true rfl)⟩) (q0 := 0) (ci := 0) rfl rfl rfl [0, 1] rfl rfl (Nat.le_of_ble_eq_true rfl) ⟨(Nat.le_of_ble_eq_true rfl), (Nat.le_of_ble_eq_true rfl)⟩ rfl rfl rfl rfl rfl dX0_throwSalt_60 ?_
    have hv2k0 : xn v2 = xn v := by rw [hv2]; exact (rfl : xn (xless v j (nI g)) = xn v)
    have hv2k1 : xk v2 = xk v := by rw [hv2]; exact (rfl : xk (xless v j (nI g)) = xk v)
    have hv2k2 : xc v2 = xc v := by rw [hv2]; exact (rfl : xc (xless v j (nI g)) = xc v)
    refine z_aload_n C 2 dX0_throwSalt_63 rfl rfl ?_
    refine z_dup C dX0_throwSalt_64 rfl ?_
    refine z_get0 (v := .int (nI (xc v2))) C inl 0 9 (by decide) rfl rfl wd0 dX0_throwSalt_65 ?_
    refine z_iload_n C 5 dX0_throwSalt_68 rfl rfl ?_
    refine z_isub C dX0_throwSalt_69 ?_
    refine z_top (y := nI (xc v2 - g)) (pk_sub (by omega)) ?_
    refine z_put0 (ws' := (wX0 hh cI cZ (xl v2, xa v2, xe v2, xn v2, xw v2, xf v2, xg v2, xx v2, xk v2, (xc v2 - g), xd v2, xo v2, xy v2, xb v2))) C inl 0 9 (by decide) rfl rfl (by decide) rfl wd0 dX0_throwSalt_70 ?_
    refine z_aload_n C 2 dX0_throwSalt_73 rfl rfl ?_
    refine z_iload_n C 3 dX0_throwSalt_74 rfl rfl ?_
    refine z_iload C 1 dX0_throwSalt_75 rfl ?_
    refine z_iload_n C 5 dX0_throwSalt_77 rfl rfl ?_
    refine z_iload C 0 dX0_throwSalt_78 rfl ?_
    obtain ⟨v3, hv3⟩ : ∃ z, z = xwrite (xl v2, xa v2, xe v2, xn v2, xw v2, xf v2, xg v2, xx v2, xk v2, (xc v2 - g), xd v2, xo v2, xy v2, xb v2) (nI j) 1 (nI g) (xlexc v j (nI g)) := ⟨_, rfl⟩
    refine z_callV (w := (wX0 hh cI cZ (xl v2, xa v2, xe v2, xn v2, xw v2, xf v2, xg v2, xx v2, xk v2, (xc v2 - g), xd v2, xo v2, xy v2, xb v2))) (w' := (wX0 hh cI cZ v3)) (w1 := ([] : va_W)) (w2 := ([] : va_W)) (ws' := (wX0 hh cI cZ v3)) (As := [.int (nI j), .int 1, .int (nI g), .int (xlexc v j (nI g))]) (rest := []) (st' := []) (rv := none) C (by rw [hv3]; exact c_X0_writeThrow l D hh cI cZ (xl v2, xa v2, xe v2, xn v2, xw v2, xf v2, xg v2, xx v2, xk v2, (xc v2 - g), xd v2, xo v2, xy v2, xb v2) (nI j) 1 (nI g) (xlexc v j (nI g)) (by first | omega | exact hk | (show xk v2 < 30; omega)) (by first | exact Or.inl rfl | exact Or.inr rfl)) (cwV 4 C.words gX0_throwSalt_X0_writeThrow rfl rfl rfl (by decide +kernel) ⟨(Nat.le_of_ble_eq_true rfl), (Nat.le_of_ble_eq_true rfl)⟩) (q0 := 0) (ci := 0) rfl rfl rfl [0, 1] rfl rfl (Nat.le_of_ble_eq_true rfl) ⟨(Nat.le_of_ble_eq_true rfl), (Nat.le_of_ble_eq_true rfl)⟩ rfl rfl rfl rfl rfl dX0_throwSalt_80 ?_
    refine z_iload C 0 dX0_throwSalt_83 rfl ?_
    subst hv3
    subst hv2
    exact z_iret C hr hlocks (Nat.le_of_ble_eq_true rfl) (Nat.le_of_ble_eq_true rfl) dX0_throwSalt_85 (by first | rfl | (simp only [xthrow, xthrowR, c25, ↓reduceIte]; done) | (simp only [xthrow, xthrowR, c25, ↓reduceIte]; rfl)) (congrArg (wX0 hh cI cZ) (by first | rfl | (simp only [xthrow, xthrowR, c25, ↓reduceIte]; done) | (simp only [xthrow, xthrowR, c25, ↓reduceIte]; rfl)))
set_option maxHeartbeats 4000000 in
set_option maxRecDepth 100000 in
theorem c_X0_doPenance (l : Launch) (D : va_G) (hh : Nat → Nat) (cI cZ : ClassId) (v : S0) (j g : Nat) (hj : j < xn v) (hn : xn v ≤ 8) (h1 : 1 ≤ g) (h2 : g ≤ 9) : zM l yX0_doPenance wsX0_doPenance 2 37 0 0 [.ref (hh 0), .int (nI j), .int (nI g)] [(cI, .int), (cZ, .boolean)] D (wX0 hh cI cZ v) (wX0 hh cI cZ (xlump v j (nI g))) (some (.int (xe (xlump v j (nI g)) j))) := by
  refine z_met (cc := cX0_doPenance) (maxL := 3) (ret := (some .int)) (by decide) rfl (Nat.le_of_ble_eq_true rfl) ?_
  intro p e s m args below meth c A C hr hlocks
  have inl : ∀ w ∈ u_ws RX0 TX0 14, w ∈ wsX0_doPenance := by decide +kernel
  have wd0 : Cond.fieldLink RX0 16 "SaltOrder" "toEat" "[I" ∈ wsX0_doPenance := by decide +kernel
  refine z_sub (L' := [(0, .ref (hh 0)), (1, .int (nI j)), (2, .int (nI g))]) [0, 1, 2] rfl ?_
  refine z_aload_n C 0 dX0_doPenance_0 rfl rfl ?_
  refine z_iload_n C 1 dX0_doPenance_1 rfl rfl ?_
  refine z_callV (w := (wX0 hh cI cZ v)) (w' := (wX0 hh cI cZ v)) (w1 := ([] : va_W)) (w2 := ([] : va_W)) (ws' := (wX0 hh cI cZ v)) (As := [.int (nI j)]) (rest := []) (st' := []) (rv := none) C (c_X0_checkMember l D hh cI cZ v j (by omega) (by omega)) (cwV 1 C.words gX0_doPenance_X0_checkMember rfl rfl rfl (by decide +kernel) ⟨(Nat.le_of_ble_eq_true rfl), (Nat.le_of_ble_eq_true rfl)⟩) (q0 := 0) (ci := 0) rfl rfl rfl [0, 1] rfl rfl (Nat.le_of_ble_eq_true rfl) ⟨(Nat.le_of_ble_eq_true rfl), (Nat.le_of_ble_eq_true rfl)⟩ rfl rfl rfl rfl rfl dX0_doPenance_2 ?_
  refine z_iload_n C 2 dX0_doPenance_5 rfl rfl ?_
  refine z_bipush (v := 9) C dX0_doPenance_6 (by decide) ?_
  refine z_callS (w := ([] : va_W)) (w' := ([] : va_W)) (w1 := (wX0 hh cI cZ v)) (w2 := ([] : va_W)) (ws' := (wX0 hh cI cZ v)) (As := [.int (nI g), .int 9]) (rest := []) (st' := []) (rv := none) C (c_X0_checkAmount l D (nI g) 9 (nI_nlt (by omega) (by omega)) (nI_le (b := 9) (by omega) (by omega))) (va_cwS 2 C.words gX0_doPenance_X0_checkAmount rfl rfl rfl (by decide +kernel) ⟨(Nat.le_of_ble_eq_true rfl), (Nat.le_of_ble_eq_true rfl)⟩) [] rfl rfl (Nat.le_of_ble_eq_true rfl) ⟨(Nat.le_of_ble_eq_true rfl), (Nat.le_of_ble_eq_true rfl)⟩ rfl rfl rfl rfl rfl dX0_doPenance_8 ?_
  refine z_aload_n C 0 dX0_doPenance_11 rfl rfl ?_
  refine z_iload_n C 1 dX0_doPenance_12 rfl rfl ?_
  refine z_iload_n C 2 dX0_doPenance_13 rfl rfl ?_
  obtain ⟨v1, hv1⟩ : ∃ z, z = xlump v j (nI g) := ⟨_, rfl⟩
  refine z_callV (w := (wX0 hh cI cZ v)) (w' := (wX0 hh cI cZ v1)) (w1 := ([] : va_W)) (w2 := ([] : va_W)) (ws' := (wX0 hh cI cZ v1)) (As := [.int (nI j), .int (nI g)]) (rest := []) (st' := []) (rv := none) C (by rw [hv1]; exact c_X0_addLumps l D hh cI cZ v j (nI g) (by omega)) (cwV 2 C.words gX0_doPenance_X0_addLumps rfl rfl rfl (by decide +kernel) ⟨(Nat.le_of_ble_eq_true rfl), (Nat.le_of_ble_eq_true rfl)⟩) (q0 := 0) (ci := 0) rfl rfl rfl [0, 1] rfl rfl (Nat.le_of_ble_eq_true rfl) ⟨(Nat.le_of_ble_eq_true rfl), (Nat.le_of_ble_eq_true rfl)⟩ rfl rfl rfl rfl rfl dX0_doPenance_14 ?_
  have hv1k0 : xn v1 = xn v := by rw [hv1]; exact (rfl : xn (xlump v j (nI g)) = xn v)
  have hv1k1 : xk v1 = xk v := by rw [hv1]; exact (rfl : xk (xlump v j (nI g)) = xk v)
  refine z_aload_n C 0 dX0_doPenance_17 rfl rfl ?_
  refine z_get0 (v := .ref (hh 3)) C inl 0 2 (by decide) rfl rfl wd0 dX0_doPenance_18 ?_
  refine z_iload_n C 1 dX0_doPenance_21 rfl rfl ?_
  refine z_iald (f := xe v1) C 3 0 rfl rfl j rfl (by omega) (by decide) dX0_doPenance_22 ?_
  subst hv1
  exact z_iret C hr hlocks (Nat.le_of_ble_eq_true rfl) (Nat.le_of_ble_eq_true rfl) dX0_doPenance_23 (by rfl) (congrArg (wX0 hh cI cZ) (by rfl))
set_option maxHeartbeats 4000000 in
set_option maxRecDepth 100000 in
theorem c_X0_bringSalt (l : Launch) (D : va_G) (hh : Nat → Nat) (cI cZ : ClassId) (v : S0) (g : Nat) (h1 : 1 ≤ g) (h2 : g ≤ 500) (hc5 : xc v ≤ 500) : zM l yX0_bringSalt wsX0_bringSalt 1 21 0 0 [.ref (hh 0), .int (nI g)] [(cI, .int), (cZ, .boolean)] D (wX0 hh cI cZ v) (wX0 hh cI cZ (uc v (min 500 (xc v + g)))) (some (.int (nI (min 500 (xc v + g))))) := by
  refine z_met (cc := cX0_bringSalt) (maxL := 2) (ret := (some .int)) (by decide) rfl (Nat.le_of_ble_eq_true rfl) ?_
  intro p e s m args below meth c A C hr hlocks
  have inl : ∀ w ∈ u_ws RX0 TX0 14, w ∈ wsX0_bringSalt := by decide +kernel
  have wd0 : Cond.fieldLink RX0 39 "SaltOrder" "cellar" "I" ∈ wsX0_bringSalt := by decide +kernel
  have wd1 : Cond.methodLink RX0 89 Lib.Math.min.name ∈ wsX0_bringSalt := by decide +kernel
  have wd2 : Cond.static Lib.Math.min.name ∈ wsX0_bringSalt := by decide +kernel
  have wd3 : Cond.initialized "java/lang/Math" ∈ wsX0_bringSalt := by decide +kernel
  have wd4 : Cond.code Lib.Math.min.name Lib.Math.min.code 2 (some .int) ∈ wsX0_bringSalt := by decide +kernel
  refine z_sub (L' := [(0, .ref (hh 0)), (1, .int (nI g))]) [0, 1] rfl ?_
  refine z_iload_n C 1 dX0_bringSalt_0 rfl rfl ?_
  refine z_sipush (v := 500) C dX0_bringSalt_1 (by decide) ?_
  refine z_callS (w := ([] : va_W)) (w' := ([] : va_W)) (w1 := (wX0 hh cI cZ v)) (w2 := ([] : va_W)) (ws' := (wX0 hh cI cZ v)) (As := [.int (nI g), .int 500]) (rest := []) (st' := []) (rv := none) C (c_X0_checkAmount l D (nI g) 500 (nI_nlt (by omega) (by omega)) (nI_le (b := 500) (by omega) (by omega))) (va_cwS 2 C.words gX0_bringSalt_X0_checkAmount rfl rfl rfl (by decide +kernel) ⟨(Nat.le_of_ble_eq_true rfl), (Nat.le_of_ble_eq_true rfl)⟩) [] rfl rfl (Nat.le_of_ble_eq_true rfl) ⟨(Nat.le_of_ble_eq_true rfl), (Nat.le_of_ble_eq_true rfl)⟩ rfl rfl rfl rfl rfl dX0_bringSalt_4 ?_
  refine z_aload_n C 0 dX0_bringSalt_7 rfl rfl ?_
  refine z_sipush (v := 500) C dX0_bringSalt_8 (by decide) ?_
  refine z_aload_n C 0 dX0_bringSalt_11 rfl rfl ?_
  refine z_get0 (v := .int (nI (xc v))) C inl 0 9 (by decide) rfl rfl wd0 dX0_bringSalt_12 ?_
  refine z_iload_n C 1 dX0_bringSalt_15 rfl rfl ?_
  refine z_iadd C dX0_bringSalt_16 ?_
  refine z_top (y := nI (xc v + g)) (nI_add _ _) ?_
  refine z_mmin C wd1 wd2 wd3 wd4 (Nat.le_of_ble_eq_true rfl) (Nat.le_of_ble_eq_true rfl) (Nat.le_of_ble_eq_true rfl) (Nat.le_of_ble_eq_true rfl) dX0_bringSalt_17 ?_
  refine z_top (y := nI (min 500 (xc v + g))) (imin_nI (a := 500) (by omega) (by omega)) ?_
  refine z_put0 (ws' := (wX0 hh cI cZ (xl v, xa v, xe v, xn v, xw v, xf v, xg v, xx v, xk v, (min 500 (xc v + g)), xd v, xo v, xy v, xb v))) C inl 0 9 (by decide) rfl rfl (by decide) rfl wd0 dX0_bringSalt_20 ?_
  refine z_aload_n C 0 dX0_bringSalt_23 rfl rfl ?_
  refine z_get0 (v := .int (nI (min 500 (xc v + g)))) C inl 0 9 (by decide) rfl rfl wd0 dX0_bringSalt_24 ?_
  exact z_iret C hr hlocks (Nat.le_of_ble_eq_true rfl) (Nat.le_of_ble_eq_true rfl) dX0_bringSalt_27 rfl (congrArg (wX0 hh cI cZ) (by first | rfl | (simp only [uc, ↓reduceIte]; done) | (simp only [uc, ↓reduceIte]; rfl)))
set_option maxHeartbeats 4000000 in
set_option maxRecDepth 100000 in
theorem c_X0_day (l : Launch) (D : va_G) (hh : Nat → Nat) (cI cZ : ClassId) (v : S0) : zM l yX0_day wsX0_day 0 0 0 0 [.ref (hh 0)] [(cI, .int), (cZ, .boolean)] D (wX0 hh cI cZ v) (wX0 hh cI cZ v) (some (.int (xd v))) := by
  refine z_met (cc := cX0_day) (maxL := 1) (ret := (some .int)) (by decide) rfl (Nat.le_of_ble_eq_true rfl) ?_
  intro p e s m args below meth c A C hr hlocks
  have inl : ∀ w ∈ u_ws RX0 TX0 14, w ∈ wsX0_day := by decide +kernel
  have wd0 : Cond.fieldLink RX0 42 "SaltOrder" "today" "I" ∈ wsX0_day := by decide +kernel
  refine z_sub (L' := [(0, .ref (hh 0))]) [0] rfl ?_
  refine z_aload_n C 0 dX0_day_0 rfl rfl ?_
  refine z_get0 (v := .int (xd v)) C inl 0 10 (by decide) rfl rfl wd0 dX0_day_1 ?_
  exact z_iret C hr hlocks (Nat.le_of_ble_eq_true rfl) (Nat.le_of_ble_eq_true rfl) dX0_day_4 rfl rfl
set_option maxHeartbeats 4000000 in
set_option maxRecDepth 100000 in
theorem c_X0_members (l : Launch) (D : va_G) (hh : Nat → Nat) (cI cZ : ClassId) (v : S0) : zM l yX0_members wsX0_members 0 0 0 0 [.ref (hh 0)] [(cI, .int), (cZ, .boolean)] D (wX0 hh cI cZ v) (wX0 hh cI cZ v) (some (.int (nI (xn v)))) := by
  refine z_met (cc := cX0_members) (maxL := 1) (ret := (some .int)) (by decide) rfl (Nat.le_of_ble_eq_true rfl) ?_
  intro p e s m args below meth c A C hr hlocks
  have inl : ∀ w ∈ u_ws RX0 TX0 14, w ∈ wsX0_members := by decide +kernel
  have wd0 : Cond.fieldLink RX0 32 "SaltOrder" "memberCount" "I" ∈ wsX0_members := by decide +kernel
  refine z_sub (L' := [(0, .ref (hh 0))]) [0] rfl ?_
  refine z_aload_n C 0 dX0_members_0 rfl rfl ?_
  refine z_get0 (v := .int (nI (xn v))) C inl 0 3 (by decide) rfl rfl wd0 dX0_members_1 ?_
  exact z_iret C hr hlocks (Nat.le_of_ble_eq_true rfl) (Nat.le_of_ble_eq_true rfl) dX0_members_4 rfl rfl
set_option maxHeartbeats 4000000 in
set_option maxRecDepth 100000 in
theorem c_X0_salt (l : Launch) (D : va_G) (hh : Nat → Nat) (cI cZ : ClassId) (v : S0) : zM l yX0_salt wsX0_salt 0 0 0 0 [.ref (hh 0)] [(cI, .int), (cZ, .boolean)] D (wX0 hh cI cZ v) (wX0 hh cI cZ v) (some (.int (nI (xc v)))) := by
  refine z_met (cc := cX0_salt) (maxL := 1) (ret := (some .int)) (by decide) rfl (Nat.le_of_ble_eq_true rfl) ?_
  intro p e s m args below meth c A C hr hlocks
  have inl : ∀ w ∈ u_ws RX0 TX0 14, w ∈ wsX0_salt := by decide +kernel
  have wd0 : Cond.fieldLink RX0 39 "SaltOrder" "cellar" "I" ∈ wsX0_salt := by decide +kernel
  refine z_sub (L' := [(0, .ref (hh 0))]) [0] rfl ?_
  refine z_aload_n C 0 dX0_salt_0 rfl rfl ?_
  refine z_get0 (v := .int (nI (xc v))) C inl 0 9 (by decide) rfl rfl wd0 dX0_salt_1 ?_
  exact z_iret C hr hlocks (Nat.le_of_ble_eq_true rfl) (Nat.le_of_ble_eq_true rfl) dX0_salt_4 rfl rfl
set_option maxHeartbeats 4000000 in
set_option maxRecDepth 100000 in
theorem c_X0_ledger (l : Launch) (D : va_G) (hh : Nat → Nat) (cI cZ : ClassId) (v : S0) : zM l yX0_ledger wsX0_ledger 0 0 0 0 [.ref (hh 0)] [(cI, .int), (cZ, .boolean)] D (wX0 hh cI cZ v) (wX0 hh cI cZ v) (some (.int (nI (xk v)))) := by
  refine z_met (cc := cX0_ledger) (maxL := 1) (ret := (some .int)) (by decide) rfl (Nat.le_of_ble_eq_true rfl) ?_
  intro p e s m args below meth c A C hr hlocks
  have inl : ∀ w ∈ u_ws RX0 TX0 14, w ∈ wsX0_ledger := by decide +kernel
  have wd0 : Cond.fieldLink RX0 36 "SaltOrder" "throwCount" "I" ∈ wsX0_ledger := by decide +kernel
  refine z_sub (L' := [(0, .ref (hh 0))]) [0] rfl ?_
  refine z_aload_n C 0 dX0_ledger_0 rfl rfl ?_
  refine z_get0 (v := .int (nI (xk v))) C inl 0 8 (by decide) rfl rfl wd0 dX0_ledger_1 ?_
  exact z_iret C hr hlocks (Nat.le_of_ble_eq_true rfl) (Nat.le_of_ble_eq_true rfl) dX0_ledger_4 rfl rfl
set_option maxHeartbeats 4000000 in
set_option maxRecDepth 100000 in
theorem c_X0_faultsFound (l : Launch) (D : va_G) (hh : Nat → Nat) (cI cZ : ClassId) (v : S0) : zM l yX0_faultsFound wsX0_faultsFound 0 0 0 0 [.ref (hh 0)] [(cI, .int), (cZ, .boolean)] D (wX0 hh cI cZ v) (wX0 hh cI cZ v) (some (.int (xo v))) := by
  refine z_met (cc := cX0_faultsFound) (maxL := 1) (ret := (some .int)) (by decide) rfl (Nat.le_of_ble_eq_true rfl) ?_
  intro p e s m args below meth c A C hr hlocks
  have inl : ∀ w ∈ u_ws RX0 TX0 14, w ∈ wsX0_faultsFound := by decide +kernel
  have wd0 : Cond.fieldLink RX0 45 "SaltOrder" "found" "I" ∈ wsX0_faultsFound := by decide +kernel
  refine z_sub (L' := [(0, .ref (hh 0))]) [0] rfl ?_
  refine z_aload_n C 0 dX0_faultsFound_0 rfl rfl ?_
  refine z_get0 (v := .int (xo v)) C inl 0 11 (by decide) rfl rfl wd0 dX0_faultsFound_1 ?_
  exact z_iret C hr hlocks (Nat.le_of_ble_eq_true rfl) (Nat.le_of_ble_eq_true rfl) dX0_faultsFound_4 rfl rfl
set_option maxHeartbeats 4000000 in
set_option maxRecDepth 100000 in
theorem c_X0_luckOf (l : Launch) (D : va_G) (hh : Nat → Nat) (cI cZ : ClassId) (v : S0) (j : Nat) (hj : j < xn v) (hn : xn v ≤ 8) : zM l yX0_luckOf wsX0_luckOf 1 21 0 0 [.ref (hh 0), .int (nI j)] [(cI, .int), (cZ, .boolean)] D (wX0 hh cI cZ v) (wX0 hh cI cZ v) (some (.int (xl v j))) := by
  refine z_met (cc := cX0_luckOf) (maxL := 2) (ret := (some .int)) (by decide) rfl (Nat.le_of_ble_eq_true rfl) ?_
  intro p e s m args below meth c A C hr hlocks
  have inl : ∀ w ∈ u_ws RX0 TX0 14, w ∈ wsX0_luckOf := by decide +kernel
  have wd0 : Cond.fieldLink RX0 9 "SaltOrder" "luck" "[I" ∈ wsX0_luckOf := by decide +kernel
  refine z_sub (L' := [(0, .ref (hh 0)), (1, .int (nI j))]) [0, 1] rfl ?_
  refine z_aload_n C 0 dX0_luckOf_0 rfl rfl ?_
  refine z_iload_n C 1 dX0_luckOf_1 rfl rfl ?_
  refine z_callV (w := (wX0 hh cI cZ v)) (w' := (wX0 hh cI cZ v)) (w1 := ([] : va_W)) (w2 := ([] : va_W)) (ws' := (wX0 hh cI cZ v)) (As := [.int (nI j)]) (rest := []) (st' := []) (rv := none) C (c_X0_checkMember l D hh cI cZ v j (by omega) (by omega)) (cwV 1 C.words gX0_luckOf_X0_checkMember rfl rfl rfl (by decide +kernel) ⟨(Nat.le_of_ble_eq_true rfl), (Nat.le_of_ble_eq_true rfl)⟩) (q0 := 0) (ci := 0) rfl rfl rfl [0, 1] rfl rfl (Nat.le_of_ble_eq_true rfl) ⟨(Nat.le_of_ble_eq_true rfl), (Nat.le_of_ble_eq_true rfl)⟩ rfl rfl rfl rfl rfl dX0_luckOf_2 ?_
  refine z_aload_n C 0 dX0_luckOf_5 rfl rfl ?_
  refine z_get0 (v := .ref (hh 1)) C inl 0 0 (by decide) rfl rfl wd0 dX0_luckOf_6 ?_
  refine z_iload_n C 1 dX0_luckOf_9 rfl rfl ?_
  refine z_iald (f := xl v) C 1 0 rfl rfl j rfl (by omega) (by decide) dX0_luckOf_10 ?_
  exact z_iret C hr hlocks (Nat.le_of_ble_eq_true rfl) (Nat.le_of_ble_eq_true rfl) dX0_luckOf_11 (by rfl) rfl
set_option maxHeartbeats 4000000 in
set_option maxRecDepth 100000 in
theorem c_X0_arrearsOf (l : Launch) (D : va_G) (hh : Nat → Nat) (cI cZ : ClassId) (v : S0) (j : Nat) (hj : j < xn v) (hn : xn v ≤ 8) : zM l yX0_arrearsOf wsX0_arrearsOf 1 21 0 0 [.ref (hh 0), .int (nI j)] [(cI, .int), (cZ, .boolean)] D (wX0 hh cI cZ v) (wX0 hh cI cZ v) (some (.int (xa v j))) := by
  refine z_met (cc := cX0_arrearsOf) (maxL := 2) (ret := (some .int)) (by decide) rfl (Nat.le_of_ble_eq_true rfl) ?_
  intro p e s m args below meth c A C hr hlocks
  have inl : ∀ w ∈ u_ws RX0 TX0 14, w ∈ wsX0_arrearsOf := by decide +kernel
  have wd0 : Cond.fieldLink RX0 13 "SaltOrder" "arrears" "[I" ∈ wsX0_arrearsOf := by decide +kernel
  refine z_sub (L' := [(0, .ref (hh 0)), (1, .int (nI j))]) [0, 1] rfl ?_
  refine z_aload_n C 0 dX0_arrearsOf_0 rfl rfl ?_
  refine z_iload_n C 1 dX0_arrearsOf_1 rfl rfl ?_
  refine z_callV (w := (wX0 hh cI cZ v)) (w' := (wX0 hh cI cZ v)) (w1 := ([] : va_W)) (w2 := ([] : va_W)) (ws' := (wX0 hh cI cZ v)) (As := [.int (nI j)]) (rest := []) (st' := []) (rv := none) C (c_X0_checkMember l D hh cI cZ v j (by omega) (by omega)) (cwV 1 C.words gX0_arrearsOf_X0_checkMember rfl rfl rfl (by decide +kernel) ⟨(Nat.le_of_ble_eq_true rfl), (Nat.le_of_ble_eq_true rfl)⟩) (q0 := 0) (ci := 0) rfl rfl rfl [0, 1] rfl rfl (Nat.le_of_ble_eq_true rfl) ⟨(Nat.le_of_ble_eq_true rfl), (Nat.le_of_ble_eq_true rfl)⟩ rfl rfl rfl rfl rfl dX0_arrearsOf_2 ?_
  refine z_aload_n C 0 dX0_arrearsOf_5 rfl rfl ?_
  refine z_get0 (v := .ref (hh 2)) C inl 0 1 (by decide) rfl rfl wd0 dX0_arrearsOf_6 ?_
  refine z_iload_n C 1 dX0_arrearsOf_9 rfl rfl ?_
  refine z_iald (f := xa v) C 2 0 rfl rfl j rfl (by omega) (by decide) dX0_arrearsOf_10 ?_
  exact z_iret C hr hlocks (Nat.le_of_ble_eq_true rfl) (Nat.le_of_ble_eq_true rfl) dX0_arrearsOf_11 (by rfl) rfl
set_option maxHeartbeats 4000000 in
set_option maxRecDepth 100000 in
theorem c_X0_lumpsOf (l : Launch) (D : va_G) (hh : Nat → Nat) (cI cZ : ClassId) (v : S0) (j : Nat) (hj : j < xn v) (hn : xn v ≤ 8) : zM l yX0_lumpsOf wsX0_lumpsOf 1 21 0 0 [.ref (hh 0), .int (nI j)] [(cI, .int), (cZ, .boolean)] D (wX0 hh cI cZ v) (wX0 hh cI cZ v) (some (.int (xe v j))) := by
  refine z_met (cc := cX0_lumpsOf) (maxL := 2) (ret := (some .int)) (by decide) rfl (Nat.le_of_ble_eq_true rfl) ?_
  intro p e s m args below meth c A C hr hlocks
  have inl : ∀ w ∈ u_ws RX0 TX0 14, w ∈ wsX0_lumpsOf := by decide +kernel
  have wd0 : Cond.fieldLink RX0 16 "SaltOrder" "toEat" "[I" ∈ wsX0_lumpsOf := by decide +kernel
  refine z_sub (L' := [(0, .ref (hh 0)), (1, .int (nI j))]) [0, 1] rfl ?_
  refine z_aload_n C 0 dX0_lumpsOf_0 rfl rfl ?_
  refine z_iload_n C 1 dX0_lumpsOf_1 rfl rfl ?_
  refine z_callV (w := (wX0 hh cI cZ v)) (w' := (wX0 hh cI cZ v)) (w1 := ([] : va_W)) (w2 := ([] : va_W)) (ws' := (wX0 hh cI cZ v)) (As := [.int (nI j)]) (rest := []) (st' := []) (rv := none) C (c_X0_checkMember l D hh cI cZ v j (by omega) (by omega)) (cwV 1 C.words gX0_lumpsOf_X0_checkMember rfl rfl rfl (by decide +kernel) ⟨(Nat.le_of_ble_eq_true rfl), (Nat.le_of_ble_eq_true rfl)⟩) (q0 := 0) (ci := 0) rfl rfl rfl [0, 1] rfl rfl (Nat.le_of_ble_eq_true rfl) ⟨(Nat.le_of_ble_eq_true rfl), (Nat.le_of_ble_eq_true rfl)⟩ rfl rfl rfl rfl rfl dX0_lumpsOf_2 ?_
  refine z_aload_n C 0 dX0_lumpsOf_5 rfl rfl ?_
  refine z_get0 (v := .ref (hh 3)) C inl 0 2 (by decide) rfl rfl wd0 dX0_lumpsOf_6 ?_
  refine z_iload_n C 1 dX0_lumpsOf_9 rfl rfl ?_
  refine z_iald (f := xe v) C 3 0 rfl rfl j rfl (by omega) (by decide) dX0_lumpsOf_10 ?_
  exact z_iret C hr hlocks (Nat.le_of_ble_eq_true rfl) (Nat.le_of_ble_eq_true rfl) dX0_lumpsOf_11 (by rfl) rfl
set_option maxHeartbeats 4000000 in
set_option maxRecDepth 100000 in
theorem c_X0_memberOf (l : Launch) (D : va_G) (hh : Nat → Nat) (cI cZ : ClassId) (v : S0) (j : Nat) (hj : j < xk v) (hk : xk v ≤ 30) : zM l yX0_memberOf wsX0_memberOf 1 21 0 0 [.ref (hh 0), .int (nI j)] [(cI, .int), (cZ, .boolean)] D (wX0 hh cI cZ v) (wX0 hh cI cZ v) (some (.int (xw v j))) := by
  refine z_met (cc := cX0_memberOf) (maxL := 2) (ret := (some .int)) (by decide) rfl (Nat.le_of_ble_eq_true rfl) ?_
  intro p e s m args below meth c A C hr hlocks
  have inl : ∀ w ∈ u_ws RX0 TX0 14, w ∈ wsX0_memberOf := by decide +kernel
  have wd0 : Cond.fieldLink RX0 19 "SaltOrder" "throwers" "[I" ∈ wsX0_memberOf := by decide +kernel
  refine z_sub (L' := [(0, .ref (hh 0)), (1, .int (nI j))]) [0, 1] rfl ?_
  refine z_aload_n C 0 dX0_memberOf_0 rfl rfl ?_
  refine z_iload_n C 1 dX0_memberOf_1 rfl rfl ?_
  refine z_callV (w := (wX0 hh cI cZ v)) (w' := (wX0 hh cI cZ v)) (w1 := ([] : va_W)) (w2 := ([] : va_W)) (ws' := (wX0 hh cI cZ v)) (As := [.int (nI j)]) (rest := []) (st' := []) (rv := none) C (c_X0_checkEntry l D hh cI cZ v j (by omega) (by omega)) (cwV 1 C.words gX0_memberOf_X0_checkEntry rfl rfl rfl (by decide +kernel) ⟨(Nat.le_of_ble_eq_true rfl), (Nat.le_of_ble_eq_true rfl)⟩) (q0 := 0) (ci := 0) rfl rfl rfl [0, 1] rfl rfl (Nat.le_of_ble_eq_true rfl) ⟨(Nat.le_of_ble_eq_true rfl), (Nat.le_of_ble_eq_true rfl)⟩ rfl rfl rfl rfl rfl dX0_memberOf_2 ?_
  refine z_aload_n C 0 dX0_memberOf_5 rfl rfl ?_
  refine z_get0 (v := .ref (hh 4)) C inl 0 4 (by decide) rfl rfl wd0 dX0_memberOf_6 ?_
  refine z_iload_n C 1 dX0_memberOf_9 rfl rfl ?_
  refine z_iald (f := xw v) C 4 0 rfl rfl j rfl (by omega) (by decide) dX0_memberOf_10 ?_
  exact z_iret C hr hlocks (Nat.le_of_ble_eq_true rfl) (Nat.le_of_ble_eq_true rfl) dX0_memberOf_11 (by rfl) rfl
set_option maxHeartbeats 4000000 in
set_option maxRecDepth 100000 in
theorem c_X0_grainsOf (l : Launch) (D : va_G) (hh : Nat → Nat) (cI cZ : ClassId) (v : S0) (j : Nat) (hj : j < xk v) (hk : xk v ≤ 30) : zM l yX0_grainsOf wsX0_grainsOf 1 21 0 0 [.ref (hh 0), .int (nI j)] [(cI, .int), (cZ, .boolean)] D (wX0 hh cI cZ v) (wX0 hh cI cZ v) (some (.int (xg v j))) := by
  refine z_met (cc := cX0_grainsOf) (maxL := 2) (ret := (some .int)) (by decide) rfl (Nat.le_of_ble_eq_true rfl) ?_
  intro p e s m args below meth c A C hr hlocks
  have inl : ∀ w ∈ u_ws RX0 TX0 14, w ∈ wsX0_grainsOf := by decide +kernel
  have wd0 : Cond.fieldLink RX0 26 "SaltOrder" "thrown" "[I" ∈ wsX0_grainsOf := by decide +kernel
  refine z_sub (L' := [(0, .ref (hh 0)), (1, .int (nI j))]) [0, 1] rfl ?_
  refine z_aload_n C 0 dX0_grainsOf_0 rfl rfl ?_
  refine z_iload_n C 1 dX0_grainsOf_1 rfl rfl ?_
  refine z_callV (w := (wX0 hh cI cZ v)) (w' := (wX0 hh cI cZ v)) (w1 := ([] : va_W)) (w2 := ([] : va_W)) (ws' := (wX0 hh cI cZ v)) (As := [.int (nI j)]) (rest := []) (st' := []) (rv := none) C (c_X0_checkEntry l D hh cI cZ v j (by omega) (by omega)) (cwV 1 C.words gX0_grainsOf_X0_checkEntry rfl rfl rfl (by decide +kernel) ⟨(Nat.le_of_ble_eq_true rfl), (Nat.le_of_ble_eq_true rfl)⟩) (q0 := 0) (ci := 0) rfl rfl rfl [0, 1] rfl rfl (Nat.le_of_ble_eq_true rfl) ⟨(Nat.le_of_ble_eq_true rfl), (Nat.le_of_ble_eq_true rfl)⟩ rfl rfl rfl rfl rfl dX0_grainsOf_2 ?_
  refine z_aload_n C 0 dX0_grainsOf_5 rfl rfl ?_
  refine z_get0 (v := .ref (hh 6)) C inl 0 6 (by decide) rfl rfl wd0 dX0_grainsOf_6 ?_
  refine z_iload_n C 1 dX0_grainsOf_9 rfl rfl ?_
  refine z_iald (f := xg v) C 6 0 rfl rfl j rfl (by omega) (by decide) dX0_grainsOf_10 ?_
  exact z_iret C hr hlocks (Nat.le_of_ble_eq_true rfl) (Nat.le_of_ble_eq_true rfl) dX0_grainsOf_11 (by rfl) rfl
set_option maxHeartbeats 4000000 in
set_option maxRecDepth 100000 in
theorem c_X0_excessOf (l : Launch) (D : va_G) (hh : Nat → Nat) (cI cZ : ClassId) (v : S0) (j : Nat) (hj : j < xk v) (hk : xk v ≤ 30) : zM l yX0_excessOf wsX0_excessOf 1 21 0 0 [.ref (hh 0), .int (nI j)] [(cI, .int), (cZ, .boolean)] D (wX0 hh cI cZ v) (wX0 hh cI cZ v) (some (.int (xx v j))) := by
  refine z_met (cc := cX0_excessOf) (maxL := 2) (ret := (some .int)) (by decide) rfl (Nat.le_of_ble_eq_true rfl) ?_
  intro p e s m args below meth c A C hr hlocks
  have inl : ∀ w ∈ u_ws RX0 TX0 14, w ∈ wsX0_excessOf := by decide +kernel
  have wd0 : Cond.fieldLink RX0 29 "SaltOrder" "excesses" "[I" ∈ wsX0_excessOf := by decide +kernel
  refine z_sub (L' := [(0, .ref (hh 0)), (1, .int (nI j))]) [0, 1] rfl ?_
  refine z_aload_n C 0 dX0_excessOf_0 rfl rfl ?_
  refine z_iload_n C 1 dX0_excessOf_1 rfl rfl ?_
  refine z_callV (w := (wX0 hh cI cZ v)) (w' := (wX0 hh cI cZ v)) (w1 := ([] : va_W)) (w2 := ([] : va_W)) (ws' := (wX0 hh cI cZ v)) (As := [.int (nI j)]) (rest := []) (st' := []) (rv := none) C (c_X0_checkEntry l D hh cI cZ v j (by omega) (by omega)) (cwV 1 C.words gX0_excessOf_X0_checkEntry rfl rfl rfl (by decide +kernel) ⟨(Nat.le_of_ble_eq_true rfl), (Nat.le_of_ble_eq_true rfl)⟩) (q0 := 0) (ci := 0) rfl rfl rfl [0, 1] rfl rfl (Nat.le_of_ble_eq_true rfl) ⟨(Nat.le_of_ble_eq_true rfl), (Nat.le_of_ble_eq_true rfl)⟩ rfl rfl rfl rfl rfl dX0_excessOf_2 ?_
  refine z_aload_n C 0 dX0_excessOf_5 rfl rfl ?_
  refine z_get0 (v := .ref (hh 7)) C inl 0 7 (by decide) rfl rfl wd0 dX0_excessOf_6 ?_
  refine z_iload_n C 1 dX0_excessOf_9 rfl rfl ?_
  refine z_iald (f := xx v) C 7 0 rfl rfl j rfl (by omega) (by decide) dX0_excessOf_10 ?_
  exact z_iret C hr hlocks (Nat.le_of_ble_eq_true rfl) (Nat.le_of_ble_eq_true rfl) dX0_excessOf_11 (by rfl) rfl
set_option maxHeartbeats 4000000 in
set_option maxRecDepth 100000 in
theorem c_X0_isLeft (l : Launch) (D : va_G) (hh : Nat → Nat) (cI cZ : ClassId) (v : S0) (j : Nat) (hj : j < xk v) (hk : xk v ≤ 30) (hf : xf v j = 0 ∨ xf v j = 1) : zM l yX0_isLeft wsX0_isLeft 1 21 0 0 [.ref (hh 0), .int (nI j)] [(cI, .int), (cZ, .boolean)] D (wX0 hh cI cZ v) (wX0 hh cI cZ v) (some (.int (xf v j))) := by
  refine z_met (cc := cX0_isLeft) (maxL := 2) (ret := (some .boolean)) (by decide) rfl (Nat.le_of_ble_eq_true rfl) ?_
  intro p e s m args below meth c A C hr hlocks
  have inl : ∀ w ∈ u_ws RX0 TX0 14, w ∈ wsX0_isLeft := by decide +kernel
  have wd0 : Cond.fieldLink RX0 22 "SaltOrder" "lefts" "[Z" ∈ wsX0_isLeft := by decide +kernel
  refine z_sub (L' := [(0, .ref (hh 0)), (1, .int (nI j))]) [0, 1] rfl ?_
  refine z_aload_n C 0 dX0_isLeft_0 rfl rfl ?_
  refine z_iload_n C 1 dX0_isLeft_1 rfl rfl ?_
  refine z_callV (w := (wX0 hh cI cZ v)) (w' := (wX0 hh cI cZ v)) (w1 := ([] : va_W)) (w2 := ([] : va_W)) (ws' := (wX0 hh cI cZ v)) (As := [.int (nI j)]) (rest := []) (st' := []) (rv := none) C (c_X0_checkEntry l D hh cI cZ v j (by omega) (by omega)) (cwV 1 C.words gX0_isLeft_X0_checkEntry rfl rfl rfl (by decide +kernel) ⟨(Nat.le_of_ble_eq_true rfl), (Nat.le_of_ble_eq_true rfl)⟩) (q0 := 0) (ci := 0) rfl rfl rfl [0, 1] rfl rfl (Nat.le_of_ble_eq_true rfl) ⟨(Nat.le_of_ble_eq_true rfl), (Nat.le_of_ble_eq_true rfl)⟩ rfl rfl rfl rfl rfl dX0_isLeft_2 ?_
  refine z_aload_n C 0 dX0_isLeft_5 rfl rfl ?_
  refine z_get0 (v := .ref (hh 5)) C inl 0 5 (by decide) rfl rfl wd0 dX0_isLeft_6 ?_
  refine z_iload_n C 1 dX0_isLeft_9 rfl rfl ?_
  refine z_zald (f := xf v) C 5 1 rfl rfl j rfl (by omega) (by decide) dX0_isLeft_10 ?_
  exact z_zret C hr hlocks (Nat.le_of_ble_eq_true rfl) (Nat.le_of_ble_eq_true rfl) hf dX0_isLeft_11 (by rfl) rfl
set_option maxHeartbeats 4000000 in
set_option maxRecDepth 100000 in
theorem c_X0_dailyLoss (l : Launch) (D : va_G) (hh : Nat → Nat) (cI cZ : ClassId) (v : S0) (j : Nat) (hj : j < xn v) (hn : xn v ≤ 8) : zM l yX0_dailyLoss wsX0_dailyLoss 1 21 0 0 [.ref (hh 0), .int (nI j)] [(cI, .int), (cZ, .boolean)] D (wX0 hh cI cZ v) (wX0 hh cI cZ v) (some (.int (xloss v j))) := by
  refine z_met (cc := cX0_dailyLoss) (maxL := 2) (ret := (some .int)) (by decide) rfl (Nat.le_of_ble_eq_true rfl) ?_
  intro p e s m args below meth c A C hr hlocks
  have inl : ∀ w ∈ u_ws RX0 TX0 14, w ∈ wsX0_dailyLoss := by decide +kernel
  refine z_sub (L' := [(0, .ref (hh 0)), (1, .int (nI j))]) [0, 1] rfl ?_
  refine z_aload_n C 0 dX0_dailyLoss_0 rfl rfl ?_
  refine z_iload_n C 1 dX0_dailyLoss_1 rfl rfl ?_
  refine z_callV (w := (wX0 hh cI cZ v)) (w' := (wX0 hh cI cZ v)) (w1 := ([] : va_W)) (w2 := ([] : va_W)) (ws' := (wX0 hh cI cZ v)) (As := [.int (nI j)]) (rest := []) (st' := []) (rv := none) C (c_X0_checkMember l D hh cI cZ v j (by omega) (by omega)) (cwV 1 C.words gX0_dailyLoss_X0_checkMember rfl rfl rfl (by decide +kernel) ⟨(Nat.le_of_ble_eq_true rfl), (Nat.le_of_ble_eq_true rfl)⟩) (q0 := 0) (ci := 0) rfl rfl rfl [0, 1] rfl rfl (Nat.le_of_ble_eq_true rfl) ⟨(Nat.le_of_ble_eq_true rfl), (Nat.le_of_ble_eq_true rfl)⟩ rfl rfl rfl rfl rfl dX0_dailyLoss_2 ?_
  refine z_aload_n C 0 dX0_dailyLoss_5 rfl rfl ?_
  refine z_iload_n C 1 dX0_dailyLoss_6 rfl rfl ?_
  refine z_callV (w := (wX0 hh cI cZ v)) (w' := (wX0 hh cI cZ v)) (w1 := ([] : va_W)) (w2 := ([] : va_W)) (ws' := (wX0 hh cI cZ v)) (As := [.int (nI j)]) (rest := []) (st' := [.int (xloss v j)]) (rv := some (.int (xloss v j))) C (c_X0_lossOf l D hh cI cZ v j (by omega)) (cwV 1 C.words gX0_dailyLoss_X0_lossOf rfl rfl rfl (by decide +kernel) ⟨(Nat.le_of_ble_eq_true rfl), (Nat.le_of_ble_eq_true rfl)⟩) (q0 := 0) (ci := 0) rfl rfl rfl [0, 1] rfl rfl (Nat.le_of_ble_eq_true rfl) ⟨(Nat.le_of_ble_eq_true rfl), (Nat.le_of_ble_eq_true rfl)⟩ rfl rfl rfl rfl rfl dX0_dailyLoss_7 ?_
  exact z_iret C hr hlocks (Nat.le_of_ble_eq_true rfl) (Nat.le_of_ble_eq_true rfl) dX0_dailyLoss_10 rfl rfl
set_option maxHeartbeats 4000000 in
set_option maxRecDepth 100000 in
theorem c_X0_arrearsByAudit (l : Launch) (D : va_G) (hh : Nat → Nat) (cI cZ : ClassId) (v : S0) (j : Nat) (hj : j < xn v) (hn : xn v ≤ 8) (hk : xk v ≤ 30) : zM l yX0_arrearsByAudit wsX0_arrearsByAudit 1 23 0 0 [.ref (hh 0), .int (nI j)] [(cI, .int), (cZ, .boolean)] D (wX0 hh cI cZ v) (wX0 hh cI cZ v) (some (.int (xdebt v (nI j)))) := by
  refine z_met (cc := cX0_arrearsByAudit) (maxL := 2) (ret := (some .int)) (by decide) rfl (Nat.le_of_ble_eq_true rfl) ?_
  intro p e s m args below meth c A C hr hlocks
  have inl : ∀ w ∈ u_ws RX0 TX0 14, w ∈ wsX0_arrearsByAudit := by decide +kernel
  refine z_sub (L' := [(0, .ref (hh 0)), (1, .int (nI j))]) [0, 1] rfl ?_
  refine z_aload_n C 0 dX0_arrearsByAudit_0 rfl rfl ?_
  refine z_iload_n C 1 dX0_arrearsByAudit_1 rfl rfl ?_
  refine z_callV (w := (wX0 hh cI cZ v)) (w' := (wX0 hh cI cZ v)) (w1 := ([] : va_W)) (w2 := ([] : va_W)) (ws' := (wX0 hh cI cZ v)) (As := [.int (nI j)]) (rest := []) (st' := []) (rv := none) C (c_X0_checkMember l D hh cI cZ v j (by omega) (by omega)) (cwV 1 C.words gX0_arrearsByAudit_X0_checkMember rfl rfl rfl (by decide +kernel) ⟨(Nat.le_of_ble_eq_true rfl), (Nat.le_of_ble_eq_true rfl)⟩) (q0 := 0) (ci := 0) rfl rfl rfl [0, 1] rfl rfl (Nat.le_of_ble_eq_true rfl) ⟨(Nat.le_of_ble_eq_true rfl), (Nat.le_of_ble_eq_true rfl)⟩ rfl rfl rfl rfl rfl dX0_arrearsByAudit_2 ?_
  refine z_aload_n C 0 dX0_arrearsByAudit_5 rfl rfl ?_
  refine z_iload_n C 1 dX0_arrearsByAudit_6 rfl rfl ?_
  refine z_callV (w := (wX0 hh cI cZ v)) (w' := (wX0 hh cI cZ v)) (w1 := ([] : va_W)) (w2 := ([] : va_W)) (ws' := (wX0 hh cI cZ v)) (As := [.int (nI j)]) (rest := []) (st' := [.int (xdebt v (nI j))]) (rv := some (.int (xdebt v (nI j)))) C (c_X0_debtOf l D hh cI cZ v (nI j) (by omega)) (cwV 1 C.words gX0_arrearsByAudit_X0_debtOf rfl rfl rfl (by decide +kernel) ⟨(Nat.le_of_ble_eq_true rfl), (Nat.le_of_ble_eq_true rfl)⟩) (q0 := 0) (ci := 0) rfl rfl rfl [0, 1] rfl rfl (Nat.le_of_ble_eq_true rfl) ⟨(Nat.le_of_ble_eq_true rfl), (Nat.le_of_ble_eq_true rfl)⟩ rfl rfl rfl rfl rfl dX0_arrearsByAudit_7 ?_
  exact z_iret C hr hlocks (Nat.le_of_ble_eq_true rfl) (Nat.le_of_ble_eq_true rfl) dX0_arrearsByAudit_10 rfl rfl
set_option maxHeartbeats 4000000 in
set_option maxRecDepth 100000 in
theorem c_X0_luckiest (l : Launch) (D : va_G) (hh : Nat → Nat) (cI cZ : ClassId) (v : S0) (hn : xn v ≤ 8) : zM l yX0_luckiest wsX0_luckiest 0 0 0 0 [.ref (hh 0)] [(cI, .int), (cZ, .boolean)] D (wX0 hh cI cZ v) (wX0 hh cI cZ v) (some (.int ((lukN (xl v) (xn v)).1))) := by
  refine z_met (cc := cX0_luckiest) (maxL := 4) (ret := (some .int)) (by decide) rfl (Nat.le_of_ble_eq_true rfl) ?_
  intro p e s m args below meth c A C hr hlocks
  have inl : ∀ w ∈ u_ws RX0 TX0 14, w ∈ wsX0_luckiest := by decide +kernel
  have wd0 : Cond.fieldLink RX0 32 "SaltOrder" "memberCount" "I" ∈ wsX0_luckiest := by decide +kernel
  have wd1 : Cond.fieldLink RX0 9 "SaltOrder" "luck" "[I" ∈ wsX0_luckiest := by decide +kernel
  refine z_sub (L' := [(0, .ref (hh 0))]) [0] rfl ?_
  have lp6 : ∀ (dd i : Nat), i + dd = xn v → zG p l e ({ frames := 0, cells := 0, slots := 0, locals := 0 } : Room) s m args below meth c D 4 A 0 0 (MQ below (zQ (some (.int ((lukN (xl v) (xn v)).1))) (fun t => va_P D vwCl (wX0 hh cI cZ v) t.heap) A) args s 0 0 A) 6 [(0, .ref (hh 0)), (1, .int ((lukN (xl v) i).1)), (2, .int ((lukN (xl v) i).2)), (3, .int (nI i))] [] (wX0 hh cI cZ v) := by
    intro dd
    induction dd with
    | zero =>
      intro i hi
      have hi : i = xn v := by omega
      subst hi
      refine z_iload_n C 3 dX0_luckiest_6 rfl rfl ?_
      refine z_aload_n C 0 dX0_luckiest_7 rfl rfl ?_
      refine z_get0 (v := .int (nI (xn v))) C inl 0 3 (by decide) rfl rfl wd0 dX0_luckiest_8 ?_
      refine z_icmp_ge (tgt := 39) C dX0_luckiest_11 (by decide) (fun _ => ?_) (fun h9 => absurd (nI_le (by omega) (by omega)) h9)
      refine z_iload_n C 1 dX0_luckiest_39 rfl rfl ?_
      exact z_iret C hr hlocks (Nat.le_of_ble_eq_true rfl) (Nat.le_of_ble_eq_true rfl) dX0_luckiest_40 rfl rfl
    | succ dd ih =>
      intro i hi
      refine z_iload_n C 3 dX0_luckiest_6 rfl rfl ?_
      refine z_aload_n C 0 dX0_luckiest_7 rfl rfl ?_
      refine z_get0 (v := .int (nI (xn v))) C inl 0 3 (by decide) rfl rfl wd0 dX0_luckiest_8 ?_
      refine z_icmp_ge (tgt := 39) C dX0_luckiest_11 (by decide) (fun h9 => absurd h9 (nI_ge (by omega) (by omega))) (fun _ => ?_)
      refine z_aload_n C 0 dX0_luckiest_14 rfl rfl ?_
      refine z_get0 (v := .ref (hh 1)) C inl 0 0 (by decide) rfl rfl wd1 dX0_luckiest_15 ?_
      refine z_iload_n C 3 dX0_luckiest_18 rfl rfl ?_
      refine z_iald (f := xl v) C 1 0 rfl rfl i rfl (by omega) (by decide) dX0_luckiest_19 ?_
      refine z_iload_n C 2 dX0_luckiest_20 rfl rfl ?_
      refine z_icmp_le (tgt := 33) C dX0_luckiest_21 (by decide) (fun c21 => ?_) (fun c21 => ?_)
      · skip
        refine z_iinc (v := nI (i + 1)) (L' := [(3, .int (nI (i + 1))), (0, .ref (hh 0)), (1, .int ((lukN (xl v) i).1)), (2, .int ((lukN (xl v) i).2))]) C 3 dX0_luckiest_33 rfl (z_inc _) (by decide) rfl ?_
        refine z_goto (tgt := 6) C dX0_luckiest_36 (by decide) ?_
        refine z_sub (L' := [(0, .ref (hh 0)), (1, .int ((lukN (xl v) i).1)), (2, .int ((lukN (xl v) i).2)), (3, .int (nI (i + 1)))]) [1, 2, 3, 0] rfl ?_
        exact (by have e9 := ih (i + 1) (by omega); simp only [lukN, c21, ↓reduceIte] at e9; exact e9)
      · skip
        refine z_iload_n C 3 dX0_luckiest_24 rfl rfl ?_
        refine z_istore_n (L' := [(1, .int (nI i)), (0, .ref (hh 0)), (2, .int ((lukN (xl v) i).2)), (3, .int (nI i))]) C dX0_luckiest_25 rfl (by decide) rfl ?_
        refine z_aload_n C 1 dX0_luckiest_26 rfl rfl ?_
        refine z_get0 (v := .ref (hh 1)) C inl 0 0 (by decide) rfl rfl wd1 dX0_luckiest_27 ?_
        refine z_iload_n C 3 dX0_luckiest_30 rfl rfl ?_
        refine z_iald (f := xl v) C 1 0 rfl rfl i rfl (by omega) (by decide) dX0_luckiest_31 ?_
        refine z_istore_n (L' := [(2, .int ((xl v) i)), (1, .int (nI i)), (0, .ref (hh 0)), (3, .int (nI i))]) C dX0_luckiest_32 rfl (by decide) rfl ?_
        refine z_iinc (v := nI (i + 1)) (L' := [(3, .int (nI (i + 1))), (2, .int ((xl v) i)), (1, .int (nI i)), (0, .ref (hh 0))]) C 3 dX0_luckiest_33 rfl (z_inc _) (by decide) rfl ?_
        refine z_goto (tgt := 6) C dX0_luckiest_36 (by decide) ?_
        refine z_sub (L' := [(0, .ref (hh 0)), (1, .int (nI i)), (2, .int ((xl v) i)), (3, .int (nI (i + 1)))]) [3, 2, 1, 0] rfl ?_
        exact (by have e9 := ih (i + 1) (by omega); simp only [lukN, c21, ↓reduceIte] at e9; exact e9)
  refine z_iconst (v := -1) C dX0_luckiest_0 (by decide) ?_
  refine z_istore_n (L' := [(1, .int (-1)), (0, .ref (hh 0))]) C dX0_luckiest_1 rfl (by decide) rfl ?_
  refine z_iconst (v := -1) C dX0_luckiest_2 (by decide) ?_
  refine z_istore_n (L' := [(2, .int (-1)), (1, .int (-1)), (0, .ref (hh 0))]) C dX0_luckiest_3 rfl (by decide) rfl ?_
  refine z_iconst (v := 0) C dX0_luckiest_4 (by decide) ?_
  refine z_istore_n (L' := [(3, .int 0), (2, .int (-1)), (1, .int (-1)), (0, .ref (hh 0))]) C dX0_luckiest_5 rfl (by decide) rfl ?_
  refine z_sub (L' := [(0, .ref (hh 0)), (1, .int (-1)), (2, .int (-1)), (3, .int 0)]) [3, 2, 1, 0] rfl ?_
  exact lp6 (xn v) 0 (by omega)
set_option maxHeartbeats 4000000 in
set_option maxRecDepth 100000 in
theorem c_X0_allArrears (l : Launch) (D : va_G) (hh : Nat → Nat) (cI cZ : ClassId) (v : S0) (hn : xn v ≤ 8) : zM l yX0_allArrears wsX0_allArrears 0 0 0 0 [.ref (hh 0)] [(cI, .int), (cZ, .boolean)] D (wX0 hh cI cZ v) (wX0 hh cI cZ v) (some (.int (sumI (xa v) (xn v)))) := by
  refine z_met (cc := cX0_allArrears) (maxL := 3) (ret := (some .int)) (by decide) rfl (Nat.le_of_ble_eq_true rfl) ?_
  intro p e s m args below meth c A C hr hlocks
  have inl : ∀ w ∈ u_ws RX0 TX0 14, w ∈ wsX0_allArrears := by decide +kernel
  have wd0 : Cond.fieldLink RX0 32 "SaltOrder" "memberCount" "I" ∈ wsX0_allArrears := by decide +kernel
  have wd1 : Cond.fieldLink RX0 13 "SaltOrder" "arrears" "[I" ∈ wsX0_allArrears := by decide +kernel
  refine z_sub (L' := [(0, .ref (hh 0))]) [0] rfl ?_
  have lp4 : ∀ (dd i : Nat), i + dd = xn v → zG p l e ({ frames := 0, cells := 0, slots := 0, locals := 0 } : Room) s m args below meth c D 3 A 0 0 (MQ below (zQ (some (.int (sumI (xa v) (xn v)))) (fun t => va_P D vwCl (wX0 hh cI cZ v) t.heap) A) args s 0 0 A) 4 [(0, .ref (hh 0)), (1, .int (sumI (xa v) i)), (2, .int (nI i))] [] (wX0 hh cI cZ v) := by
    intro dd
    induction dd with
    | zero =>
      intro i hi
      have hi : i = xn v := by omega
      subst hi
      refine z_iload_n C 2 dX0_allArrears_4 rfl rfl ?_
      refine z_aload_n C 0 dX0_allArrears_5 rfl rfl ?_
      refine z_get0 (v := .int (nI (xn v))) C inl 0 3 (by decide) rfl rfl wd0 dX0_allArrears_6 ?_
      refine z_icmp_ge (tgt := 27) C dX0_allArrears_9 (by decide) (fun _ => ?_) (fun h9 => absurd (nI_le (by omega) (by omega)) h9)
      refine z_iload_n C 1 dX0_allArrears_27 rfl rfl ?_
      exact z_iret C hr hlocks (Nat.le_of_ble_eq_true rfl) (Nat.le_of_ble_eq_true rfl) dX0_allArrears_28 rfl rfl
    | succ dd ih =>
      intro i hi
      refine z_iload_n C 2 dX0_allArrears_4 rfl rfl ?_
      refine z_aload_n C 0 dX0_allArrears_5 rfl rfl ?_
      refine z_get0 (v := .int (nI (xn v))) C inl 0 3 (by decide) rfl rfl wd0 dX0_allArrears_6 ?_
      refine z_icmp_ge (tgt := 27) C dX0_allArrears_9 (by decide) (fun h9 => absurd h9 (nI_ge (by omega) (by omega))) (fun _ => ?_)
      refine z_iload_n C 1 dX0_allArrears_12 rfl rfl ?_
      refine z_aload_n C 0 dX0_allArrears_13 rfl rfl ?_
      refine z_get0 (v := .ref (hh 2)) C inl 0 1 (by decide) rfl rfl wd1 dX0_allArrears_14 ?_
      refine z_iload_n C 2 dX0_allArrears_17 rfl rfl ?_
      refine z_iald (f := xa v) C 2 0 rfl rfl i rfl (by omega) (by decide) dX0_allArrears_18 ?_
      refine z_iadd C dX0_allArrears_19 ?_
      refine z_istore_n (L' := [(1, .int ((sumI (xa v) i) + ((xa v) i))), (0, .ref (hh 0)), (2, .int (nI i))]) C dX0_allArrears_20 rfl (by decide) rfl ?_
      refine z_iinc (v := nI (i + 1)) (L' := [(2, .int (nI (i + 1))), (1, .int ((sumI (xa v) i) + ((xa v) i))), (0, .ref (hh 0))]) C 2 dX0_allArrears_21 rfl (z_inc _) (by decide) rfl ?_
      refine z_goto (tgt := 4) C dX0_allArrears_24 (by decide) ?_
      refine z_sub (L' := [(0, .ref (hh 0)), (1, .int ((sumI (xa v) i) + ((xa v) i))), (2, .int (nI (i + 1)))]) [2, 1, 0] rfl ?_
      exact ih (i + 1) (by omega)
  refine z_iconst (v := 0) C dX0_allArrears_0 (by decide) ?_
  refine z_istore_n (L' := [(1, .int 0), (0, .ref (hh 0))]) C dX0_allArrears_1 rfl (by decide) rfl ?_
  refine z_iconst (v := 0) C dX0_allArrears_2 (by decide) ?_
  refine z_istore_n (L' := [(2, .int 0), (1, .int 0), (0, .ref (hh 0))]) C dX0_allArrears_3 rfl (by decide) rfl ?_
  refine z_sub (L' := [(0, .ref (hh 0)), (1, .int 0), (2, .int 0)]) [2, 1, 0] rfl ?_
  exact lp4 (xn v) 0 (by omega)
set_option maxHeartbeats 4000000 in
set_option maxRecDepth 100000 in
theorem c_X0_clearMembers (l : Launch) (D : va_G) (hh : Nat → Nat) (cI cZ : ClassId) (v : S0) (hn : xn v ≤ 8) : zM l yX0_clearMembers wsX0_clearMembers 0 0 0 0 [.ref (hh 0)] [(cI, .int), (cZ, .boolean)] D (wX0 hh cI cZ v) (wX0 hh cI cZ v) (some (.int (clrI (xa v) (xn v)))) := by
  refine z_met (cc := cX0_clearMembers) (maxL := 3) (ret := (some .int)) (by decide) rfl (Nat.le_of_ble_eq_true rfl) ?_
  intro p e s m args below meth c A C hr hlocks
  have inl : ∀ w ∈ u_ws RX0 TX0 14, w ∈ wsX0_clearMembers := by decide +kernel
  have wd0 : Cond.fieldLink RX0 32 "SaltOrder" "memberCount" "I" ∈ wsX0_clearMembers := by decide +kernel
  have wd1 : Cond.fieldLink RX0 13 "SaltOrder" "arrears" "[I" ∈ wsX0_clearMembers := by decide +kernel
  refine z_sub (L' := [(0, .ref (hh 0))]) [0] rfl ?_
  have lp4 : ∀ (dd i : Nat), i + dd = xn v → zG p l e ({ frames := 0, cells := 0, slots := 0, locals := 0 } : Room) s m args below meth c D 3 A 0 0 (MQ below (zQ (some (.int (clrI (xa v) (xn v)))) (fun t => va_P D vwCl (wX0 hh cI cZ v) t.heap) A) args s 0 0 A) 4 [(0, .ref (hh 0)), (1, .int (clrI (xa v) i)), (2, .int (nI i))] [] (wX0 hh cI cZ v) := by
    intro dd
    induction dd with
    | zero =>
      intro i hi
      have hi : i = xn v := by omega
      subst hi
      refine z_iload_n C 2 dX0_clearMembers_4 rfl rfl ?_
      refine z_aload_n C 0 dX0_clearMembers_5 rfl rfl ?_
      refine z_get0 (v := .int (nI (xn v))) C inl 0 3 (by decide) rfl rfl wd0 dX0_clearMembers_6 ?_
      refine z_icmp_ge (tgt := 30) C dX0_clearMembers_9 (by decide) (fun _ => ?_) (fun h9 => absurd (nI_le (by omega) (by omega)) h9)
      refine z_iload_n C 1 dX0_clearMembers_30 rfl rfl ?_
      exact z_iret C hr hlocks (Nat.le_of_ble_eq_true rfl) (Nat.le_of_ble_eq_true rfl) dX0_clearMembers_31 rfl rfl
    | succ dd ih =>
      intro i hi
      refine z_iload_n C 2 dX0_clearMembers_4 rfl rfl ?_
      refine z_aload_n C 0 dX0_clearMembers_5 rfl rfl ?_
      refine z_get0 (v := .int (nI (xn v))) C inl 0 3 (by decide) rfl rfl wd0 dX0_clearMembers_6 ?_
      refine z_icmp_ge (tgt := 30) C dX0_clearMembers_9 (by decide) (fun h9 => absurd h9 (nI_ge (by omega) (by omega))) (fun _ => ?_)
      refine z_aload_n C 0 dX0_clearMembers_12 rfl rfl ?_
      refine z_get0 (v := .ref (hh 2)) C inl 0 1 (by decide) rfl rfl wd1 dX0_clearMembers_13 ?_
      refine z_iload_n C 2 dX0_clearMembers_16 rfl rfl ?_
      refine z_iald (f := xa v) C 2 0 rfl rfl i rfl (by omega) (by decide) dX0_clearMembers_17 ?_
      refine z_if_ne (tgt := 24) C dX0_clearMembers_18 (by decide) (fun c18 => ?_) (fun c18 => ?_)
      · skip
        refine z_iinc (v := nI (i + 1)) (L' := [(2, .int (nI (i + 1))), (0, .ref (hh 0)), (1, .int (clrI (xa v) i))]) C 2 dX0_clearMembers_24 rfl (z_inc _) (by decide) rfl ?_
        refine z_goto (tgt := 4) C dX0_clearMembers_27 (by decide) ?_
        refine z_sub (L' := [(0, .ref (hh 0)), (1, .int (clrI (xa v) i)), (2, .int (nI (i + 1)))]) [1, 2, 0] rfl ?_
        exact (by have e9 := ih (i + 1) (by omega); simp only [clrI, c18, ↓reduceIte] at e9; exact e9)
      · skip
        refine z_iinc (v := clrI (xa v) i + 1) (L' := [(1, .int (clrI (xa v) i + 1)), (0, .ref (hh 0)), (2, .int (nI i))]) C 1 dX0_clearMembers_21 rfl rfl (by decide) rfl ?_
        refine z_iinc (v := nI (i + 1)) (L' := [(2, .int (nI (i + 1))), (1, .int (clrI (xa v) i + 1)), (0, .ref (hh 0))]) C 2 dX0_clearMembers_24 rfl (z_inc _) (by decide) rfl ?_
        refine z_goto (tgt := 4) C dX0_clearMembers_27 (by decide) ?_
        refine z_sub (L' := [(0, .ref (hh 0)), (1, .int (clrI (xa v) i + 1)), (2, .int (nI (i + 1)))]) [2, 1, 0] rfl ?_
        exact (by have e9 := ih (i + 1) (by omega); simp only [clrI, c18, ↓reduceIte] at e9; exact e9)
  refine z_iconst (v := 0) C dX0_clearMembers_0 (by decide) ?_
  refine z_istore_n (L' := [(1, .int 0), (0, .ref (hh 0))]) C dX0_clearMembers_1 rfl (by decide) rfl ?_
  refine z_iconst (v := 0) C dX0_clearMembers_2 (by decide) ?_
  refine z_istore_n (L' := [(2, .int 0), (1, .int 0), (0, .ref (hh 0))]) C dX0_clearMembers_3 rfl (by decide) rfl ?_
  refine z_sub (L' := [(0, .ref (hh 0)), (1, .int 0), (2, .int 0)]) [2, 1, 0] rfl ?_
  exact lp4 (xn v) 0 (by omega)
set_option maxHeartbeats 4000000 in
set_option maxRecDepth 100000 in
theorem c_X0_daysUntilAudit (l : Launch) (D : va_G) (hh : Nat → Nat) (cI cZ : ClassId) (v : S0) : zM l yX0_daysUntilAudit wsX0_daysUntilAudit 0 0 0 0 [.ref (hh 0)] [(cI, .int), (cZ, .boolean)] D (wX0 hh cI cZ v) (wX0 hh cI cZ v) (some (.int (6 - (xd v - xd v / 7 * 7)))) := by
  refine z_met (cc := cX0_daysUntilAudit) (maxL := 1) (ret := (some .int)) (by decide) rfl (Nat.le_of_ble_eq_true rfl) ?_
  intro p e s m args below meth c A C hr hlocks
  have inl : ∀ w ∈ u_ws RX0 TX0 14, w ∈ wsX0_daysUntilAudit := by decide +kernel
  have wd0 : Cond.fieldLink RX0 42 "SaltOrder" "today" "I" ∈ wsX0_daysUntilAudit := by decide +kernel
  refine z_sub (L' := [(0, .ref (hh 0))]) [0] rfl ?_
  refine z_bipush (v := 6) C dX0_daysUntilAudit_0 (by decide) ?_
  refine z_aload_n C 0 dX0_daysUntilAudit_2 rfl rfl ?_
  refine z_get0 (v := .int (xd v)) C inl 0 10 (by decide) rfl rfl wd0 dX0_daysUntilAudit_3 ?_
  refine z_bipush (v := 7) C dX0_daysUntilAudit_6 (by decide) ?_
  refine z_irem C dX0_daysUntilAudit_8 (by decide) ?_
  refine z_isub C dX0_daysUntilAudit_9 ?_
  exact z_iret C hr hlocks (Nat.le_of_ble_eq_true rfl) (Nat.le_of_ble_eq_true rfl) dX0_daysUntilAudit_10 (by rfl) rfl
end
section
set_option maxHeartbeats 4000000 in
set_option maxRecDepth 100000 in
theorem c_X0_meanLuck (l : Launch) (D : va_G) (hh : Nat → Nat) (cI cZ : ClassId) (v : S0) (hn : xn v ≤ 8) (hf : ¬ nI (xn v) = 0 → vf_n64 (FP.ddiv (FP.i2d (sumI (xl v) (xn v))) (FP.i2d (nI (xn v))))) : zM l yX0_meanLuck wsX0_meanLuck 0 0 0 0 [.ref (hh 0)] [(cI, .int), (cZ, .boolean)] D (wX0 hh cI cZ v) (wX0 hh cI cZ v) (some (.double (xmean v))) := by
  refine z_met (cc := cX0_meanLuck) (maxL := 3) (ret := (some .double)) (by decide) rfl (Nat.le_of_ble_eq_true rfl) ?_
  intro p e s m args below meth c A C hr hlocks
  have inl : ∀ w ∈ u_ws RX0 TX0 14, w ∈ wsX0_meanLuck := by decide +kernel
  have wd0 : Cond.fieldLink RX0 32 "SaltOrder" "memberCount" "I" ∈ wsX0_meanLuck := by decide +kernel
  have wd1 : Cond.fieldLink RX0 9 "SaltOrder" "luck" "[I" ∈ wsX0_meanLuck := by decide +kernel
  refine z_sub (L' := [(0, .ref (hh 0))]) [0] rfl ?_
  have lp13 : ∀ (dd i : Nat), i + dd = xn v → ¬ nI (xn v) = 0 → zG p l e ({ frames := 0, cells := 0, slots := 0, locals := 0 } : Room) s m args below meth c D 3 A 0 0 (MQ below (zQ (some (.double (xmean v))) (fun t => va_P D vwCl (wX0 hh cI cZ v) t.heap) A) args s 0 0 A) 13 [(0, .ref (hh 0)), (1, .int (sumI (xl v) i)), (2, .int (nI i))] [] (wX0 hh cI cZ v) := by
    intro dd
    induction dd with
    | zero =>
      intro i hi h4
      have hi : i = xn v := by omega
      subst hi
      refine z_iload_n C 2 dX0_meanLuck_13 rfl rfl ?_
      refine z_aload_n C 0 dX0_meanLuck_14 rfl rfl ?_
      refine z_get0 (v := .int (nI (xn v))) C inl 0 3 (by decide) rfl rfl wd0 dX0_meanLuck_15 ?_
      refine z_icmp_ge (tgt := 36) C dX0_meanLuck_18 (by decide) (fun _ => ?_) (fun h9 => absurd (nI_le (by omega) (by omega)) h9)
      refine z_iload_n C 1 dX0_meanLuck_36 rfl rfl ?_
      refine z_i2d C dX0_meanLuck_37 ?_
      refine z_aload_n C 0 dX0_meanLuck_38 rfl rfl ?_
      refine z_get0 (v := .int (nI (xn v))) C inl 0 3 (by decide) rfl rfl wd0 dX0_meanLuck_39 ?_
      refine z_i2d C dX0_meanLuck_42 ?_
      refine z_ddiv C dX0_meanLuck_43 (hf h4) ?_
      exact z_dret C hr hlocks (Nat.le_of_ble_eq_true rfl) (Nat.le_of_ble_eq_true rfl) dX0_meanLuck_44 (by simp only [xmean, h4, ↓reduceIte]) rfl
    | succ dd ih =>
      intro i hi h4
      refine z_iload_n C 2 dX0_meanLuck_13 rfl rfl ?_
      refine z_aload_n C 0 dX0_meanLuck_14 rfl rfl ?_
      refine z_get0 (v := .int (nI (xn v))) C inl 0 3 (by decide) rfl rfl wd0 dX0_meanLuck_15 ?_
      refine z_icmp_ge (tgt := 36) C dX0_meanLuck_18 (by decide) (fun h9 => absurd h9 (nI_ge (by omega) (by omega))) (fun _ => ?_)
      refine z_iload_n C 1 dX0_meanLuck_21 rfl rfl ?_
      refine z_aload_n C 0 dX0_meanLuck_22 rfl rfl ?_
      refine z_get0 (v := .ref (hh 1)) C inl 0 0 (by decide) rfl rfl wd1 dX0_meanLuck_23 ?_
      refine z_iload_n C 2 dX0_meanLuck_26 rfl rfl ?_
      refine z_iald (f := xl v) C 1 0 rfl rfl i rfl (by omega) (by decide) dX0_meanLuck_27 ?_
      refine z_iadd C dX0_meanLuck_28 ?_
      refine z_istore_n (L' := [(1, .int ((sumI (xl v) i) + ((xl v) i))), (0, .ref (hh 0)), (2, .int (nI i))]) C dX0_meanLuck_29 rfl (by decide) rfl ?_
      refine z_iinc (v := nI (i + 1)) (L' := [(2, .int (nI (i + 1))), (1, .int ((sumI (xl v) i) + ((xl v) i))), (0, .ref (hh 0))]) C 2 dX0_meanLuck_30 rfl (z_inc _) (by decide) rfl ?_
      refine z_goto (tgt := 13) C dX0_meanLuck_33 (by decide) ?_
      refine z_sub (L' := [(0, .ref (hh 0)), (1, .int ((sumI (xl v) i) + ((xl v) i))), (2, .int (nI (i + 1)))]) [2, 1, 0] rfl ?_
      exact ih (i + 1) (by omega) h4
  refine z_aload_n C 0 dX0_meanLuck_0 rfl rfl ?_
  refine z_get0 (v := .int (nI (xn v))) C inl 0 3 (by decide) rfl rfl wd0 dX0_meanLuck_1 ?_
  refine z_if_ne (tgt := 9) C dX0_meanLuck_4 (by decide) (fun c4 => ?_) (fun c4 => ?_)
  · skip
    refine z_iconst (v := 0) C dX0_meanLuck_9 (by decide) ?_
    refine z_istore_n (L' := [(1, .int 0), (0, .ref (hh 0))]) C dX0_meanLuck_10 rfl (by decide) rfl ?_
    refine z_iconst (v := 0) C dX0_meanLuck_11 (by decide) ?_
    refine z_istore_n (L' := [(2, .int 0), (1, .int 0), (0, .ref (hh 0))]) C dX0_meanLuck_12 rfl (by decide) rfl ?_
    refine z_sub (L' := [(0, .ref (hh 0)), (1, .int 0), (2, .int 0)]) [2, 1, 0] rfl ?_
    exact lp13 (xn v) 0 (by omega) c4
  · skip
    refine z_dconst0 C dX0_meanLuck_7 ?_
    exact z_dret C hr hlocks (Nat.le_of_ble_eq_true rfl) (Nat.le_of_ble_eq_true rfl) dX0_meanLuck_8 (by first | rfl | (simp only [xmean, c4, ↓reduceIte]; done) | (simp only [xmean, c4, ↓reduceIte]; rfl)) rfl
end
section
/-! the constructors -/
def x00 : S0 := (fun _ => 0, fun _ => 0, fun _ => 0, 0, fun _ => 0, fun _ => 0, fun _ => 0, fun _ => 0, 0, 100, 0, 0, 0, 0)
/-- a constructor's contract: the object at b and its new arrays hold the world P hh, hh 0 = b -/
def zMI (l : Launch) (y : MethodName) (ws : List Cond) (fr lo mc ms : Nat) (b : Nat) (tys : List (ClassId × FieldType)) (D : va_G) (w : va_W) (P : (Nat → Nat) → va_W) : Prop :=
  ∀ sz : Nat, Met l y ws ({ frames := fr, cells := mc, slots := ms, locals := lo } : Room) (va_Pc [.ref b] (zP D tys w sz)) (zQ none (fun t => ∃ hh : Nat → Nat, hh 0 = b ∧ va_P D vwCl (P hh) t.heap ∧ va_D (va_A w sz) (P hh)) (va_A w sz)) mc ms (va_A w sz)
section ZI
variable {p : Program} {l : Launch} {e : Env} {R : Room} {s : State} {m : MethodId} {args : Array Value} {below : List Frame} {meth : Method} {c : Code}
variable {cc : ByteArray} {nL : Nat} {own : String} {Ts : List Cond} {D : va_G} {tys : List (ClassId × FieldType)} {A : Nat → Prop} {cells slots : Nat} {Q : State → Prop} {pc : Nat} {L : List (Nat × Value)} {st : List Value} {ws : va_W}
theorem z_imet {y : MethodName} {wd wd' : List Cond} {fr lo mc ms b : Nat} {w : va_W} {P : (Nat → Nat) → va_W} {maxL : Nat} (hy : plainName y.cls = true) (hn : y.name = "<init>") (hw : wd = Cond.code y cc maxL none :: wd') (hlen : (lg_sl [.ref b]).length ≤ maxL)
    (body : ∀ (p : Program) (e : Env) (s : State) (m : MethodId) (args : Array Value) (below : List Frame) (meth : Method) (c : Code) (A : Nat → Prop), zC p s m args c cc maxL y.cls wd D tys A → meth.sig.returnType = none → meth.locks = false → meth.name = "<init>" →
      zG p l e ({ frames := fr, cells := mc, slots := ms, locals := lo } : Room) s m args below meth c D maxL A 0 0 (MQ below (zQ none (fun t => ∃ hh : Nat → Nat, hh 0 = b ∧ va_P D vwCl (P hh) t.heap ∧ va_D A (P hh)) A) args s mc ms A) 0 (lv_args 0 [.ref b]) [] w) : zMI l y wd fr lo mc ms b tys D w P := by
  intro sz
  refine Met.ofW (cc := cc) (maxL := maxL) (ret := none) hy hw ?_
  intro p e s m args below meth c s₁ B hml hv
  obtain ⟨rfl, hsz, hP, hK, hD0⟩ := hv
  have hts := atoms_spec (ws := wd) B.pre
  have hown : s.vm.findClass y.cls = some m.cls := findClass_of_methodNamed B.named
  subst hsz
  have hD := hD0.self (sz := s.heap.size)
  have hl := lv_entry [.ref b] (n := maxL) hlen
  rw [lg_entry_eq]
  exact body p e s m _ below meth c (va_A w s.heap.size) ⟨⟨B.exec, B.bytes, hml, hown, hts⟩, hK, fun q h => Or.inr h⟩ B.returns B.notSynchronized ((name_of_methodNamed B.named B.method).1.trans hn) s.heap [] _ hl hP hD va_S.rf
theorem z_ivret (C : zC p s m args c cc nL own Ts D tys A) {mc ms b : Nat} {P : (Nat → Nat) → va_W} (hh : Nat → Nat) (hb : hh 0 = b) (hr : meth.sig.returnType = none) (hlocks : meth.locks = false) (hc : cells ≤ mc) (hs : slots ≤ ms) (hdg : decode cc pc = .ok (.return_, 1)) (e2 : ws = P hh) : zG p l e R s m args below meth c D nL A cells slots (MQ below (zQ none (fun t => ∃ hh : Nat → Nat, hh 0 = b ∧ va_P D vwCl (P hh) t.heap ∧ va_D A (P hh)) A) args s mc ms A) (pc) L ([]) ws := by
  subst e2
  intro H locs ls hl hP hD hS
  exact W.widen hc hs (W.vret C.exec C.code hr (fun t ht hW => ⟨⟨rfl, ⟨hh, hb, by rw [ht]; exact hP, hD⟩⟩, hS.F ht⟩) hS.2.2 hdg hlocks)
theorem z_objInit (C : zC p s m args c cc nL own Ts D tys A) {idx a : Nat} (h1 : Cond.methodLink own idx Lib.objectInit ∈ Ts) (h2 : Cond.instanceMethod Lib.objectInit ∈ Ts) (h3 : Cond.code Lib.objectInit ⟨#[0xb1]⟩ 1 none ∈ Ts) (hfr : 1 ≤ R.frames) (hlo : (st.map fun v => v.category).sum + 12 ≤ R.locals) (hdg : decode cc pc = .ok (.invokespecial idx, 3)) (kk : zG p l e R s m args below meth c D nL A cells slots Q (pc + 3) L (st) ws) : zG p l e R s m args below meth c D nL A cells slots Q (pc) L (.ref a :: st) ws := fun H locs ls hl hP hD hS => W.objInit C.exec C.code C.here (C.words _ h1) (C.words _ h2) (C.words _ h3) rfl (hl.1.trans C.maxl.symm) rfl hdg hfr (by show 2 * 0 + _ + 12 ≤ _; omega) (W.eq (g2 := F0 m (pc + 3) ls st) rfl (kk H locs ls hl hP hD hS))
theorem z_callI (C : zC p s m args c cc nL own Ts D tys A) {y : MethodName} {bytes : ByteArray} {maxL index : Nat} {wd : List Cond} {fr lo mc ms b : Nat} {w wr : va_W} {P : (Nat → Nat) → va_W} {tys2 : List (ClassId × FieldType)} {rest : List Value} (hM : zMI l y wd fr lo mc ms b tys2 D w P) (cw : CallB R s args own index y bytes maxL none wd ({ frames := fr, cells := mc, slots := ms, locals := lo } : Room) mc ms 0 ∧ y.name = "<init>" ∧ (Cond.instanceMethod y).before args s = true) (is : List Nat) (ht : is.filterMap (fun i => tys[i]?) = tys2) (hroom : (rest.map fun v => v.category).sum ≤ 8) (hf : cells + mc ≤ R.cells ∧ slots + ms ≤ R.slots)
    (isC isR : List Nat) (hC1 : isC.filterMap (fun i => ws[i]?) = w) (hC : isC.map (fun i => ws[i]?) = w.map some) (hR : isR.map (fun i => ws[i]?) = wr.map some) (hnC : va_nd isC = true) (hnR : va_nd isR = true) (hdis : ∀ i ∈ isR, i ∉ isC) (hst : st = .ref b :: rest) (hdg : decode cc pc = .ok (.invokespecial index, 3)) (kk : ∀ hh : Nat → Nat, hh 0 = b → zG p l e R s m args below meth c D nL A (cells + mc) (slots + ms) Q (pc + 3) L (rest) (wr ++ P hh)) : zG p l e R s m args below meth c D nL A cells slots Q (pc) L (st) ws := by
  intro H locs ls hl hP hD hS T hT X
  subst hst
  have hPc : va_P D vwCl w H := hP.sub isC hC1
  have hDc : va_D (fun _ => True) w := (hD.sub isC hnC hC).weaken (fun _ _ _ _ => trivial)
  have hKc := C.known.sub is ht
  have hFc := va_free hD hS C.new isC hC
  obtain ⟨v, st₀, t, T', L', h0, X', hL, e1, e2, ⟨⟨hv, hh, hb0, hb, hDb⟩, hz, hkk⟩, stp⟩ := va_runI (As := []) (rest := rest) (g := F0 m pc ls (.ref b :: rest)) C.1 (hM H.size) cw ⟨fun a U g mk q => ⟨q.1, q.2.blind⟩, fun U hU hW => ⟨rfl, by rw [hU], by rw [hU]; exact hPc, va_K.moved hW.alike hKc, hDc⟩⟩ rfl rfl hl.1 rfl (lv_room (pc := pc) (ls := ls) (rest := .ref b :: rest) hroom) hdg hf T hT X
  have hv : v = none := by injection hv
  subst hv
  rw [h0] at hz hkk
  obtain ⟨hP', hD'⟩ := va_join hP hD isC isR hC hR hnR hdis (H1 := T'.heap) (fun q h1 h2 => by rw [e1]; exact hkk q h1 h2) hFc (by rw [e1]; exact hb) hDb
  obtain ⟨t2, a1, b1⟩ := kk hh hb0 T'.heap (locs ++ L') ls hl hP' hD' ⟨Nat.le_trans hS.1 (by rw [e1]; exact hz), fun q h1 h2 => by rw [e1, hkk q (Nat.lt_of_lt_of_le h1 hS.1) (fun z => h2 (hFc q z))]; exact hS.2.1 q h1 h2, fun q hq => by
    rcases List.mem_append.mp hq with h | h
    · exact hS.2.2 q h
    · exact hFc _ (hL q h)⟩ T' rfl X'
  exact ⟨t2, stp t2 a1, b1⟩
end ZI
set_option maxHeartbeats 4000000 in
set_option maxRecDepth 100000 in
theorem c_X0_init (l : Launch) (D : va_G) (cI cZ : ClassId) (b : Nat) : zMI l yX0_init wsX0_init 1 12 7 147 b [(cI, .int), (cZ, .boolean)] D [(b, .inr (0, [.null, .null, .null, .int 0, .null, .null, .null, .null, .int 0, .int 0, .int 0, .int 0, .int 0, .int 0]))] (fun hh => wX0 hh cI cZ x00) := by
  refine z_imet (cc := cX0_init) (maxL := 1) (by decide) rfl rfl (Nat.le_of_ble_eq_true rfl) ?_
  intro p e s m args below meth c A C hr hlocks hin
  have inl : ∀ w ∈ u_ws RX0 TX0 14, w ∈ wsX0_init := by decide +kernel
  refine z_sub (L' := [(0, .ref b)]) [0] rfl ?_
  refine z_aload_n C 0 dX0_init_0 rfl rfl ?_
  refine z_objInit C (by decide +kernel : Cond.methodLink RX0 3 Lib.objectInit ∈ wsX0_init) (by decide +kernel) (by decide +kernel) (Nat.le_of_ble_eq_true rfl) (Nat.le_of_ble_eq_true rfl) dX0_init_1 ?_
  refine z_aload_n C 0 dX0_init_4 rfl rfl ?_
  refine z_bipush (v := 9) C dX0_init_5 (by decide) ?_
  refine z_newi (N := 9) C 0 rfl (by decide +kernel : Cond.arrayClass .int ∈ wsX0_init) (by decide) (by decide) (by decide) (Nat.le_of_ble_eq_true rfl) (Nat.le_of_ble_eq_true rfl) dX0_init_7 (fun q1 => ?_)
  refine z_putq0 (ty := .array .int) (ws' := ([(b, .inr (0, [.ref q1, .null, .null, .int 0, .null, .null, .null, .null, .int 0, .int 0, .int 0, .int 0, .int 0, .int 0]))] ++ [(q1, .inl (cI, 9, .inl (fun _ => 0)))] : va_W)) C inl hin 0 0 (by decide) rfl rfl (by decide) (by decide) (by decide +kernel) rfl rfl rfl (by decide +kernel : Cond.fieldLink RX0 9 "SaltOrder" "luck" "[I" ∈ wsX0_init) dX0_init_9 ?_
  refine z_aload_n C 0 dX0_init_12 rfl rfl ?_
  refine z_bipush (v := 9) C dX0_init_13 (by decide) ?_
  refine z_newi (N := 9) C 0 rfl (by decide +kernel : Cond.arrayClass .int ∈ wsX0_init) (by decide) (by decide) (by decide) (Nat.le_of_ble_eq_true rfl) (Nat.le_of_ble_eq_true rfl) dX0_init_15 (fun q2 => ?_)
  refine z_putq0 (ty := .array .int) (ws' := ([(b, .inr (0, [.ref q1, .ref q2, .null, .int 0, .null, .null, .null, .null, .int 0, .int 0, .int 0, .int 0, .int 0, .int 0]))] ++ [(q1, .inl (cI, 9, .inl (fun _ => 0)))] ++ [(q2, .inl (cI, 9, .inl (fun _ => 0)))] : va_W)) C inl hin 0 1 (by decide) rfl rfl (by decide) (by decide) (by decide +kernel) rfl rfl rfl (by decide +kernel : Cond.fieldLink RX0 13 "SaltOrder" "arrears" "[I" ∈ wsX0_init) dX0_init_17 ?_
  refine z_aload_n C 0 dX0_init_20 rfl rfl ?_
  refine z_bipush (v := 9) C dX0_init_21 (by decide) ?_
  refine z_newi (N := 9) C 0 rfl (by decide +kernel : Cond.arrayClass .int ∈ wsX0_init) (by decide) (by decide) (by decide) (Nat.le_of_ble_eq_true rfl) (Nat.le_of_ble_eq_true rfl) dX0_init_23 (fun q3 => ?_)
  refine z_putq0 (ty := .array .int) (ws' := ([(b, .inr (0, [.ref q1, .ref q2, .ref q3, .int 0, .null, .null, .null, .null, .int 0, .int 0, .int 0, .int 0, .int 0, .int 0]))] ++ [(q1, .inl (cI, 9, .inl (fun _ => 0)))] ++ [(q2, .inl (cI, 9, .inl (fun _ => 0)))] ++ [(q3, .inl (cI, 9, .inl (fun _ => 0)))] : va_W)) C inl hin 0 2 (by decide) rfl rfl (by decide) (by decide) (by decide +kernel) rfl rfl rfl (by decide +kernel : Cond.fieldLink RX0 16 "SaltOrder" "toEat" "[I" ∈ wsX0_init) dX0_init_25 ?_
  refine z_aload_n C 0 dX0_init_28 rfl rfl ?_
  refine z_bipush (v := 30) C dX0_init_29 (by decide) ?_
  refine z_newi (N := 30) C 0 rfl (by decide +kernel : Cond.arrayClass .int ∈ wsX0_init) (by decide) (by decide) (by decide) (Nat.le_of_ble_eq_true rfl) (Nat.le_of_ble_eq_true rfl) dX0_init_31 (fun q4 => ?_)
  refine z_putq0 (ty := .array .int) (ws' := ([(b, .inr (0, [.ref q1, .ref q2, .ref q3, .int 0, .ref q4, .null, .null, .null, .int 0, .int 0, .int 0, .int 0, .int 0, .int 0]))] ++ [(q1, .inl (cI, 9, .inl (fun _ => 0)))] ++ [(q2, .inl (cI, 9, .inl (fun _ => 0)))] ++ [(q3, .inl (cI, 9, .inl (fun _ => 0)))] ++ [(q4, .inl (cI, 30, .inl (fun _ => 0)))] : va_W)) C inl hin 0 4 (by decide) rfl rfl (by decide) (by decide) (by decide +kernel) rfl rfl rfl (by decide +kernel : Cond.fieldLink RX0 19 "SaltOrder" "throwers" "[I" ∈ wsX0_init) dX0_init_33 ?_
  refine z_aload_n C 0 dX0_init_36 rfl rfl ?_
  refine z_bipush (v := 30) C dX0_init_37 (by decide) ?_
  refine z_newz (N := 30) C 1 rfl (by decide +kernel : Cond.arrayClass .boolean ∈ wsX0_init) (by decide) (by decide) (by decide) (Nat.le_of_ble_eq_true rfl) (Nat.le_of_ble_eq_true rfl) dX0_init_39 (fun q5 => ?_)
  refine z_putq0 (ty := .array .boolean) (ws' := ([(b, .inr (0, [.ref q1, .ref q2, .ref q3, .int 0, .ref q4, .ref q5, .null, .null, .int 0, .int 0, .int 0, .int 0, .int 0, .int 0]))] ++ [(q1, .inl (cI, 9, .inl (fun _ => 0)))] ++ [(q2, .inl (cI, 9, .inl (fun _ => 0)))] ++ [(q3, .inl (cI, 9, .inl (fun _ => 0)))] ++ [(q4, .inl (cI, 30, .inl (fun _ => 0)))] ++ [(q5, .inl (cZ, 30, .inl (fun _ => 0)))] : va_W)) C inl hin 0 5 (by decide) rfl rfl (by decide) (by decide) (by decide +kernel) rfl rfl rfl (by decide +kernel : Cond.fieldLink RX0 22 "SaltOrder" "lefts" "[Z" ∈ wsX0_init) dX0_init_41 ?_
  refine z_aload_n C 0 dX0_init_44 rfl rfl ?_
  refine z_bipush (v := 30) C dX0_init_45 (by decide) ?_
  refine z_newi (N := 30) C 0 rfl (by decide +kernel : Cond.arrayClass .int ∈ wsX0_init) (by decide) (by decide) (by decide) (Nat.le_of_ble_eq_true rfl) (Nat.le_of_ble_eq_true rfl) dX0_init_47 (fun q6 => ?_)
  refine z_putq0 (ty := .array .int) (ws' := ([(b, .inr (0, [.ref q1, .ref q2, .ref q3, .int 0, .ref q4, .ref q5, .ref q6, .null, .int 0, .int 0, .int 0, .int 0, .int 0, .int 0]))] ++ [(q1, .inl (cI, 9, .inl (fun _ => 0)))] ++ [(q2, .inl (cI, 9, .inl (fun _ => 0)))] ++ [(q3, .inl (cI, 9, .inl (fun _ => 0)))] ++ [(q4, .inl (cI, 30, .inl (fun _ => 0)))] ++ [(q5, .inl (cZ, 30, .inl (fun _ => 0)))] ++ [(q6, .inl (cI, 30, .inl (fun _ => 0)))] : va_W)) C inl hin 0 6 (by decide) rfl rfl (by decide) (by decide) (by decide +kernel) rfl rfl rfl (by decide +kernel : Cond.fieldLink RX0 26 "SaltOrder" "thrown" "[I" ∈ wsX0_init) dX0_init_49 ?_
  refine z_aload_n C 0 dX0_init_52 rfl rfl ?_
  refine z_bipush (v := 30) C dX0_init_53 (by decide) ?_
  refine z_newi (N := 30) C 0 rfl (by decide +kernel : Cond.arrayClass .int ∈ wsX0_init) (by decide) (by decide) (by decide) (Nat.le_of_ble_eq_true rfl) (Nat.le_of_ble_eq_true rfl) dX0_init_55 (fun q7 => ?_)
  refine z_putq0 (ty := .array .int) (ws' := ([(b, .inr (0, [.ref q1, .ref q2, .ref q3, .int 0, .ref q4, .ref q5, .ref q6, .ref q7, .int 0, .int 0, .int 0, .int 0, .int 0, .int 0]))] ++ [(q1, .inl (cI, 9, .inl (fun _ => 0)))] ++ [(q2, .inl (cI, 9, .inl (fun _ => 0)))] ++ [(q3, .inl (cI, 9, .inl (fun _ => 0)))] ++ [(q4, .inl (cI, 30, .inl (fun _ => 0)))] ++ [(q5, .inl (cZ, 30, .inl (fun _ => 0)))] ++ [(q6, .inl (cI, 30, .inl (fun _ => 0)))] ++ [(q7, .inl (cI, 30, .inl (fun _ => 0)))] : va_W)) C inl hin 0 7 (by decide) rfl rfl (by decide) (by decide) (by decide +kernel) rfl rfl rfl (by decide +kernel : Cond.fieldLink RX0 29 "SaltOrder" "excesses" "[I" ∈ wsX0_init) dX0_init_57 ?_
  refine z_aload_n C 0 dX0_init_60 rfl rfl ?_
  refine z_iconst (v := 0) C dX0_init_61 (by decide) ?_
  refine z_put0 (ws' := ([(b, .inr (0, [.ref q1, .ref q2, .ref q3, .int 0, .ref q4, .ref q5, .ref q6, .ref q7, .int 0, .int 0, .int 0, .int 0, .int 0, .int 0]))] ++ [(q1, .inl (cI, 9, .inl (fun _ => 0)))] ++ [(q2, .inl (cI, 9, .inl (fun _ => 0)))] ++ [(q3, .inl (cI, 9, .inl (fun _ => 0)))] ++ [(q4, .inl (cI, 30, .inl (fun _ => 0)))] ++ [(q5, .inl (cZ, 30, .inl (fun _ => 0)))] ++ [(q6, .inl (cI, 30, .inl (fun _ => 0)))] ++ [(q7, .inl (cI, 30, .inl (fun _ => 0)))] : va_W)) C inl 0 3 (by decide) rfl rfl (by decide) rfl (by decide +kernel : Cond.fieldLink RX0 32 "SaltOrder" "memberCount" "I" ∈ wsX0_init) dX0_init_62 ?_
  refine z_aload_n C 0 dX0_init_65 rfl rfl ?_
  refine z_iconst (v := 0) C dX0_init_66 (by decide) ?_
  refine z_put0 (ws' := ([(b, .inr (0, [.ref q1, .ref q2, .ref q3, .int 0, .ref q4, .ref q5, .ref q6, .ref q7, .int 0, .int 0, .int 0, .int 0, .int 0, .int 0]))] ++ [(q1, .inl (cI, 9, .inl (fun _ => 0)))] ++ [(q2, .inl (cI, 9, .inl (fun _ => 0)))] ++ [(q3, .inl (cI, 9, .inl (fun _ => 0)))] ++ [(q4, .inl (cI, 30, .inl (fun _ => 0)))] ++ [(q5, .inl (cZ, 30, .inl (fun _ => 0)))] ++ [(q6, .inl (cI, 30, .inl (fun _ => 0)))] ++ [(q7, .inl (cI, 30, .inl (fun _ => 0)))] : va_W)) C inl 0 8 (by decide) rfl rfl (by decide) rfl (by decide +kernel : Cond.fieldLink RX0 36 "SaltOrder" "throwCount" "I" ∈ wsX0_init) dX0_init_67 ?_
  refine z_aload_n C 0 dX0_init_70 rfl rfl ?_
  refine z_bipush (v := 100) C dX0_init_71 (by decide) ?_
  refine z_put0 (ws' := ([(b, .inr (0, [.ref q1, .ref q2, .ref q3, .int 0, .ref q4, .ref q5, .ref q6, .ref q7, .int 0, .int 100, .int 0, .int 0, .int 0, .int 0]))] ++ [(q1, .inl (cI, 9, .inl (fun _ => 0)))] ++ [(q2, .inl (cI, 9, .inl (fun _ => 0)))] ++ [(q3, .inl (cI, 9, .inl (fun _ => 0)))] ++ [(q4, .inl (cI, 30, .inl (fun _ => 0)))] ++ [(q5, .inl (cZ, 30, .inl (fun _ => 0)))] ++ [(q6, .inl (cI, 30, .inl (fun _ => 0)))] ++ [(q7, .inl (cI, 30, .inl (fun _ => 0)))] : va_W)) C inl 0 9 (by decide) rfl rfl (by decide) rfl (by decide +kernel : Cond.fieldLink RX0 39 "SaltOrder" "cellar" "I" ∈ wsX0_init) dX0_init_73 ?_
  refine z_aload_n C 0 dX0_init_76 rfl rfl ?_
  refine z_iconst (v := 0) C dX0_init_77 (by decide) ?_
  refine z_put0 (ws' := ([(b, .inr (0, [.ref q1, .ref q2, .ref q3, .int 0, .ref q4, .ref q5, .ref q6, .ref q7, .int 0, .int 100, .int 0, .int 0, .int 0, .int 0]))] ++ [(q1, .inl (cI, 9, .inl (fun _ => 0)))] ++ [(q2, .inl (cI, 9, .inl (fun _ => 0)))] ++ [(q3, .inl (cI, 9, .inl (fun _ => 0)))] ++ [(q4, .inl (cI, 30, .inl (fun _ => 0)))] ++ [(q5, .inl (cZ, 30, .inl (fun _ => 0)))] ++ [(q6, .inl (cI, 30, .inl (fun _ => 0)))] ++ [(q7, .inl (cI, 30, .inl (fun _ => 0)))] : va_W)) C inl 0 10 (by decide) rfl rfl (by decide) rfl (by decide +kernel : Cond.fieldLink RX0 42 "SaltOrder" "today" "I" ∈ wsX0_init) dX0_init_78 ?_
  refine z_aload_n C 0 dX0_init_81 rfl rfl ?_
  refine z_iconst (v := 0) C dX0_init_82 (by decide) ?_
  refine z_put0 (ws' := ([(b, .inr (0, [.ref q1, .ref q2, .ref q3, .int 0, .ref q4, .ref q5, .ref q6, .ref q7, .int 0, .int 100, .int 0, .int 0, .int 0, .int 0]))] ++ [(q1, .inl (cI, 9, .inl (fun _ => 0)))] ++ [(q2, .inl (cI, 9, .inl (fun _ => 0)))] ++ [(q3, .inl (cI, 9, .inl (fun _ => 0)))] ++ [(q4, .inl (cI, 30, .inl (fun _ => 0)))] ++ [(q5, .inl (cZ, 30, .inl (fun _ => 0)))] ++ [(q6, .inl (cI, 30, .inl (fun _ => 0)))] ++ [(q7, .inl (cI, 30, .inl (fun _ => 0)))] : va_W)) C inl 0 11 (by decide) rfl rfl (by decide) rfl (by decide +kernel : Cond.fieldLink RX0 45 "SaltOrder" "found" "I" ∈ wsX0_init) dX0_init_83 ?_
  exact z_ivret C (fun k => [b, q1, q2, q3, q4, q5, q6, q7].getD k 0) rfl hr hlocks (Nat.le_of_ble_eq_true rfl) (Nat.le_of_ble_eq_true rfl) dX0_init_86 rfl
end
section
/-! arrays of arrays, worlds of any length, calls that may make cells -/
/-- the class int[][] is there, over the class int[] -/
def zAA (U : State) : Prop := (Cond.arrayOver (.array .int)).before #[] U = true
theorem zAA.of {A : Array Value} {U : State} (h : (Cond.arrayOver (.array .int)).before A U = true) : zAA U := h
theorem zAA.use {A : Array Value} {U : State} (h : zAA U) : (Cond.arrayOver (.array .int)).before A U = true := h
theorem zAA.moved {u U : State} (hvm : u.vm.Alike U.vm) (h : zAA u) : zAA U := by
  obtain ⟨comp, c, k, h1, h2, h3, h4, h5⟩ := arrayOverA_spec h
  obtain ⟨k', hk', he⟩ := hvm.2.2 _ _ h3
  have hi : (U.vm.classes.findIdx? fun (x : Class) => match x.kind with | .array component _ => component == comp | _ => false) = some c := by
    rw [hvm.findIdx?_eq _ (fun _ => rfl)]
    exact h2
  have hkind : k'.kind = .array comp (.array .int) := by rw [he]; exact h4
  have f1 : U.vm.findClass (FieldType.array .int).toString = some comp := by rw [hvm.findClass]; exact h1
  have f2 : U.vm.findClass ("[" ++ (FieldType.array .int).toString) = some c := by rw [hvm.findClass]; exact h5
  unfold zAA Cond.before Cond.holds
  simp only [Cond.value]
  rw [f1, Option.bind_some]
  refine (congrArg (fun o : Option Nat => (o.bind (fun c => (U.vm.classes[c]?).map fun (k : Class) => match k.kind with | .array _ ty => decide (ty = FieldType.array .int) && decide (U.vm.findClass ("[" ++ (FieldType.array .int).toString) = some c) | _ => false) == some true)) hi).trans ?_
  simp [hk', hkind, f2]
theorem zAA.facts {U : State} {D : va_G} {tys : List (ClassId × FieldType)} {cI cP : ClassId} {t0 t1 : Nat} (h : zAA U) (hK : va_K D vwCl tys U) (hI : tys[t0]? = some (cI, .int)) (hQ : tys[t1]? = some (cP, .array .int)) : ∃ kA kI : Class, U.vm.classes[cP]? = some kA ∧ kA.kind = .array cI (.array .int) ∧ U.vm.classes[cI]? = some kI ∧ U.vm.assignable cI cI = true := by
  obtain ⟨comp, c, k, h1, h2, h3, h4, h5⟩ := arrayOverA_spec h
  have e1 : U.vm.findClass ("[" ++ (FieldType.array .int).toString) = some cP := (hK.2 t1 _ hQ).2
  have e2 : U.vm.findClass ("[" ++ (FieldType.int).toString) = some cI := (hK.2 t0 _ hI).2
  have h1b : U.vm.findClass ("[" ++ (FieldType.int).toString) = some comp := h1
  cases h5.symm.trans e1
  cases h1b.symm.trans e2
  obtain ⟨kI, hkI, -⟩ := Vm.findClass_spec e2
  refine ⟨k, kI, h3, h4, hkI, ?_⟩
  show Vm.assignableAux U.vm (255 + 1) cI cI = true
  unfold Vm.assignableAux
  rw [beq_self_eq_true]
  rfl
/-! places in two lists, one behind the other -/
theorem z_apl {a b : va_W} {k : Nat} {q : Nat × va_E} (h : a[k]? = some q) : (a ++ b)[k]? = some q := by
  have hk : k < a.length := (List.getElem?_eq_some_iff.mp h).1
  rw [List.getElem?_append_left hk]; exact h
theorem z_apr {a b : va_W} {k : Nat} {q : Nat × va_E} (h : b[k]? = some q) : (a ++ b)[a.length + k]? = some q := by
  rw [List.getElem?_append_right (by omega), Nat.add_sub_cancel_left]; exact h
theorem z_apc {a b : va_W} {k : Nat} {q : Nat × va_E} (h : (a ++ b)[k]? = some q) : a[k]? = some q ∨ ∃ j, k = a.length + j ∧ b[j]? = some q := by
  rcases Nat.lt_or_ge k a.length with hk | hk
  · rw [List.getElem?_append_left hk] at h; exact Or.inl h
  · rw [List.getElem?_append_right hk] at h; exact Or.inr ⟨k - a.length, by omega, h⟩
theorem z_stl {a b : va_W} {k : Nat} {q y : Nat × va_E} (h : a[k]? = some q) : (a ++ b).set k y = a.set k y ++ b := List.set_append_left _ _ (List.getElem?_eq_some_iff.mp h).1
theorem z_str {a b : va_W} {k : Nat} {y : Nat × va_E} : (a ++ b).set (a.length + k) y = a ++ b.set k y := by
  rw [List.set_append_right _ _ (by omega), Nat.add_sub_cancel_left]
theorem z_Dl {A : Nat → Prop} {a b : va_W} (h : va_D A (a ++ b)) : va_D A a := ⟨fun i j x y hi hj e => h.1 i j x y (z_apl hi) (z_apl hj) e, fun k q hk => h.2 k q (z_apl hk)⟩
theorem z_Dr {A : Nat → Prop} {a b : va_W} (h : va_D A (a ++ b)) : va_D A b := ⟨fun i j x y hi hj e => by have := h.1 _ _ x y (z_apr hi) (z_apr hj) e; omega, fun k q hk => h.2 _ q (z_apr hk)⟩
theorem z_Dx {A : Nat → Prop} {a b : va_W} (h : va_D A (a ++ b)) {i j : Nat} {x y : Nat × va_E} (hi : a[i]? = some x) (hj : b[j]? = some y) : x.1 ≠ y.1 := fun e => by
  have h1 := h.1 _ _ x y (z_apl hi) (z_apr hj) e
  have h2 := (List.getElem?_eq_some_iff.mp hi).1
  omega
theorem z_Pl {D : va_G} {a b : va_W} {H : Heap} (h : va_P D vwCl (a ++ b) H) : va_P D vwCl a H := fun k q hk => h k q (z_apl hk)
theorem z_Pr {D : va_G} {a b : va_W} {H : Heap} (h : va_P D vwCl (a ++ b) H) : va_P D vwCl b H := fun _ q hk => h _ q (z_apr hk)
/-- a callee's new world beside what it could not reach -/
theorem z_joinX {A0 : Nat → Prop} {D : va_G} {w1 wc w2 wn : va_W} {H H1 : Heap} (hP : va_P D vwCl ((w1 ++ wc) ++ w2) H) (hD : va_D A0 ((w1 ++ wc) ++ w2)) (hk : ∀ q : Nat, q < H.size → ¬ va_A wc H.size q → H1[q]? = H[q]?) (hF : ∀ q, va_A wc H.size q → A0 q) (hP1 : va_P D vwCl wn H1) (hD1 : va_D (va_A wc H.size) wn) : va_P D vwCl ((w1 ++ wn) ++ w2) H1 ∧ va_D A0 ((w1 ++ wn) ++ w2) := by
  have x1 : ∀ (i j : Nat) (x y : Nat × va_E), w1[i]? = some x → wn[j]? = some y → x.1 ≠ y.1 := by
    intro i j x y hi hj exy
    rcases hD1.2 j y hj with ⟨k, e, h⟩ | h
    · exact z_Dx (z_Dl hD) hi h exy
    · have := (hP i x (z_apl (z_apl hi))).lt
      omega
  have x2 : ∀ (i j : Nat) (x y : Nat × va_E), wn[i]? = some x → w2[j]? = some y → x.1 ≠ y.1 := by
    intro i j x y hi hj exy
    rcases hD1.2 i x hi with ⟨k, e, h⟩ | h
    · exact z_Dx hD (z_apr h) hj exy
    · have := (hP _ y (z_apr hj)).lt
      omega
  have k1 : ∀ (k : Nat) (q : Nat × va_E), w1[k]? = some q → H1[q.1]? = H[q.1]? := by
    intro k q hq
    have hlt := (hP k q (z_apl (z_apl hq))).lt
    refine hk q.1 hlt (fun hA => ?_)
    rcases hA with ⟨j, e, h⟩ | h
    · exact z_Dx (z_Dl hD) hq h rfl
    · omega
  have k2 : ∀ (k : Nat) (q : Nat × va_E), w2[k]? = some q → H1[q.1]? = H[q.1]? := by
    intro k q hq
    have hlt := (hP _ q (z_apr hq)).lt
    refine hk q.1 hlt (fun hA => ?_)
    rcases hA with ⟨j, e, h⟩ | h
    · exact z_Dx hD (z_apr h) hq rfl
    · omega
  refine ⟨((z_Pl (z_Pl hP)).kept k1 |>.app hP1).app ((z_Pr hP).kept k2), va_D.app (va_D.app (z_Dl (z_Dl hD)) (hD1.weaken (fun _ q _ h => hF q.1 h)) x1) (z_Dr hD) ?_⟩
  intro i j x y hi hj
  rcases z_apc hi with h | ⟨k, -, h⟩
  · exact z_Dx hD (z_apl h) hj
  · exact x2 k j x y h hj
section ZX
variable {p : Program} {l : Launch} {e : Env} {R : Room} {s : State} {m : MethodId} {args : Array Value} {below : List Frame} {meth : Method} {c : Code}
variable {cc : ByteArray} {nL : Nat} {own : String} {Ts : List Cond} {D : va_G} {tys : List (ClassId × FieldType)} {A : Nat → Prop} {cells slots : Nat} {Q : State → Prop} {pc : Nat} {L : List (Nat × Value)} {st : List Value} {ws : va_W}
theorem z_swap {a b d : va_W} (k : zG p l e R s m args below meth c D nL A cells slots Q pc L st ((a ++ d) ++ b)) : zG p l e R s m args below meth c D nL A cells slots Q pc L st ((a ++ b) ++ d) := fun H locs ls hl hP hD hS => k H locs ls hl hP.swap hD.swap hS
theorem z_drop {a b : va_W} (k : zG p l e R s m args below meth c D nL A cells slots Q pc L st a) : zG p l e R s m args below meth c D nL A cells slots Q pc L st (a ++ b) := fun H locs ls hl hP hD hS => k H locs ls hl (z_Pl hP) (z_Dl hD) hS
theorem z_dropM {a b d : va_W} (k : zG p l e R s m args below meth c D nL A cells slots Q pc L st (a ++ d)) : zG p l e R s m args below meth c D nL A cells slots Q pc L st ((a ++ b) ++ d) := z_swap (z_drop k)
theorem z_st {st' : List Value} (h : st = st') (k : zG p l e R s m args below meth c D nL A cells slots Q pc L st' ws) : zG p l e R s m args below meth c D nL A cells slots Q pc L st ws := h ▸ k
theorem z_qset (C : zC p s m args c cc nL own Ts D tys A) (t0 : Nat) {cI : ClassId} (ht : tys[t0]? = some (cI, .int)) {X : va_W} {q n : Nat} {f : Nat → Int32} {i x : Int32} (j : Nat) (hi : i = nI j) (hj : j < n) (hn : n < 2 ^ 31) (hdg : decode cc pc = .ok (.iastore, 1)) (k : zG p l e R s m args below meth c D nL A cells slots Q (pc + 1) L st (X ++ [(q, .inl (cI, n, .inl (upd f j x)))])) : zG p l e R s m args below meth c D nL A cells slots Q pc L (.int x :: .int i :: .ref q :: st) (X ++ [(q, .inl (cI, n, .inl f))]) := z_iast C (X.length + 0) t0 (z_apr rfl) ht j hi hj hn (by rw [z_str]; rfl) hdg k
theorem z_tabIn (C : zC p s m args c cc nL own Ts D tys A) {dflt lo hi : Int} {offs : Array Int} {len : Nat} {x : Int32} {off : Int} {tgt : Nat} (hdg : decode cc pc = .ok (.tableswitch dflt lo hi offs, len)) (h1 : ¬ x.toInt < lo) (h2 : ¬ hi < x.toInt) (ho : offs[(x.toInt - lo).toNat]? = some off) (ht : (pc : Int) + off = (tgt : Int)) (kk : zG p l e R s m args below meth c D nL A cells slots Q tgt L st ws) : zG p l e R s m args below meth c D nL A cells slots Q (pc) L (.int x :: st) ws := fun H locs ls hl hP hD hS => lv_tableIn C.exec C.code hdg h1 h2 ho ht (kk H locs ls hl hP hD hS)
theorem z_tabOut (C : zC p s m args c cc nL own Ts D tys A) {dflt lo hi : Int} {offs : Array Int} {len : Nat} {x : Int32} {tgt : Nat} (hdg : decode cc pc = .ok (.tableswitch dflt lo hi offs, len)) (h : x.toInt < lo ∨ hi < x.toInt) (ht : (pc : Int) + dflt = (tgt : Int)) (kk : zG p l e R s m args below meth c D nL A cells slots Q tgt L st ws) : zG p l e R s m args below meth c D nL A cells slots Q (pc) L (.int x :: st) ws := fun H locs ls hl hP hD hS => lv_tableOut C.exec C.code hdg h ht (kk H locs ls hl hP hD hS)
theorem z_ishr (C : zC p s m args c cc nL own Ts D tys A) {x y : Int32} (hdg : decode cc pc = .ok (.ishr, 1)) (k : zG p l e R s m args below meth c D nL A cells slots Q (pc + 1) L (.int (x >>> (y &&& 31)) :: st) ws) : zG p l e R s m args below meth c D nL A cells slots Q pc L (.int y :: .int x :: st) ws := fun H locs ls hl hP hD hS => lv_ishr C.exec C.code hdg (k H locs ls hl hP hD hS)
theorem z_ldc (C : zC p s m args c cc nL own Ts D tys A) {index : Nat} {v : Int32} (hc : (Cond.constant own index v) ∈ Ts) (hdg : decode cc pc = .ok (.ldc index, 2)) (k : zG p l e R s m args below meth c D nL A cells slots Q (pc + 2) L (.int v :: st) ws) : zG p l e R s m args below meth c D nL A cells slots Q pc L st ws := fun H locs ls hl hP hD hS => lv_ldc C.exec C.code C.here (C.words _ hc) hdg (k H locs ls hl hP hD hS)
theorem z_nonnull (C : zC p s m args c cc nL own Ts D tys A) {x : Nat} {off : Int} {tgt : Nat} (hdg : decode cc pc = .ok (.ifnonnull off, 3)) (ht : (pc : Int) + off = (tgt : Int)) (k : zG p l e R s m args below meth c D nL A cells slots Q tgt L st ws) : zG p l e R s m args below meth c D nL A cells slots Q pc L (.ref x :: st) ws := fun H locs ls hl hP hD hS => lv_ifnonnull C.exec C.code hdg ht (k H locs ls hl hP hD hS)
theorem z_aald (C : zC p s m args c cc nL own Ts D tys A) {a : Nat} (q0 t0 : Nat) {cA : ClassId} {n b : Nat} {f : Nat → Option Nat} (ha : ws[q0]? = some (a, .inl (cA, n, .inr (.inr (.inr (.inr f)))))) (ht : tys[t0]? = some (cA, .array .int)) {i : Int32} (j : Nat) (hi : i = nI j) (hj : j < n) (hn : n < 2 ^ 31) (hb : f j = some b) (hdg : decode cc pc = .ok (.aaload, 1)) (kk : zG p l e R s m args below meth c D nL A cells slots Q (pc + 1) L (.ref b :: st) ws) : zG p l e R s m args below meth c D nL A cells slots Q pc L (.int i :: .ref a :: st) ws := by
  intro H locs ls hl hP hD hS
  exact W.aald (v := .ref b) (ty := .array .int) C.exec C.code (hP q0 _ ha) ((C.known.2 t0 _ ht).1 n (fun j => va_rf (f j))) rfl (fun q => by cases q) (by show ¬ (i < 0 ∨ (arrV _ _ _).slots.size ≤ _); rw [arrV_size]; exact (z_cl hi hj hn).1) (by show (arrV _ _ _).slots[_]? = _; rw [(z_cl hi hj hn).2, arrV_read _ _ hj, hb]; rfl) rfl rfl hdg (kk H locs ls hl hP hD hS)
theorem z_aast (C : zC p s m args c cc nL own Ts D tys A) (hAA : zAA s) {a : Nat} (q0 qk t0 t1 : Nat) {cA cI : ClassId} {n v nn : Nat} {f : Nat → Option Nat} {g : Nat → Int32} {ws' : va_W} (ha : ws[q0]? = some (a, .inl (cA, n, .inr (.inr (.inr (.inr f)))))) (htI : tys[t0]? = some (cI, .int)) (ht : tys[t1]? = some (cA, .array .int)) (hv : ws[qk]? = some (v, .inl (cI, nn, .inl g))) {i : Int32} (j : Nat) (hi : i = nI j) (hj : j < n) (hn : n < 2 ^ 31) (hws : ws.set q0 (a, .inl (cA, n, .inr (.inr (.inr (.inr (va_up f j (some v))))))) = ws') (hdg : decode cc pc = .ok (.aastore, 1)) (kk : zG p l e R s m args below meth c D nL A cells slots Q (pc + 1) L st ws') : zG p l e R s m args below meth c D nL A cells slots Q pc L (.ref v :: .int i :: .ref a :: st) ws := by
  intro H locs ls hl hP hD hS
  obtain ⟨kA, kI, f1, f2, f3, f4⟩ := hAA.facts C.known htI ht
  obtain ⟨hin, hcl⟩ := z_cl hi hj hn
  have hlt : i.toNatClampNeg < n := Nat.not_le.mp fun q => hin (Or.inr q)
  have h0 : ¬ i < 0 := fun q => hin (Or.inl q)
  refine W.aast (k := kA) (kv := kI) (kcomp := kI) (comp := cI) (t := .array .int) C.exec C.code (hP q0 _ ha) (fun q h => by cases h) (fun h => by cases h) f1 f2 rfl f3 ⟨h0, by show _ < (arrV _ _ _).slots.size; rw [arrV_size]; exact hlt⟩ (hP qk _ hv) (fun q h => by cases h) f3 f4 rfl rfl hdg fun H1 e z oq => ?_
  subst hws
  refine kk H1 _ ls hl (hP.set hD ha ?_ oq) (hD.set ha) (hS.put z oq (hD.2 q0 _ ha))
  show H1[a]? = some (vp_cell _ _)
  rw [e]
  rw [vp_cell_q, vp_cell_q, arrV_store, hcl]
  congr 2
  funext q
  by_cases hq : q = j
  · subst hq
    simp [updV, va_up, va_rf]
  · simp [updV, va_up, hq]
theorem z_anew (C : zC p s m args c cc nL own Ts D tys A) (hAA : zAA s) (t1 : Nat) {cP : ClassId} {index : Nat} {n : Int32} {N : Nat} (ht : tys[t1]? = some (cP, .array .int)) (hcl : Cond.classLink own index "[I" ∈ Ts) (hn : ¬ n < 0) (hN : n.toNatClampNeg = N) (hb : N ≤ 1000) (hcells : cells + 1 ≤ R.cells) (hslots : slots + N ≤ R.slots) (hdg : decode cc pc = .ok (.anewarray index, 3)) (kk : ∀ q : Nat, zG p l e R s m args below meth c D nL A (cells + 1) (slots + N) Q (pc + 3) L (.ref q :: st) (ws ++ [(q, .inl (cP, N, .inr (.inr (.inr (.inr (fun _ => none))))))])) : zG p l e R s m args below meth c D nL A cells slots Q pc L (.int n :: st) ws := by
  subst hN
  intro H locs ls hl hP hD hS
  refine W.anewA (t := .int) C.exec C.code C.here (C.words _ hcl) hAA.use rfl hdg rfl hn (by omega) hcells hslots fun cA kA comp f1 f2 f3 f4 => ?_
  have e : cA = cP := Option.some.inj (f1.symm.trans (C.known.2 t1 _ ht).2)
  subst e
  generalize hH1 : H.push ({ cls := cA, slots := Array.replicate n.toNatClampNeg .null, vm := .none } : Cell) = H1
  have z1 : H1.size = H.size + 1 := by rw [← hH1, Array.size_push]
  have e1 : H1[H.size]? = some (arrV cA n.toNatClampNeg (fun _ => .null)) := by rw [← hH1, Array.getElem?_push_size, ← arrV_new]
  have o1 : ∀ q : Nat, q < H.size → H1[q]? = H[q]? := fun q hq => by rw [← hH1, Array.getElem?_push, if_neg (Nat.ne_of_lt hq)]
  have hk : ∀ (k : Nat) (x : Nat × va_E), ws[k]? = some x → H1[x.1]? = H[x.1]? := fun k x hx => o1 x.1 ((hP k x hx).lt)
  refine kk H.size H1 locs ls hl ((hP.kept hk).app (fun k x hx => ?_)) (hD.push hP rfl (C.new _ hS.1)) ⟨Nat.le_trans hS.1 (by omega), fun x h1 h2 => (o1 x (Nat.lt_of_lt_of_le h1 hS.1)).trans (hS.2.1 x h1 h2), hS.2.2⟩
  have hz : k < 1 := (List.getElem?_eq_some_iff.mp hx).1
  rw [show k = 0 by omega] at hx
  cases hx
  show H1[H.size]? = some (vp_cell _ _)
  rw [vp_cell_q]
  exact e1
/-! contracts of methods that may make cells: the end's world is P x, for some x of a kind -/
def zQX {α : Type} (φ : α → Prop) (rv : α → Option Value) (P : α → va_W) (D : va_G) (A : Nat → Prop) : Array Value → State → Outcome → State → Prop := fun _ st oc t => (∃ x : α, φ x ∧ oc = .returned (rv x) ∧ va_P D vwCl (P x) t.heap ∧ va_D A (P x)) ∧ va_F A st t
def zMX {α : Type} (l : Launch) (y : MethodName) (wd : List Cond) (fr lo mc ms : Nat) (av : List Value) (tys : List (ClassId × FieldType)) (D : va_G) (w : va_W) (E : State → Prop) (φ : α → Prop) (rv : α → Option Value) (P : α → va_W) : Prop :=
  ∀ sz : Nat, Met l y wd ({ frames := fr, cells := mc, slots := ms, locals := lo } : Room) (va_Pc av (fun U => zP D tys w sz U ∧ E U)) (zQX φ rv P D (va_A w sz)) mc ms (va_A w sz)
theorem z_metX {α : Type} {y : MethodName} {wd wd' : List Cond} {fr lo mc ms : Nat} {av : List Value} {w : va_W} {E : State → Prop} {φ : α → Prop} {rv : α → Option Value} {P : α → va_W} {maxL : Nat} {ret : Option FieldType} (hy : plainName y.cls = true) (hw : wd = Cond.code y cc maxL ret :: wd') (hlen : (lg_sl av).length ≤ maxL)
    (body : ∀ (p : Program) (e : Env) (s : State) (m : MethodId) (args : Array Value) (below : List Frame) (meth : Method) (c : Code) (A : Nat → Prop), A = va_A w s.heap.size → E s → zC p s m args c cc maxL y.cls wd D tys A → meth.sig.returnType = ret → meth.locks = false →
      zG p l e ({ frames := fr, cells := mc, slots := ms, locals := lo } : Room) s m args below meth c D maxL A 0 0 (MQ below (zQX φ rv P D A) args s mc ms A) 0 (lv_args 0 av) [] w) : zMX l y wd fr lo mc ms av tys D w E φ rv P := by
  intro sz
  refine Met.ofW (cc := cc) (maxL := maxL) (ret := ret) hy hw ?_
  intro p e s m args below meth c s₁ B hml hv
  obtain ⟨rfl, ⟨hsz, hP, hK, hD0⟩, hE⟩ := hv
  have hts := atoms_spec (ws := wd) B.pre
  have hown : s.vm.findClass y.cls = some m.cls := findClass_of_methodNamed B.named
  subst hsz
  have hD := hD0.self (sz := s.heap.size)
  have hl := lv_entry av (n := maxL) hlen
  rw [lg_entry_eq]
  exact body p e s m _ below meth c (va_A w s.heap.size) rfl hE ⟨⟨B.exec, B.bytes, hml, hown, hts⟩, hK, fun q h => Or.inr h⟩ B.returns B.notSynchronized s.heap [] _ hl hP hD va_S.rf
section ZXR
variable {α : Type} {φ : α → Prop} {rv : α → Option Value} {P : α → va_W}
theorem z_iretX (C : zC p s m args c cc nL own Ts D tys A) (x : α) (hφ : φ x) {v : Int32} {mc ms : Nat} (hr : meth.sig.returnType = some .int) (hlocks : meth.locks = false) (hc : cells ≤ mc) (hs : slots ≤ ms) (hdg : decode cc pc = .ok (.ireturn, 1)) (e1 : some (Value.int v) = rv x) (e2 : ws = P x) : zG p l e R s m args below meth c D nL A cells slots (MQ below (zQX φ rv P D A) args s mc ms A) pc L ([.int v]) ws := by
  subst e2
  intro H locs ls hl hP hD hS
  exact W.widen hc hs (W.iret C.exec C.code hr (fun t ht hW => ⟨⟨x, hφ, by rw [← e1], by rw [ht]; exact hP, hD⟩, hS.F ht⟩) hS.2.2 hdg hlocks)
theorem z_zretX (C : zC p s m args c cc nL own Ts D tys A) (x : α) (hφ : φ x) {v : Int32} {mc ms : Nat} (hr : meth.sig.returnType = some .boolean) (hlocks : meth.locks = false) (hc : cells ≤ mc) (hs : slots ≤ ms) (hv : v = 0 ∨ v = 1) (hdg : decode cc pc = .ok (.ireturn, 1)) (e1 : some (Value.int v) = rv x) (e2 : ws = P x) : zG p l e R s m args below meth c D nL A cells slots (MQ below (zQX φ rv P D A) args s mc ms A) pc L ([.int v]) ws := by
  subst e2
  intro H locs ls hl hP hD hS
  exact W.widen hc hs (W.zret C.exec C.code hr (by rcases hv with h | h <;> rw [h] <;> rfl) (fun t ht hW => ⟨⟨x, hφ, by rw [← e1], by rw [ht]; exact hP, hD⟩, hS.F ht⟩) hS.2.2 hdg hlocks)
theorem z_vretX (C : zC p s m args c cc nL own Ts D tys A) (x : α) (hφ : φ x) {mc ms : Nat} (hr : meth.sig.returnType = none) (hlocks : meth.locks = false) (hc : cells ≤ mc) (hs : slots ≤ ms) (hdg : decode cc pc = .ok (.return_, 1)) (e1 : none = rv x) (e2 : ws = P x) : zG p l e R s m args below meth c D nL A cells slots (MQ below (zQX φ rv P D A) args s mc ms A) pc L ([]) ws := by
  subst e2
  intro H locs ls hl hP hD hS
  exact W.widen hc hs (W.vret C.exec C.code hr (fun t ht hW => ⟨⟨x, hφ, by rw [← e1], by rw [ht]; exact hP, hD⟩, hS.F ht⟩) hS.2.2 hdg hlocks)
theorem z_aretX (C : zC p s m args c cc nL own Ts D tys A) (x : α) (hφ : φ x) {v : Nat} {mc ms : Nat} {rt : FieldType} (hr : meth.sig.returnType = some rt) (hrt : (∃ n, rt = .object n) ∨ ∃ t, rt = .array t) (hlocks : meth.locks = false) (hc : cells ≤ mc) (hs : slots ≤ ms) (hdg : decode cc pc = .ok (.areturn, 1)) (e1 : some (Value.ref v) = rv x) (e2 : ws = P x) : zG p l e R s m args below meth c D nL A cells slots (MQ below (zQX φ rv P D A) args s mc ms A) pc L ([.ref v]) ws := by
  subst e2
  intro H locs ls hl hP hD hS
  exact W.widen hc hs (W.aret C.exec C.code hr hrt (Or.inr ⟨v, rfl⟩) (fun t ht hW => ⟨⟨x, hφ, by rw [← e1], by rw [ht]; exact hP, hD⟩, hS.F ht⟩) hS.2.2 hdg hlocks)
end ZXR
/-! calls -/
section ZXC
variable {α : Type} {φ : α → Prop} {rv : α → Option Value} {P : α → va_W} {y : MethodName} {bytes : ByteArray} {maxL index : Nat} {ret : Option FieldType} {ws2 : List Cond} {fr lo mc ms : Nat} {As rest : List Value} {E : State → Prop} {w w1 w2 : va_W} {tys2 : List (ClassId × FieldType)} {n : Nat}
theorem z_callVX (C : zC p s m args c cc nL own Ts D tys A) {b q0 ci : Nat} {C2 : String} {fs : List Value} {r : vw_C} (hM : zMX l y ws2 fr lo mc ms (.ref b :: As) tys2 D w E φ rv P) (hE : ∀ (H : Heap) (locs : List Loc) (U : State), va_S A s.heap H locs → U.heap = H → s.WarmedH U.vm → E U) (hEb : ∀ (U : State) (g : JFrame) (mk : MethodId) (a : Array Value), E U → E (U.calling g mk a)) (cw : CallW R s args own C2 index y bytes maxL ret ws2 ({ frames := fr, cells := mc, slots := ms, locals := lo } : Room) mc ms n) (hq : w[q0]? = some (b, .inr (ci, fs))) (hc : vwCl[ci]? = some r) (hr : r.1 = C2) (is : List Nat) (ht : is.filterMap (fun i => tys[i]?) = tys2) (hn : As.length = n) (hroom : (rest.map fun v => v.category).sum ≤ 8) (hf : cells + mc ≤ R.cells ∧ slots + ms ≤ R.slots) (hw : ws = (w1 ++ w) ++ w2) (hst : st = As.reverse ++ .ref b :: rest) (hdg : decode cc pc = .ok (.invokevirtual index, 3)) (kk : ∀ x : α, φ x → zG p l e R s m args below meth c D nL A (cells + mc) (slots + ms) Q (pc + 3) L ((rv x).toList ++ rest) ((w1 ++ P x) ++ w2)) : zG p l e R s m args below meth c D nL A cells slots Q pc L st ws := by
  intro H locs ls hl hP hD hS T hT X
  subst hw; subst hst
  have hPc : va_P D vwCl w H := z_Pr (z_Pl hP)
  have hDc : va_D (fun _ => True) w := (z_Dr (z_Dl hD)).weaken (fun _ _ _ _ => trivial)
  have hKc := C.known.sub is ht
  have hFc : ∀ q, va_A w H.size q → A q := by
    rintro q (⟨k, e, h⟩ | h)
    · exact (z_Dr (z_Dl hD)).2 _ (q, e) h
    · exact C.new q (Nat.le_trans hS.1 h)
  obtain ⟨v, st₀, t, T', L', h0, X', hL, e1, e2, ⟨⟨x, hφ, hv, hb, hDb⟩, hz, hkk⟩, stp⟩ := va_runV (As := As) (rest := rest) (g := F0 m pc ls (As.reverse ++ .ref b :: rest)) C.1 (hM H.size) cw ⟨fun a U g mk q => ⟨q.1, q.2.1.blind, hEb U g mk a q.2.2⟩, by rw [← hr]; exact va_recv hKc hPc hc hq, fun U hU hW => ⟨rfl, ⟨by rw [hU], by rw [hU]; exact hPc, va_K.moved hW.alike hKc, hDc⟩, hE H locs U hS hU hW⟩⟩ rfl hn hl.1 rfl (lv_room (pc := pc) (ls := ls) (rest := As.reverse ++ .ref b :: rest) hroom) hdg hf T hT X
  have hv : v = rv x := by injection hv
  subst hv
  rw [h0] at hz hkk
  obtain ⟨hP', hD'⟩ := z_joinX hP hD (H1 := T'.heap) (fun q h1 h2 => by rw [e1]; exact hkk q h1 h2) hFc (by rw [e1]; exact hb) hDb
  obtain ⟨t2, a1, b1⟩ := kk x hφ T'.heap (locs ++ L') ls hl hP' hD' ⟨Nat.le_trans hS.1 (by rw [e1]; exact hz), fun q h1 h2 => by rw [e1, hkk q (Nat.lt_of_lt_of_le h1 hS.1) (fun z => h2 (hFc q z))]; exact hS.2.1 q h1 h2, fun q hq => by
    rcases List.mem_append.mp hq with h | h
    · exact hS.2.2 q h
    · exact hFc _ (hL q h)⟩ T' rfl X'
  exact ⟨t2, stp t2 a1, b1⟩
theorem z_callSX (C : zC p s m args c cc nL own Ts D tys A) (hM : zMX l y ws2 fr lo mc ms As tys2 D w E φ rv P) (hE : ∀ (H : Heap) (locs : List Loc) (U : State), va_S A s.heap H locs → U.heap = H → s.WarmedH U.vm → E U) (hEb : ∀ (U : State) (g : JFrame) (mk : MethodId) (a : Array Value), E U → E (U.calling g mk a)) (cw : CallB R s args own index y bytes maxL ret ws2 ({ frames := fr, cells := mc, slots := ms, locals := lo } : Room) mc ms n ∧ (Cond.static y).before args s = true) (is : List Nat) (ht : is.filterMap (fun i => tys[i]?) = tys2) (hn : As.length = n) (hroom : (rest.map fun v => v.category).sum ≤ 8) (hf : cells + mc ≤ R.cells ∧ slots + ms ≤ R.slots) (hw : ws = (w1 ++ w) ++ w2) (hst : st = As.reverse ++ rest) (hdg : decode cc pc = .ok (.invokestatic index, 3)) (kk : ∀ x : α, φ x → zG p l e R s m args below meth c D nL A (cells + mc) (slots + ms) Q (pc + 3) L ((rv x).toList ++ rest) ((w1 ++ P x) ++ w2)) : zG p l e R s m args below meth c D nL A cells slots Q pc L st ws := by
  intro H locs ls hl hP hD hS T hT X
  subst hw; subst hst
  have hPc : va_P D vwCl w H := z_Pr (z_Pl hP)
  have hDc : va_D (fun _ => True) w := (z_Dr (z_Dl hD)).weaken (fun _ _ _ _ => trivial)
  have hKc := C.known.sub is ht
  have hFc : ∀ q, va_A w H.size q → A q := by
    rintro q (⟨k, e, h⟩ | h)
    · exact (z_Dr (z_Dl hD)).2 _ (q, e) h
    · exact C.new q (Nat.le_trans hS.1 h)
  obtain ⟨v, st₀, t, T', L', h0, X', hL, e1, e2, ⟨⟨x, hφ, hv, hb, hDb⟩, hz, hkk⟩, stp⟩ := va_runS (As := As) (rest := rest) (g := F0 m pc ls (As.reverse ++ rest)) C.1 (hM H.size) cw ⟨fun a U g mk q => ⟨q.1, q.2.1.blind, hEb U g mk a q.2.2⟩, fun U hU hW => ⟨rfl, ⟨by rw [hU], by rw [hU]; exact hPc, va_K.moved hW.alike hKc, hDc⟩, hE H locs U hS hU hW⟩⟩ rfl hn hl.1 rfl (lv_room (pc := pc) (ls := ls) (rest := As.reverse ++ rest) hroom) hdg hf T hT X
  have hv : v = rv x := by injection hv
  subst hv
  rw [h0] at hz hkk
  obtain ⟨hP', hD'⟩ := z_joinX hP hD (H1 := T'.heap) (fun q h1 h2 => by rw [e1]; exact hkk q h1 h2) hFc (by rw [e1]; exact hb) hDb
  obtain ⟨t2, a1, b1⟩ := kk x hφ T'.heap (locs ++ L') ls hl hP' hD' ⟨Nat.le_trans hS.1 (by rw [e1]; exact hz), fun q h1 h2 => by rw [e1, hkk q (Nat.lt_of_lt_of_le h1 hS.1) (fun z => h2 (hFc q z))]; exact hS.2.1 q h1 h2, fun q hq => by
    rcases List.mem_append.mp hq with h | h
    · exact hS.2.2 q h
    · exact hFc _ (hL q h)⟩ T' rfl X'
  exact ⟨t2, stp t2 a1, b1⟩
theorem z_callNX (C : zC p s m args c cc nL own Ts D tys A) {b : Nat} {host : String} (hM : zMX l y ws2 fr lo mc ms [.ref b] tys2 D w E φ rv P) (hE : ∀ (H : Heap) (locs : List Loc) (U : State), va_S A s.heap H locs → U.heap = H → s.WarmedH U.vm → E U) (hEb : ∀ (U : State) (g : JFrame) (mk : MethodId) (a : Array Value), E U → E (U.calling g mk a)) (cw : va_CN R s args own index y host bytes maxL none ws2 ({ frames := fr, cells := mc, slots := ms, locals := lo } : Room) mc ms 0 ∧ y.name = "<init>" ∧ (Cond.instanceMethod y).before args s = true) (is : List Nat) (ht : is.filterMap (fun i => tys[i]?) = tys2) (hroom : (rest.map fun v => v.category).sum ≤ 8) (hf : cells + mc ≤ R.cells ∧ slots + ms ≤ R.slots) (hw : ws = (w1 ++ w) ++ w2) (hst : st = .ref b :: rest) (hdg : decode cc pc = .ok (.invokespecial index, 3)) (kk : ∀ x : α, φ x → zG p l e R s m args below meth c D nL A (cells + mc) (slots + ms) Q (pc + 3) L ((rv x).toList ++ rest) ((w1 ++ P x) ++ w2)) : zG p l e R s m args below meth c D nL A cells slots Q pc L st ws := by
  intro H locs ls hl hP hD hS T hT X
  subst hw; subst hst
  have hPc : va_P D vwCl w H := z_Pr (z_Pl hP)
  have hDc : va_D (fun _ => True) w := (z_Dr (z_Dl hD)).weaken (fun _ _ _ _ => trivial)
  have hKc := C.known.sub is ht
  have hFc : ∀ q, va_A w H.size q → A q := by
    rintro q (⟨k, e, h⟩ | h)
    · exact (z_Dr (z_Dl hD)).2 _ (q, e) h
    · exact C.new q (Nat.le_trans hS.1 h)
  obtain ⟨v, st₀, t, T', L', h0, X', hL, e1, e2, ⟨⟨x, hφ, hv, hb, hDb⟩, hz, hkk⟩, stp⟩ := va_runIN (As := []) (rest := rest) (g := F0 m pc ls (.ref b :: rest)) C.1 (hM H.size) cw ⟨fun a U g mk q => ⟨q.1, q.2.1.blind, hEb U g mk a q.2.2⟩, fun U hU hW => ⟨rfl, ⟨by rw [hU], by rw [hU]; exact hPc, va_K.moved hW.alike hKc, hDc⟩, hE H locs U hS hU hW⟩⟩ rfl rfl hl.1 rfl (lv_room (pc := pc) (ls := ls) (rest := .ref b :: rest) hroom) hdg hf T hT X
  have hv : v = rv x := by injection hv
  subst hv
  rw [h0] at hz hkk
  obtain ⟨hP', hD'⟩ := z_joinX hP hD (H1 := T'.heap) (fun q h1 h2 => by rw [e1]; exact hkk q h1 h2) hFc (by rw [e1]; exact hb) hDb
  obtain ⟨t2, a1, b1⟩ := kk x hφ T'.heap (locs ++ L') ls hl hP' hD' ⟨Nat.le_trans hS.1 (by rw [e1]; exact hz), fun q h1 h2 => by rw [e1, hkk q (Nat.lt_of_lt_of_le h1 hS.1) (fun z => h2 (hFc q z))]; exact hS.2.1 q h1 h2, fun q hq => by
    rcases List.mem_append.mp hq with h | h
    · exact hS.2.2 q h
    · exact hFc _ (hL q h)⟩ T' rfl X'
  exact ⟨t2, stp t2 a1, b1⟩
end ZXC
theorem zAA.call {s : State} (h : zAA s) (A : Nat → Prop) : ∀ (H : Heap) (locs : List Loc) (U : State), va_S A s.heap H locs → U.heap = H → s.WarmedH U.vm → zAA U := fun _ _ _ _ _ hW => h.moved hW.alike
theorem zAA.blind : ∀ (U : State) (g : JFrame) (mk : MethodId) (a : Array Value), zAA U → zAA (U.calling g mk a) := fun U g mk a h => zAA.moved (u := U) (U := U.calling g mk a) (Vm.Alike.refl U.vm) h
end ZX
end
section
/-! the simulation's cells: its object, its two tables of rows -/
/-- addresses: the object, its array of members, of throws, a member's row, a throw's row -/
abbrev AG : Type := Nat × Nat × Nat × (Nat → Nat) × (Nat → Nat)
abbrev gO (G : AG) : Nat := G.1
abbrev gA (G : AG) : Nat := G.2.1
abbrev gB (G : AG) : Nat := G.2.2.1
abbrev gM (G : AG) : Nat → Nat := G.2.2.2.1
abbrev gL (G : AG) : Nat → Nat := G.2.2.2.2
def refs (n : Nat) (g : Nat → Nat) : Nat → Option Nat := fun i => if i < n then some (g i) else none
def wR (cI : ClassId) (n c : Nat) (g : Nat → Nat) (r : Nat → Nat → Int32) : va_W := (List.range n).map (fun i => (g i, .inl (cI, c, .inl (r i))))
def wT (a : Nat) (cP cI : ClassId) (n c : Nat) (g : Nat → Nat) (r : Nat → Nat → Int32) : va_W := (a, .inl (cP, n, .inr (.inr (.inr (.inr (refs n g)))))) :: wR cI n c g r
def mrow (u : S0) (i : Nat) : Nat → Int32 := fun j => if j = 0 then xl u i else if j = 1 then xa u i else if j = 2 then xe u i else 0
def lrow (u : S0) (t : Nat) : Nat → Int32 := fun j => if j = 0 then xw u t else if j = 1 then xf u t else if j = 2 then xg u t else if j = 3 then xx u t else 0
def wSo (G : AG) (u : S0) : va_W := [(gO G, .inr (1, [.int (xd u), .int (nI (xc u)), .int (xo u), .ref (gA G), .ref (gB G)]))]
def wS (G : AG) (cI cP : ClassId) (u : S0) : va_W := (wSo G u ++ wT (gA G) cP cI (xn u) 3 (gM G) (mrow u)) ++ wT (gB G) cP cI (xk u) 4 (gL G) (lrow u)
/-- n things, and one behind them -/
def snoc {α : Type} (n : Nat) (f : Nat → α) (x : α) : Nat → α := fun i => if i < n then f i else x
theorem snoc_lt {α : Type} {n i : Nat} {f : Nat → α} {x : α} (h : i < n) : snoc n f x i = f i := if_pos h
theorem snoc_n {α : Type} {n : Nat} {f : Nat → α} {x : α} : snoc n f x n = x := if_neg (Nat.lt_irrefl n)
section WT
variable {a : Nat} {cP cI : ClassId} {n c i : Nat} {g g' : Nat → Nat} {r r' : Nat → Nat → Int32} {pre : va_W} {G : AG} {u : S0}
theorem wR_get (h : i < n) : (wR cI n c g r)[i]? = some (g i, .inl (cI, c, .inl (r i))) := by
  unfold wR
  rw [List.getElem?_map, List.getElem?_range h]
  rfl
theorem wT_get (h : i < n) : (wT a cP cI n c g r)[1 + i]? = some (g i, .inl (cI, c, .inl (r i))) := by
  rw [Nat.add_comm]
  exact wR_get h
theorem wR_congr (hg : ∀ i, i < n → g i = g' i) (hr : ∀ i, i < n → r i = r' i) : wR cI n c g r = wR cI n c g' r' := List.map_congr_left (fun i hi => by rw [hg i (List.mem_range.mp hi), hr i (List.mem_range.mp hi)])
theorem refs_congr (hg : ∀ i, i < n → g i = g' i) : refs n g = refs n g' := by
  funext i
  unfold refs
  by_cases h : i < n
  · rw [if_pos h, if_pos h, hg i h]
  · rw [if_neg h, if_neg h]
theorem wT_congr (hg : ∀ i, i < n → g i = g' i) (hr : ∀ i, i < n → r i = r' i) : wT a cP cI n c g r = wT a cP cI n c g' r' := by
  unfold wT
  rw [wR_congr hg hr, refs_congr hg]
theorem wR_set (h : i < n) (x : Nat → Int32) : (wR cI n c g r).set i (g i, .inl (cI, c, .inl x)) = wR cI n c g (va_up r i x) := by
  apply List.ext_getElem?
  intro k
  rw [List.getElem?_set]
  by_cases hk : i = k
  · subst hk
    have hl : i < (wR cI n c g r).length := by
      unfold wR
      rw [List.length_map, List.length_range]
      exact h
    rw [if_pos rfl, if_pos hl, wR_get h]
    unfold va_up
    rw [if_pos rfl]
  · rw [if_neg hk]
    unfold wR
    rw [List.getElem?_map, List.getElem?_map]
    by_cases h2 : k < n
    · rw [List.getElem?_range h2]
      show some (g k, Sum.inl (cI, c, Sum.inl (r k))) = some (g k, Sum.inl (cI, c, Sum.inl (va_up r i x k)))
      unfold va_up
      rw [if_neg (Ne.symm hk)]
    · rw [List.getElem?_eq_none (by rw [List.length_range]; omega)]
      rfl
theorem wT_set (h : i < n) (x : Nat → Int32) : (wT a cP cI n c g r).set (1 + i) (g i, .inl (cI, c, .inl x)) = wT a cP cI n c g (va_up r i x) := by
  rw [Nat.add_comm]
  show _ :: (wR cI n c g r).set i _ = _
  rw [wR_set h]
  rfl
theorem wR_snoc (q : Nat) (x : Nat → Int32) : wR cI n c g r ++ [(q, .inl (cI, c, .inl x))] = wR cI (n + 1) c (snoc n g q) (snoc n r x) := by
  have e : wR cI n c g r = wR cI n c (snoc n g q) (snoc n r x) := wR_congr (fun i h => (snoc_lt h).symm) (fun i h => (snoc_lt h).symm)
  rw [e]
  unfold wR
  rw [List.range_succ, List.map_append]
  show _ = _ ++ [(snoc n g q n, Sum.inl (cI, c, Sum.inl (snoc n r x n)))]
  rw [snoc_n, snoc_n]
theorem wS_o : (pre ++ wS G cI cP u)[pre.length + 0]? = some (gO G, .inr (1, [.int (xd u), .int (nI (xc u)), .int (xo u), .ref (gA G), .ref (gB G)])) := z_apr rfl
theorem wS_a : (pre ++ wS G cI cP u)[pre.length + 1]? = some (gA G, .inl (cP, xn u, .inr (.inr (.inr (.inr (refs (xn u) (gM G))))))) := z_apr rfl
theorem wS_m (h : i < xn u) : (pre ++ wS G cI cP u)[pre.length + (1 + (1 + i))]? = some (gM G i, .inl (cI, 3, .inl (mrow u i))) := z_apr (z_apl (z_apr (a := wSo G u) (wT_get h)))
abbrev nS (G : AG) (cI cP : ClassId) (u : S0) : Nat := (wSo G u ++ wT (gA G) cP cI (xn u) 3 (gM G) (mrow u)).length
theorem wS_b : (pre ++ wS G cI cP u)[pre.length + (nS G cI cP u + 0)]? = some (gB G, .inl (cP, xk u, .inr (.inr (.inr (.inr (refs (xk u) (gL G))))))) := z_apr (z_apr rfl)
theorem wS_l (h : i < xk u) : (pre ++ wS G cI cP u)[pre.length + (nS G cI cP u + (1 + i))]? = some (gL G i, .inl (cI, 4, .inl (lrow u i))) := z_apr (z_apr (wT_get h))
theorem wS_congr {u' : S0} (hn : xn u = xn u') (hk : xk u = xk u') (hd : xd u = xd u') (hc : xc u = xc u') (ho : xo u = xo u') (hm : ∀ i, i < xn u → mrow u i = mrow u' i) (hl : ∀ t, t < xk u → lrow u t = lrow u' t) : wS G cI cP u = wS G cI cP u' := by
  unfold wS wSo
  rw [wT_congr (g' := gM G) (r' := mrow u') (fun _ _ => rfl) hm, wT_congr (g' := gL G) (r' := lrow u') (fun _ _ => rfl) hl, hn, hk, hd, hc, ho]
theorem wS_setrow {u' : S0} {x : Nat → Int32} (h : i < xn u) (hn : xn u = xn u') (hk : xk u = xk u') (hd : xd u = xd u') (hc : xc u = xc u') (ho : xo u = xo u') (hm : ∀ j, j < xn u → va_up (mrow u) i x j = mrow u' j) (hl : ∀ t, t < xk u → lrow u t = lrow u' t) : (pre ++ wS G cI cP u).set (pre.length + (1 + (1 + i))) (gM G i, .inl (cI, 3, .inl x)) = pre ++ wS G cI cP u' := by
  rw [z_str]
  refine congrArg (pre ++ ·) ?_
  unfold wS
  have hz : (wSo G u ++ wT (gA G) cP cI (xn u) 3 (gM G) (mrow u))[1 + (1 + i)]? = some (gM G i, .inl (cI, 3, .inl (mrow u i))) := z_apr (a := wSo G u) (wT_get h)
  rw [z_stl hz]
  have e1 : (wSo G u ++ wT (gA G) cP cI (xn u) 3 (gM G) (mrow u)).set (1 + (1 + i)) (gM G i, .inl (cI, 3, .inl x)) = wSo G u ++ wT (gA G) cP cI (xn u) 3 (gM G) (va_up (mrow u) i x) := by
    rw [← wT_set h]
    exact z_str (a := wSo G u)
  rw [e1, wT_congr (g' := gM G) (r' := mrow u') (fun _ _ => rfl) hm, wT_congr (g' := gL G) (r' := lrow u') (fun _ _ => rfl) hl]
  unfold wSo
  rw [hn, hk, hd, hc, ho]
theorem mrow_0 {u' : S0} {j : Nat} {x : Int32} (hl : xl u' = upd (xl u) i x) (ha : xa u' = xa u) (he : xe u' = xe u) : va_up (mrow u) i (upd (mrow u i) 0 x) j = mrow u' j := by
  unfold va_up
  by_cases h : j = i
  · subst h
    rw [if_pos rfl]
    funext k
    by_cases k0 : k = 0
    · subst k0
      rw [pk_us]
      show x = xl u' j
      rw [hl, pk_us]
    · rw [pk_un k0]
      unfold mrow
      rw [if_neg k0, if_neg k0, ha, he]
  · rw [if_neg h]
    unfold mrow
    rw [hl, ha, he, pk_un h]
theorem mrow_1 {u' : S0} {j : Nat} {x : Int32} (hl : xl u' = xl u) (ha : xa u' = upd (xa u) i x) (he : xe u' = xe u) : va_up (mrow u) i (upd (mrow u i) 1 x) j = mrow u' j := by
  unfold va_up
  by_cases h : j = i
  · subst h
    rw [if_pos rfl]
    funext k
    by_cases k0 : k = 1
    · subst k0
      rw [pk_us]
      show x = xa u' j
      rw [ha, pk_us]
    · rw [pk_un k0]
      unfold mrow
      rw [if_neg k0, if_neg k0, hl, he]
  · rw [if_neg h]
    unfold mrow
    rw [hl, ha, he, pk_un h]
theorem mrow_2 {u' : S0} {j : Nat} {x : Int32} (hl : xl u' = xl u) (ha : xa u' = xa u) (he : xe u' = upd (xe u) i x) : va_up (mrow u) i (upd (mrow u i) 2 x) j = mrow u' j := by
  unfold va_up
  by_cases h : j = i
  · subst h
    rw [if_pos rfl]
    funext k
    by_cases k0 : k = 2
    · subst k0
      rw [pk_us]
      show x = xe u' j
      rw [he, pk_us]
    · rw [pk_un k0]
      unfold mrow
      rw [if_neg k0, if_neg k0, hl, ha]
  · rw [if_neg h]
    unfold mrow
    rw [hl, ha, he, pk_un h]
theorem mrow_eq {u' : S0} (hl : xl u i = xl u' i) (ha : xa u i = xa u' i) (he : xe u i = xe u' i) : mrow u i = mrow u' i := by
  unfold mrow
  rw [hl, ha, he]
theorem lrow_eq {u' : S0} (h0 : xw u i = xw u' i) (h1 : xf u i = xf u' i) (h2 : xg u i = xg u' i) (h3 : xx u i = xx u' i) : lrow u i = lrow u' i := by
  unfold lrow
  rw [h0, h1, h2, h3]
end WT
section ZS
variable {p : Program} {l : Launch} {e : Env} {R : Room} {s : State} {m : MethodId} {args : Array Value} {below : List Frame} {meth : Method} {c : Code}
variable {cc : ByteArray} {nL : Nat} {own : String} {Ts : List Cond} {D : va_G} {tys : List (ClassId × FieldType)} {A : Nat → Prop} {cells slots : Nat} {Q : State → Prop} {pc : Nat} {L : List (Nat × Value)} {st : List Value} {ws : va_W}
variable {pre : va_W} {G : AG} {cI cP : ClassId} {u : S0}
theorem z_sget (C : zC p s m args c cc nL own Ts D tys A) (hin : ∀ w ∈ u_ws RX1 TX1 5, w ∈ Ts) {index : Nat} (k : Nat) (hk : k < 5) {v : Value} (hv : ([.int (xd u), .int (nI (xc u)), .int (xo u), .ref (gA G), .ref (gB G)] : List Value)[k]? = some v) (hlink : Cond.fieldLink own index (TX1 k).1 (TX1 k).2.1 (TX1 k).2.2.1 ∈ Ts) (hdg : decode cc pc = .ok (.getfield index, 3)) (kk : zG p l e R s m args below meth c D nL A cells slots Q (pc + 3) L (v :: st) (pre ++ wS G cI cP u)) : zG p l e R s m args below meth c D nL A cells slots Q pc L (.ref (gO G) :: st) (pre ++ wS G cI cP u) := z_get1 C hin (pre.length + 0) k hk wS_o hv hlink hdg kk
theorem z_sputD (C : zC p s m args c cc nL own Ts D tys A) (hin : ∀ w ∈ u_ws RX1 TX1 5, w ∈ Ts) {index : Nat} {v : Int32} (hlink : Cond.fieldLink own index "SaltOrderLaw$Sim" "day" "I" ∈ Ts) (hdg : decode cc pc = .ok (.putfield index, 3)) (kk : zG p l e R s m args below meth c D nL A cells slots Q (pc + 3) L st (pre ++ wS G cI cP (ud u v))) : zG p l e R s m args below meth c D nL A cells slots Q pc L (.int v :: .ref (gO G) :: st) (pre ++ wS G cI cP u) := z_put1 C hin (pre.length + 0) 0 (by decide) wS_o rfl (by decide) (by rw [z_str]; rfl) hlink hdg kk
theorem z_sputC (C : zC p s m args c cc nL own Ts D tys A) (hin : ∀ w ∈ u_ws RX1 TX1 5, w ∈ Ts) {index n : Nat} {v : Int32} (hv : v = nI n) (hlink : Cond.fieldLink own index "SaltOrderLaw$Sim" "salt" "I" ∈ Ts) (hdg : decode cc pc = .ok (.putfield index, 3)) (kk : zG p l e R s m args below meth c D nL A cells slots Q (pc + 3) L st (pre ++ wS G cI cP (uc u n))) : zG p l e R s m args below meth c D nL A cells slots Q pc L (.int v :: .ref (gO G) :: st) (pre ++ wS G cI cP u) := by
  subst hv
  exact z_put1 C hin (pre.length + 0) 1 (by decide) wS_o rfl (by decide) (by rw [z_str]; rfl) hlink hdg kk
theorem z_sputO (C : zC p s m args c cc nL own Ts D tys A) (hin : ∀ w ∈ u_ws RX1 TX1 5, w ∈ Ts) {index : Nat} {v : Int32} (hlink : Cond.fieldLink own index "SaltOrderLaw$Sim" "found" "I" ∈ Ts) (hdg : decode cc pc = .ok (.putfield index, 3)) (kk : zG p l e R s m args below meth c D nL A cells slots Q (pc + 3) L st (pre ++ wS G cI cP (uo u v))) : zG p l e R s m args below meth c D nL A cells slots Q pc L (.int v :: .ref (gO G) :: st) (pre ++ wS G cI cP u) := z_put1 C hin (pre.length + 0) 2 (by decide) wS_o rfl (by decide) (by rw [z_str]; rfl) hlink hdg kk
theorem z_putr1 (C : zC p s m args c cc nL own Ts D tys A) (hin : ∀ w ∈ u_ws RX1 TX1 5, w ∈ Ts) {index a : Nat} (q0 k : Nat) (hk : k < 5) {fs : List Value} {v : Nat} {ws' : va_W} (he : ws[q0]? = some (a, .inr (1, fs))) (hlen : fs.length = 5) (hty : (TX1 k).2.2.1 = "[[I" ∧ (TX1 k).2.2.2 = false) (hws : ws.set q0 (a, .inr (1, fs.set k (.ref v))) = ws') (hlink : Cond.fieldLink own index (TX1 k).1 (TX1 k).2.1 (TX1 k).2.2.1 ∈ Ts) (hdg : decode cc pc = .ok (.putfield index, 3)) (kk : zG p l e R s m args below meth c D nL A cells slots Q (pc + 3) L st ws') : zG p l e R s m args below meth c D nL A cells slots Q pc L (.ref v :: .ref a :: st) ws := fun H locs ls hl hP hD hS => va_put (C := RX1) (T := TX1) (N := 5) (ty := .array (.array .int)) C.exec C.code C.words hin tyX1 tyX1_ok nmX1 C.here C.known hP hD hS q0 he rfl k hk (C.words _ hlink) (fun _ h => h) hty.2 (by rw [hty.1]; decide +kernel) rfl rfl (by rw [hlen]; exact hk) hdg (fun H1 locs1 hP hD hS => kk H1 locs1 ls hl (hws ▸ hP) (hws ▸ hD) hS)
theorem z_sputA (C : zC p s m args c cc nL own Ts D tys A) (hin : ∀ w ∈ u_ws RX1 TX1 5, w ∈ Ts) {index b : Nat} {X : va_W} (hlink : Cond.fieldLink own index "SaltOrderLaw$Sim" "members" "[[I" ∈ Ts) (hdg : decode cc pc = .ok (.putfield index, 3)) (kk : zG p l e R s m args below meth c D nL A cells slots Q (pc + 3) L st ((pre ++ wSo (gO G, b, gB G, gM G, gL G) u) ++ X)) : zG p l e R s m args below meth c D nL A cells slots Q pc L (.ref b :: .ref (gO G) :: st) ((pre ++ wSo G u) ++ X) := z_putr1 (fs := [.int (xd u), .int (nI (xc u)), .int (xo u), .ref (gA G), .ref (gB G)]) C hin (pre.length + 0) 3 (by decide) (z_apl (z_apr rfl)) rfl (by decide) (by rw [z_stl (q := (gO G, .inr (1, [.int (xd u), .int (nI (xc u)), .int (xo u), .ref (gA G), .ref (gB G)]))) (z_apr rfl), z_str]; rfl) hlink hdg kk
theorem z_sputB (C : zC p s m args c cc nL own Ts D tys A) (hin : ∀ w ∈ u_ws RX1 TX1 5, w ∈ Ts) {index b : Nat} {X : va_W} (hlink : Cond.fieldLink own index "SaltOrderLaw$Sim" "ledger" "[[I" ∈ Ts) (hdg : decode cc pc = .ok (.putfield index, 3)) (kk : zG p l e R s m args below meth c D nL A cells slots Q (pc + 3) L st ((pre ++ wSo (gO G, gA G, b, gM G, gL G) u) ++ X)) : zG p l e R s m args below meth c D nL A cells slots Q pc L (.ref b :: .ref (gO G) :: st) ((pre ++ wSo G u) ++ X) := z_putr1 (fs := [.int (xd u), .int (nI (xc u)), .int (xo u), .ref (gA G), .ref (gB G)]) C hin (pre.length + 0) 4 (by decide) (z_apl (z_apr rfl)) rfl (by decide) (by rw [z_stl (q := (gO G, .inr (1, [.int (xd u), .int (nI (xc u)), .int (xo u), .ref (gA G), .ref (gB G)]))) (z_apr rfl), z_str]; rfl) hlink hdg kk
theorem z_mrow (C : zC p s m args c cc nL own Ts D tys A) (t1 : Nat) (ht : tys[t1]? = some (cP, .array .int)) {i : Int32} (j : Nat) (hi : i = nI j) (hj : j < xn u) (hn : xn u ≤ 8) (hdg : decode cc pc = .ok (.aaload, 1)) (kk : zG p l e R s m args below meth c D nL A cells slots Q (pc + 1) L (.ref (gM G j) :: st) (pre ++ wS G cI cP u)) : zG p l e R s m args below meth c D nL A cells slots Q pc L (.int i :: .ref (gA G) :: st) (pre ++ wS G cI cP u) := z_aald C (pre.length + 1) t1 wS_a ht j hi hj (by omega) (if_pos hj) hdg kk
theorem z_lrow (C : zC p s m args c cc nL own Ts D tys A) (t1 : Nat) (ht : tys[t1]? = some (cP, .array .int)) {i : Int32} (j : Nat) (hi : i = nI j) (hj : j < xk u) (hn : xk u ≤ 30) (hdg : decode cc pc = .ok (.aaload, 1)) (kk : zG p l e R s m args below meth c D nL A cells slots Q (pc + 1) L (.ref (gL G j) :: st) (pre ++ wS G cI cP u)) : zG p l e R s m args below meth c D nL A cells slots Q pc L (.int i :: .ref (gB G) :: st) (pre ++ wS G cI cP u) := z_aald C (pre.length + (nS G cI cP u + 0)) t1 wS_b ht j hi hj (by omega) (if_pos hj) hdg kk
theorem z_mget (C : zC p s m args c cc nL own Ts D tys A) (t0 : Nat) (ht : tys[t0]? = some (cI, .int)) {i x : Int32} {j : Nat} (k : Nat) (hi : i = nI k) (hk : k < 3) (hj : j < xn u) (hx : mrow u j k = x) (hdg : decode cc pc = .ok (.iaload, 1)) (kk : zG p l e R s m args below meth c D nL A cells slots Q (pc + 1) L (.int x :: st) (pre ++ wS G cI cP u)) : zG p l e R s m args below meth c D nL A cells slots Q pc L (.int i :: .ref (gM G j) :: st) (pre ++ wS G cI cP u) := by
  subst hx
  exact z_iald C (pre.length + (1 + (1 + j))) t0 (wS_m hj) ht k hi hk (by omega) hdg kk
theorem z_lget (C : zC p s m args c cc nL own Ts D tys A) (t0 : Nat) (ht : tys[t0]? = some (cI, .int)) {i x : Int32} {j : Nat} (k : Nat) (hi : i = nI k) (hk : k < 4) (hj : j < xk u) (hx : lrow u j k = x) (hdg : decode cc pc = .ok (.iaload, 1)) (kk : zG p l e R s m args below meth c D nL A cells slots Q (pc + 1) L (.int x :: st) (pre ++ wS G cI cP u)) : zG p l e R s m args below meth c D nL A cells slots Q pc L (.int i :: .ref (gL G j) :: st) (pre ++ wS G cI cP u) := by
  subst hx
  exact z_iald C (pre.length + (nS G cI cP u + (1 + j))) t0 (wS_l hj) ht k hi hk (by omega) hdg kk
theorem z_mset0 (C : zC p s m args c cc nL own Ts D tys A) (t0 : Nat) (ht : tys[t0]? = some (cI, .int)) {i x : Int32} {j : Nat} (hi : i = nI 0) (hj : j < xn u) (hdg : decode cc pc = .ok (.iastore, 1)) (kk : zG p l e R s m args below meth c D nL A cells slots Q (pc + 1) L st (pre ++ wS G cI cP (ul u (upd (xl u) j x)))) : zG p l e R s m args below meth c D nL A cells slots Q pc L (.int x :: .int i :: .ref (gM G j) :: st) (pre ++ wS G cI cP u) := z_iast C (pre.length + (1 + (1 + j))) t0 (wS_m hj) ht 0 hi (by decide) (by decide) (wS_setrow (u' := ul u (upd (xl u) j x)) hj rfl rfl rfl rfl rfl (fun _ _ => mrow_0 rfl rfl rfl) (fun _ _ => rfl)) hdg kk
theorem z_mset1 (C : zC p s m args c cc nL own Ts D tys A) (t0 : Nat) (ht : tys[t0]? = some (cI, .int)) {i x : Int32} {j : Nat} (hi : i = nI 1) (hj : j < xn u) (hdg : decode cc pc = .ok (.iastore, 1)) (kk : zG p l e R s m args below meth c D nL A cells slots Q (pc + 1) L st (pre ++ wS G cI cP (ua u (upd (xa u) j x)))) : zG p l e R s m args below meth c D nL A cells slots Q pc L (.int x :: .int i :: .ref (gM G j) :: st) (pre ++ wS G cI cP u) := z_iast C (pre.length + (1 + (1 + j))) t0 (wS_m hj) ht 1 hi (by decide) (by decide) (wS_setrow (u' := ua u (upd (xa u) j x)) hj rfl rfl rfl rfl rfl (fun _ _ => mrow_1 rfl rfl rfl) (fun _ _ => rfl)) hdg kk
theorem z_mset2 (C : zC p s m args c cc nL own Ts D tys A) (t0 : Nat) (ht : tys[t0]? = some (cI, .int)) {i x : Int32} {j : Nat} (hi : i = nI 2) (hj : j < xn u) (hdg : decode cc pc = .ok (.iastore, 1)) (kk : zG p l e R s m args below meth c D nL A cells slots Q (pc + 1) L st (pre ++ wS G cI cP (ue u (upd (xe u) j x)))) : zG p l e R s m args below meth c D nL A cells slots Q pc L (.int x :: .int i :: .ref (gM G j) :: st) (pre ++ wS G cI cP u) := z_iast C (pre.length + (1 + (1 + j))) t0 (wS_m hj) ht 2 hi (by decide) (by decide) (wS_setrow (u' := ue u (upd (xe u) j x)) hj rfl rfl rfl rfl rfl (fun _ _ => mrow_2 rfl rfl rfl) (fun _ _ => rfl)) hdg kk
theorem z_alenA (C : zC p s m args c cc nL own Ts D tys A) (t1 : Nat) (ht : tys[t1]? = some (cP, .array .int)) (hdg : decode cc pc = .ok (.arraylength, 1)) (kk : zG p l e R s m args below meth c D nL A cells slots Q (pc + 1) L (.int (nI (xn u)) :: st) (pre ++ wS G cI cP u)) : zG p l e R s m args below meth c D nL A cells slots Q pc L (.ref (gA G) :: st) (pre ++ wS G cI cP u) := z_alen C (pre.length + 1) t1 wS_a ht rfl hdg kk
theorem z_alenB (C : zC p s m args c cc nL own Ts D tys A) (t1 : Nat) (ht : tys[t1]? = some (cP, .array .int)) (hdg : decode cc pc = .ok (.arraylength, 1)) (kk : zG p l e R s m args below meth c D nL A cells slots Q (pc + 1) L (.int (nI (xk u)) :: st) (pre ++ wS G cI cP u)) : zG p l e R s m args below meth c D nL A cells slots Q pc L (.ref (gB G) :: st) (pre ++ wS G cI cP u) := z_alen C (pre.length + (nS G cI cP u + 0)) t1 wS_b ht rfl hdg kk
end ZS
end
section
/-! the simulation's constructor; a table with one row more -/
theorem refs_0 {g : Nat → Nat} : refs 0 g = fun _ => none := funext (fun i => if_neg (Nat.not_lt_zero i))
theorem refs_up {i : Nat} {g : Nat → Nat} : va_up (refs i g) i (some (g i)) = refs (i + 1) g := by
  funext k
  unfold va_up refs
  by_cases h : k = i
  · rw [if_pos h, if_pos (by omega), h]
  · rw [if_neg h]
    by_cases h2 : k < i
    · rw [if_pos h2, if_pos (by omega)]
    · rw [if_neg h2, if_neg (by omega)]
theorem refs_snoc {n q : Nat} {g : Nat → Nat} : va_up (refs n g) n (some q) = refs (n + 1) (snoc n g q) := by
  funext k
  unfold va_up refs
  by_cases h : k = n
  · rw [if_pos h, if_pos (by omega), h, snoc_n]
  · rw [if_neg h]
    by_cases h2 : k < n
    · rw [if_pos h2, if_pos (by omega), snoc_lt h2]
    · rw [if_neg h2, if_neg (by omega)]
set_option maxHeartbeats 4000000 in
set_option maxRecDepth 100000 in
theorem c_X1_init (l : Launch) (D : va_G) (cI cP : ClassId) (b : Nat) : zMX l yX1_init wsX1_init 1 13 2 0 [.ref b] [(cI, .int), (cP, .array .int)] D [(b, .inr (1, [.int 0, .int 0, .int 0, .null, .null]))] zAA (fun G : AG => gO G = b) (fun _ => none) (fun G => wS G cI cP x00) := by
  refine z_metX (cc := cX1_init) (maxL := 1) (ret := none) (by decide) rfl (Nat.le_of_ble_eq_true rfl) ?_
  intro p e s m args below meth c A hAw hAA C hr hlocks
  have ins : ∀ w ∈ u_ws RX1 TX1 5, w ∈ wsX1_init := by decide +kernel
  have wa : Cond.classLink RX1 13 "[I" ∈ wsX1_init := by decide +kernel
  refine z_sub (L' := [(0, .ref b)]) [0] rfl ?_
  refine z_aload_n C 0 dX1_init_0 rfl rfl ?_
  refine z_objInit C (by decide +kernel : Cond.methodLink RX1 1 Lib.objectInit ∈ wsX1_init) (by decide +kernel) (by decide +kernel) (Nat.le_of_ble_eq_true rfl) (Nat.le_of_ble_eq_true rfl) dX1_init_1 ?_
  refine z_aload_n C 0 dX1_init_4 rfl rfl ?_
  refine z_bipush (v := nI 100) C dX1_init_5 (by decide) ?_
  refine z_put1 (ws' := ([(b, .inr (1, [.int 0, .int (nI 100), .int 0, .null, .null]))] : va_W)) C ins 0 1 (by decide) rfl rfl (by decide) rfl (by decide +kernel : Cond.fieldLink RX1 7 "SaltOrderLaw$Sim" "salt" "I" ∈ wsX1_init) dX1_init_7 ?_
  refine z_aload_n C 0 dX1_init_10 rfl rfl ?_
  refine z_iconst (v := nI 0) C dX1_init_11 (by decide) ?_
  refine z_anew (N := 0) C hAA 1 rfl wa (by decide) (by decide) (by decide) (Nat.le_of_ble_eq_true rfl) (Nat.le_of_ble_eq_true rfl) dX1_init_12 (fun q1 => ?_)
  refine z_putr1 (ws' := ([(b, .inr (1, [.int 0, .int (nI 100), .int 0, .ref q1, .null]))] ++ [(q1, .inl (cP, 0, .inr (.inr (.inr (.inr (fun _ => none))))))] : va_W)) C ins 0 3 (by decide) rfl rfl (by decide) rfl (by decide +kernel : Cond.fieldLink RX1 15 "SaltOrderLaw$Sim" "members" "[[I" ∈ wsX1_init) dX1_init_15 ?_
  refine z_aload_n C 0 dX1_init_18 rfl rfl ?_
  refine z_iconst (v := nI 0) C dX1_init_19 (by decide) ?_
  refine z_anew (N := 0) C hAA 1 rfl wa (by decide) (by decide) (by decide) (Nat.le_of_ble_eq_true rfl) (Nat.le_of_ble_eq_true rfl) dX1_init_20 (fun q2 => ?_)
  refine z_putr1 (ws' := ([(b, .inr (1, [.int 0, .int (nI 100), .int 0, .ref q1, .ref q2]))] ++ [(q1, .inl (cP, 0, .inr (.inr (.inr (.inr (fun _ => none))))))] ++ [(q2, .inl (cP, 0, .inr (.inr (.inr (.inr (fun _ => none))))))] : va_W)) C ins 0 4 (by decide) rfl rfl (by decide) rfl (by decide +kernel : Cond.fieldLink RX1 19 "SaltOrderLaw$Sim" "ledger" "[[I" ∈ wsX1_init) dX1_init_23 ?_
  rw [← refs_0 (g := fun _ => 0)]
  exact z_vretX C ((b, q1, q2, fun _ => 0, fun _ => 0) : AG) (by rfl) hr hlocks (Nat.le_of_ble_eq_true rfl) (Nat.le_of_ble_eq_true rfl) dX1_init_26 (by rfl) (by rfl)
set_option maxHeartbeats 4000000 in
set_option maxRecDepth 100000 in
theorem c_X1_with (l : Launch) (D : va_G) (cI cP : ClassId) {n c0 a q : Nat} {g : Nat → Nat} {r : Nat → Nat → Int32} {x : Nat → Int32} (hn : n ≤ 40) : zMX l yX1_with wsX1_with 0 0 1 41 [.ref a, .ref q] [(cI, .int), (cP, .array .int)] D (wT a cP cI n c0 g r ++ [(q, .inl (cI, c0, .inl x))]) zAA (fun _ : Nat => True) (fun b => some (.ref b)) (fun b => wT b cP cI (n + 1) c0 (snoc n g q) (snoc n r x)) := by
  refine z_metX (cc := cX1_with) (maxL := 4) (ret := (some (.array (.array .int)))) (by decide) rfl (Nat.le_of_ble_eq_true rfl) ?_
  intro p e s m args below meth c A hAw hAA C hr hlocks
  have wa : Cond.classLink RX1 13 "[I" ∈ wsX1_with := by decide +kernel
  refine z_sub (L' := [(0, .ref a), (1, .ref q)]) [0, 1] rfl ?_
  refine z_aload_n C 0 dX1_with_0 rfl rfl ?_
  refine z_alen (v := nI n) C 0 1 rfl rfl rfl dX1_with_1 ?_
  refine z_iconst (v := 1) C dX1_with_2 (by decide) ?_
  refine z_iadd C dX1_with_3 ?_
  refine z_top (y := nI (n + 1)) (z_1 _) ?_
  refine z_anew (N := n + 1) C hAA 1 rfl wa (nI_pos (by omega)) (nI_clamp (by omega)) (by omega) (by show _ ≤ 1; omega) (by show _ ≤ 41; omega) dX1_with_4 (fun b => ?_)
  rw [← refs_0 (g := g)]
  refine z_astore_n (L' := [(2, .ref b), (0, .ref a), (1, .ref q)]) C dX1_with_7 rfl (by decide) rfl ?_
  refine z_iconst (v := nI 0) C dX1_with_8 (by decide) ?_
  refine z_istore_n (L' := [(3, .int (nI 0)), (2, .ref b), (0, .ref a), (1, .ref q)]) C dX1_with_9 rfl (by decide) rfl ?_
  have lp : ∀ dd i : Nat, i + dd = n → zG p l e ({ frames := 0, cells := 1, slots := 41, locals := 0 } : Room) s m args below meth c D 4 A (0 + 1) (0 + (n + 1)) (MQ below (zQX (fun _ : Nat => True) (fun b => some (.ref b)) (fun b => wT b cP cI (n + 1) c0 (snoc n g q) (snoc n r x)) D A) args s 1 41 A) 10 [(3, .int (nI i)), (2, .ref b), (0, .ref a), (1, .ref q)] [] ((wT a cP cI n c0 g r ++ [(q, .inl (cI, c0, .inl x))] : va_W) ++ [(b, .inl (cP, n + 1, .inr (.inr (.inr (.inr (refs i g))))))]) := by
    intro dd
    induction dd with
    | zero =>
      intro i hi
      obtain rfl : n = i := by omega
      refine z_iload_n C 0 dX1_with_10 rfl rfl ?_
      refine z_aload_n C 2 dX1_with_11 rfl rfl ?_
      refine z_alen (v := nI n) C 0 1 rfl rfl rfl dX1_with_12 ?_
      refine z_icmp_ge (tgt := 28) C dX1_with_13 (by decide) (fun _ => ?_) (fun h9 => absurd (nI_le (by omega) (by omega)) h9)
      refine z_aload_n C 1 dX1_with_28 rfl rfl ?_
      refine z_aload_n C 2 dX1_with_29 rfl rfl ?_
      refine z_alen (v := nI n) C 0 1 rfl rfl rfl dX1_with_30 ?_
      refine z_aload_n C 3 dX1_with_31 rfl rfl ?_
      refine z_aast (n := n + 1) (ws' := ((wT a cP cI n c0 g r ++ [(q, .inl (cI, c0, .inl x))] : va_W) ++ [(b, .inl (cP, n + 1, .inr (.inr (.inr (.inr (refs (n + 1) (snoc n g q)))))))])) C hAA ((wT a cP cI n c0 g r ++ [(q, .inl (cI, c0, .inl x))] : va_W).length + 0) ((wT a cP cI n c0 g r).length + 0) 0 1 (by exact z_apr rfl) rfl rfl (by exact z_apl (z_apr rfl)) n rfl (by omega) (by omega) (by rw [z_str, refs_snoc]; rfl) dX1_with_32 ?_
      refine z_aload_n C 1 dX1_with_33 rfl rfl ?_
      refine z_swap (a := []) (b := wT a cP cI n c0 g r ++ [(q, .inl (cI, c0, .inl x))]) (d := [(b, .inl (cP, n + 1, .inr (.inr (.inr (.inr (refs (n + 1) (snoc n g q)))))))]) ?_
      refine z_dropM (a := [(b, .inl (cP, n + 1, .inr (.inr (.inr (.inr (refs (n + 1) (snoc n g q)))))))]) (b := [(a, .inl (cP, n, .inr (.inr (.inr (.inr (refs n g))))))]) (d := wR cI n c0 g r ++ [(q, .inl (cI, c0, .inl x))]) ?_
      exact z_aretX C b trivial hr (Or.inr ⟨_, rfl⟩) hlocks (by show _ ≤ 1; omega) (by show _ ≤ 41; omega) dX1_with_34 rfl (by rw [wR_snoc]; rfl)
    | succ dd ih =>
      intro i hi
      refine z_iload_n C 0 dX1_with_10 rfl rfl ?_
      refine z_aload_n C 2 dX1_with_11 rfl rfl ?_
      refine z_alen (v := nI n) C 0 1 rfl rfl rfl dX1_with_12 ?_
      refine z_icmp_ge (tgt := 28) C dX1_with_13 (by decide) (fun h9 => absurd h9 (nI_ge (by omega) (by omega))) (fun _ => ?_)
      refine z_aload_n C 1 dX1_with_16 rfl rfl ?_
      refine z_iload_n C 0 dX1_with_17 rfl rfl ?_
      refine z_aload_n C 2 dX1_with_18 rfl rfl ?_
      refine z_iload_n C 0 dX1_with_19 rfl rfl ?_
      refine z_aald (b := g i) C 0 1 rfl rfl i rfl (by omega) (by omega) (if_pos (by omega)) dX1_with_20 ?_
      refine z_aast (n := n + 1) (ws' := ((wT a cP cI n c0 g r ++ [(q, .inl (cI, c0, .inl x))] : va_W) ++ [(b, .inl (cP, n + 1, .inr (.inr (.inr (.inr (refs (i + 1) g))))))])) C hAA ((wT a cP cI n c0 g r ++ [(q, .inl (cI, c0, .inl x))] : va_W).length + 0) (1 + i) 0 1 (by exact z_apr rfl) rfl rfl (by exact z_apl (z_apl (wT_get (by omega)))) i rfl (by omega) (by omega) (by rw [z_str, refs_up]; rfl) dX1_with_21 ?_
      refine z_iinc (v := nI (i + 1)) (L' := [(3, .int (nI (i + 1))), (2, .ref b), (0, .ref a), (1, .ref q)]) C 0 dX1_with_22 rfl (z_inc _) (by decide) rfl ?_
      refine z_goto (tgt := 10) C dX1_with_25 (by decide) ?_
      exact ih (i + 1) (by omega)
  exact lp n 0 (by omega)
end
section
/-! a member's row, the audit, the day -/
abbrev T3 : Type := Int32 × Int32 × Int32
def stE (l a e : Int32) : T3 := if e ≤ 0 then (if a ≤ 0 then (imin 100 (l + 1), a, e) else (imax 0 (l - (a + 9) / 10), a, e)) else (l, imax 0 (a - 3), e - 1)
def st3 (p : T3) : T3 := stE p.1 p.2.1 p.2.2
def au3 (g : Int32) (p : T3) : T3 := (p.1, imin 99 (p.2.1 + g), p.2.2)
def dy3 (d g : Int32) (p : T3) : T3 := if isA d = 0 then p else au3 g p
def tr0 (v : S0) (j : Nat) : T3 := (xl v j, xa v j, xe v j)
theorem e_9 (a : Int32) : a + 10 - 1 = a + 9 := by
  rw [Int32.sub_eq_add_neg, Int32.add_assoc]; rfl
theorem T3e {a b c a' b' c' : Int32} (h1 : a = a') (h2 : b = b') (h3 : c = c') : ((a, b, c) : T3) = (a', b', c') := by rw [h1, h2, h3]
theorem upd_i {f : Nat → Int32} {k : Nat} {x : Int32} (i : Nat) : upd f k x i = if i = k then x else f i := by
  by_cases h : i = k
  · rw [if_pos h, h]; exact pk_us
  · rw [if_neg h]; exact pk_un h
theorem xeat_row (v : S0) (j i : Nat) : tr0 (xeat v j) i = if i = j then st3 (tr0 v j) else tr0 v i := by
  show tr0 (xeat v j) i = if i = j then stE (xl v j) (xa v j) (xe v j) else tr0 v i
  unfold xeat stE
  by_cases c : xe v j ≤ 0
  · rw [if_pos c, if_pos c]
    by_cases c2 : xa v j ≤ 0
    · rw [if_pos c2, if_pos c2]
      show (upd (xl v) j (imin 100 (xl v j + 1)) i, xa v i, xe v i) = _
      by_cases h : i = j
      · subst h; rw [if_pos rfl, pk_us]
      · rw [if_neg h, pk_un h]; rfl
    · rw [if_neg c2, if_neg c2]
      show (upd (xl v) j (imax 0 (xl v j - xloss v j)) i, xa v i, xe v i) = _
      have e : xloss v j = (xa v j + 9) / 10 := by unfold xloss; rw [if_pos c, e_9]
      rw [e]
      by_cases h : i = j
      · subst h; rw [if_pos rfl, pk_us]
      · rw [if_neg h, pk_un h]; rfl
  · rw [if_neg c, if_neg c]
    show (xl v i, upd (xa v) j (imax 0 (xa v j - 3)) i, upd (xe v) j (xe v j - 1) i) = _
    by_cases h : i = j
    · subst h; rw [if_pos rfl, pk_us, pk_us]
    · rw [if_neg h, pk_un h, pk_un h]; rfl
theorem xeat_r (v : S0) (j : Nat) : (xeat v j).2.2.2 = v.2.2.2 := by
  unfold xeat
  split
  · split
    · rfl
    · rfl
  · rfl
theorem xeatN_row (v : S0) (N i : Nat) : tr0 (xeatN v N) i = if i < N then st3 (tr0 v i) else tr0 v i := by
  induction N generalizing i with
  | zero => rw [if_neg (Nat.not_lt_zero i)]; rfl
  | succ N ih =>
    show tr0 (xeat (xeatN v N) N) i = _
    rw [xeat_row]
    by_cases h : i = N
    · subst h; rw [if_pos rfl, if_pos (Nat.lt_succ_self i), ih, if_neg (Nat.lt_irrefl i)]
    · rw [if_neg h, ih]
      by_cases h2 : i < N
      · rw [if_pos h2, if_pos (by omega)]
      · rw [if_neg h2, if_neg (by omega)]
theorem xeatN_r (v : S0) (N : Nat) : (xeatN v N).2.2.2 = v.2.2.2 := by
  induction N with
  | zero => rfl
  | succ N ih => exact (xeat_r _ _).trans ih
theorem xadd_row (v : S0) (j : Nat) (g : Int32) (i : Nat) : tr0 (xadd v j g) i = if i = j then au3 g (tr0 v j) else tr0 v i := by
  show (xl v i, upd (xa v) j (imin 99 (xa v j + g)) i, xe v i) = _
  by_cases h : i = j
  · subst h; rw [if_pos rfl, pk_us]; rfl
  · rw [if_neg h, pk_un h]; rfl
theorem xless_row (v : S0) (j : Nat) (g : Int32) (i : Nat) : tr0 (xless v j g) i = if i = j then (xl v j, imax 0 (xa v j - g), xe v j) else tr0 v i := by
  show (xl v i, upd (xa v) j (imax 0 (xa v j - g)) i, xe v i) = _
  by_cases h : i = j
  · subst h; rw [if_pos rfl, pk_us]
  · rw [if_neg h, pk_un h]; rfl
theorem xlump_row (v : S0) (j : Nat) (g : Int32) (i : Nat) : tr0 (xlump v j g) i = if i = j then (xl v j, xa v j, imin 9 (xe v j + g)) else tr0 v i := by
  show (xl v i, xa v i, upd (xe v) j (imin 9 (xe v j + g)) i) = _
  by_cases h : i = j
  · subst h; rw [if_pos rfl, pk_us]
  · rw [if_neg h, pk_un h]; rfl
theorem xdebt_r {v v2 : S0} (h : v2.2.2.2 = v.2.2.2) (j : Int32) : xdebt v2 j = xdebt v j := by unfold xdebt xw xx xk; rw [h]
theorem xaudN_r (v : S0) (N : Nat) : (xaudN v N).2.2.2 = v.2.2.2 := by
  induction N with
  | zero => rfl
  | succ N ih => exact ih
theorem xaudN_row (v : S0) (N i : Nat) : tr0 (xaudN v N) i = if i < N then au3 (xdebt v (nI i)) (tr0 v i) else tr0 v i := by
  induction N generalizing i with
  | zero => rw [if_neg (Nat.not_lt_zero i)]; rfl
  | succ N ih =>
    show tr0 (xadd (xaudN v N) N (xdebt (xaudN v N) (nI N))) i = _
    rw [xadd_row, xdebt_r (xaudN_r v N)]
    by_cases h : i = N
    · subst h; rw [if_pos rfl, if_pos (Nat.lt_succ_self i), ih, if_neg (Nat.lt_irrefl i)]
    · rw [if_neg h, ih]
      by_cases h2 : i < N
      · rw [if_pos h2, if_pos (by omega)]
      · rw [if_neg h2, if_neg (by omega)]
theorem xaud_row (v : S0) {i : Nat} (h : i < xn v) : tr0 (xaud v) i = au3 (xdebt v (nI i)) (tr0 v i) := by
  show tr0 (xaudN v (xn v)) i = _
  rw [xaudN_row, if_pos h]
theorem xday1_row (v : S0) {i : Nat} (h : i < xn v) : tr0 (xday1 v) i = dy3 (xd v) (xdebt v (nI i)) (tr0 v i) := by
  unfold xday1 dy3
  split
  · rfl
  · exact xaud_row v h
theorem xday_row (v : S0) {i : Nat} (h : i < xn v) : tr0 (xday v) i = st3 (dy3 (xd v) (xdebt v (nI i)) (tr0 v i)) := by
  show tr0 (xeatN (xday1 v) (xn v)) i = _
  rw [xeatN_row, if_pos h, xday1_row v h]
theorem imin_99 {a : Nat} (h : a < 2 ^ 31) : imin 99 (nI a) = nI (min 99 a) := imin_nI (a := 99) (by omega) h
theorem imax_sub {a b : Nat} (ha : a < 2 ^ 30) (hb : b < 2 ^ 30) : imax 0 (nI a - nI b) = nI (a - b) := by
  unfold imax
  rcases Nat.lt_or_ge b a with h | h
  · rw [pk_sub (Nat.le_of_lt h), if_pos (show (0 : Int32) < nI (a - b) from nI_lt (a := 0) (b := a - b) (by omega) (by omega))]
  · have e : a - b = 0 := by omega
    rw [e]
    rcases Nat.lt_or_ge a b with h2 | h2
    · have h3 := pk_sneg hb h2
      rw [if_neg (fun h4 => Int32.lt_irrefl (Int32.lt_trans h3 h4))]; rfl
    · obtain rfl : a = b := by omega
      rw [pk_sub (Nat.le_refl a), Nat.sub_self]
      split
      · rfl
      · rfl
theorem st3_bd {a b : Nat} (e : Int32) (ha : a ≤ 99) (hb : b ≤ 100) : ∃ a2 b2 : Nat, (st3 (nI b, nI a, e)).2.1 = nI a2 ∧ a2 ≤ 99 ∧ (st3 (nI b, nI a, e)).1 = nI b2 ∧ b2 ≤ 100 := by
  show ∃ a2 b2 : Nat, (stE (nI b) (nI a) e).2.1 = nI a2 ∧ a2 ≤ 99 ∧ (stE (nI b) (nI a) e).1 = nI b2 ∧ b2 ≤ 100
  unfold stE
  by_cases c : e ≤ 0
  · rw [if_pos c]
    by_cases c2 : nI a ≤ 0
    · rw [if_pos c2]
      refine ⟨a, min 100 (b + 1), rfl, ha, ?_, by omega⟩
      show imin (nI 100) (nI b + 1) = _
      rw [nI_1, imin_nI (by omega) (by omega)]
    · rw [if_neg c2]
      refine ⟨a, b - (a + 9) / 10, rfl, ha, ?_, by omega⟩
      show imax 0 (nI b - (nI a + nI 9) / nI 10) = _
      rw [nI_add, pk_div (by omega) (by omega) (by omega), imax_sub (by omega) (by omega)]
  · rw [if_neg c]
    refine ⟨a - 3, b, ?_, by omega, rfl, hb⟩
    show imax 0 (nI a - nI 3) = _
    exact imax_sub (by omega) (by omega)
theorem isA_0 (d : Int32) : isA d = 0 ↔ ¬ (d - d / 7 * 7 = 6) := by
  unfold isA
  split
  · exact ⟨fun h => absurd h (by decide), fun h => absurd ‹_› h⟩
  · exact ⟨fun _ => ‹_›, fun _ => rfl⟩
theorem re_n {v v2 : S0} (h : v2.2.2.2 = v.2.2.2) : xn v2 = xn v := by unfold xn; rw [h]
theorem re_w {v v2 : S0} (h : v2.2.2.2 = v.2.2.2) : xw v2 = xw v := by unfold xw; rw [h]
theorem re_f {v v2 : S0} (h : v2.2.2.2 = v.2.2.2) : xf v2 = xf v := by unfold xf; rw [h]
theorem re_g {v v2 : S0} (h : v2.2.2.2 = v.2.2.2) : xg v2 = xg v := by unfold xg; rw [h]
theorem re_x {v v2 : S0} (h : v2.2.2.2 = v.2.2.2) : xx v2 = xx v := by unfold xx; rw [h]
theorem re_k {v v2 : S0} (h : v2.2.2.2 = v.2.2.2) : xk v2 = xk v := by unfold xk; rw [h]
theorem re_c {v v2 : S0} (h : v2.2.2.2 = v.2.2.2) : xc v2 = xc v := by unfold xc; rw [h]
theorem re_d {v v2 : S0} (h : v2.2.2.2 = v.2.2.2) : xd v2 = xd v := by unfold xd; rw [h]
theorem re_o {v v2 : S0} (h : v2.2.2.2 = v.2.2.2) : xo v2 = xo v := by unfold xo; rw [h]
end
section
/-! what the order's state keeps to -/
def bT (p : T3) : Prop := ∃ l a e : Nat, p.1 = nI l ∧ l ≤ 100 ∧ p.2.1 = nI a ∧ a ≤ 99 ∧ p.2.2 = nI e ∧ e ≤ 9
def iL (v : S0) (t : Nat) : Prop := ∃ j g x : Nat, xw v t = nI j ∧ j < xn v ∧ xg v t = nI g ∧ 1 ≤ g ∧ g ≤ 9 ∧ xx v t = nI x ∧ x ≤ g ∧ (xf v t = 0 ∨ xf v t = 1) ∧ (xf v t = 0 → x = g)
def Inv (B : Nat) (v : S0) : Prop := xn v ≤ 8 ∧ xk v ≤ 30 ∧ xc v ≤ 500 ∧ (∃ d : Nat, xd v = nI d ∧ d ≤ B) ∧ (∀ m, m < xn v → bT (tr0 v m)) ∧ ∀ t, t < xk v → iL v t
theorem Inv.n8 {B : Nat} {v : S0} (h : Inv B v) : xn v ≤ 8 := h.1
theorem Inv.k30 {B : Nat} {v : S0} (h : Inv B v) : xk v ≤ 30 := h.2.1
theorem Inv.c5 {B : Nat} {v : S0} (h : Inv B v) : xc v ≤ 500 := h.2.2.1
theorem Inv.day {B : Nat} {v : S0} (h : Inv B v) : ∃ d : Nat, xd v = nI d ∧ d ≤ B := h.2.2.2.1
theorem Inv.row {B : Nat} {v : S0} (h : Inv B v) {m : Nat} (hm : m < xn v) : bT (tr0 v m) := h.2.2.2.2.1 m hm
theorem Inv.led {B : Nat} {v : S0} (h : Inv B v) : ∀ t, t < xk v → iL v t := h.2.2.2.2.2
theorem Inv.le {B B' : Nat} {v : S0} (h : Inv B v) (hB : B ≤ B') : Inv B' v := ⟨h.1, h.2.1, h.2.2.1, (by obtain ⟨d, e, hd⟩ := h.day; exact ⟨d, e, Nat.le_trans hd hB⟩), h.2.2.2.2.1, h.2.2.2.2.2⟩
/-! sums over the ledger -/
def dsN (v : S0) (m : Nat) : Nat → Nat
  | 0 => 0
  | t + 1 => if xw v t = nI m then dsN v m t + 2 * (xx v t).toNatClampNeg else dsN v m t
section DS
variable {v : S0} {m t : Nat}
theorem xcl {x : Nat} (h : xx v t = nI x) (hx : x ≤ 9) : (xx v t).toNatClampNeg = x := by rw [h, nI_clamp (by omega)]
theorem ds_le (h : ∀ t, t < xk v → iL v t) : ∀ t, t ≤ xk v → dsN v m t ≤ 18 * t := by
  intro t
  induction t with
  | zero => intro _; exact Nat.le_refl _
  | succ t ih =>
    intro ht
    obtain ⟨j, g, x, h1, h2, h3, h4, h5, h6, h7, -⟩ := h t (by omega)
    have := ih (by omega)
    unfold dsN
    rw [xcl h6 (by omega)]
    split <;> omega
theorem ds_val (h : ∀ t, t < xk v → iL v t) : ∀ t, t ≤ xk v → xdebtN (xw v) (xx v) (nI m) t = nI (dsN v m t) := by
  intro t
  induction t with
  | zero => intro _; rfl
  | succ t ih =>
    intro ht
    obtain ⟨j, g, x, h1, h2, h3, h4, h5, h6, h7, -⟩ := h t (by omega)
    unfold xdebtN dsN
    rw [xcl h6 (by omega)]
    by_cases c : xw v t = nI m
    · rw [if_pos c, if_pos c, ih (by omega), h6]
      show nI _ + nI 2 * nI x = _
      rw [pk_mul, nI_add]
    · rw [if_neg c, if_neg c, ih (by omega)]
theorem xdebt_val (h : ∀ t, t < xk v → iL v t) : xdebt v (nI m) = nI (dsN v m (xk v)) := ds_val h _ (Nat.le_refl _)
theorem xx_0 (h : iL v t) : xx v t = 0 ↔ xx v t ≤ 0 := by
  obtain ⟨j, g, x, h1, h2, h3, h4, h5, h6, h7, -⟩ := h
  rw [h6]
  constructor
  · intro q; rw [q]; exact Int32.le_refl _
  · intro q
    rcases Nat.eq_zero_or_pos x with h0 | h0
    · rw [h0]; rfl
    · exact absurd q (nI_nle h0 (by omega))
end DS
/-! rows -/
theorem bT_au3 {p : T3} {g : Nat} (h : bT p) (hg : g < 2 ^ 20) : bT (au3 (nI g) p) := by
  obtain ⟨l, a, e, h1, h2, h3, h4, h5, h6⟩ := h
  refine ⟨l, min 99 (a + g), e, h1, h2, ?_, by omega, h5, h6⟩
  show imin 99 (p.2.1 + nI g) = _
  rw [h3, nI_add, imin_99 (by omega)]
theorem bT_dy3 {p : T3} {d : Int32} {g : Nat} (h : bT p) (hg : g < 2 ^ 20) : bT (dy3 d (nI g) p) := by
  unfold dy3
  split
  · exact h
  · exact bT_au3 h hg
theorem nI_le0 {a : Nat} (ha : a < 2 ^ 31) : nI a ≤ 0 ↔ a = 0 := by
  constructor
  · intro q
    rcases Nat.eq_zero_or_pos a with h0 | h0
    · exact h0
    · exact absurd q (nI_nle h0 ha)
  · intro q; rw [q]; exact Int32.le_refl _
theorem st3_val {p : T3} {l a e : Nat} (h1 : p.1 = nI l) (h2 : l ≤ 100) (h3 : p.2.1 = nI a) (h4 : a ≤ 99) (h5 : p.2.2 = nI e) (h6 : e ≤ 9) : st3 p = if e = 0 then (if a = 0 then (nI (min 100 (l + 1)), nI a, nI e) else (nI (l - (a + 9) / 10), nI a, nI e)) else (nI l, nI (a - 3), nI (e - 1)) := by
  unfold st3 stE
  rw [h1, h3, h5]
  by_cases c : e = 0
  · rw [if_pos ((nI_le0 (by omega)).mpr c), if_pos c]
    by_cases c2 : a = 0
    · rw [if_pos ((nI_le0 (by omega)).mpr c2), if_pos c2]
      refine T3e ?_ rfl rfl
      show imin (nI 100) (nI l + 1) = _
      rw [nI_1, imin_nI (by omega) (by omega)]
    · rw [if_neg (fun q => c2 ((nI_le0 (by omega)).mp q)), if_neg c2]
      refine T3e ?_ rfl rfl
      show imax 0 (nI l - (nI a + nI 9) / nI 10) = _
      rw [nI_add, pk_div (by omega) (by omega) (by omega), imax_sub (by omega) (by omega)]
  · rw [if_neg (fun q => c ((nI_le0 (by omega)).mp q)), if_neg c]
    refine T3e rfl ?_ ?_
    · show imax 0 (nI a - nI 3) = _
      exact imax_sub (by omega) (by omega)
    · show nI e - nI 1 = _
      exact pk_sub (by omega)
theorem bT_st3 {p : T3} (h : bT p) : bT (st3 p) := by
  obtain ⟨l, a, e, h1, h2, h3, h4, h5, h6⟩ := h
  rw [st3_val h1 h2 h3 h4 h5 h6]
  split
  · split
    · exact ⟨_, _, _, rfl, by omega, rfl, h4, rfl, h6⟩
    · exact ⟨_, _, _, rfl, by omega, rfl, h4, rfl, h6⟩
  · exact ⟨_, _, _, rfl, h2, rfl, by omega, rfl, by omega⟩
/-! what each call keeps -/
theorem iL_eq {v v2 : S0} {t : Nat} (h : iL v t) (hn : xn v ≤ xn v2) (hw : xw v2 t = xw v t) (hf : xf v2 t = xf v t) (hg : xg v2 t = xg v t) (hx : xx v2 t = xx v t) : iL v2 t := by
  obtain ⟨j, g, x, h1, h2, h3, h4, h5, h6, h7, h8, h9⟩ := h
  exact ⟨j, g, x, hw.trans h1, by omega, hg.trans h3, h4, h5, hx.trans h6, h7, by rw [hf]; exact h8, by rw [hf]; exact h9⟩
section INV
variable {B : Nat} {v : S0}
theorem Inv.x00 : Inv 0 x00 := ⟨by decide, by decide, by decide, ⟨0, rfl, Nat.le_refl _⟩, fun m hm => absurd hm (Nat.not_lt_zero m), fun t ht => absurd ht (Nat.not_lt_zero t)⟩
theorem Inv.cell (h : Inv B v) {c : Nat} (hc : c ≤ 500) : Inv B (uc v c) := ⟨h.1, h.2.1, hc, h.2.2.2.1, h.2.2.2.2.1, h.2.2.2.2.2⟩
theorem Inv.join (h : Inv B v) (hn : xn v < 8) : Inv B (xjoin v) := by
  refine ⟨by show xn v + 1 ≤ 8; omega, h.2.1, h.2.2.1, h.2.2.2.1, fun m hm => ?_, fun t ht => iL_eq (h.led t ht) (Nat.le_succ _) rfl rfl rfl rfl⟩
  have hm2 : m < xn v + 1 := hm
  show bT (upd (xl v) (xn v) 50 m, upd (xa v) (xn v) 0 m, upd (xe v) (xn v) 0 m)
  by_cases e : m = xn v
  · rw [e, pk_us, pk_us, pk_us]
    exact ⟨50, 0, 0, rfl, by omega, rfl, by omega, rfl, by omega⟩
  · rw [pk_un e, pk_un e, pk_un e]
    exact h.row (by omega)
theorem Inv.add (h : Inv B v) (j : Nat) {g : Nat} (hg : g < 2 ^ 20) : Inv B (xadd v j (nI g)) := by
  refine ⟨h.1, h.2.1, h.2.2.1, h.2.2.2.1, fun m hm => ?_, h.2.2.2.2.2⟩
  rw [xadd_row]
  by_cases e : m = j
  · subst e; rw [if_pos rfl]; exact bT_au3 (h.row hm) hg
  · rw [if_neg e]; exact h.row hm
theorem Inv.spill (h : Inv B v) (j : Nat) {g : Nat} (hg : g ≤ 30) : Inv B (xspill v j g) := (h.cell (c := xc v - g) (by have := h.c5; omega)).add j (by omega)
theorem Inv.lump (h : Inv B v) (j : Nat) {g : Nat} (hg : g ≤ 9) : Inv B (xlump v j (nI g)) := by
  refine ⟨h.1, h.2.1, h.2.2.1, h.2.2.2.1, fun m hm => ?_, h.2.2.2.2.2⟩
  rw [xlump_row]
  by_cases e : m = j
  · subst e
    rw [if_pos rfl]
    obtain ⟨l, a, e, h1, h2, h3, h4, h5, h6⟩ := h.row hm
    refine ⟨l, a, min 9 (e + g), h1, h2, h3, h4, ?_, by omega⟩
    have h5b : xe v m = nI e := h5
    show imin (nI 9) (xe v m + nI g) = _
    rw [h5b, nI_add, imin_nI (by omega) (by omega)]
  · rw [if_neg e]; exact h.row hm
theorem Inv.less (h : Inv B v) (j : Nat) {g : Nat} (hg : g ≤ 9) : Inv B (xless v j (nI g)) := by
  refine ⟨h.1, h.2.1, h.2.2.1, h.2.2.2.1, fun m hm => ?_, h.2.2.2.2.2⟩
  rw [xless_row]
  by_cases e : m = j
  · subst e
    rw [if_pos rfl]
    obtain ⟨l, a, e, h1, h2, h3, h4, h5, h6⟩ := h.row hm
    refine ⟨l, a - g, e, h1, h2, ?_, by omega, h5, h6⟩
    have h3b : xa v m = nI a := h3
    show imax 0 (xa v m - nI g) = _
    rw [h3b, imax_sub (by omega) (by omega)]
  · rw [if_neg e]; exact h.row hm
theorem Inv.write (h : Inv B v) {j g x : Nat} {b : Int32} (hj : j < xn v) (hk : xk v < 30) (h1 : 1 ≤ g) (h9 : g ≤ 9) (hx : x ≤ g) (hb : b = 0 ∨ b = 1) (hbx : b = 0 → x = g) : Inv B (xwrite v (nI j) b (nI g) (nI x)) := by
  refine ⟨h.1, by show xk v + 1 ≤ 30; omega, h.2.2.1, h.2.2.2.1, h.2.2.2.2.1, fun t ht => ?_⟩
  have ht2 : t < xk v + 1 := ht
  by_cases e : t = xk v
  · subst e
    refine ⟨j, g, x, pk_us, hj, pk_us, h1, h9, pk_us, hx, ?_, ?_⟩
    · show upd (xf v) (xk v) b (xk v) = 0 ∨ upd (xf v) (xk v) b (xk v) = 1
      rw [pk_us]; exact hb
    · show upd (xf v) (xk v) b (xk v) = 0 → _
      rw [pk_us]; exact hbx
  · exact iL_eq (h.led t (by omega)) (Nat.le_refl _) (pk_un e) (pk_un e) (pk_un e) (pk_un e)
theorem Inv.throw (h : Inv B v) {j g : Nat} {b : Int32} (hj : j < xn v) (hk : xk v < 30) (h1 : 1 ≤ g) (h9 : g ≤ 9) : Inv B (xthrow v j b g) := by
  unfold xthrow
  by_cases hb : b = 0
  · rw [if_pos hb]
    obtain ⟨l, a, e, q1, q2, q3, q4, q5, q6⟩ := h.row hj
    have q3b : xa v j = nI a := q3
    have ex : xlexc v j (nI g) = nI (g - a) := by
      unfold xlexc
      rw [q3b, imax_sub (by omega) (by omega)]
    rw [ex]
    exact ((h.less j h9).cell (c := xc (xless v j (nI g)) - g) (by have := (h.less j h9).c5; omega)).write hj hk h1 h9 (by omega) (Or.inr rfl) (fun q => absurd q (by decide))
  · rw [if_neg hb]
    exact (h.cell (c := xc v - g) (by have := h.c5; omega)).write hj hk h1 h9 (Nat.le_refl _) (Or.inl rfl) (fun _ => rfl)
theorem xaud_n2 : xn (xaud v) = xn v := xaud_n v
theorem xaud_d : xd (xaud v) = xd v := by
  show xd (xaudN v (xn v)) = xd v
  exact re_d (xaudN_r v (xn v))
theorem xaud_c2 : xc (xaud v) = xc v := by
  show xc (xaudN v (xn v)) = xc v
  exact re_c (xaudN_r v (xn v))
theorem xaud_o : xo (xaud v) = xo v + xflt v := congrArg (· + xflt v) (re_o (xaudN_r v (xn v)))
theorem Inv.ds20 (h : Inv B v) (m : Nat) : dsN v m (xk v) < 2 ^ 20 := by
  have h1 := ds_le (m := m) h.led (xk v) (Nat.le_refl _)
  have h2 := h.k30
  omega
theorem Inv.aud (h : Inv B v) : Inv B (xaud v) := by
  refine ⟨by rw [xaud_n2]; exact h.1, by rw [xaud_k]; omega, by rw [xaud_c2]; exact h.2.2.1, by rw [xaud_d]; exact h.2.2.2.1, fun m hm => ?_, fun t ht => by rw [xaud_k] at ht; exact absurd ht (Nat.not_lt_zero t)⟩
  rw [xaud_n2] at hm
  rw [xaud_row v hm, xdebt_val h.led]
  exact bT_au3 (h.row hm) (h.ds20 m)
theorem xday_r1 : (xeatN (xday1 v) (xn v)).2.2.2 = (xday1 v).2.2.2 := xeatN_r _ _
theorem xday1_n2 : xn (xday1 v) = xn v := xday1_n v
theorem xday1_d : xd (xday1 v) = xd v := by
  unfold xday1
  split
  · rfl
  · exact xaud_d
theorem xday1_c2 : xc (xday1 v) = xc v := by
  unfold xday1
  split
  · rfl
  · exact xaud_c2
theorem xday1_o : xo (xday1 v) = xo v + xdayF v := by
  unfold xday1 xdayF
  split
  · exact (Int32.add_zero _).symm
  · exact xaud_o
theorem xday_d : xd (xday v) = xd v + 1 := by
  show xd (xeatN (xday1 v) (xn v)) + 1 = _
  rw [re_d xday_r1, xday1_d]
theorem xday_c2 : xc (xday v) = xc v := (re_c xday_r1).trans xday1_c2
theorem xday_o : xo (xday v) = xo v + xdayF v := (re_o xday_r1).trans xday1_o
theorem xday_n2 : xn (xday v) = xn v := xday_n v
theorem xday_k1 : xk (xday v) = xk (xday1 v) := by
  show xk (xeatN (xday1 v) (xn v)) = _
  exact re_k xday_r1
theorem Inv.day1 (h : Inv B v) : Inv B (xday1 v) := by
  unfold xday1
  split
  · exact h
  · exact h.aud
theorem Inv.eatN (h : Inv B v) : Inv B (xeatN v (xn v)) := by
  have r := xeatN_r v (xn v)
  refine ⟨by rw [re_n r]; exact h.1, by rw [re_k r]; exact h.2.1, by rw [re_c r]; exact h.2.2.1, by rw [re_d r]; exact h.2.2.2.1, fun m hm => ?_, fun t ht => ?_⟩
  · rw [re_n r] at hm
    rw [xeatN_row, if_pos hm]
    exact bT_st3 (h.row hm)
  · rw [re_k r] at ht
    exact iL_eq (h.led t ht) (by rw [re_n r]; omega) (by rw [re_w r]) (by rw [re_f r]) (by rw [re_g r]) (by rw [re_x r])
theorem Inv.dayS (h : Inv B v) : Inv (B + 1) (xday v) := by
  have h2 : Inv B (xeatN (xday1 v) (xn v)) := by
    have := h.day1.eatN
    rw [xday1_n2] at this
    exact this
  refine ⟨h2.1, h2.2.1, h2.2.2.1, ?_, h2.2.2.2.2.1, h2.2.2.2.2.2⟩
  obtain ⟨d, e, hd⟩ := h.day
  exact ⟨d + 1, by rw [xday_d, e, nI_1], by omega⟩
theorem Inv.pass (h : Inv B v) : ∀ d, Inv (B + d) (xpass v d)
  | 0 => h
  | d + 1 => (Inv.pass h d).dayS
end INV
/-! the simulation's own sums -/
/-- arrears behind the first t throws of an audit, cut at 99 at each -/
def sA (u : S0) : Nat → Nat → Int32
  | 0 => xa u
  | t + 1 => if xx u t = 0 then sA u t else if sA u t (xw u t).toNatClampNeg + 2 * xx u t ≤ 99 then upd (sA u t) (xw u t).toNatClampNeg (sA u t (xw u t).toNatClampNeg + 2 * xx u t) else upd (upd (sA u t) (xw u t).toNatClampNeg (sA u t (xw u t).toNatClampNeg + 2 * xx u t)) (xw u t).toNatClampNeg 99
theorem sA_0 {u : S0} {t : Nat} (h : xx u t = 0) : sA u (t + 1) = sA u t := if_pos h
theorem sA_1 {u : S0} {t j : Nat} (h : ¬ xx u t = 0) (hj : (xw u t).toNatClampNeg = j) (h9 : sA u t j + 2 * xx u t ≤ 99) : sA u (t + 1) = upd (sA u t) j (sA u t j + 2 * xx u t) := by
  subst hj
  exact (if_neg h).trans (if_pos h9)
theorem sA_2 {u : S0} {t j : Nat} (h : ¬ xx u t = 0) (hj : (xw u t).toNatClampNeg = j) (h9 : ¬ sA u t j + 2 * xx u t ≤ 99) : sA u (t + 1) = upd (upd (sA u t) j (sA u t j + 2 * xx u t)) j 99 := by
  subst hj
  exact (if_neg h).trans (if_neg h9)
theorem sA_val {v : S0} {B m a : Nat} (h : Inv B v) (hm : m < xn v) (ha : xa v m = nI a) (ha9 : a ≤ 99) : ∀ t, t ≤ xk v → sA v t m = nI (min 99 (a + dsN v m t)) := by
  have hn := h.n8
  have hk := h.k30
  intro t
  induction t with
  | zero =>
    intro _
    show xa v m = nI (min 99 (a + 0))
    rw [ha, Nat.add_zero, Nat.min_eq_right ha9]
  | succ t ih =>
    intro ht
    have ih := ih (by omega)
    have hd := ds_le (m := m) h.led t (by omega)
    obtain ⟨j, g, x, h1, h2, h3, h4, h5, h6, h7, -⟩ := h.led t (by omega)
    have hcl : (xw v t).toNatClampNeg = j := by rw [h1, nI_clamp (by omega)]
    have hds : dsN v m (t + 1) = if j = m then dsN v m t + 2 * x else dsN v m t := by
      show (if xw v t = nI m then dsN v m t + 2 * (xx v t).toNatClampNeg else dsN v m t) = _
      rw [xcl h6 (by omega), h1]
      by_cases e : j = m
      · rw [if_pos (by rw [e]), if_pos e]
      · rw [if_neg (fun q => e ((nI_eq (by omega) (by omega)).mp q)), if_neg e]
    by_cases c0 : xx v t = 0
    · have hx0 : x = 0 := by
        rw [h6] at c0
        exact (nI_eq (a := x) (b := 0) (by omega) (by omega)).mp c0
      rw [sA_0 c0, ih, hds]
      split <;> first | rfl | (congr 1; omega)
    · have hx0 : x ≠ 0 := fun q => c0 (by rw [h6, q]; rfl)
      by_cases e : j = m
      · subst e
        have hy : sA v t j + 2 * xx v t = nI (min 99 (a + dsN v j t) + 2 * x) := by
          rw [ih, h6]
          show nI _ + nI 2 * nI x = _
          rw [pk_mul, nI_add]
        rw [hds, if_pos rfl]
        by_cases c9 : sA v t j + 2 * xx v t ≤ 99
        · rw [sA_1 c0 hcl c9, pk_us, hy]
          rw [hy] at c9
          have c9b : min 99 (a + dsN v j t) + 2 * x ≤ 99 := (nI_leI (b := 99) (by omega) (by omega)).mp c9
          congr 1
          omega
        · rw [sA_2 c0 hcl c9, pk_us]
          rw [hy] at c9
          have c9b : ¬ min 99 (a + dsN v j t) + 2 * x ≤ 99 := fun q => c9 ((nI_leI (b := 99) (by omega) (by omega)).mpr q)
          show nI 99 = _
          congr 1
          omega
      · rw [hds, if_neg e]
        by_cases c9 : sA v t j + 2 * xx v t ≤ 99
        · rw [sA_1 c0 hcl c9, pk_un (Ne.symm e), ih]
        · rw [sA_2 c0 hcl c9, pk_un (Ne.symm e), pk_un (Ne.symm e), ih]
/-- the simulation's audit is the class's -/
theorem sA_pic {v : S0} {B : Nat} {G : AG} {cI cP : ClassId} (h : Inv B v) : wS G cI cP (uo (uk (ua v (sA v (xk v))) 0) (xo v + xflt v)) = wS G cI cP (xaud v) := by
  refine wS_congr (show xn v = xn (xaud v) from xaud_n2.symm) (xaud_k v).symm (show xd v = xd (xaud v) from xaud_d.symm) (show xc v = xc (xaud v) from xaud_c2.symm) (show xo v + xflt v = xo (xaud v) from xaud_o.symm) (fun m hm => ?_) (fun t ht => absurd ht (Nat.not_lt_zero t))
  have hm2 : m < xn v := hm
  have r := xaud_row v hm2
  rw [xdebt_val h.led] at r
  obtain ⟨l, a, e, h1, h2, h3, h4, h5, h6⟩ := h.row hm2
  have h3b : xa v m = nI a := h3
  have rl : xl (xaud v) m = xl v m := congrArg (fun p : T3 => p.1) r
  have re : xe (xaud v) m = xe v m := congrArg (fun p : T3 => p.2.2) r
  have ra : xa (xaud v) m = imin 99 (xa v m + nI (dsN v m (xk v))) := congrArg (fun p : T3 => p.2.1) r
  have hd := h.ds20 m
  refine mrow_eq rl.symm ?_ re.symm
  rw [ra, h3b, nI_add, imin_99 (by omega)]
  exact sA_val h hm2 h3b h4 _ (Nat.le_refl _)
/-- a day's luck lost, 1 for each 10 owed or a part -/
def lossF : Nat → Int32 → Int32 → Int32
  | 0, _, l => l
  | d + 1, z, l => if z ≤ 0 then l else lossF d (z + -10) (if l ≤ 0 then l else l - 1)
def lossE : Nat → Int32 → Prop
  | 0, z => z ≤ 0
  | d + 1, z => z ≤ 0 ∨ lossE d (z + -10)
theorem lossF_0 {d : Nat} {z l : Int32} (h : z ≤ 0) : lossF d z l = l := by
  cases d with
  | zero => rfl
  | succ d => exact if_pos h
theorem m10 {a : Nat} (h : 10 ≤ a) : nI a + -10 = nI (a - 10) := by
  rw [← pk_sub h, Int32.sub_eq_add_neg]
  rfl
theorem m10le {a : Nat} (h : a ≤ 10) : nI a + -10 ≤ 0 := by
  have e : nI a + -10 = nI a - nI 10 := by
    rw [Int32.sub_eq_add_neg]
    rfl
  rw [e, Int32.le_iff_toInt_le, pk_sub_toInt (by omega) (by omega)]
  show (a : Int) - (10 : Nat) ≤ 0
  omega
theorem lossF_val : ∀ (d a l : Nat), a ≤ 10 * d → a ≤ 99 → l ≤ 100 → lossF d (nI a) (nI l) = nI (l - (a + 9) / 10) := by
  intro d
  induction d with
  | zero =>
    intro a l h1 h2 h3
    obtain rfl : a = 0 := by omega
    rfl
  | succ d ih =>
    intro a l h1 h2 h3
    by_cases c : a = 0
    · subst c
      exact if_pos (Int32.le_refl _)
    · have s : lossF (d + 1) (nI a) (nI l) = lossF d (nI a + -10) (if nI l ≤ 0 then nI l else nI l - 1) := if_neg (fun q => c ((nI_le0 (by omega)).mp q))
      have e : (if nI l ≤ 0 then nI l else nI l - 1) = nI (l - 1) := by
        by_cases c2 : l = 0
        · rw [if_pos ((nI_le0 (by omega)).mpr c2), c2]
        · rw [if_neg (fun q => c2 ((nI_le0 (by omega)).mp q))]
          exact pk_sub (b := 1) (by omega)
      rw [s, e]
      rcases Nat.lt_or_ge 10 a with h4 | h4
      · rw [m10 (by omega), ih (a - 10) (l - 1) (by omega) (by omega) (by omega)]
        congr 1
        omega
      · rw [lossF_0 (m10le h4)]
        congr 1
        omega
theorem lossE_val : ∀ (d a : Nat), a ≤ 10 * d → a ≤ 99 → lossE d (nI a) := by
  intro d
  induction d with
  | zero =>
    intro a h1 _
    exact (nI_le0 (by omega)).mpr (by omega)
  | succ d ih =>
    intro a h1 h2
    rcases Nat.lt_or_ge 10 a with h4 | h4
    · refine Or.inr ?_
      rw [m10 (by omega)]
      exact ih (a - 10) (by omega) (by omega)
    · exact Or.inr (by
        cases d with
        | zero => exact m10le h4
        | succ d => exact Or.inl (m10le h4))
/-! a member's day, in the simulation's steps -/
section EAT
variable {w : S0} {i l a e : Nat} {G : AG} {cI cP : ClassId}
theorem s_loss (h1 : xl w i = nI l) (h2 : l ≤ 100) (h3 : xa w i = nI a) (h4 : a ≤ 99) (he : xe w i ≤ 0) : lossF 10 (xa w i) (xl w i) = imax 0 (xl w i - xloss w i) := by
  unfold xloss
  rw [if_pos he, e_9, h1, h3, lossF_val 10 a l (by omega) h4 h2]
  show _ = imax 0 (nI l - (nI a + nI 9) / nI 10)
  rw [nI_add, pk_div (by omega) (by omega) (by omega), imax_sub (by omega) (by omega)]
theorem upd_same {f : Nat → Int32} {k : Nat} : upd f k (f k) = f := by
  funext j
  by_cases h : j = k
  · rw [h, pk_us]
  · rw [pk_un h]
end EAT
end
section
/-! what the simulation's methods lean on -/
theorem i_2 (x : Int32) : x + x = 2 * x := by
  rw [show (2 : Int32) = 1 + 1 from rfl, Int32.add_mul, Int32.one_mul]
theorem upd_upd {f : Nat → Int32} {k : Nat} {a b : Int32} : upd (upd f k a) k b = upd f k b := by
  funext j
  by_cases h : j = k
  · rw [h, pk_us, pk_us]
  · rw [pk_un h, pk_un h, pk_un h]
theorem s_eat1 {w : S0} {i a : Nat} (h3 : xa w i = nI a) (h4 : a ≤ 99) (hc : ¬ 3 ≤ xa w i) : imax 0 (xa w i - 3) = 0 := by
  rw [h3] at hc ⊢
  have : a < 3 := Nat.not_le.mp (fun q => hc ((nI_leI (a := 3) (by omega) (by omega)).mpr q))
  show imax 0 (nI a - nI 3) = _
  rw [imax_sub (by omega) (by omega), show a - 3 = 0 by omega]
  rfl
theorem s_eat2 {w : S0} {i a : Nat} (h3 : xa w i = nI a) (h4 : a ≤ 99) (hc : 3 ≤ xa w i) : imax 0 (xa w i - 3) = xa w i - 3 := by
  rw [h3] at hc ⊢
  have : 3 ≤ a := (nI_leI (a := 3) (by omega) (by omega)).mp hc
  show imax 0 (nI a - nI 3) = nI a - nI 3
  rw [imax_sub (by omega) (by omega), pk_sub (by omega)]
theorem s_win1 {w : S0} {i l : Nat} (h1 : xl w i = nI l) (h2 : l ≤ 100) (hc : ¬ 100 ≤ xl w i) : imin 100 (xl w i + 1) = xl w i + 1 := by
  rw [h1] at hc ⊢
  have : ¬ 100 ≤ l := fun q => hc ((nI_leI (a := 100) (by omega) (by omega)).mpr q)
  rw [nI_1]
  show imin (nI 100) _ = _
  rw [imin_nI (by omega) (by omega)]
  congr 1
  omega
theorem s_win2 {w : S0} {i l : Nat} (h1 : xl w i = nI l) (h2 : l ≤ 100) (hc : 100 ≤ xl w i) : imin 100 (xl w i + 1) = xl w i := by
  rw [h1] at hc ⊢
  have : 100 ≤ l := (nI_leI (a := 100) (by omega) (by omega)).mp hc
  rw [nI_1]
  show imin (nI 100) _ = _
  rw [imin_nI (by omega) (by omega)]
  congr 1
  omega
section CAST
variable {u : S0} {j g a : Nat} {b : Int32}
theorem s_ex1 (h3 : xa u j = nI a) (h4 : a ≤ 99) (h9 : g ≤ 9) (hc : nI g ≤ xa u j) : 0 = xlexc u j (nI g) := by
  unfold xlexc
  rw [h3] at hc ⊢
  have : g ≤ a := (nI_leI (by omega) (by omega)).mp hc
  rw [imax_sub (by omega) (by omega), show g - a = 0 by omega]
  rfl
theorem s_ex2 (h3 : xa u j = nI a) (h4 : a ≤ 99) (h9 : g ≤ 9) (hc : ¬ nI g ≤ xa u j) : nI g - xa u j = xlexc u j (nI g) := by
  unfold xlexc
  rw [h3] at hc ⊢
  have : ¬ g ≤ a := fun q => hc ((nI_leI (by omega) (by omega)).mpr q)
  rw [imax_sub (by omega) (by omega), pk_sub (by omega)]
theorem s_le1 (h3 : xa u j = nI a) (h4 : a ≤ 99) (h9 : g ≤ 9) (hc : xa u j ≤ nI g) : 0 = imax 0 (xa u j - nI g) := by
  rw [h3] at hc ⊢
  have : a ≤ g := (nI_leI (by omega) (by omega)).mp hc
  rw [imax_sub (by omega) (by omega), show a - g = 0 by omega]
  rfl
theorem s_le2 (h3 : xa u j = nI a) (h4 : a ≤ 99) (h9 : g ≤ 9) (hc : ¬ xa u j ≤ nI g) : xa u j - nI g = imax 0 (xa u j - nI g) := by
  rw [h3] at hc ⊢
  have : ¬ a ≤ g := fun q => hc ((nI_leI (by omega) (by omega)).mpr q)
  rw [imax_sub (by omega) (by omega), pk_sub (by omega)]
theorem s_th1 (hb : b = 0 ∨ b = 1) (c : ¬ b = 0) : xwrite (uc u (xc u - g)) (nI j) (1 - b) (nI g) (nI g) = xthrow u j b g := by
  have e : b = 1 := hb.resolve_left c
  unfold xthrow
  rw [if_neg c, e]
  rfl
theorem s_th2 (c : ¬ b = 0) : nI g = xthrowR u j b g := (if_neg c).symm
theorem s_th3 (c : b = 0) : xwrite (uc (xless u j (nI g)) (xc (xless u j (nI g)) - g)) (nI j) (1 - b) (nI g) (xlexc u j (nI g)) = xthrow u j b g := by
  unfold xthrow
  rw [if_pos c, c]
  rfl
theorem s_th4 (c : b = 0) : xlexc u j (nI g) = xthrowR u j b g := (if_pos c).symm
end CAST
theorem row4 {u : S0} {t : Nat} {a b c d : Int32} (h0 : xw u t = a) (h1 : xf u t = b) (h2 : xg u t = c) (h3 : xx u t = d) : upd (upd (upd (upd (fun _ => 0) 0 a) 1 b) 2 c) 3 d = lrow u t := by
  funext k
  unfold lrow
  rw [upd_i, upd_i, upd_i, upd_i, h0, h1, h2, h3]
  by_cases k0 : k = 0
  · subst k0; rfl
  · by_cases k1 : k = 1
    · subst k1; rfl
    · by_cases k2 : k = 2
      · subst k2; rfl
      · by_cases k3 : k = 3
        · subst k3; rfl
        · simp only [k0, k1, k2, k3, ↓reduceIte]
theorem wS_clear {cI cP : ClassId} (G : AG) (u : S0) (q : Nat) : (([] : va_W) ++ wSo (gO G, gA G, q, gM G, gL G) u) ++ (wT (gA G) cP cI (xn u) 3 (gM G) (mrow u) ++ [(q, .inl (cP, 0, .inr (.inr (.inr (.inr (fun _ => none))))))]) = ([] : va_W) ++ wS (gO G, gA G, q, gM G, gL G) cI cP (uk u 0) := by
  rw [← refs_0 (g := gL G)]
  exact (List.append_assoc _ _ _).symm
theorem wS_last {cI cP : ClassId} (G : AG) (u : S0) (q c : Nat) (F : Nat → Int32) : (([] : va_W) ++ wS G cI cP u) ++ [(q, .inl (cI, c, .inl F))] = ((wSo G u ++ wT (gA G) cP cI (xn u) 3 (gM G) (mrow u)) ++ (wT (gB G) cP cI (xk u) 4 (gL G) (lrow u) ++ [(q, .inl (cI, c, .inl F))])) ++ [] := by
  rw [List.append_nil]
  show ((wSo G u ++ wT (gA G) cP cI (xn u) 3 (gM G) (mrow u)) ++ wT (gB G) cP cI (xk u) 4 (gL G) (lrow u)) ++ [(q, .inl (cI, c, .inl F))] = _
  exact List.append_assoc _ _ _
theorem wS_push {cI cP : ClassId} {G : AG} {u u2 : S0} {q bb : Nat} {F : Nat → Int32} (hn : xn u = xn u2) (hk : xk u + 1 = xk u2) (hd : xd u = xd u2) (hc : xc u = xc u2) (ho : xo u = xo u2) (hm : ∀ m, m < xn u → mrow u m = mrow u2 m) (hl : ∀ t, t < xk u → lrow u t = lrow u2 t) (hF : F = lrow u2 (xk u)) : (([] : va_W) ++ wSo (gO G, gA G, bb, gM G, gL G) u) ++ (wT (gA G) cP cI (xn u) 3 (gM G) (mrow u) ++ wT bb cP cI (xk u + 1) 4 (snoc (xk u) (gL G) q) (snoc (xk u) (lrow u) F)) = wS (gO G, gA G, bb, gM G, snoc (xk u) (gL G) q) cI cP u2 := by
  have e1 : wT bb cP cI (xk u + 1) 4 (snoc (xk u) (gL G) q) (snoc (xk u) (lrow u) F) = wT bb cP cI (xk u + 1) 4 (snoc (xk u) (gL G) q) (lrow u2) := wT_congr (fun _ _ => rfl) (fun t ht => by
    by_cases h : t < xk u
    · rw [snoc_lt h, hl t h]
    · rw [show t = xk u by omega, snoc_n, hF])
  rw [e1, wT_congr (g' := gM G) (r' := mrow u2) (fun _ _ => rfl) hm]
  unfold wS wSo
  rw [hn, hk, hd, hc, ho]
  exact (List.append_assoc _ _ _).symm
theorem day7a {u : S0} {B : Nat} (hI : Inv B u) (hB : B < 2 ^ 20) : (xd u + 1 - (xd u + 1) / 7 * 7 = 0) ↔ isA (xd u) ≠ 0 := by
  obtain ⟨d, hd, hdB⟩ := hI.day
  rw [hd, nI_1]
  have e1 : nI (d + 1) - nI (d + 1) / 7 * 7 = nI ((d + 1) % 7) := pk_rem (d := 7) (by omega) (by omega) (by omega)
  have e2 : nI d - nI d / 7 * 7 = nI (d % 7) := pk_rem (d := 7) (by omega) (by omega) (by omega)
  have e3 : isA (nI d) ≠ 0 ↔ nI d - nI d / 7 * 7 = 6 := by
    rw [Ne, isA_0]
    exact Decidable.not_not
  rw [e3, e1, e2]
  constructor
  · intro h
    have : (d + 1) % 7 = 0 := (nI_eq (a := (d + 1) % 7) (b := 0) (by omega) (by omega)).mp h
    show _ = nI 6
    congr 1
    omega
  · intro h
    have : d % 7 = 6 := (nI_eq (a := d % 7) (b := 6) (by omega) (by omega)).mp h
    show _ = nI 0
    congr 1
    omega
theorem day7 {u : S0} {B : Nat} (hI : Inv B u) (hB : B < 2 ^ 20) (h : ¬ xd u + 1 - (xd u + 1) / 7 * 7 = 0) : isA (xd u) = 0 := Decidable.not_not.mp (fun q => h ((day7a hI hB).mpr q))
theorem day7b {u : S0} {B : Nat} (hI : Inv B u) (hB : B < 2 ^ 20) (h : xd u + 1 - (xd u + 1) / 7 * 7 = 0) : ¬ isA (xd u) = 0 := (day7a hI hB).mp h
end
section
set_option maxHeartbeats 8000000 in
set_option maxRecDepth 100000 in
theorem c_X1_faults (l : Launch) (D : va_G) (cI cP : ClassId) (G : AG) (u : S0) (hk30 : xk u ≤ 30) : zMX l yX1_faults wsX1_faults 0 0 0 0 [.ref (gO G)] [(cI, .int), (cP, .array .int)] D (wS G cI cP u) zAA (fun _ : Unit => True) (fun _ => some (.int (xflt u))) (fun _ => wS G cI cP u) := by
  refine z_metX (cc := cX1_faults) (maxL := 6) (ret := (some .int)) (by decide) rfl (Nat.le_of_ble_eq_true rfl) ?_
  intro p e s m args below meth c A hAw hAA C hr hlocks
  have ins : ∀ w ∈ u_ws RX1 TX1 5, w ∈ wsX1_faults := by decide +kernel
  have wd0 : Cond.fieldLink RX1 19 "SaltOrderLaw$Sim" "ledger" "[[I" ∈ wsX1_faults := by decide +kernel
  refine z_sub (L' := [(0, .ref (gO G))]) [0] rfl ?_
  refine z_ws (ws' := (([] : va_W) ++ wS G cI cP u)) rfl ?_
  have lp13 : ∀ (dd i : Nat), i + dd = xk u → zG p l e ({ frames := 0, cells := 0, slots := 0, locals := 0 } : Room) s m args below meth c D 6 A 0 0 (MQ below (zQX (fun _ : Unit => True) (fun _ => some (.int (xflt u))) (fun _ => wS G cI cP u) D A) args s 0 0 A) 13 [(0, .ref (gO G)), (1, .int (xfltN (xx u) i)), (2, .ref (gB G)), (3, .int (nI (xk u))), (4, .int (nI i))] [] (([] : va_W) ++ (wS G cI cP u)) := by
    intro dd
    induction dd with
    | zero =>
      intro i hi
      have hi : i = xk u := by omega
      subst hi
      refine z_iload C 4 dX1_faults_13 rfl ?_
      refine z_iload_n C 3 dX1_faults_15 rfl rfl ?_
      refine z_icmp_ge (tgt := 46) C dX1_faults_16 (by decide) (fun _ => ?_) (fun h9 => absurd (nI_le (by omega) (by omega)) h9)
      refine z_iload_n C 1 dX1_faults_46 rfl rfl ?_
      exact z_iretX C () (by exact trivial) hr hlocks (Nat.le_of_ble_eq_true rfl) (Nat.le_of_ble_eq_true rfl) dX1_faults_47 (by rfl) (by rfl)
    | succ dd ih =>
      intro i hi
      refine z_iload C 4 dX1_faults_13 rfl ?_
      refine z_iload_n C 3 dX1_faults_15 rfl rfl ?_
      refine z_icmp_ge (tgt := 46) C dX1_faults_16 (by decide) (fun h9 => absurd h9 (nI_ge (by omega) (by omega))) (fun _ => ?_)
      refine z_aload_n C 2 dX1_faults_19 rfl rfl ?_
      refine z_iload C 4 dX1_faults_20 rfl ?_
      refine z_lrow C 1 rfl i rfl (show i < xk u from by omega) hk30 dX1_faults_22 ?_
      refine z_astore (L' := [(5, .ref (gL G i)), (0, .ref (gO G)), (1, .int (xfltN (xx u) i)), (2, .ref (gB G)), (3, .int (nI (xk u))), (4, .int (nI i))]) C dX1_faults_23 (by decide) rfl ?_
      refine z_iload_n C 2 dX1_faults_25 rfl rfl ?_
      refine z_aload C 0 dX1_faults_26 rfl ?_
      refine z_iconst (v := 3) C dX1_faults_28 (by decide) ?_
      refine z_lget (x := (xx u) i) C 0 rfl 3 rfl (by decide) (show i < xk u from by omega) rfl dX1_faults_29 ?_
      refine z_if_le (tgt := 37) C dX1_faults_30 (by decide) (fun c30 => ?_) (fun c30 => ?_)
      · skip
        refine z_iconst (v := 0) C dX1_faults_37 (by decide) ?_
        refine z_iadd C dX1_faults_38 ?_
        refine z_top (y := xfltN (xx u) (i + 1)) (show xfltN (xx u) i + 0 = (if xx u i ≤ 0 then xfltN (xx u) i else xfltN (xx u) i + 1) from by rw [if_pos c30, Int32.add_zero]) ?_
        refine z_istore_n (L' := [(1, .int (xfltN (xx u) (i + 1))), (5, .ref (gL G i)), (0, .ref (gO G)), (2, .ref (gB G)), (3, .int (nI (xk u))), (4, .int (nI i))]) C dX1_faults_39 rfl (by decide) rfl ?_
        refine z_iinc (v := nI (i + 1)) (L' := [(4, .int (nI (i + 1))), (1, .int (xfltN (xx u) (i + 1))), (5, .ref (gL G i)), (0, .ref (gO G)), (2, .ref (gB G)), (3, .int (nI (xk u)))]) C 5 dX1_faults_40 rfl (z_inc _) (by decide) rfl ?_
        refine z_goto (tgt := 13) C dX1_faults_43 (by decide) ?_
        refine z_sub (L' := [(0, .ref (gO G)), (1, .int (xfltN (xx u) (i + 1))), (2, .ref (gB G)), (3, .int (nI (xk u))), (4, .int (nI (i + 1)))]) [3, 1, 4, 5, 0] rfl ?_
        exact ih (i + 1) (by omega)
      · skip
        refine z_iconst (v := 1) C dX1_faults_33 (by decide) ?_
        refine z_goto (tgt := 38) C dX1_faults_34 (by decide) ?_
        refine z_iadd C dX1_faults_38 ?_
        refine z_top (y := xfltN (xx u) (i + 1)) (show xfltN (xx u) i + 1 = (if xx u i ≤ 0 then xfltN (xx u) i else xfltN (xx u) i + 1) from by rw [if_neg c30]) ?_
        refine z_istore_n (L' := [(1, .int (xfltN (xx u) (i + 1))), (5, .ref (gL G i)), (0, .ref (gO G)), (2, .ref (gB G)), (3, .int (nI (xk u))), (4, .int (nI i))]) C dX1_faults_39 rfl (by decide) rfl ?_
        refine z_iinc (v := nI (i + 1)) (L' := [(4, .int (nI (i + 1))), (1, .int (xfltN (xx u) (i + 1))), (5, .ref (gL G i)), (0, .ref (gO G)), (2, .ref (gB G)), (3, .int (nI (xk u)))]) C 5 dX1_faults_40 rfl (z_inc _) (by decide) rfl ?_
        refine z_goto (tgt := 13) C dX1_faults_43 (by decide) ?_
        refine z_sub (L' := [(0, .ref (gO G)), (1, .int (xfltN (xx u) (i + 1))), (2, .ref (gB G)), (3, .int (nI (xk u))), (4, .int (nI (i + 1)))]) [3, 1, 4, 5, 0] rfl ?_
        exact ih (i + 1) (by omega)
  refine z_iconst (v := 0) C dX1_faults_0 (by decide) ?_
  refine z_istore_n (L' := [(1, .int 0), (0, .ref (gO G))]) C dX1_faults_1 rfl (by decide) rfl ?_
  refine z_aload_n C 1 dX1_faults_2 rfl rfl ?_
  refine z_sget (v := .ref (gB G)) C ins 4 (by decide) rfl wd0 dX1_faults_3 ?_
  refine z_astore_n (L' := [(2, .ref (gB G)), (1, .int 0), (0, .ref (gO G))]) C dX1_faults_6 rfl (by decide) rfl ?_
  refine z_aload_n C 0 dX1_faults_7 rfl rfl ?_
  refine z_alenB C 1 rfl dX1_faults_8 ?_
  refine z_istore_n (L' := [(3, .int (nI (xk u))), (2, .ref (gB G)), (1, .int 0), (0, .ref (gO G))]) C dX1_faults_9 rfl (by decide) rfl ?_
  refine z_iconst (v := 0) C dX1_faults_10 (by decide) ?_
  refine z_istore (L' := [(4, .int 0), (3, .int (nI (xk u))), (2, .ref (gB G)), (1, .int 0), (0, .ref (gO G))]) C dX1_faults_11 (by decide) rfl ?_
  refine z_sub (L' := [(0, .ref (gO G)), (1, .int 0), (2, .ref (gB G)), (3, .int (nI (xk u))), (4, .int 0)]) [4, 3, 2, 1, 0] rfl ?_
  exact lp13 (xk u) 0 (by omega)
set_option maxHeartbeats 8000000 in
set_option maxRecDepth 100000 in
theorem c_X1_adds (l : Launch) (D : va_G) (cI cP : ClassId) (G : AG) (u : S0) (x : Int32) (hk30 : xk u ≤ 30) : zMX l yX1_adds wsX1_adds 0 0 0 0 [.ref (gO G), .int x] [(cI, .int), (cP, .array .int)] D (wS G cI cP u) zAA (fun _ : Unit => True) (fun _ => some (.int (xdebt u x))) (fun _ => wS G cI cP u) := by
  refine z_metX (cc := cX1_adds) (maxL := 7) (ret := (some .int)) (by decide) rfl (Nat.le_of_ble_eq_true rfl) ?_
  intro p e s m args below meth c A hAw hAA C hr hlocks
  have ins : ∀ w ∈ u_ws RX1 TX1 5, w ∈ wsX1_adds := by decide +kernel
  have wd0 : Cond.fieldLink RX1 19 "SaltOrderLaw$Sim" "ledger" "[[I" ∈ wsX1_adds := by decide +kernel
  refine z_sub (L' := [(0, .ref (gO G)), (1, .int x)]) [0, 1] rfl ?_
  refine z_ws (ws' := (([] : va_W) ++ wS G cI cP u)) rfl ?_
  have lp14 : ∀ (dd i : Nat), i + dd = xk u → zG p l e ({ frames := 0, cells := 0, slots := 0, locals := 0 } : Room) s m args below meth c D 7 A 0 0 (MQ below (zQX (fun _ : Unit => True) (fun _ => some (.int (xdebt u x))) (fun _ => wS G cI cP u) D A) args s 0 0 A) 14 [(0, .ref (gO G)), (1, .int x), (2, .int (xdebtN (xw u) (xx u) x i)), (3, .ref (gB G)), (4, .int (nI (xk u))), (5, .int (nI i))] [] (([] : va_W) ++ (wS G cI cP u)) := by
    intro dd
    induction dd with
    | zero =>
      intro i hi
      have hi : i = xk u := by omega
      subst hi
      refine z_iload C 5 dX1_adds_14 rfl ?_
      refine z_iload C 4 dX1_adds_16 rfl ?_
      refine z_icmp_ge (tgt := 53) C dX1_adds_18 (by decide) (fun _ => ?_) (fun h9 => absurd (nI_le (by omega) (by omega)) h9)
      refine z_iload_n C 2 dX1_adds_53 rfl rfl ?_
      exact z_iretX C () (by exact trivial) hr hlocks (Nat.le_of_ble_eq_true rfl) (Nat.le_of_ble_eq_true rfl) dX1_adds_54 (by rfl) (by rfl)
    | succ dd ih =>
      intro i hi
      refine z_iload C 5 dX1_adds_14 rfl ?_
      refine z_iload C 4 dX1_adds_16 rfl ?_
      refine z_icmp_ge (tgt := 53) C dX1_adds_18 (by decide) (fun h9 => absurd h9 (nI_ge (by omega) (by omega))) (fun _ => ?_)
      refine z_aload_n C 3 dX1_adds_21 rfl rfl ?_
      refine z_iload C 5 dX1_adds_22 rfl ?_
      refine z_lrow C 1 rfl i rfl (show i < xk u from by omega) hk30 dX1_adds_24 ?_
      refine z_astore (L' := [(6, .ref (gL G i)), (0, .ref (gO G)), (1, .int x), (2, .int (xdebtN (xw u) (xx u) x i)), (3, .ref (gB G)), (4, .int (nI (xk u))), (5, .int (nI i))]) C dX1_adds_25 (by decide) rfl ?_
      refine z_aload C 0 dX1_adds_27 rfl ?_
      refine z_iconst (v := 0) C dX1_adds_29 (by decide) ?_
      refine z_lget (x := (xw u) i) C 0 rfl 0 rfl (by decide) (show i < xk u from by omega) rfl dX1_adds_30 ?_
      refine z_iload_n C 2 dX1_adds_31 rfl rfl ?_
      refine z_icmp_ne (tgt := 47) C dX1_adds_32 (by decide) (fun c32 => ?_) (fun c32 => ?_)
      · skip
        refine z_iinc (v := nI (i + 1)) (L' := [(5, .int (nI (i + 1))), (6, .ref (gL G i)), (0, .ref (gO G)), (1, .int x), (2, .int (xdebtN (xw u) (xx u) x i)), (3, .ref (gB G)), (4, .int (nI (xk u)))]) C 6 dX1_adds_47 rfl (z_inc _) (by decide) rfl ?_
        refine z_goto (tgt := 14) C dX1_adds_50 (by decide) ?_
        refine z_sub (L' := [(0, .ref (gO G)), (1, .int x), (2, .int (xdebtN (xw u) (xx u) x i)), (3, .ref (gB G)), (4, .int (nI (xk u))), (5, .int (nI (i + 1)))]) [2, 3, 4, 5, 6, 0] rfl ?_
        exact (by have e9 := ih (i + 1) (by omega); rw [show xdebtN (xw u) (xx u) x (i + 1) = xdebtN (xw u) (xx u) x i from if_neg c32] at e9; exact e9)
      · skip
        have c32 : ¬ ¬ xw u i = x := fun q => q c32
        refine z_iload_n C 3 dX1_adds_35 rfl rfl ?_
        refine z_aload C 0 dX1_adds_36 rfl ?_
        refine z_iconst (v := 3) C dX1_adds_38 (by decide) ?_
        refine z_lget (x := (xx u) i) C 0 rfl 3 rfl (by decide) (show i < xk u from by omega) rfl dX1_adds_39 ?_
        refine z_aload C 0 dX1_adds_40 rfl ?_
        refine z_iconst (v := 3) C dX1_adds_42 (by decide) ?_
        refine z_lget (x := (xx u) i) C 0 rfl 3 rfl (by decide) (show i < xk u from by omega) rfl dX1_adds_43 ?_
        refine z_iadd C dX1_adds_44 ?_
        refine z_iadd C dX1_adds_45 ?_
        refine z_top (y := xdebtN (xw u) (xx u) x (i + 1)) (show xdebtN (xw u) (xx u) x i + (xx u i + xx u i) = (if xw u i = x then xdebtN (xw u) (xx u) x i + 2 * xx u i else xdebtN (xw u) (xx u) x i) from by rw [if_pos (Decidable.not_not.mp c32), i_2]) ?_
        refine z_istore_n (L' := [(2, .int (xdebtN (xw u) (xx u) x (i + 1))), (6, .ref (gL G i)), (0, .ref (gO G)), (1, .int x), (3, .ref (gB G)), (4, .int (nI (xk u))), (5, .int (nI i))]) C dX1_adds_46 rfl (by decide) rfl ?_
        refine z_iinc (v := nI (i + 1)) (L' := [(5, .int (nI (i + 1))), (2, .int (xdebtN (xw u) (xx u) x (i + 1))), (6, .ref (gL G i)), (0, .ref (gO G)), (1, .int x), (3, .ref (gB G)), (4, .int (nI (xk u)))]) C 6 dX1_adds_47 rfl (z_inc _) (by decide) rfl ?_
        refine z_goto (tgt := 14) C dX1_adds_50 (by decide) ?_
        refine z_sub (L' := [(0, .ref (gO G)), (1, .int x), (2, .int (xdebtN (xw u) (xx u) x (i + 1))), (3, .ref (gB G)), (4, .int (nI (xk u))), (5, .int (nI (i + 1)))]) [3, 4, 1, 5, 6, 0] rfl ?_
        exact ih (i + 1) (by omega)
  refine z_iconst (v := 0) C dX1_adds_0 (by decide) ?_
  refine z_istore_n (L' := [(2, .int 0), (0, .ref (gO G)), (1, .int x)]) C dX1_adds_1 rfl (by decide) rfl ?_
  refine z_aload_n C 1 dX1_adds_2 rfl rfl ?_
  refine z_sget (v := .ref (gB G)) C ins 4 (by decide) rfl wd0 dX1_adds_3 ?_
  refine z_astore_n (L' := [(3, .ref (gB G)), (2, .int 0), (0, .ref (gO G)), (1, .int x)]) C dX1_adds_6 rfl (by decide) rfl ?_
  refine z_aload_n C 0 dX1_adds_7 rfl rfl ?_
  refine z_alenB C 1 rfl dX1_adds_8 ?_
  refine z_istore (L' := [(4, .int (nI (xk u))), (3, .ref (gB G)), (2, .int 0), (0, .ref (gO G)), (1, .int x)]) C dX1_adds_9 (by decide) rfl ?_
  refine z_iconst (v := 0) C dX1_adds_11 (by decide) ?_
  refine z_istore (L' := [(5, .int 0), (4, .int (nI (xk u))), (3, .ref (gB G)), (2, .int 0), (0, .ref (gO G)), (1, .int x)]) C dX1_adds_12 (by decide) rfl ?_
  refine z_sub (L' := [(0, .ref (gO G)), (1, .int x), (2, .int 0), (3, .ref (gB G)), (4, .int (nI (xk u))), (5, .int 0)]) [4, 5, 3, 2, 1, 0] rfl ?_
  exact lp14 (xk u) 0 (by omega)
set_option maxHeartbeats 8000000 in
set_option maxRecDepth 100000 in
theorem c_X1_audit (l : Launch) (D : va_G) (cI cP : ClassId) (G : AG) (B : Nat) (u : S0) (hI : Inv B u) : zMX l yX1_audit wsX1_audit 0 0 1 0 [.ref (gO G)] [(cI, .int), (cP, .array .int)] D (wS G cI cP u) zAA (fun G2 : AG => gO G2 = gO G) (fun _ => some (.int (xflt u))) (fun G2 => wS G2 cI cP (xaud u)) := by
  refine z_metX (cc := cX1_audit) (maxL := 7) (ret := (some .int)) (by decide) rfl (Nat.le_of_ble_eq_true rfl) ?_
  intro p e s m args below meth c A hAw hAA C hr hlocks
  have hn8 := hI.n8
  have hk30 := hI.k30
  have ins : ∀ w ∈ u_ws RX1 TX1 5, w ∈ wsX1_audit := by decide +kernel
  have wd0 : Cond.classLink RX1 13 "[I" ∈ wsX1_audit := by decide +kernel
  have wd1 : Cond.fieldLink RX1 19 "SaltOrderLaw$Sim" "ledger" "[[I" ∈ wsX1_audit := by decide +kernel
  have wd2 : Cond.fieldLink RX1 26 "SaltOrderLaw$Sim" "found" "I" ∈ wsX1_audit := by decide +kernel
  have wd3 : Cond.fieldLink RX1 15 "SaltOrderLaw$Sim" "members" "[[I" ∈ wsX1_audit := by decide +kernel
  refine z_sub (L' := [(0, .ref (gO G))]) [0] rfl ?_
  refine z_ws (ws' := (([] : va_W) ++ wS G cI cP u)) rfl ?_
  have lp13 : ∀ (dd i : Nat), i + dd = xk u → zG p l e ({ frames := 0, cells := 1, slots := 0, locals := 0 } : Room) s m args below meth c D 7 A 0 0 (MQ below (zQX (fun G2 : AG => gO G2 = gO G) (fun _ => some (.int (xflt u))) (fun G2 => wS G2 cI cP (xaud u)) D A) args s 1 0 A) 13 [(0, .ref (gO G)), (1, .int (xfltN (xx u) i)), (2, .ref (gB G)), (3, .int (nI (xk u))), (4, .int (nI i))] [] (([] : va_W) ++ (wS G cI cP (xl u, (sA u i), xe u, xn u, xw u, xf u, xg u, xx u, xk u, xc u, xd u, xo u, xy u, xb u))) := by
    intro dd
    induction dd with
    | zero =>
      intro i hi
      have hi : i = xk u := by omega
      subst hi
      refine z_iload C 4 dX1_audit_13 rfl ?_
      refine z_iload_n C 3 dX1_audit_15 rfl rfl ?_
      refine z_icmp_ge (tgt := 83) C dX1_audit_16 (by decide) (fun _ => ?_) (fun h9 => absurd (nI_le (by omega) (by omega)) h9)
      refine z_aload_n C 0 dX1_audit_83 rfl rfl ?_
      refine z_iconst (v := 0) C dX1_audit_84 (by decide) ?_
      refine z_anew (N := 0) C hAA 1 rfl wd0 (by decide) (by decide) (by decide) (by show _ ≤ 1; omega) (Nat.le_of_ble_eq_true rfl) dX1_audit_85 (fun q => ?_)
      refine z_dropM (a := wSo G (xl u, (sA u (xk u)), xe u, xn u, xw u, xf u, xg u, xx u, xk u, xc u, xd u, xo u, xy u, xb u) ++ wT (gA G) cP cI (xn u) 3 (gM G) (mrow (xl u, (sA u (xk u)), xe u, xn u, xw u, xf u, xg u, xx u, xk u, xc u, xd u, xo u, xy u, xb u))) (b := wT (gB G) cP cI (xk u) 4 (gL G) (lrow (xl u, (sA u (xk u)), xe u, xn u, xw u, xf u, xg u, xx u, xk u, xc u, xd u, xo u, xy u, xb u))) (d := [(q, .inl (cP, 0, .inr (.inr (.inr (.inr (fun _ => none))))))]) ?_
      refine z_ws (ws' := ((([] : va_W) ++ wSo G (xl u, (sA u (xk u)), xe u, xn u, xw u, xf u, xg u, xx u, xk u, xc u, xd u, xo u, xy u, xb u)) ++ (wT (gA G) cP cI (xn u) 3 (gM G) (mrow (xl u, (sA u (xk u)), xe u, xn u, xw u, xf u, xg u, xx u, xk u, xc u, xd u, xo u, xy u, xb u)) ++ [(q, .inl (cP, 0, .inr (.inr (.inr (.inr (fun _ => none))))))]))) (List.append_assoc _ _ _) ?_
      refine z_sputB (pre := []) (G := G) (u := (xl u, (sA u (xk u)), xe u, xn u, xw u, xf u, xg u, xx u, xk u, xc u, xd u, xo u, xy u, xb u)) (b := q) C ins wd1 dX1_audit_88 ?_
      refine z_ws (wS_clear G (xl u, (sA u (xk u)), xe u, xn u, xw u, xf u, xg u, xx u, xk u, xc u, xd u, xo u, xy u, xb u) q) ?_
      refine z_loc (L' := [(0, .ref (gO (gO G, gA G, q, gM G, gL G))), (1, .int (xfltN (xx u) (xk u))), (2, .ref (gB G)), (3, .int (nI (xk u))), (4, .int (nI (xk u)))]) rfl ?_
      refine z_aload_n C 0 dX1_audit_91 rfl rfl ?_
      refine z_dup C dX1_audit_92 rfl ?_
      refine z_sget (v := .int (xo u)) C ins 2 (by decide) rfl wd2 dX1_audit_93 ?_
      refine z_iload_n C 1 dX1_audit_96 rfl rfl ?_
      refine z_iadd C dX1_audit_97 ?_
      refine z_sputO C ins wd2 dX1_audit_98 ?_
      refine z_iload_n C 1 dX1_audit_101 rfl rfl ?_
      exact z_iretX C ((gO G, gA G, q, gM G, gL G) : AG) (by rfl) hr hlocks (by show _ ≤ 1; omega) (Nat.le_of_ble_eq_true rfl) dX1_audit_102 (by rfl) (by exact sA_pic hI)
    | succ dd ih =>
      intro i hi
      obtain ⟨j, g, x, h1, h2, h3, h4, h5, h6, h7, -⟩ := hI.led i (by omega)
      have hcl : (xw u i).toNatClampNeg = j := by rw [h1, nI_clamp (by omega)]
      refine z_iload C 4 dX1_audit_13 rfl ?_
      refine z_iload_n C 3 dX1_audit_15 rfl rfl ?_
      refine z_icmp_ge (tgt := 83) C dX1_audit_16 (by decide) (fun h9 => absurd h9 (nI_ge (by omega) (by omega))) (fun _ => ?_)
      refine z_aload_n C 2 dX1_audit_19 rfl rfl ?_
      refine z_iload C 4 dX1_audit_20 rfl ?_
      refine z_lrow C 1 rfl i rfl (show i < xk u from by omega) hk30 dX1_audit_22 ?_
      refine z_astore (L' := [(5, .ref (gL G i)), (0, .ref (gO G)), (1, .int (xfltN (xx u) i)), (2, .ref (gB G)), (3, .int (nI (xk u))), (4, .int (nI i))]) C dX1_audit_23 (by decide) rfl ?_
      refine z_aload C 0 dX1_audit_25 rfl ?_
      refine z_iconst (v := 3) C dX1_audit_27 (by decide) ?_
      refine z_lget (x := (xx u) i) C 0 rfl 3 rfl (by decide) (show i < xk u from by omega) rfl dX1_audit_28 ?_
      refine z_if_ne (tgt := 35) C dX1_audit_29 (by decide) (fun c29 => ?_) (fun c29 => ?_)
      · skip
        refine z_iinc (v := (xfltN (xx u) i) + 1) (L' := [(1, .int ((xfltN (xx u) i) + 1)), (5, .ref (gL G i)), (0, .ref (gO G)), (2, .ref (gB G)), (3, .int (nI (xk u))), (4, .int (nI i))]) C 2 dX1_audit_35 rfl rfl (by decide) rfl ?_
        refine z_aload_n C 2 dX1_audit_38 rfl rfl ?_
        refine z_sget (v := .ref (gA G)) C ins 3 (by decide) rfl wd3 dX1_audit_39 ?_
        refine z_aload C 1 dX1_audit_42 rfl ?_
        refine z_iconst (v := 0) C dX1_audit_44 (by decide) ?_
        refine z_lget (x := (xw u) i) C 0 rfl 0 rfl (by decide) (show i < xk u from by omega) rfl dX1_audit_45 ?_
        refine z_mrow C 1 rfl j h1 (show j < xn u from by omega) hn8 dX1_audit_46 ?_
        refine z_astore (L' := [(6, .ref (gM G j)), (1, .int ((xfltN (xx u) i) + 1)), (5, .ref (gL G i)), (0, .ref (gO G)), (2, .ref (gB G)), (3, .int (nI (xk u))), (4, .int (nI i))]) C dX1_audit_47 (by decide) rfl ?_
        refine z_aload C 0 dX1_audit_49 rfl ?_
        refine z_iconst (v := 1) C dX1_audit_51 (by decide) ?_
        refine z_dup2 C dX1_audit_52 rfl rfl ?_
        refine z_mget (x := (sA u i) j) C 0 rfl 1 rfl (by decide) (show j < xn u from by omega) rfl dX1_audit_53 ?_
        refine z_iconst (v := 2) C dX1_audit_54 (by decide) ?_
        refine z_aload C 2 dX1_audit_55 rfl ?_
        refine z_iconst (v := 3) C dX1_audit_57 (by decide) ?_
        refine z_lget (x := (xx u) i) C 0 rfl 3 rfl (by decide) (show i < xk u from by omega) rfl dX1_audit_58 ?_
        refine z_imul C dX1_audit_59 ?_
        refine z_iadd C dX1_audit_60 ?_
        refine z_mset1 C 0 rfl rfl (show j < xn u from by omega) dX1_audit_61 ?_
        refine z_aload C 0 dX1_audit_62 rfl ?_
        refine z_iconst (v := 1) C dX1_audit_64 (by decide) ?_
        refine z_mget (x := (upd (sA u i) j (((sA u i) j) + (2 * ((xx u) i)))) j) C 0 rfl 1 rfl (by decide) (show j < xn u from by omega) rfl dX1_audit_65 ?_
        refine z_top (y := sA u i j + 2 * xx u i) pk_us ?_
        refine z_bipush (v := 99) C dX1_audit_66 (by decide) ?_
        refine z_icmp_le (tgt := 77) C dX1_audit_68 (by decide) (fun c68 => ?_) (fun c68 => ?_)
        · skip
          refine z_iinc (v := nI (i + 1)) (L' := [(4, .int (nI (i + 1))), (6, .ref (gM G j)), (1, .int ((xfltN (xx u) i) + 1)), (5, .ref (gL G i)), (0, .ref (gO G)), (2, .ref (gB G)), (3, .int (nI (xk u)))]) C 6 dX1_audit_77 rfl (z_inc _) (by decide) rfl ?_
          refine z_goto (tgt := 13) C dX1_audit_80 (by decide) ?_
          refine z_sub (L' := [(0, .ref (gO G)), (1, .int ((xfltN (xx u) i) + 1)), (2, .ref (gB G)), (3, .int (nI (xk u))), (4, .int (nI (i + 1)))]) [4, 2, 5, 6, 0] rfl ?_
          exact (by have e9 := ih (i + 1) (by omega); rw [sA_1 c29 hcl c68, show xfltN (xx u) (i + 1) = xfltN (xx u) i + 1 from if_neg (fun q => c29 ((xx_0 (hI.led i (by omega))).mpr q))] at e9; exact e9)
        · skip
          refine z_aload C 0 dX1_audit_71 rfl ?_
          refine z_iconst (v := 1) C dX1_audit_73 (by decide) ?_
          refine z_bipush (v := 99) C dX1_audit_74 (by decide) ?_
          refine z_mset1 C 0 rfl rfl (show j < xn u from by omega) dX1_audit_76 ?_
          refine z_iinc (v := nI (i + 1)) (L' := [(4, .int (nI (i + 1))), (6, .ref (gM G j)), (1, .int ((xfltN (xx u) i) + 1)), (5, .ref (gL G i)), (0, .ref (gO G)), (2, .ref (gB G)), (3, .int (nI (xk u)))]) C 6 dX1_audit_77 rfl (z_inc _) (by decide) rfl ?_
          refine z_goto (tgt := 13) C dX1_audit_80 (by decide) ?_
          refine z_sub (L' := [(0, .ref (gO G)), (1, .int ((xfltN (xx u) i) + 1)), (2, .ref (gB G)), (3, .int (nI (xk u))), (4, .int (nI (i + 1)))]) [4, 2, 5, 6, 0] rfl ?_
          exact (by have e9 := ih (i + 1) (by omega); rw [sA_2 c29 hcl c68, show xfltN (xx u) (i + 1) = xfltN (xx u) i + 1 from if_neg (fun q => c29 ((xx_0 (hI.led i (by omega))).mpr q))] at e9; exact e9)
      · skip
        refine z_goto (tgt := 77) C dX1_audit_32 (by decide) ?_
        refine z_iinc (v := nI (i + 1)) (L' := [(4, .int (nI (i + 1))), (5, .ref (gL G i)), (0, .ref (gO G)), (1, .int (xfltN (xx u) i)), (2, .ref (gB G)), (3, .int (nI (xk u)))]) C 5 dX1_audit_77 rfl (z_inc _) (by decide) rfl ?_
        refine z_goto (tgt := 13) C dX1_audit_80 (by decide) ?_
        refine z_sub (L' := [(0, .ref (gO G)), (1, .int (xfltN (xx u) i)), (2, .ref (gB G)), (3, .int (nI (xk u))), (4, .int (nI (i + 1)))]) [2, 3, 4, 5, 0] rfl ?_
        exact (by have e9 := ih (i + 1) (by omega); rw [sA_0 c29, show xfltN (xx u) (i + 1) = xfltN (xx u) i from if_pos ((xx_0 (hI.led i (by omega))).mp c29)] at e9; exact e9)
  refine z_iconst (v := 0) C dX1_audit_0 (by decide) ?_
  refine z_istore_n (L' := [(1, .int 0), (0, .ref (gO G))]) C dX1_audit_1 rfl (by decide) rfl ?_
  refine z_aload_n C 1 dX1_audit_2 rfl rfl ?_
  refine z_sget (v := .ref (gB G)) C ins 4 (by decide) rfl wd1 dX1_audit_3 ?_
  refine z_astore_n (L' := [(2, .ref (gB G)), (1, .int 0), (0, .ref (gO G))]) C dX1_audit_6 rfl (by decide) rfl ?_
  refine z_aload_n C 0 dX1_audit_7 rfl rfl ?_
  refine z_alenB C 1 rfl dX1_audit_8 ?_
  refine z_istore_n (L' := [(3, .int (nI (xk u))), (2, .ref (gB G)), (1, .int 0), (0, .ref (gO G))]) C dX1_audit_9 rfl (by decide) rfl ?_
  refine z_iconst (v := 0) C dX1_audit_10 (by decide) ?_
  refine z_istore (L' := [(4, .int 0), (3, .int (nI (xk u))), (2, .ref (gB G)), (1, .int 0), (0, .ref (gO G))]) C dX1_audit_11 (by decide) rfl ?_
  refine z_sub (L' := [(0, .ref (gO G)), (1, .int 0), (2, .ref (gB G)), (3, .int (nI (xk u))), (4, .int 0)]) [4, 3, 2, 1, 0] rfl ?_
  exact lp13 (xk u) 0 (by omega)
set_option maxHeartbeats 8000000 in
set_option maxRecDepth 100000 in
theorem c_X1_pass (l : Launch) (D : va_G) (cI cP : ClassId) (G : AG) (B : Nat) (u : S0) (hI : Inv B u) (hB : B < 2 ^ 20) : zMX l yX1_pass wsX1_pass 1 26 1 0 [.ref (gO G)] [(cI, .int), (cP, .array .int)] D (wS G cI cP u) zAA (fun G2 : AG => gO G2 = gO G) (fun _ => some (.int (xdayF u))) (fun G2 => wS G2 cI cP (xday u)) := by
  refine z_metX (cc := cX1_pass) (maxL := 7) (ret := (some .int)) (by decide) rfl (Nat.le_of_ble_eq_true rfl) ?_
  intro p e s m args below meth c A hAw hAA C hr hlocks
  have hn8 := hI.n8
  have hk30 := hI.k30
  have ins : ∀ w ∈ u_ws RX1 TX1 5, w ∈ wsX1_pass := by decide +kernel
  have wd0 : Cond.fieldLink RX1 29 "SaltOrderLaw$Sim" "day" "I" ∈ wsX1_pass := by decide +kernel
  have wd1 : Cond.fieldLink RX1 15 "SaltOrderLaw$Sim" "members" "[[I" ∈ wsX1_pass := by decide +kernel
  refine z_sub (L' := [(0, .ref (gO G))]) [0] rfl ?_
  refine z_ws (ws' := (([] : va_W) ++ wS G cI cP u)) rfl ?_
  have lp30 : ∀ (dd i : Nat) (G1 : AG), i + dd = xn u → gO G1 = gO G → zG p l e ({ frames := 1, cells := 1, slots := 0, locals := 26 } : Room) s m args below meth c D 7 A 1 0 (MQ below (zQX (fun G2 : AG => gO G2 = gO G) (fun _ => some (.int (xdayF u))) (fun G2 => wS G2 cI cP (xday u)) D A) args s 1 0 A) 30 [(0, .ref (gO G1)), (1, .int (xdayF u)), (2, .ref (gA G1)), (3, .int (nI (xn u))), (4, .int (nI i))] [] (([] : va_W) ++ (wS G1 cI cP (xeatN (xday1 u) i))) := by
    intro dd
    induction dd with
    | zero =>
      intro i G1 hi hG1
      have hi : i = xn u := by omega
      subst hi
      refine z_iload C 4 dX1_pass_30 rfl ?_
      refine z_iload_n C 3 dX1_pass_32 rfl rfl ?_
      refine z_icmp_ge (tgt := 147) C dX1_pass_33 (by decide) (fun _ => ?_) (fun h9 => absurd (nI_le (by omega) (by omega)) h9)
      refine z_aload_n C 0 dX1_pass_147 rfl rfl ?_
      refine z_dup C dX1_pass_148 rfl ?_
      refine z_sget (v := .int (xd (xeatN (xday1 u) (xn u)))) C ins 0 (by decide) rfl wd0 dX1_pass_149 ?_
      refine z_iconst (v := 1) C dX1_pass_152 (by decide) ?_
      refine z_iadd C dX1_pass_153 ?_
      refine z_sputD C ins wd0 dX1_pass_154 ?_
      refine z_iload_n C 1 dX1_pass_157 rfl rfl ?_
      exact z_iretX C G1 (by exact hG1) hr hlocks (by show _ ≤ 1; omega) (Nat.le_of_ble_eq_true rfl) dX1_pass_158 (by rfl) (by rfl)
    | succ dd ih =>
      intro i G1 hi hG1
      have hnw : xn (xeatN (xday1 u) i) = xn u := (xeatN_n _ i).trans (xday1_n u)
      have hn8 : xn (xeatN (xday1 u) i) ≤ 8 := by rw [hnw]; exact hI.n8
      have hb : bT (tr0 (xeatN (xday1 u) i) i) := by rw [xeatN_row, if_neg (Nat.lt_irrefl i)]; exact hI.day1.row (by rw [xday1_n]; omega)
      have hx9 : xeatN (xday1 u) (i + 1) = xeat (xeatN (xday1 u) i) i := rfl
      generalize xeatN (xday1 u) i = w at hnw hn8 hb hx9 ⊢
      obtain ⟨l0, a, e0, h1, h2, h3, h4, h5, h6⟩ := hb
      have h1 : xl w i = nI l0 := h1
      have h3 : xa w i = nI a := h3
      refine z_iload C 4 dX1_pass_30 rfl ?_
      refine z_iload_n C 3 dX1_pass_32 rfl rfl ?_
      refine z_icmp_ge (tgt := 147) C dX1_pass_33 (by decide) (fun h9 => absurd h9 (nI_ge (by omega) (by omega))) (fun _ => ?_)
      refine z_aload_n C 2 dX1_pass_36 rfl rfl ?_
      refine z_iload C 4 dX1_pass_37 rfl ?_
      refine z_mrow C 1 rfl i rfl (show i < xn w from by omega) hn8 dX1_pass_39 ?_
      refine z_astore (L' := [(5, .ref (gM G1 i)), (0, .ref (gO G1)), (1, .int (xdayF u)), (2, .ref (gA G1)), (3, .int (nI (xn u))), (4, .int (nI i))]) C dX1_pass_40 (by decide) rfl ?_
      refine z_aload C 0 dX1_pass_42 rfl ?_
      refine z_iconst (v := 2) C dX1_pass_44 (by decide) ?_
      refine z_mget (x := (xe w) i) C 0 rfl 2 rfl (by decide) (show i < xn w from by omega) rfl dX1_pass_45 ?_
      refine z_if_le (tgt := 82) C dX1_pass_46 (by decide) (fun c46 => ?_) (fun c46 => ?_)
      · skip
        refine z_aload C 0 dX1_pass_82 rfl ?_
        refine z_iconst (v := 1) C dX1_pass_84 (by decide) ?_
        refine z_mget (x := (xa w) i) C 0 rfl 1 rfl (by decide) (show i < xn w from by omega) rfl dX1_pass_85 ?_
        refine z_if_le (tgt := 124) C dX1_pass_86 (by decide) (fun c86 => ?_) (fun c86 => ?_)
        · skip
          refine z_aload C 0 dX1_pass_124 rfl ?_
          refine z_iconst (v := 0) C dX1_pass_126 (by decide) ?_
          refine z_mget (x := (xl w) i) C 0 rfl 0 rfl (by decide) (show i < xn w from by omega) rfl dX1_pass_127 ?_
          refine z_bipush (v := 100) C dX1_pass_128 (by decide) ?_
          refine z_icmp_ge (tgt := 141) C dX1_pass_130 (by decide) (fun c130 => ?_) (fun c130 => ?_)
          · skip
            refine z_ws (ws' := (([] : va_W) ++ wS G1 cI cP (xeat w i))) (congrArg (fun z => ([] : va_W) ++ wS G1 cI cP z) (by unfold xeat; rw [if_pos c46, if_pos c86, s_win2 h1 h2 c130, upd_same] <;> rfl)) ?_
            refine z_sub (L' := [(0, .ref (gO G1)), (1, .int (xdayF u)), (2, .ref (gA G1)), (3, .int (nI (xn u))), (4, .int (nI i))]) [1, 2, 3, 4, 5] rfl ?_
            refine z_iinc (v := nI (i + 1)) (L' := [(4, .int (nI (i + 1))), (0, .ref (gO G1)), (1, .int (xdayF u)), (2, .ref (gA G1)), (3, .int (nI (xn u)))]) C 4 dX1_pass_141 rfl (z_inc _) (by decide) rfl ?_
            refine z_goto (tgt := 30) C dX1_pass_144 (by decide) ?_
            refine z_sub (L' := [(0, .ref (gO G1)), (1, .int (xdayF u)), (2, .ref (gA G1)), (3, .int (nI (xn u))), (4, .int (nI (i + 1)))]) [1, 2, 3, 4, 0] rfl ?_
            exact (by have e9 := ih (i + 1) G1 (by omega) hG1; rw [hx9] at e9; exact e9)
          · skip
            refine z_aload C 0 dX1_pass_133 rfl ?_
            refine z_iconst (v := 0) C dX1_pass_135 (by decide) ?_
            refine z_dup2 C dX1_pass_136 rfl rfl ?_
            refine z_mget (x := (xl w) i) C 0 rfl 0 rfl (by decide) (show i < xn w from by omega) rfl dX1_pass_137 ?_
            refine z_iconst (v := 1) C dX1_pass_138 (by decide) ?_
            refine z_iadd C dX1_pass_139 ?_
            refine z_mset0 C 0 rfl rfl (show i < xn w from by omega) dX1_pass_140 ?_
            refine z_ws (ws' := (([] : va_W) ++ wS G1 cI cP (xeat w i))) (congrArg (fun z => ([] : va_W) ++ wS G1 cI cP z) (by unfold xeat; rw [if_pos c46, if_pos c86, s_win1 h1 h2 c130] <;> rfl)) ?_
            refine z_sub (L' := [(0, .ref (gO G1)), (1, .int (xdayF u)), (2, .ref (gA G1)), (3, .int (nI (xn u))), (4, .int (nI i))]) [1, 2, 3, 4, 5] rfl ?_
            refine z_iinc (v := nI (i + 1)) (L' := [(4, .int (nI (i + 1))), (0, .ref (gO G1)), (1, .int (xdayF u)), (2, .ref (gA G1)), (3, .int (nI (xn u)))]) C 4 dX1_pass_141 rfl (z_inc _) (by decide) rfl ?_
            refine z_goto (tgt := 30) C dX1_pass_144 (by decide) ?_
            refine z_sub (L' := [(0, .ref (gO G1)), (1, .int (xdayF u)), (2, .ref (gA G1)), (3, .int (nI (xn u))), (4, .int (nI (i + 1)))]) [1, 2, 3, 4, 0] rfl ?_
            exact (by have e9 := ih (i + 1) G1 (by omega) hG1; rw [hx9] at e9; exact e9)
        · skip
          refine z_aload C 0 dX1_pass_89 rfl ?_
          refine z_iconst (v := 1) C dX1_pass_91 (by decide) ?_
          refine z_mget (x := (xa w) i) C 0 rfl 1 rfl (by decide) (show i < xn w from by omega) rfl dX1_pass_92 ?_
          refine z_istore (L' := [(6, .int ((xa w) i)), (5, .ref (gM G1 i)), (0, .ref (gO G1)), (1, .int (xdayF u)), (2, .ref (gA G1)), (3, .int (nI (xn u))), (4, .int (nI i))]) C dX1_pass_93 (by decide) rfl ?_
          have lq : ∀ (d : Nat) (z lk : Int32), lossE d z → (zG p l e ({ frames := 1, cells := 1, slots := 0, locals := 26 } : Room) s m args below meth c D 7 A 1 0 (MQ below (zQX (fun G2 : AG => gO G2 = gO G) (fun _ => some (.int (xdayF u))) (fun G2 => wS G2 cI cP (xday u)) D A) args s 1 0 A) 141 [(5, .ref (gM G1 i)), (0, .ref (gO G1)), (1, .int (xdayF u)), (2, .ref (gA G1)), (3, .int (nI (xn u))), (4, .int (nI i))] [] (([] : va_W) ++ (wS G1 cI cP (ul w (upd (xl w) i (lossF d z lk)))))) → zG p l e ({ frames := 1, cells := 1, slots := 0, locals := 26 } : Room) s m args below meth c D 7 A 1 0 (MQ below (zQX (fun G2 : AG => gO G2 = gO G) (fun _ => some (.int (xdayF u))) (fun G2 => wS G2 cI cP (xday u)) D A) args s 1 0 A) 95 [(6, .int z), (5, .ref (gM G1 i)), (0, .ref (gO G1)), (1, .int (xdayF u)), (2, .ref (gA G1)), (3, .int (nI (xn u))), (4, .int (nI i))] [] (([] : va_W) ++ (wS G1 cI cP (ul w (upd (xl w) i lk)))) := by
            intro d
            induction d with
            | zero =>
              intro z lk hE K
              refine z_iload C 0 dX1_pass_95 rfl ?_
              refine z_if_le (tgt := 121) C dX1_pass_97 (by decide) (fun _ => ?_) (fun q => absurd hE q)
              refine z_goto (tgt := 141) C dX1_pass_121 (by decide) ?_
              refine z_sub (L' := [(5, .ref (gM G1 i)), (0, .ref (gO G1)), (1, .int (xdayF u)), (2, .ref (gA G1)), (3, .int (nI (xn u))), (4, .int (nI i))]) [1, 2, 3, 4, 5, 6] rfl ?_
              exact K
            | succ d ih =>
              intro z lk hE K
              refine z_iload C 0 dX1_pass_95 rfl ?_
              refine z_if_le (tgt := 121) C dX1_pass_97 (by decide) (fun cz => ?_) (fun cz => ?_)
              · refine z_goto (tgt := 141) C dX1_pass_121 (by decide) ?_
                refine z_sub (L' := [(5, .ref (gM G1 i)), (0, .ref (gO G1)), (1, .int (xdayF u)), (2, .ref (gA G1)), (3, .int (nI (xn u))), (4, .int (nI i))]) [1, 2, 3, 4, 5, 6] rfl ?_
                rw [lossF_0 cz] at K
                exact K
              · have hx : mrow (ul w (upd (xl w) i lk)) i 0 = lk := pk_us
                refine z_aload C 1 dX1_pass_100 rfl ?_
                refine z_iconst (v := 0) C dX1_pass_102 (by decide) ?_
                refine z_mget (x := lk) C 0 rfl 0 rfl (by decide) (show i < xn w from by omega) hx dX1_pass_103 ?_
                have s : lossF (d + 1) z lk = lossF d (z + -10) (if lk ≤ 0 then lk else lk - 1) := if_neg cz
                refine z_if_le (tgt := 115) C dX1_pass_104 (by decide) (fun cl => ?_) (fun cl => ?_)
                · rw [s, if_pos cl] at K
                  refine z_iinc (v := z + -10) (L' := [(6, .int (z + -10)), (5, .ref (gM G1 i)), (0, .ref (gO G1)), (1, .int (xdayF u)), (2, .ref (gA G1)), (3, .int (nI (xn u))), (4, .int (nI i))]) C 0 dX1_pass_115 rfl (congrArg (z + ·) (by decide)) (by decide) rfl ?_
                  refine z_goto (tgt := 95) C dX1_pass_118 (by decide) ?_
                  exact ih (z + -10) lk (hE.resolve_left cz) K
                · rw [s, if_neg cl] at K
                  refine z_aload C 1 dX1_pass_107 rfl ?_
                  refine z_iconst (v := 0) C dX1_pass_109 (by decide) ?_
                  refine z_dup2 C dX1_pass_110 rfl rfl ?_
                  refine z_mget (x := lk) C 0 rfl 0 rfl (by decide) (show i < xn w from by omega) hx dX1_pass_111 ?_
                  refine z_iconst (v := 1) C dX1_pass_112 (by decide) ?_
                  refine z_isub C dX1_pass_113 ?_
                  refine z_mset0 C 0 rfl rfl (show i < xn w from by omega) dX1_pass_114 ?_
                  refine z_ws (ws' := (([] : va_W) ++ wS G1 cI cP (ul w (upd (xl w) i (lk - 1))))) (congrArg (fun z => ([] : va_W) ++ wS G1 cI cP z) (by show ul w (upd (upd (xl w) i lk) i (lk - 1)) = _; rw [upd_upd])) ?_
                  refine z_iinc (v := z + -10) (L' := [(6, .int (z + -10)), (5, .ref (gM G1 i)), (0, .ref (gO G1)), (1, .int (xdayF u)), (2, .ref (gA G1)), (3, .int (nI (xn u))), (4, .int (nI i))]) C 0 dX1_pass_115 rfl (congrArg (z + ·) (by decide)) (by decide) rfl ?_
                  refine z_goto (tgt := 95) C dX1_pass_118 (by decide) ?_
                  exact ih (z + -10) (lk - 1) (hE.resolve_left cz) K
          refine z_ws (ws' := (([] : va_W) ++ wS G1 cI cP (ul w (upd (xl w) i (xl w i))))) (congrArg (fun z => ([] : va_W) ++ wS G1 cI cP z) (by rw [upd_same] <;> rfl)) ?_
          refine lq 10 (xa w i) (xl w i) (by rw [h3]; exact lossE_val 10 a (by omega) h4) ?_
          refine z_ws (ws' := (([] : va_W) ++ wS G1 cI cP (xeat w i))) (congrArg (fun z => ([] : va_W) ++ wS G1 cI cP z) (by unfold xeat; rw [if_pos c46, if_neg c86, s_loss h1 h2 h3 h4 c46])) ?_
          refine z_sub (L' := [(0, .ref (gO G1)), (1, .int (xdayF u)), (2, .ref (gA G1)), (3, .int (nI (xn u))), (4, .int (nI i))]) [1, 2, 3, 4, 5] rfl ?_
          refine z_iinc (v := nI (i + 1)) (L' := [(4, .int (nI (i + 1))), (0, .ref (gO G1)), (1, .int (xdayF u)), (2, .ref (gA G1)), (3, .int (nI (xn u)))]) C 4 dX1_pass_141 rfl (z_inc _) (by decide) rfl ?_
          refine z_goto (tgt := 30) C dX1_pass_144 (by decide) ?_
          refine z_sub (L' := [(0, .ref (gO G1)), (1, .int (xdayF u)), (2, .ref (gA G1)), (3, .int (nI (xn u))), (4, .int (nI (i + 1)))]) [1, 2, 3, 4, 0] rfl ?_
          exact (by have e9 := ih (i + 1) G1 (by omega) hG1; rw [hx9] at e9; exact e9)
      · skip
        refine z_aload C 0 dX1_pass_49 rfl ?_
        refine z_iconst (v := 2) C dX1_pass_51 (by decide) ?_
        refine z_dup2 C dX1_pass_52 rfl rfl ?_
        refine z_mget (x := (xe w) i) C 0 rfl 2 rfl (by decide) (show i < xn w from by omega) rfl dX1_pass_53 ?_
        refine z_iconst (v := 1) C dX1_pass_54 (by decide) ?_
        refine z_isub C dX1_pass_55 ?_
        refine z_mset2 C 0 rfl rfl (show i < xn w from by omega) dX1_pass_56 ?_
        refine z_aload C 0 dX1_pass_57 rfl ?_
        refine z_iconst (v := 1) C dX1_pass_59 (by decide) ?_
        refine z_aload C 0 dX1_pass_60 rfl ?_
        refine z_iconst (v := 1) C dX1_pass_62 (by decide) ?_
        refine z_mget (x := (xa w) i) C 0 rfl 1 rfl (by decide) (show i < xn w from by omega) rfl dX1_pass_63 ?_
        refine z_iconst (v := 3) C dX1_pass_64 (by decide) ?_
        refine z_icmp_ge (tgt := 72) C dX1_pass_65 (by decide) (fun c65 => ?_) (fun c65 => ?_)
        · skip
          refine z_aload C 0 dX1_pass_72 rfl ?_
          refine z_iconst (v := 1) C dX1_pass_74 (by decide) ?_
          refine z_mget (x := (xa w) i) C 0 rfl 1 rfl (by decide) (show i < xn w from by omega) rfl dX1_pass_75 ?_
          refine z_iconst (v := 3) C dX1_pass_76 (by decide) ?_
          refine z_isub C dX1_pass_77 ?_
          refine z_mset1 C 0 rfl rfl (show i < xn w from by omega) dX1_pass_78 ?_
          refine z_goto (tgt := 141) C dX1_pass_79 (by decide) ?_
          refine z_ws (ws' := (([] : va_W) ++ wS G1 cI cP (xeat w i))) (congrArg (fun z => ([] : va_W) ++ wS G1 cI cP z) (by unfold xeat; rw [if_neg c46]; show _ = ua (ue w (upd (xe w) i (xe w i - 1))) (upd (xa w) i (imax 0 (xa w i - 3))); rw [s_eat2 h3 h4 c65] <;> rfl)) ?_
          refine z_sub (L' := [(0, .ref (gO G1)), (1, .int (xdayF u)), (2, .ref (gA G1)), (3, .int (nI (xn u))), (4, .int (nI i))]) [1, 2, 3, 4, 5] rfl ?_
          refine z_iinc (v := nI (i + 1)) (L' := [(4, .int (nI (i + 1))), (0, .ref (gO G1)), (1, .int (xdayF u)), (2, .ref (gA G1)), (3, .int (nI (xn u)))]) C 4 dX1_pass_141 rfl (z_inc _) (by decide) rfl ?_
          refine z_goto (tgt := 30) C dX1_pass_144 (by decide) ?_
          refine z_sub (L' := [(0, .ref (gO G1)), (1, .int (xdayF u)), (2, .ref (gA G1)), (3, .int (nI (xn u))), (4, .int (nI (i + 1)))]) [1, 2, 3, 4, 0] rfl ?_
          exact (by have e9 := ih (i + 1) G1 (by omega) hG1; rw [hx9] at e9; exact e9)
        · skip
          refine z_iconst (v := 0) C dX1_pass_68 (by decide) ?_
          refine z_goto (tgt := 78) C dX1_pass_69 (by decide) ?_
          refine z_mset1 C 0 rfl rfl (show i < xn w from by omega) dX1_pass_78 ?_
          refine z_goto (tgt := 141) C dX1_pass_79 (by decide) ?_
          refine z_ws (ws' := (([] : va_W) ++ wS G1 cI cP (xeat w i))) (congrArg (fun z => ([] : va_W) ++ wS G1 cI cP z) (by unfold xeat; rw [if_neg c46]; show _ = ua (ue w (upd (xe w) i (xe w i - 1))) (upd (xa w) i (imax 0 (xa w i - 3))); rw [s_eat1 h3 h4 c65] <;> rfl)) ?_
          refine z_sub (L' := [(0, .ref (gO G1)), (1, .int (xdayF u)), (2, .ref (gA G1)), (3, .int (nI (xn u))), (4, .int (nI i))]) [1, 2, 3, 4, 5] rfl ?_
          refine z_iinc (v := nI (i + 1)) (L' := [(4, .int (nI (i + 1))), (0, .ref (gO G1)), (1, .int (xdayF u)), (2, .ref (gA G1)), (3, .int (nI (xn u)))]) C 4 dX1_pass_141 rfl (z_inc _) (by decide) rfl ?_
          refine z_goto (tgt := 30) C dX1_pass_144 (by decide) ?_
          refine z_sub (L' := [(0, .ref (gO G1)), (1, .int (xdayF u)), (2, .ref (gA G1)), (3, .int (nI (xn u))), (4, .int (nI (i + 1)))]) [1, 2, 3, 4, 0] rfl ?_
          exact (by have e9 := ih (i + 1) G1 (by omega) hG1; rw [hx9] at e9; exact e9)
  have k19 : ∀ (G1 : AG), gO G1 = gO G → zG p l e ({ frames := 1, cells := 1, slots := 0, locals := 26 } : Room) s m args below meth c D 7 A 1 0 (MQ below (zQX (fun G2 : AG => gO G2 = gO G) (fun _ => some (.int (xdayF u))) (fun G2 => wS G2 cI cP (xday u)) D A) args s 1 0 A) 19 [(0, .ref (gO G1)), (1, .int (xdayF u))] [] (([] : va_W) ++ (wS G1 cI cP (xday1 u))) := by
    intro G1 hG1
    have hnd : xn (xday1 u) = xn u := xday1_n u
    refine z_aload_n C 0 dX1_pass_19 rfl rfl ?_
    refine z_sget (v := .ref (gA G1)) C ins 3 (by decide) rfl wd1 dX1_pass_20 ?_
    refine z_astore_n (L' := [(2, .ref (gA G1)), (0, .ref (gO G1)), (1, .int (xdayF u))]) C dX1_pass_23 rfl (by decide) rfl ?_
    refine z_aload_n C 0 dX1_pass_24 rfl rfl ?_
    refine z_alenA C 1 rfl dX1_pass_25 ?_
    refine z_top (y := nI (xn u)) (by rw [hnd]) ?_
    refine z_istore_n (L' := [(3, .int (nI (xn u))), (2, .ref (gA G1)), (0, .ref (gO G1)), (1, .int (xdayF u))]) C dX1_pass_26 rfl (by decide) rfl ?_
    refine z_iconst (v := 0) C dX1_pass_27 (by decide) ?_
    refine z_istore (L' := [(4, .int 0), (3, .int (nI (xn u))), (2, .ref (gA G1)), (0, .ref (gO G1)), (1, .int (xdayF u))]) C dX1_pass_28 (by decide) rfl ?_
    refine z_sub (L' := [(0, .ref (gO G1)), (1, .int (xdayF u)), (2, .ref (gA G1)), (3, .int (nI (xn u))), (4, .int 0)]) [3, 4, 2, 1, 0] rfl ?_
    exact lp30 (xn u) 0 G1 (by omega) hG1
  refine z_iconst (v := 0) C dX1_pass_0 (by decide) ?_
  refine z_istore_n (L' := [(1, .int 0), (0, .ref (gO G))]) C dX1_pass_1 rfl (by decide) rfl ?_
  refine z_aload_n C 1 dX1_pass_2 rfl rfl ?_
  refine z_sget (v := .int (xd u)) C ins 0 (by decide) rfl wd0 dX1_pass_3 ?_
  refine z_iconst (v := 1) C dX1_pass_6 (by decide) ?_
  refine z_iadd C dX1_pass_7 ?_
  refine z_bipush (v := 7) C dX1_pass_8 (by decide) ?_
  refine z_irem C dX1_pass_10 (by decide) ?_
  refine z_if_ne (tgt := 19) C dX1_pass_11 (by decide) (fun c11 => ?_) (fun c11 => ?_)
  · skip
    refine z_sub (L' := [(0, .ref (gO G)), (1, .int 0)]) [1, 0] rfl ?_
    refine z_more (cells' := 1) (slots' := 0) (by omega) (by omega) ?_
    exact z_loc (L' := [(0, .ref (gO G)), (1, .int (xdayF u))]) (by rw [show xdayF u = 0 from if_pos (day7 hI hB c11)]) (z_ws (ws' := (([] : va_W) ++ wS G cI cP (xday1 u))) (by rw [show xday1 u = u from if_pos (day7 hI hB c11)]) (k19 G rfl))
  · skip
    refine z_aload_n C 1 dX1_pass_14 rfl rfl ?_
    refine z_callVX (w := (wS G cI cP u)) (w1 := ([] : va_W)) (w2 := ([] : va_W)) (As := []) (rest := []) C (c_X1_audit l D cI cP G B u hI) (hAA.call _) zAA.blind (cwV 0 C.words gX1_pass_X1_audit rfl rfl rfl (by decide +kernel) ⟨(Nat.le_of_ble_eq_true rfl), (Nat.le_of_ble_eq_true rfl)⟩) (q0 := 0) (ci := 1) rfl rfl rfl [0, 1] rfl rfl (Nat.le_of_ble_eq_true rfl) ⟨(by show _ ≤ 1; omega), (Nat.le_of_ble_eq_true rfl)⟩ (List.append_nil _).symm rfl dX1_pass_15 (fun G1 hG1 => ?_)
    refine z_ws (List.append_nil _) ?_
    refine z_st (st' := [.int (xflt u)]) rfl ?_
    refine z_loc (L' := [(1, .int 0), (0, .ref (gO G1))]) (by rw [hG1]) ?_
    refine z_istore_n (L' := [(1, .int (xflt u)), (0, .ref (gO G1))]) C dX1_pass_18 rfl (by decide) rfl ?_
    refine z_sub (L' := [(0, .ref (gO G1)), (1, .int (xflt u))]) [1, 0] rfl ?_
    refine z_more (cells' := 1) (slots' := 0) (by omega) (by omega) ?_
    exact z_loc (L' := [(0, .ref (gO G1)), (1, .int (xdayF u))]) (by rw [show xdayF u = xflt u from if_neg (day7b hI hB c11)]) (z_ws (ws' := (([] : va_W) ++ wS G1 cI cP (xday1 u))) (by rw [show xday1 u = xaud u from if_neg (day7b hI hB c11)]) (k19 G1 hG1))
set_option maxHeartbeats 8000000 in
set_option maxRecDepth 100000 in
theorem c_X1_behind (l : Launch) (D : va_G) (cI cP : ClassId) (G : AG) (B : Nat) (u : S0) (d : Nat) (hI : Inv B u) (hd : d ≤ 60) (hB : B + 60 < 2 ^ 20) : zMX l yX1_behind wsX1_behind 2 52 60 0 [.ref (gO G), .int (nI d)] [(cI, .int), (cP, .array .int)] D (wS G cI cP u) zAA (fun G2 : AG => gO G2 = gO G) (fun _ => some (.int (xpassF u d))) (fun G2 => wS G2 cI cP (xpass u d)) := by
  refine z_metX (cc := cX1_behind) (maxL := 4) (ret := (some .int)) (by decide) rfl (Nat.le_of_ble_eq_true rfl) ?_
  intro p e s m args below meth c A hAw hAA C hr hlocks
  have ins : ∀ w ∈ u_ws RX1 TX1 5, w ∈ wsX1_behind := by decide +kernel
  refine z_sub (L' := [(0, .ref (gO G)), (1, .int (nI d))]) [0, 1] rfl ?_
  refine z_ws (ws' := (([] : va_W) ++ wS G cI cP u)) rfl ?_
  have lp4 : ∀ (dd i : Nat) (G1 : AG), i + dd = d → gO G1 = gO G → zG p l e ({ frames := 2, cells := 60, slots := 0, locals := 52 } : Room) s m args below meth c D 4 A i 0 (MQ below (zQX (fun G2 : AG => gO G2 = gO G) (fun _ => some (.int (xpassF u d))) (fun G2 => wS G2 cI cP (xpass u d)) D A) args s 60 0 A) 4 [(0, .ref (gO G1)), (1, .int (nI d)), (2, .int (xpassF u i)), (3, .int (nI i))] [] (([] : va_W) ++ (wS G1 cI cP (xpass u i))) := by
    intro dd
    induction dd with
    | zero =>
      intro i G1 hi hG1
      obtain rfl : d = i := by omega
      refine z_iload_n C 3 dX1_behind_4 rfl rfl ?_
      refine z_iload_n C 1 dX1_behind_5 rfl rfl ?_
      refine z_icmp_ge (tgt := 22) C dX1_behind_6 (by decide) (fun _ => ?_) (fun h9 => absurd (nI_le (by omega) (by omega)) h9)
      refine z_iload_n C 2 dX1_behind_22 rfl rfl ?_
      exact z_iretX C G1 (by exact hG1) hr hlocks (by show _ ≤ 60; omega) (Nat.le_of_ble_eq_true rfl) dX1_behind_23 (by rfl) (by rfl)
    | succ dd ih =>
      intro i G1 hi hG1
      refine z_iload_n C 3 dX1_behind_4 rfl rfl ?_
      refine z_iload_n C 1 dX1_behind_5 rfl rfl ?_
      refine z_icmp_ge (tgt := 22) C dX1_behind_6 (by decide) (fun h9 => absurd h9 (nI_ge (by omega) (by omega))) (fun _ => ?_)
      refine z_iload_n C 2 dX1_behind_9 rfl rfl ?_
      refine z_aload_n C 0 dX1_behind_10 rfl rfl ?_
      refine z_callVX (w := (wS G1 cI cP (xpass u i))) (w1 := ([] : va_W)) (w2 := ([] : va_W)) (As := []) (rest := [.int (xpassF u i)]) C (c_X1_pass l D cI cP G1 (B + i) (xpass u i) (hI.pass i) (by omega)) (hAA.call _) zAA.blind (cwV 0 C.words gX1_behind_X1_pass rfl rfl rfl (by decide +kernel) ⟨(Nat.le_of_ble_eq_true rfl), (Nat.le_of_ble_eq_true rfl)⟩) (q0 := 0) (ci := 1) rfl rfl rfl [0, 1] rfl rfl (Nat.le_of_ble_eq_true rfl) ⟨(by show _ ≤ 60; omega), (Nat.le_of_ble_eq_true rfl)⟩ (List.append_nil _).symm rfl dX1_behind_11 (fun G2 hG2 => ?_)
      refine z_ws (List.append_nil _) ?_
      refine z_st (st' := [.int (xdayF (xpass u i)), .int (xpassF u i)]) rfl ?_
      refine z_loc (L' := [(0, .ref (gO G2)), (1, .int (nI d)), (2, .int (xpassF u i)), (3, .int (nI i))]) (by rw [hG2]) ?_
      refine z_iadd C dX1_behind_14 ?_
      refine z_istore_n (L' := [(2, .int ((xpassF u i) + (xdayF (xpass u i)))), (0, .ref (gO G2)), (1, .int (nI d)), (3, .int (nI i))]) C dX1_behind_15 rfl (by decide) rfl ?_
      refine z_iinc (v := nI (i + 1)) (L' := [(3, .int (nI (i + 1))), (2, .int ((xpassF u i) + (xdayF (xpass u i)))), (0, .ref (gO G2)), (1, .int (nI d))]) C 3 dX1_behind_16 rfl (z_inc _) (by decide) rfl ?_
      refine z_goto (tgt := 4) C dX1_behind_19 (by decide) ?_
      refine z_sub (L' := [(0, .ref (gO G2)), (1, .int (nI d)), (2, .int ((xpassF u i) + (xdayF (xpass u i)))), (3, .int (nI (i + 1)))]) [2, 3, 1, 0] rfl ?_
      refine z_more (cells' := i + 1) (slots' := 0) (by omega) (by omega) ?_
      exact ih (i + 1) G2 (by omega) (hG2.trans hG1)
  refine z_iconst (v := 0) C dX1_behind_0 (by decide) ?_
  refine z_istore_n (L' := [(2, .int 0), (0, .ref (gO G)), (1, .int (nI d))]) C dX1_behind_1 rfl (by decide) rfl ?_
  refine z_iconst (v := 0) C dX1_behind_2 (by decide) ?_
  refine z_istore_n (L' := [(3, .int 0), (2, .int 0), (0, .ref (gO G)), (1, .int (nI d))]) C dX1_behind_3 rfl (by decide) rfl ?_
  refine z_sub (L' := [(0, .ref (gO G)), (1, .int (nI d)), (2, .int 0), (3, .int 0)]) [2, 3, 1, 0] rfl ?_
  exact lp4 d 0 G (by omega) rfl
set_option maxHeartbeats 8000000 in
set_option maxRecDepth 100000 in
theorem c_X1_cast (l : Launch) (D : va_G) (cI cP : ClassId) (G : AG) (B : Nat) (u : S0) (j g : Nat) (b : Int32) (hI : Inv B u) (hj : j < xn u) (hb : b = 0 ∨ b = 1) (h9 : g ≤ 9) (hc : g ≤ xc u) (hk : xk u < 30) : zMX l yX1_cast wsX1_cast 1 23 2 45 [.ref (gO G), .int (nI j), .int b, .int (nI g)] [(cI, .int), (cP, .array .int)] D (wS G cI cP u) zAA (fun G2 : AG => gO G2 = gO G) (fun _ => some (.int (xthrowR u j b g))) (fun G2 => wS G2 cI cP (xthrow u j b g)) := by
  refine z_metX (cc := cX1_cast) (maxL := 6) (ret := (some .int)) (by decide) rfl (Nat.le_of_ble_eq_true rfl) ?_
  intro p e s m args below meth c A hAw hAA C hr hlocks
  have hn8 := hI.n8
  have hk30 := hI.k30
  obtain ⟨l0, a, e0, h1, h2, h3, h4, h5, h6⟩ := hI.row hj
  have ins : ∀ w ∈ u_ws RX1 TX1 5, w ∈ wsX1_cast := by decide +kernel
  have wd0 : Cond.fieldLink RX1 7 "SaltOrderLaw$Sim" "salt" "I" ∈ wsX1_cast := by decide +kernel
  have wd1 : Cond.fieldLink RX1 19 "SaltOrderLaw$Sim" "ledger" "[[I" ∈ wsX1_cast := by decide +kernel
  have wd2 : Cond.arrayClass .int ∈ wsX1_cast := by decide +kernel
  have wd3 : Cond.fieldLink RX1 15 "SaltOrderLaw$Sim" "members" "[[I" ∈ wsX1_cast := by decide +kernel
  refine z_sub (L' := [(0, .ref (gO G)), (1, .int (nI j)), (2, .int b), (3, .int (nI g))]) [0, 1, 2, 3] rfl ?_
  refine z_ws (ws' := (([] : va_W) ++ wS G cI cP u)) rfl ?_
  have k57 : ∀ (E : Int32) (u1 : S0), xn u1 = xn u → xk u1 = xk u → xc u1 = xc u → xwrite (uc u1 (xc u1 - g)) (nI j) (1 - b) (nI g) E = xthrow u j b g → E = xthrowR u j b g → zG p l e ({ frames := 1, cells := 2, slots := 45, locals := 23 } : Room) s m args below meth c D 6 A 0 0 (MQ below (zQX (fun G2 : AG => gO G2 = gO G) (fun _ => some (.int (xthrowR u j b g))) (fun G2 => wS G2 cI cP (xthrow u j b g)) D A) args s 2 45 A) 57 [(0, .ref (gO G)), (1, .int (nI j)), (2, .int b), (3, .int (nI g)), (4, .ref (gM G j)), (5, .int E)] [] (([] : va_W) ++ (wS G cI cP u1)) := by
    intro E u1 q1 q2 q3 hf hfE
    refine z_aload_n C 0 dX1_cast_57 rfl rfl ?_
    refine z_dup C dX1_cast_58 rfl ?_
    refine z_sget (v := .int (nI (xc u1))) C ins 1 (by decide) rfl wd0 dX1_cast_59 ?_
    refine z_iload_n C 3 dX1_cast_62 rfl rfl ?_
    refine z_isub C dX1_cast_63 ?_
    refine z_top (y := nI (xc u1 - g)) (pk_sub (by omega)) ?_
    refine z_sputC (n := (xc u1 - g)) C ins rfl wd0 dX1_cast_64 ?_
    refine z_aload_n C 0 dX1_cast_67 rfl rfl ?_
    refine z_aload_n C 0 dX1_cast_68 rfl rfl ?_
    refine z_sget (v := .ref (gB G)) C ins 4 (by decide) rfl wd1 dX1_cast_69 ?_
    refine z_iconst (v := 4) C dX1_cast_72 (by decide) ?_
    refine z_newi (N := 4) C 0 rfl wd2 (by decide) (by decide) (by decide) (by show _ ≤ 2; omega) (by show _ ≤ 45; omega) dX1_cast_73 (fun q => ?_)
    refine z_dup C dX1_cast_75 rfl ?_
    refine z_iconst (v := 0) C dX1_cast_76 (by decide) ?_
    refine z_iload_n C 1 dX1_cast_77 rfl rfl ?_
    refine z_qset C 0 rfl 0 rfl (by decide) (by decide) dX1_cast_78 ?_
    refine z_dup C dX1_cast_79 rfl ?_
    refine z_iconst (v := 1) C dX1_cast_80 (by decide) ?_
    refine z_iconst (v := 1) C dX1_cast_81 (by decide) ?_
    refine z_iload_n C 2 dX1_cast_82 rfl rfl ?_
    refine z_isub C dX1_cast_83 ?_
    refine z_qset C 0 rfl 1 rfl (by decide) (by decide) dX1_cast_84 ?_
    refine z_dup C dX1_cast_85 rfl ?_
    refine z_iconst (v := 2) C dX1_cast_86 (by decide) ?_
    refine z_iload_n C 3 dX1_cast_87 rfl rfl ?_
    refine z_qset C 0 rfl 2 rfl (by decide) (by decide) dX1_cast_88 ?_
    refine z_dup C dX1_cast_89 rfl ?_
    refine z_iconst (v := 3) C dX1_cast_90 (by decide) ?_
    refine z_iload C 5 dX1_cast_91 rfl ?_
    refine z_qset C 0 rfl 3 rfl (by decide) (by decide) dX1_cast_93 ?_
    refine z_callSX (w := wT (gB G) cP cI (xk (xl u1, xa u1, xe u1, xn u1, xw u1, xf u1, xg u1, xx u1, xk u1, (xc u1 - g), xd u1, xo u1, xy u1, xb u1)) 4 (gL G) (lrow (xl u1, xa u1, xe u1, xn u1, xw u1, xf u1, xg u1, xx u1, xk u1, (xc u1 - g), xd u1, xo u1, xy u1, xb u1)) ++ [(q, .inl (cI, 4, .inl (upd (upd (upd (upd (fun _ => 0) 0 (nI j)) 1 (1 - b)) 2 (nI g)) 3 E)))]) (w1 := wSo G (xl u1, xa u1, xe u1, xn u1, xw u1, xf u1, xg u1, xx u1, xk u1, (xc u1 - g), xd u1, xo u1, xy u1, xb u1) ++ wT (gA G) cP cI (xn (xl u1, xa u1, xe u1, xn u1, xw u1, xf u1, xg u1, xx u1, xk u1, (xc u1 - g), xd u1, xo u1, xy u1, xb u1)) 3 (gM G) (mrow (xl u1, xa u1, xe u1, xn u1, xw u1, xf u1, xg u1, xx u1, xk u1, (xc u1 - g), xd u1, xo u1, xy u1, xb u1))) (w2 := ([] : va_W)) (As := [.ref (gB G), .ref q]) (rest := [.ref (gO G)]) C (c_X1_with l D cI cP (g := gL G) (r := lrow (xl u1, xa u1, xe u1, xn u1, xw u1, xf u1, xg u1, xx u1, xk u1, (xc u1 - g), xd u1, xo u1, xy u1, xb u1)) (by show xk u1 ≤ 40; omega)) (hAA.call _) zAA.blind (va_cwS 2 C.words gX1_cast_X1_with rfl rfl rfl (by decide +kernel) ⟨(Nat.le_of_ble_eq_true rfl), (Nat.le_of_ble_eq_true rfl)⟩) [0, 1] rfl rfl (Nat.le_of_ble_eq_true rfl) ⟨(by show _ ≤ 2; omega), (by show _ ≤ 45; omega)⟩ (wS_last G (xl u1, xa u1, xe u1, xn u1, xw u1, xf u1, xg u1, xx u1, xk u1, (xc u1 - g), xd u1, xo u1, xy u1, xb u1) q 4 (upd (upd (upd (upd (fun _ => 0) 0 (nI j)) 1 (1 - b)) 2 (nI g)) 3 E)) rfl dX1_cast_94 (fun bb _ => ?_)
    refine z_ws (ws' := ((([] : va_W) ++ wSo G (xl u1, xa u1, xe u1, xn u1, xw u1, xf u1, xg u1, xx u1, xk u1, (xc u1 - g), xd u1, xo u1, xy u1, xb u1)) ++ (wT (gA G) cP cI (xn (xl u1, xa u1, xe u1, xn u1, xw u1, xf u1, xg u1, xx u1, xk u1, (xc u1 - g), xd u1, xo u1, xy u1, xb u1)) 3 (gM G) (mrow (xl u1, xa u1, xe u1, xn u1, xw u1, xf u1, xg u1, xx u1, xk u1, (xc u1 - g), xd u1, xo u1, xy u1, xb u1)) ++ wT bb cP cI (xk (xl u1, xa u1, xe u1, xn u1, xw u1, xf u1, xg u1, xx u1, xk u1, (xc u1 - g), xd u1, xo u1, xy u1, xb u1) + 1) 4 (snoc (xk (xl u1, xa u1, xe u1, xn u1, xw u1, xf u1, xg u1, xx u1, xk u1, (xc u1 - g), xd u1, xo u1, xy u1, xb u1)) (gL G) q) (snoc (xk (xl u1, xa u1, xe u1, xn u1, xw u1, xf u1, xg u1, xx u1, xk u1, (xc u1 - g), xd u1, xo u1, xy u1, xb u1)) (lrow (xl u1, xa u1, xe u1, xn u1, xw u1, xf u1, xg u1, xx u1, xk u1, (xc u1 - g), xd u1, xo u1, xy u1, xb u1)) (upd (upd (upd (upd (fun _ => 0) 0 (nI j)) 1 (1 - b)) 2 (nI g)) 3 E))))) (by rw [List.append_nil]; exact List.append_assoc _ _ _) ?_
    refine z_st (st' := [.ref bb, .ref (gO G)]) rfl ?_
    refine z_sputB (pre := []) (G := G) (u := (xl u1, xa u1, xe u1, xn u1, xw u1, xf u1, xg u1, xx u1, xk u1, (xc u1 - g), xd u1, xo u1, xy u1, xb u1)) (b := bb) C ins wd1 dX1_cast_97 ?_
    refine z_iload C 5 dX1_cast_100 rfl ?_
    exact z_iretX C ((gO G, gA G, bb, gM G, snoc (xk u1) (gL G) q) : AG) (by rfl) hr hlocks (by show _ ≤ 2; omega) (by show _ ≤ 45; omega) dX1_cast_102 (by rw [hfE]) (by rw [← hf]; exact wS_push rfl rfl rfl rfl rfl (fun _ _ => rfl) (fun t ht => lrow_eq (pk_un (Nat.ne_of_lt ht)).symm (pk_un (Nat.ne_of_lt ht)).symm (pk_un (Nat.ne_of_lt ht)).symm (pk_un (Nat.ne_of_lt ht)).symm) (row4 pk_us pk_us pk_us pk_us))
  refine z_aload_n C 0 dX1_cast_0 rfl rfl ?_
  refine z_sget (v := .ref (gA G)) C ins 3 (by decide) rfl wd3 dX1_cast_1 ?_
  refine z_iload_n C 1 dX1_cast_4 rfl rfl ?_
  refine z_mrow C 1 rfl j rfl hj hn8 dX1_cast_5 ?_
  refine z_astore (L' := [(4, .ref (gM G j)), (0, .ref (gO G)), (1, .int (nI j)), (2, .int b), (3, .int (nI g))]) C dX1_cast_6 (by decide) rfl ?_
  refine z_iload_n C 4 dX1_cast_8 rfl rfl ?_
  refine z_istore (L' := [(5, .int (nI g)), (4, .ref (gM G j)), (0, .ref (gO G)), (1, .int (nI j)), (2, .int b), (3, .int (nI g))]) C dX1_cast_9 (by decide) rfl ?_
  refine z_iload_n C 4 dX1_cast_11 rfl rfl ?_
  refine z_if_ne (tgt := 57) C dX1_cast_12 (by decide) (fun c12 => ?_) (fun c12 => ?_)
  · skip
    refine z_sub (L' := [(0, .ref (gO G)), (1, .int (nI j)), (2, .int b), (3, .int (nI g)), (4, .ref (gM G j)), (5, .int (nI g))]) [2, 3, 4, 5, 1, 0] rfl ?_
    exact k57 (nI g) u rfl rfl rfl (s_th1 hb c12) (s_th2 c12)
  · skip
    refine z_iload_n C 5 dX1_cast_15 rfl rfl ?_
    refine z_aload C 1 dX1_cast_16 rfl ?_
    refine z_iconst (v := 1) C dX1_cast_18 (by decide) ?_
    refine z_mget (x := (xa u) j) C 0 rfl 1 rfl (by decide) (show j < xn u from by omega) rfl dX1_cast_19 ?_
    refine z_icmp_le (tgt := 32) C dX1_cast_20 (by decide) (fun c20 => ?_) (fun c20 => ?_)
    · skip
      refine z_iconst (v := 0) C dX1_cast_32 (by decide) ?_
      refine z_top (y := xlexc u j (nI g)) (s_ex1 h3 h4 h9 c20) ?_
      refine z_istore (L' := [(5, .int (xlexc u j (nI g))), (4, .ref (gM G j)), (0, .ref (gO G)), (1, .int (nI j)), (2, .int b), (3, .int (nI g))]) C dX1_cast_33 (by decide) rfl ?_
      refine z_aload C 1 dX1_cast_35 rfl ?_
      refine z_iconst (v := 1) C dX1_cast_37 (by decide) ?_
      refine z_aload C 1 dX1_cast_38 rfl ?_
      refine z_iconst (v := 1) C dX1_cast_40 (by decide) ?_
      refine z_mget (x := (xa u) j) C 0 rfl 1 rfl (by decide) (show j < xn u from by omega) rfl dX1_cast_41 ?_
      refine z_iload_n C 5 dX1_cast_42 rfl rfl ?_
      refine z_icmp_le (tgt := 55) C dX1_cast_43 (by decide) (fun c43 => ?_) (fun c43 => ?_)
      · skip
        refine z_iconst (v := 0) C dX1_cast_55 (by decide) ?_
        refine z_top (y := imax 0 (xa u j - nI g)) (s_le1 h3 h4 h9 c43) ?_
        refine z_mset1 C 0 rfl rfl hj dX1_cast_56 ?_
        refine z_sub (L' := [(0, .ref (gO G)), (1, .int (nI j)), (2, .int b), (3, .int (nI g)), (4, .ref (gM G j)), (5, .int (xlexc u j (nI g)))]) [2, 3, 4, 5, 1, 0] rfl ?_
        exact k57 (xlexc u j (nI g)) (xless u j (nI g)) rfl rfl rfl (s_th3 c12) (s_th4 c12)
      · skip
        refine z_aload C 1 dX1_cast_46 rfl ?_
        refine z_iconst (v := 1) C dX1_cast_48 (by decide) ?_
        refine z_mget (x := (xa u) j) C 0 rfl 1 rfl (by decide) (show j < xn u from by omega) rfl dX1_cast_49 ?_
        refine z_iload_n C 5 dX1_cast_50 rfl rfl ?_
        refine z_isub C dX1_cast_51 ?_
        refine z_goto (tgt := 56) C dX1_cast_52 (by decide) ?_
        refine z_top (y := imax 0 (xa u j - nI g)) (s_le2 h3 h4 h9 c43) ?_
        refine z_mset1 C 0 rfl rfl hj dX1_cast_56 ?_
        refine z_sub (L' := [(0, .ref (gO G)), (1, .int (nI j)), (2, .int b), (3, .int (nI g)), (4, .ref (gM G j)), (5, .int (xlexc u j (nI g)))]) [2, 3, 4, 5, 1, 0] rfl ?_
        exact k57 (xlexc u j (nI g)) (xless u j (nI g)) rfl rfl rfl (s_th3 c12) (s_th4 c12)
    · skip
      refine z_iload_n C 5 dX1_cast_23 rfl rfl ?_
      refine z_aload C 1 dX1_cast_24 rfl ?_
      refine z_iconst (v := 1) C dX1_cast_26 (by decide) ?_
      refine z_mget (x := (xa u) j) C 0 rfl 1 rfl (by decide) (show j < xn u from by omega) rfl dX1_cast_27 ?_
      refine z_isub C dX1_cast_28 ?_
      refine z_goto (tgt := 33) C dX1_cast_29 (by decide) ?_
      refine z_top (y := xlexc u j (nI g)) (s_ex2 h3 h4 h9 c20) ?_
      refine z_istore (L' := [(5, .int (xlexc u j (nI g))), (4, .ref (gM G j)), (0, .ref (gO G)), (1, .int (nI j)), (2, .int b), (3, .int (nI g))]) C dX1_cast_33 (by decide) rfl ?_
      refine z_aload C 1 dX1_cast_35 rfl ?_
      refine z_iconst (v := 1) C dX1_cast_37 (by decide) ?_
      refine z_aload C 1 dX1_cast_38 rfl ?_
      refine z_iconst (v := 1) C dX1_cast_40 (by decide) ?_
      refine z_mget (x := (xa u) j) C 0 rfl 1 rfl (by decide) (show j < xn u from by omega) rfl dX1_cast_41 ?_
      refine z_iload_n C 5 dX1_cast_42 rfl rfl ?_
      refine z_icmp_le (tgt := 55) C dX1_cast_43 (by decide) (fun c43 => ?_) (fun c43 => ?_)
      · skip
        refine z_iconst (v := 0) C dX1_cast_55 (by decide) ?_
        refine z_top (y := imax 0 (xa u j - nI g)) (s_le1 h3 h4 h9 c43) ?_
        refine z_mset1 C 0 rfl rfl hj dX1_cast_56 ?_
        refine z_sub (L' := [(0, .ref (gO G)), (1, .int (nI j)), (2, .int b), (3, .int (nI g)), (4, .ref (gM G j)), (5, .int (xlexc u j (nI g)))]) [2, 3, 4, 5, 1, 0] rfl ?_
        exact k57 (xlexc u j (nI g)) (xless u j (nI g)) rfl rfl rfl (s_th3 c12) (s_th4 c12)
      · skip
        refine z_aload C 1 dX1_cast_46 rfl ?_
        refine z_iconst (v := 1) C dX1_cast_48 (by decide) ?_
        refine z_mget (x := (xa u) j) C 0 rfl 1 rfl (by decide) (show j < xn u from by omega) rfl dX1_cast_49 ?_
        refine z_iload_n C 5 dX1_cast_50 rfl rfl ?_
        refine z_isub C dX1_cast_51 ?_
        refine z_goto (tgt := 56) C dX1_cast_52 (by decide) ?_
        refine z_top (y := imax 0 (xa u j - nI g)) (s_le2 h3 h4 h9 c43) ?_
        refine z_mset1 C 0 rfl rfl hj dX1_cast_56 ?_
        refine z_sub (L' := [(0, .ref (gO G)), (1, .int (nI j)), (2, .int b), (3, .int (nI g)), (4, .ref (gM G j)), (5, .int (xlexc u j (nI g)))]) [2, 3, 4, 5, 1, 0] rfl ?_
        exact k57 (xlexc u j (nI g)) (xless u j (nI g)) rfl rfl rfl (s_th3 c12) (s_th4 c12)
end
section
/-! the mean luck is no NaN -/
theorem fp_0 : FP.dcmp 0 0 = some .eq := by decide +kernel
theorem fp_1 : ∀ s, s < 801 → (FP.ddiv (FP.i2d (nI s)) (FP.i2d (nI 1)) &&& 0x7fffffffffffffff ≤ 0x7ff0000000000000 ∧ FP.dcmp (FP.ddiv (FP.i2d (nI s)) (FP.i2d (nI 1))) (FP.ddiv (FP.i2d (nI s)) (FP.i2d (nI 1))) = some .eq) := by decide +kernel
theorem fp_2 : ∀ s, s < 801 → (FP.ddiv (FP.i2d (nI s)) (FP.i2d (nI 2)) &&& 0x7fffffffffffffff ≤ 0x7ff0000000000000 ∧ FP.dcmp (FP.ddiv (FP.i2d (nI s)) (FP.i2d (nI 2))) (FP.ddiv (FP.i2d (nI s)) (FP.i2d (nI 2))) = some .eq) := by decide +kernel
theorem fp_3 : ∀ s, s < 801 → (FP.ddiv (FP.i2d (nI s)) (FP.i2d (nI 3)) &&& 0x7fffffffffffffff ≤ 0x7ff0000000000000 ∧ FP.dcmp (FP.ddiv (FP.i2d (nI s)) (FP.i2d (nI 3))) (FP.ddiv (FP.i2d (nI s)) (FP.i2d (nI 3))) = some .eq) := by decide +kernel
theorem fp_4 : ∀ s, s < 801 → (FP.ddiv (FP.i2d (nI s)) (FP.i2d (nI 4)) &&& 0x7fffffffffffffff ≤ 0x7ff0000000000000 ∧ FP.dcmp (FP.ddiv (FP.i2d (nI s)) (FP.i2d (nI 4))) (FP.ddiv (FP.i2d (nI s)) (FP.i2d (nI 4))) = some .eq) := by decide +kernel
theorem fp_5 : ∀ s, s < 801 → (FP.ddiv (FP.i2d (nI s)) (FP.i2d (nI 5)) &&& 0x7fffffffffffffff ≤ 0x7ff0000000000000 ∧ FP.dcmp (FP.ddiv (FP.i2d (nI s)) (FP.i2d (nI 5))) (FP.ddiv (FP.i2d (nI s)) (FP.i2d (nI 5))) = some .eq) := by decide +kernel
theorem fp_6 : ∀ s, s < 801 → (FP.ddiv (FP.i2d (nI s)) (FP.i2d (nI 6)) &&& 0x7fffffffffffffff ≤ 0x7ff0000000000000 ∧ FP.dcmp (FP.ddiv (FP.i2d (nI s)) (FP.i2d (nI 6))) (FP.ddiv (FP.i2d (nI s)) (FP.i2d (nI 6))) = some .eq) := by decide +kernel
theorem fp_7 : ∀ s, s < 801 → (FP.ddiv (FP.i2d (nI s)) (FP.i2d (nI 7)) &&& 0x7fffffffffffffff ≤ 0x7ff0000000000000 ∧ FP.dcmp (FP.ddiv (FP.i2d (nI s)) (FP.i2d (nI 7))) (FP.ddiv (FP.i2d (nI s)) (FP.i2d (nI 7))) = some .eq) := by decide +kernel
theorem fp_8 : ∀ s, s < 801 → (FP.ddiv (FP.i2d (nI s)) (FP.i2d (nI 8)) &&& 0x7fffffffffffffff ≤ 0x7ff0000000000000 ∧ FP.dcmp (FP.ddiv (FP.i2d (nI s)) (FP.i2d (nI 8))) (FP.ddiv (FP.i2d (nI s)) (FP.i2d (nI 8))) = some .eq) := by decide +kernel
theorem fp_all {n : Nat} (h0 : 0 < n) (h8 : n ≤ 8) : ∀ s, s < 801 → (FP.ddiv (FP.i2d (nI s)) (FP.i2d (nI n)) &&& 0x7fffffffffffffff ≤ 0x7ff0000000000000 ∧ FP.dcmp (FP.ddiv (FP.i2d (nI s)) (FP.i2d (nI n))) (FP.ddiv (FP.i2d (nI s)) (FP.i2d (nI n))) = some .eq) := by
  rcases (show n = 1 ∨ n = 2 ∨ n = 3 ∨ n = 4 ∨ n = 5 ∨ n = 6 ∨ n = 7 ∨ n = 8 by omega) with h | h | h | h | h | h | h | h
  · rw [h]; exact fp_1
  · rw [h]; exact fp_2
  · rw [h]; exact fp_3
  · rw [h]; exact fp_4
  · rw [h]; exact fp_5
  · rw [h]; exact fp_6
  · rw [h]; exact fp_7
  · rw [h]; exact fp_8
end
section
/-! what the comparison at the end leans on -/
theorem nI_nm1 {a : Nat} (h : a < 2 ^ 31) : ¬ nI a ≤ -1 := fun q => nI_pos h (Int32.lt_of_le_of_lt q (by decide))
theorem nI_nz {n : Nat} (h : ¬ nI n = 0) : 0 < n := by
  rcases Nat.eq_zero_or_pos n with q | q
  · subst q; exact absurd rfl h
  · exact q
theorem sumI_val {f : Nat → Int32} : ∀ n, (∀ i, i < n → ∃ b : Nat, f i = nI b ∧ b ≤ 100) → ∃ s : Nat, sumI f n = nI s ∧ s ≤ 100 * n := by
  intro n
  induction n with
  | zero => intro _; exact ⟨0, rfl, Nat.le_refl _⟩
  | succ n ih =>
    intro h
    obtain ⟨s, h1, h2⟩ := ih (fun i hi => h i (by omega))
    obtain ⟨b, h3, h4⟩ := h n (by omega)
    refine ⟨s + b, ?_, by omega⟩
    unfold sumI
    rw [h1, h3, nI_add]
section SAME
variable {B i d : Nat} {v : S0}
theorem Inv.sumV (h : Inv B v) : ∃ s : Nat, sumI (xl v) (xn v) = nI s ∧ s ≤ 800 := by
  have hn := h.n8
  obtain ⟨s, h1, h2⟩ := sumI_val (f := xl v) (xn v) (fun i hi => by
    obtain ⟨l, a, e, h1, h2, -⟩ := h.row hi
    exact ⟨l, h1, h2⟩)
  exact ⟨s, h1, by omega⟩
theorem Inv.nan (h : Inv B v) (h0 : ¬ nI (xn v) = 0) : vf_n64 (FP.ddiv (FP.i2d (sumI (xl v) (xn v))) (FP.i2d (nI (xn v)))) := by
  obtain ⟨s, e, hs⟩ := h.sumV
  rw [e]
  exact (fp_all (nI_nz h0) h.n8 s (by omega)).1
theorem cmp0 {x y : UInt64} (h : FP.dcmp x y = some .eq) : Op.cmpValue (FP.dcmp x y) .l = 0 := by
  rw [h]
  rfl
theorem Inv.cmpA (h : Inv B v) (h0 : ¬ nI (xn v) = 0) : Op.cmpValue (FP.dcmp (xmean v) (FP.ddiv (FP.i2d (sumI (xl v) (xn v))) (FP.i2d (nI (xn v))))) .l = 0 := by
  have e1 : xmean v = FP.ddiv (FP.i2d (sumI (xl v) (xn v))) (FP.i2d (nI (xn v))) := if_neg h0
  refine cmp0 ?_
  rw [e1]
  obtain ⟨s, e, hs⟩ := h.sumV
  rw [e]
  exact (fp_all (nI_nz h0) h.n8 s (by omega)).2
theorem cmpB (h0 : nI (xn v) = 0) : Op.cmpValue (FP.dcmp (xmean v) 0) .l = 0 := by
  have e1 : xmean v = 0 := if_pos h0
  refine cmp0 ?_
  rw [e1]
  exact fp_0
theorem luk1 (h : Inv B v) : ∀ i, i ≤ xn v → (i = 0 ∧ lukN (xl v) i = (-1, -1)) ∨ ∃ b, b < i ∧ lukN (xl v) i = (nI b, xl v b) := by
  have hn := h.n8
  intro i
  induction i with
  | zero => intro _; exact Or.inl ⟨rfl, rfl⟩
  | succ i ih =>
    intro hi
    obtain ⟨l, a, e, h1, h2, -⟩ := h.row (m := i) (by omega)
    have hl : xl v i = nI l := h1
    right
    rcases ih (by omega) with ⟨rfl, e1⟩ | ⟨b, hbi, e1⟩
    · refine ⟨0, by omega, ?_⟩
      unfold lukN
      rw [e1, if_neg (show ¬ xl v 0 ≤ -1 by rw [hl]; exact nI_nm1 (by omega))]
    · by_cases c : xl v i ≤ xl v b
      · refine ⟨b, by omega, ?_⟩
        unfold lukN
        rw [e1, if_pos (show xl v i ≤ xl v b from c)]
      · refine ⟨i, by omega, ?_⟩
        unfold lukN
        rw [e1, if_neg (show ¬ xl v i ≤ xl v b from c)]
theorem luk_lt (h : Inv B v) (hi : i < xn v) (c : (lukN (xl v) i).1 < 0) : lukN (xl v) (i + 1) = (nI i, xl v i) := by
  have hn := h.n8
  obtain ⟨l, a, e, h1, h2, -⟩ := h.row (m := i) hi
  have hl : xl v i = nI l := h1
  rcases luk1 h i (by omega) with ⟨rfl, e1⟩ | ⟨b, hbi, e1⟩
  · unfold lukN
    rw [e1, if_neg (show ¬ xl v 0 ≤ -1 by rw [hl]; exact nI_nm1 (by omega))]
  · rw [e1] at c
    exact absurd c (nI_pos (by omega))
theorem luk_ge (h : Inv B v) (hi : i < xn v) (c : ¬ (lukN (xl v) i).1 < 0) : ∃ b, b < i ∧ lukN (xl v) i = (nI b, xl v b) := by
  rcases luk1 h i (by omega) with ⟨-, e1⟩ | h2
  · rw [e1] at c
    exact absurd (by decide) c
  · exact h2
theorem s_loss0 (c : ¬ xe v i ≤ 0) : xloss v i = 0 := if_neg c
theorem xloss_v {a : Nat} (h3 : xa v i = nI a) (h4 : a ≤ 99) (c : xe v i ≤ 0) : xloss v i = nI ((a + 9) / 10) := by
  unfold xloss
  rw [if_pos c, e_9, h3]
  show (nI a + nI 9) / nI 10 = _
  rw [nI_add, pk_div (by omega) (by omega) (by omega)]
theorem s_loss1 {a : Nat} (h3 : xa v i = nI a) (h4 : a ≤ 99) (c : xe v i ≤ 0) (c2 : xa v i - xa v i / 10 * 10 ≤ 0) : xloss v i = xa v i / 10 + 0 := by
  rw [xloss_v h3 h4 c, Int32.add_zero]
  rw [h3] at c2 ⊢
  have e1 : nI a - nI a / 10 * 10 = nI (a % 10) := pk_rem (d := 10) (by omega) (by omega) (by omega)
  have e2 : nI a / 10 = nI (a / 10) := pk_div (d := 10) (by omega) (by omega) (by omega)
  rw [e1] at c2
  have := (nI_le0 (by omega)).mp c2
  rw [e2]
  congr 1
  omega
theorem s_loss2 {a : Nat} (h3 : xa v i = nI a) (h4 : a ≤ 99) (c : xe v i ≤ 0) (c2 : ¬ xa v i - xa v i / 10 * 10 ≤ 0) : xloss v i = xa v i / 10 + 1 := by
  rw [xloss_v h3 h4 c]
  rw [h3] at c2 ⊢
  have e1 : nI a - nI a / 10 * 10 = nI (a % 10) := pk_rem (d := 10) (by omega) (by omega) (by omega)
  have e2 : nI a / 10 = nI (a / 10) := pk_div (d := 10) (by omega) (by omega) (by omega)
  rw [e1] at c2
  have : ¬ a % 10 = 0 := fun q => c2 ((nI_le0 (by omega)).mpr q)
  rw [e2, nI_1]
  congr 1
  omega
theorem left_T (hd : xd v = nI d) (hB : d < 2 ^ 20) : xd v + nI (6 - d % 7) - (xd v + nI (6 - d % 7)) / 7 * 7 = 6 := by
  rw [hd, nI_add]
  have e1 : nI (d + (6 - d % 7)) - nI (d + (6 - d % 7)) / 7 * 7 = nI ((d + (6 - d % 7)) % 7) := pk_rem (d := 7) (by omega) (by omega) (by omega)
  rw [e1]
  show _ = nI 6
  congr 1
  omega
theorem left_F (hd : xd v = nI d) (hB : d < 2 ^ 20) (hi : i < 6 - d % 7) : ¬ xd v + nI i - (xd v + nI i) / 7 * 7 = 6 := by
  rw [hd, nI_add]
  have e1 : nI (d + i) - nI (d + i) / 7 * 7 = nI ((d + i) % 7) := pk_rem (d := 7) (by omega) (by omega) (by omega)
  rw [e1]
  intro q
  have : (d + i) % 7 = 6 := (nI_eq (a := (d + i) % 7) (b := 6) (by omega) (by omega)).mp q
  omega
theorem left_eq (hd : xd v = nI d) (hB : d < 2 ^ 20) : 6 - (xd v - xd v / 7 * 7) = nI (6 - d % 7) := by
  rw [hd]
  have e1 : nI d - nI d / 7 * 7 = nI (d % 7) := pk_rem (d := 7) (by omega) (by omega) (by omega)
  rw [e1]
  exact pk_sub (a := 6) (by omega)
end SAME
end
section
set_option maxHeartbeats 8000000 in
set_option maxRecDepth 100000 in
theorem c_X1_isSame (l : Launch) (D : va_G) (hh : Nat → Nat) (cI cZ cP : ClassId) (G : AG) (B : Nat) (v : S0) (hI : Inv B v) (hB : B < 2 ^ 20) : zMX l yX1_isSame wsX1_isSame 2 44 0 0 [.ref (gO G), .ref (hh 0)] [(cI, .int), (cZ, .boolean), (cP, .array .int)] D (wX0 hh cI cZ v ++ wS G cI cP v) zAA (fun _ : Unit => True) (fun _ => some (.int 1)) (fun _ => wX0 hh cI cZ v ++ wS G cI cP v) := by
  refine z_metX (cc := cX1_isSame) (maxL := 9) (ret := (some .boolean)) (by decide) rfl (Nat.le_of_ble_eq_true rfl) ?_
  intro p e s m args below meth c A hAw hAA C hr hlocks
  have hn8 := hI.n8
  have hk30 := hI.k30
  obtain ⟨d, hd, hdB⟩ := hI.day
  have ins : ∀ w ∈ u_ws RX1 TX1 5, w ∈ wsX1_isSame := by decide +kernel
  have wd0 : Cond.fieldLink RX1 29 "SaltOrderLaw$Sim" "day" "I" ∈ wsX1_isSame := by decide +kernel
  have wd1 : Cond.fieldLink RX1 15 "SaltOrderLaw$Sim" "members" "[[I" ∈ wsX1_isSame := by decide +kernel
  have wd2 : Cond.fieldLink RX1 19 "SaltOrderLaw$Sim" "ledger" "[[I" ∈ wsX1_isSame := by decide +kernel
  have wd3 : Cond.fieldLink RX1 7 "SaltOrderLaw$Sim" "salt" "I" ∈ wsX1_isSame := by decide +kernel
  have wd4 : Cond.fieldLink RX1 26 "SaltOrderLaw$Sim" "found" "I" ∈ wsX1_isSame := by decide +kernel
  refine z_sub (L' := [(0, .ref (gO G)), (1, .ref (hh 0))]) [0, 1] rfl ?_
  have lp358 : ∀ (dd i : Nat), i + dd = (6 - d % 7) → zG p l e ({ frames := 2, cells := 0, slots := 0, locals := 44 } : Room) s m args below meth c D 9 A 0 0 (MQ below (zQX (fun _ : Unit => True) (fun _ => some (.int 1)) (fun _ => wX0 hh cI cZ v ++ wS G cI cP v) D A) args s 0 0 A) 358 [(0, .ref (gO G)), (1, .ref (hh 0)), (2, .int (nI (xn v))), (3, .int ((lukN (xl v) (xn v)).1)), (4, .int (sumI (xa v) (xn v))), (5, .int (clrI (xa v) (xn v))), (6, .int (sumI (xl v) (xn v))), (7, .int (nI i))] [] ((wX0 hh cI cZ v) ++ (wS G cI cP v)) := by
    intro dd
    induction dd with
    | zero =>
      intro i hi
      have hi : i = (6 - d % 7) := by omega
      subst hi
      refine z_aload_n C 0 dX1_isSame_358 rfl rfl ?_
      refine z_sget (v := .int (xd v)) C ins 0 (by decide) rfl wd0 dX1_isSame_359 ?_
      refine z_iload C 7 dX1_isSame_362 rfl ?_
      refine z_iadd C dX1_isSame_364 ?_
      refine z_bipush (v := 7) C dX1_isSame_365 (by decide) ?_
      refine z_irem C dX1_isSame_367 (by decide) ?_
      refine z_bipush (v := 6) C dX1_isSame_368 (by decide) ?_
      refine z_icmp_eq (tgt := 379) C dX1_isSame_370 (by decide) (fun _ => ?_) (fun h9 => absurd (left_T hd (by omega)) h9)
      refine z_aload_n C 1 dX1_isSame_379 rfl rfl ?_
      refine z_callV (w := (wX0 hh cI cZ v)) (w' := (wX0 hh cI cZ v)) (w1 := ([] : va_W)) (w2 := (([] : va_W) ++ (wS G cI cP v))) (ws' := ((wX0 hh cI cZ v) ++ (wS G cI cP v))) (As := []) (rest := []) (st' := [.int ((lukN (xl v) (xn v)).1)]) (rv := some (.int ((lukN (xl v) (xn v)).1))) C (c_X0_luckiest l D hh cI cZ v (by omega)) (cwV 0 C.words gX1_isSame_X0_luckiest rfl rfl rfl (by decide +kernel) ⟨(Nat.le_of_ble_eq_true rfl), (Nat.le_of_ble_eq_true rfl)⟩) (q0 := 0) (ci := 0) rfl rfl rfl [0, 1] rfl rfl (Nat.le_of_ble_eq_true rfl) ⟨(Nat.le_of_ble_eq_true rfl), (Nat.le_of_ble_eq_true rfl)⟩ rfl rfl rfl rfl rfl dX1_isSame_380 ?_
      refine z_iload_n C 3 dX1_isSame_383 rfl rfl ?_
      refine z_icmp_ne (tgt := 440) C dX1_isSame_384 (by decide) (fun h9 => absurd h9 ((fun q => q rfl))) (fun _ => ?_)
      refine z_aload_n C 1 dX1_isSame_387 rfl rfl ?_
      refine z_callV (w := (wX0 hh cI cZ v)) (w' := (wX0 hh cI cZ v)) (w1 := ([] : va_W)) (w2 := (([] : va_W) ++ (wS G cI cP v))) (ws' := ((wX0 hh cI cZ v) ++ (wS G cI cP v))) (As := []) (rest := []) (st' := [.int (sumI (xa v) (xn v))]) (rv := some (.int (sumI (xa v) (xn v)))) C (c_X0_allArrears l D hh cI cZ v (by omega)) (cwV 0 C.words gX1_isSame_X0_allArrears rfl rfl rfl (by decide +kernel) ⟨(Nat.le_of_ble_eq_true rfl), (Nat.le_of_ble_eq_true rfl)⟩) (q0 := 0) (ci := 0) rfl rfl rfl [0, 1] rfl rfl (Nat.le_of_ble_eq_true rfl) ⟨(Nat.le_of_ble_eq_true rfl), (Nat.le_of_ble_eq_true rfl)⟩ rfl rfl rfl rfl rfl dX1_isSame_388 ?_
      refine z_iload C 4 dX1_isSame_391 rfl ?_
      refine z_icmp_ne (tgt := 440) C dX1_isSame_393 (by decide) (fun h9 => absurd h9 ((fun q => q rfl))) (fun _ => ?_)
      refine z_aload_n C 1 dX1_isSame_396 rfl rfl ?_
      refine z_callV (w := (wX0 hh cI cZ v)) (w' := (wX0 hh cI cZ v)) (w1 := ([] : va_W)) (w2 := (([] : va_W) ++ (wS G cI cP v))) (ws' := ((wX0 hh cI cZ v) ++ (wS G cI cP v))) (As := []) (rest := []) (st' := [.int (clrI (xa v) (xn v))]) (rv := some (.int (clrI (xa v) (xn v)))) C (c_X0_clearMembers l D hh cI cZ v (by omega)) (cwV 0 C.words gX1_isSame_X0_clearMembers rfl rfl rfl (by decide +kernel) ⟨(Nat.le_of_ble_eq_true rfl), (Nat.le_of_ble_eq_true rfl)⟩) (q0 := 0) (ci := 0) rfl rfl rfl [0, 1] rfl rfl (Nat.le_of_ble_eq_true rfl) ⟨(Nat.le_of_ble_eq_true rfl), (Nat.le_of_ble_eq_true rfl)⟩ rfl rfl rfl rfl rfl dX1_isSame_397 ?_
      refine z_iload C 5 dX1_isSame_400 rfl ?_
      refine z_icmp_ne (tgt := 440) C dX1_isSame_402 (by decide) (fun h9 => absurd h9 ((fun q => q rfl))) (fun _ => ?_)
      refine z_aload_n C 1 dX1_isSame_405 rfl rfl ?_
      refine z_callV (w := (wX0 hh cI cZ v)) (w' := (wX0 hh cI cZ v)) (w1 := ([] : va_W)) (w2 := (([] : va_W) ++ (wS G cI cP v))) (ws' := ((wX0 hh cI cZ v) ++ (wS G cI cP v))) (As := []) (rest := []) (st' := [.int (6 - (xd v - xd v / 7 * 7))]) (rv := some (.int (6 - (xd v - xd v / 7 * 7)))) C (c_X0_daysUntilAudit l D hh cI cZ v) (cwV 0 C.words gX1_isSame_X0_daysUntilAudit rfl rfl rfl (by decide +kernel) ⟨(Nat.le_of_ble_eq_true rfl), (Nat.le_of_ble_eq_true rfl)⟩) (q0 := 0) (ci := 0) rfl rfl rfl [0, 1] rfl rfl (Nat.le_of_ble_eq_true rfl) ⟨(Nat.le_of_ble_eq_true rfl), (Nat.le_of_ble_eq_true rfl)⟩ rfl rfl rfl rfl rfl dX1_isSame_406 ?_
      refine z_iload C 7 dX1_isSame_409 rfl ?_
      refine z_icmp_ne (tgt := 440) C dX1_isSame_411 (by decide) (fun h9 => absurd h9 ((fun q => q (left_eq hd (by omega))))) (fun _ => ?_)
      refine z_aload_n C 1 dX1_isSame_414 rfl rfl ?_
      refine z_callV (w := (wX0 hh cI cZ v)) (w' := (wX0 hh cI cZ v)) (w1 := ([] : va_W)) (w2 := (([] : va_W) ++ (wS G cI cP v))) (ws' := ((wX0 hh cI cZ v) ++ (wS G cI cP v))) (As := []) (rest := []) (st' := [.double (xmean v)]) (rv := some (.double (xmean v))) C (c_X0_meanLuck l D hh cI cZ v (by omega) (fun h0 => hI.nan h0)) (cwV 0 C.words gX1_isSame_X0_meanLuck rfl rfl rfl (by decide +kernel) ⟨(Nat.le_of_ble_eq_true rfl), (Nat.le_of_ble_eq_true rfl)⟩) (q0 := 0) (ci := 0) rfl rfl rfl [0, 1] rfl rfl (Nat.le_of_ble_eq_true rfl) ⟨(Nat.le_of_ble_eq_true rfl), (Nat.le_of_ble_eq_true rfl)⟩ rfl rfl rfl rfl rfl dX1_isSame_415 ?_
      refine z_iload_n C 2 dX1_isSame_418 rfl rfl ?_
      refine z_if_ne (tgt := 426) C dX1_isSame_419 (by decide) (fun c419 => ?_) (fun c419 => ?_)
      · skip
        refine z_iload C 6 dX1_isSame_426 rfl ?_
        refine z_i2d C dX1_isSame_428 ?_
        refine z_iload_n C 2 dX1_isSame_429 rfl rfl ?_
        refine z_i2d C dX1_isSame_430 ?_
        refine z_ddiv C dX1_isSame_431 (hI.nan c419) ?_
        refine z_dcmp C dX1_isSame_432 ?_
        refine z_if_ne (tgt := 440) C dX1_isSame_433 (by decide) (fun h9 => absurd h9 ((fun q => q (hI.cmpA c419)))) (fun _ => ?_)
        refine z_iconst (v := 1) C dX1_isSame_436 (by decide) ?_
        refine z_goto (tgt := 441) C dX1_isSame_437 (by decide) ?_
        exact z_zretX C () (by exact trivial) hr hlocks (Nat.le_of_ble_eq_true rfl) (Nat.le_of_ble_eq_true rfl) (by first | exact Or.inl rfl | exact Or.inr rfl) dX1_isSame_441 (by rfl) (by rfl)
      · skip
        refine z_dconst0 C dX1_isSame_422 ?_
        refine z_goto (tgt := 432) C dX1_isSame_423 (by decide) ?_
        refine z_dcmp C dX1_isSame_432 ?_
        refine z_if_ne (tgt := 440) C dX1_isSame_433 (by decide) (fun h9 => absurd h9 ((fun q => q (cmpB c419)))) (fun _ => ?_)
        refine z_iconst (v := 1) C dX1_isSame_436 (by decide) ?_
        refine z_goto (tgt := 441) C dX1_isSame_437 (by decide) ?_
        exact z_zretX C () (by exact trivial) hr hlocks (Nat.le_of_ble_eq_true rfl) (Nat.le_of_ble_eq_true rfl) (by first | exact Or.inl rfl | exact Or.inr rfl) dX1_isSame_441 (by rfl) (by rfl)
    | succ dd ih =>
      intro i hi
      refine z_aload_n C 0 dX1_isSame_358 rfl rfl ?_
      refine z_sget (v := .int (xd v)) C ins 0 (by decide) rfl wd0 dX1_isSame_359 ?_
      refine z_iload C 7 dX1_isSame_362 rfl ?_
      refine z_iadd C dX1_isSame_364 ?_
      refine z_bipush (v := 7) C dX1_isSame_365 (by decide) ?_
      refine z_irem C dX1_isSame_367 (by decide) ?_
      refine z_bipush (v := 6) C dX1_isSame_368 (by decide) ?_
      refine z_icmp_eq (tgt := 379) C dX1_isSame_370 (by decide) (fun h9 => absurd h9 (left_F hd (by omega) (by omega))) (fun _ => ?_)
      refine z_iinc (v := nI (i + 1)) (L' := [(7, .int (nI (i + 1))), (0, .ref (gO G)), (1, .ref (hh 0)), (2, .int (nI (xn v))), (3, .int ((lukN (xl v) (xn v)).1)), (4, .int (sumI (xa v) (xn v))), (5, .int (clrI (xa v) (xn v))), (6, .int (sumI (xl v) (xn v)))]) C 7 dX1_isSame_373 rfl (z_inc _) (by decide) rfl ?_
      refine z_goto (tgt := 358) C dX1_isSame_376 (by decide) ?_
      refine z_sub (L' := [(0, .ref (gO G)), (1, .ref (hh 0)), (2, .int (nI (xn v))), (3, .int ((lukN (xl v) (xn v)).1)), (4, .int (sumI (xa v) (xn v))), (5, .int (clrI (xa v) (xn v))), (6, .int (sumI (xl v) (xn v))), (7, .int (nI (i + 1)))]) [1, 2, 3, 4, 5, 6, 7, 0] rfl ?_
      exact ih (i + 1) (by omega)
  have lp178 : ∀ (dd i : Nat), i + dd = xn v → zG p l e ({ frames := 2, cells := 0, slots := 0, locals := 44 } : Room) s m args below meth c D 9 A 0 0 (MQ below (zQX (fun _ : Unit => True) (fun _ => some (.int 1)) (fun _ => wX0 hh cI cZ v ++ wS G cI cP v) D A) args s 0 0 A) 178 [(0, .ref (gO G)), (1, .ref (hh 0)), (2, .int (nI (xn v))), (3, .int ((lukN (xl v) i).1)), (4, .int (sumI (xa v) i)), (5, .int (clrI (xa v) i)), (6, .int (sumI (xl v) i)), (7, .int (nI i))] [] ((wX0 hh cI cZ v) ++ (wS G cI cP v)) := by
    intro dd
    induction dd with
    | zero =>
      intro i hi
      have hi : i = xn v := by omega
      subst hi
      refine z_iload C 7 dX1_isSame_178 rfl ?_
      refine z_iload_n C 2 dX1_isSame_180 rfl rfl ?_
      refine z_icmp_ge (tgt := 355) C dX1_isSame_181 (by decide) (fun _ => ?_) (fun h9 => absurd (nI_le (by omega) (by omega)) h9)
      refine z_iconst (v := 0) C dX1_isSame_355 (by decide) ?_
      refine z_istore (L' := [(7, .int 0), (0, .ref (gO G)), (1, .ref (hh 0)), (2, .int (nI (xn v))), (3, .int ((lukN (xl v) (xn v)).1)), (4, .int (sumI (xa v) (xn v))), (5, .int (clrI (xa v) (xn v))), (6, .int (sumI (xl v) (xn v)))]) C dX1_isSame_356 (by decide) rfl ?_
      refine z_sub (L' := [(0, .ref (gO G)), (1, .ref (hh 0)), (2, .int (nI (xn v))), (3, .int ((lukN (xl v) (xn v)).1)), (4, .int (sumI (xa v) (xn v))), (5, .int (clrI (xa v) (xn v))), (6, .int (sumI (xl v) (xn v))), (7, .int 0)]) [1, 2, 3, 4, 5, 6, 7, 0] rfl ?_
      exact lp358 (6 - d % 7) 0 (by omega)
    | succ dd ih =>
      intro i hi
      obtain ⟨l0, a, e0, h1, h2, h3, h4, h5, h6⟩ := hI.row (m := i) (by omega)
      refine z_iload C 7 dX1_isSame_178 rfl ?_
      refine z_iload_n C 2 dX1_isSame_180 rfl rfl ?_
      refine z_icmp_ge (tgt := 355) C dX1_isSame_181 (by decide) (fun h9 => absurd h9 (nI_ge (by omega) (by omega))) (fun _ => ?_)
      refine z_aload_n C 0 dX1_isSame_184 rfl rfl ?_
      refine z_sget (v := .ref (gA G)) C ins 3 (by decide) rfl wd1 dX1_isSame_185 ?_
      refine z_iload C 7 dX1_isSame_188 rfl ?_
      refine z_mrow C 2 rfl i rfl (show i < xn v from by omega) hn8 dX1_isSame_190 ?_
      refine z_astore (L' := [(8, .ref (gM G i)), (0, .ref (gO G)), (1, .ref (hh 0)), (2, .int (nI (xn v))), (3, .int ((lukN (xl v) i).1)), (4, .int (sumI (xa v) i)), (5, .int (clrI (xa v) i)), (6, .int (sumI (xl v) i)), (7, .int (nI i))]) C dX1_isSame_191 (by decide) rfl ?_
      refine z_aload_n C 2 dX1_isSame_193 rfl rfl ?_
      refine z_iload C 8 dX1_isSame_194 rfl ?_
      refine z_callV (w := (wX0 hh cI cZ v)) (w' := (wX0 hh cI cZ v)) (w1 := ([] : va_W)) (w2 := (([] : va_W) ++ (wS G cI cP v))) (ws' := ((wX0 hh cI cZ v) ++ (wS G cI cP v))) (As := [.int (nI i)]) (rest := []) (st' := [.int (xl v i)]) (rv := some (.int (xl v i))) C (c_X0_luckOf l D hh cI cZ v i (by omega) (by omega)) (cwV 1 C.words gX1_isSame_X0_luckOf rfl rfl rfl (by decide +kernel) ⟨(Nat.le_of_ble_eq_true rfl), (Nat.le_of_ble_eq_true rfl)⟩) (q0 := 0) (ci := 0) rfl rfl rfl [0, 1] rfl rfl (Nat.le_of_ble_eq_true rfl) ⟨(Nat.le_of_ble_eq_true rfl), (Nat.le_of_ble_eq_true rfl)⟩ rfl rfl rfl rfl rfl dX1_isSame_196 ?_
      refine z_aload C 0 dX1_isSame_199 rfl ?_
      refine z_iconst (v := 0) C dX1_isSame_201 (by decide) ?_
      refine z_mget (x := (xl v) i) C 0 rfl 0 rfl (by decide) (show i < xn v from by omega) rfl dX1_isSame_202 ?_
      refine z_icmp_ne (tgt := 290) C dX1_isSame_203 (by decide) (fun h9 => absurd h9 ((fun q => q rfl))) (fun _ => ?_)
      refine z_aload_n C 2 dX1_isSame_206 rfl rfl ?_
      refine z_iload C 8 dX1_isSame_207 rfl ?_
      refine z_callV (w := (wX0 hh cI cZ v)) (w' := (wX0 hh cI cZ v)) (w1 := ([] : va_W)) (w2 := (([] : va_W) ++ (wS G cI cP v))) (ws' := ((wX0 hh cI cZ v) ++ (wS G cI cP v))) (As := [.int (nI i)]) (rest := []) (st' := [.int (xa v i)]) (rv := some (.int (xa v i))) C (c_X0_arrearsOf l D hh cI cZ v i (by omega) (by omega)) (cwV 1 C.words gX1_isSame_X0_arrearsOf rfl rfl rfl (by decide +kernel) ⟨(Nat.le_of_ble_eq_true rfl), (Nat.le_of_ble_eq_true rfl)⟩) (q0 := 0) (ci := 0) rfl rfl rfl [0, 1] rfl rfl (Nat.le_of_ble_eq_true rfl) ⟨(Nat.le_of_ble_eq_true rfl), (Nat.le_of_ble_eq_true rfl)⟩ rfl rfl rfl rfl rfl dX1_isSame_209 ?_
      refine z_aload C 0 dX1_isSame_212 rfl ?_
      refine z_iconst (v := 1) C dX1_isSame_214 (by decide) ?_
      refine z_mget (x := (xa v) i) C 0 rfl 1 rfl (by decide) (show i < xn v from by omega) rfl dX1_isSame_215 ?_
      refine z_icmp_ne (tgt := 290) C dX1_isSame_216 (by decide) (fun h9 => absurd h9 ((fun q => q rfl))) (fun _ => ?_)
      refine z_aload_n C 2 dX1_isSame_219 rfl rfl ?_
      refine z_iload C 8 dX1_isSame_220 rfl ?_
      refine z_callV (w := (wX0 hh cI cZ v)) (w' := (wX0 hh cI cZ v)) (w1 := ([] : va_W)) (w2 := (([] : va_W) ++ (wS G cI cP v))) (ws' := ((wX0 hh cI cZ v) ++ (wS G cI cP v))) (As := [.int (nI i)]) (rest := []) (st' := [.int (xe v i)]) (rv := some (.int (xe v i))) C (c_X0_lumpsOf l D hh cI cZ v i (by omega) (by omega)) (cwV 1 C.words gX1_isSame_X0_lumpsOf rfl rfl rfl (by decide +kernel) ⟨(Nat.le_of_ble_eq_true rfl), (Nat.le_of_ble_eq_true rfl)⟩) (q0 := 0) (ci := 0) rfl rfl rfl [0, 1] rfl rfl (Nat.le_of_ble_eq_true rfl) ⟨(Nat.le_of_ble_eq_true rfl), (Nat.le_of_ble_eq_true rfl)⟩ rfl rfl rfl rfl rfl dX1_isSame_222 ?_
      refine z_aload C 0 dX1_isSame_225 rfl ?_
      refine z_iconst (v := 2) C dX1_isSame_227 (by decide) ?_
      refine z_mget (x := (xe v) i) C 0 rfl 2 rfl (by decide) (show i < xn v from by omega) rfl dX1_isSame_228 ?_
      refine z_icmp_ne (tgt := 290) C dX1_isSame_229 (by decide) (fun h9 => absurd h9 ((fun q => q rfl))) (fun _ => ?_)
      refine z_aload_n C 2 dX1_isSame_232 rfl rfl ?_
      refine z_iload C 8 dX1_isSame_233 rfl ?_
      refine z_callV (w := (wX0 hh cI cZ v)) (w' := (wX0 hh cI cZ v)) (w1 := ([] : va_W)) (w2 := (([] : va_W) ++ (wS G cI cP v))) (ws' := ((wX0 hh cI cZ v) ++ (wS G cI cP v))) (As := [.int (nI i)]) (rest := []) (st' := [.int (xloss v i)]) (rv := some (.int (xloss v i))) C (c_X0_dailyLoss l D hh cI cZ v i (by omega) (by omega)) (cwV 1 C.words gX1_isSame_X0_dailyLoss rfl rfl rfl (by decide +kernel) ⟨(Nat.le_of_ble_eq_true rfl), (Nat.le_of_ble_eq_true rfl)⟩) (q0 := 0) (ci := 0) rfl rfl rfl [0, 1] rfl rfl (Nat.le_of_ble_eq_true rfl) ⟨(Nat.le_of_ble_eq_true rfl), (Nat.le_of_ble_eq_true rfl)⟩ rfl rfl rfl rfl rfl dX1_isSame_235 ?_
      refine z_aload C 0 dX1_isSame_238 rfl ?_
      refine z_iconst (v := 2) C dX1_isSame_240 (by decide) ?_
      refine z_mget (x := (xe v) i) C 0 rfl 2 rfl (by decide) (show i < xn v from by omega) rfl dX1_isSame_241 ?_
      refine z_if_le (tgt := 249) C dX1_isSame_242 (by decide) (fun c242 => ?_) (fun c242 => ?_)
      · skip
        refine z_aload C 0 dX1_isSame_249 rfl ?_
        refine z_iconst (v := 1) C dX1_isSame_251 (by decide) ?_
        refine z_mget (x := (xa v) i) C 0 rfl 1 rfl (by decide) (show i < xn v from by omega) rfl dX1_isSame_252 ?_
        refine z_bipush (v := 10) C dX1_isSame_253 (by decide) ?_
        refine z_idiv C dX1_isSame_255 (by decide) ?_
        refine z_aload C 0 dX1_isSame_256 rfl ?_
        refine z_iconst (v := 1) C dX1_isSame_258 (by decide) ?_
        refine z_mget (x := (xa v) i) C 0 rfl 1 rfl (by decide) (show i < xn v from by omega) rfl dX1_isSame_259 ?_
        refine z_bipush (v := 10) C dX1_isSame_260 (by decide) ?_
        refine z_irem C dX1_isSame_262 (by decide) ?_
        refine z_if_le (tgt := 270) C dX1_isSame_263 (by decide) (fun c263 => ?_) (fun c263 => ?_)
        · skip
          refine z_iconst (v := 0) C dX1_isSame_270 (by decide) ?_
          refine z_iadd C dX1_isSame_271 ?_
          refine z_icmp_ne (tgt := 290) C dX1_isSame_272 (by decide) (fun h9 => absurd h9 ((fun q => q (s_loss1 h3 h4 c242 c263)))) (fun _ => ?_)
          refine z_aload_n C 2 dX1_isSame_275 rfl rfl ?_
          refine z_iload C 8 dX1_isSame_276 rfl ?_
          refine z_callV (w := (wX0 hh cI cZ v)) (w' := (wX0 hh cI cZ v)) (w1 := ([] : va_W)) (w2 := (([] : va_W) ++ (wS G cI cP v))) (ws' := ((wX0 hh cI cZ v) ++ (wS G cI cP v))) (As := [.int (nI i)]) (rest := []) (st' := [.int (xdebt v (nI i))]) (rv := some (.int (xdebt v (nI i)))) C (c_X0_arrearsByAudit l D hh cI cZ v i (by omega) (by omega) (by omega)) (cwV 1 C.words gX1_isSame_X0_arrearsByAudit rfl rfl rfl (by decide +kernel) ⟨(Nat.le_of_ble_eq_true rfl), (Nat.le_of_ble_eq_true rfl)⟩) (q0 := 0) (ci := 0) rfl rfl rfl [0, 1] rfl rfl (Nat.le_of_ble_eq_true rfl) ⟨(Nat.le_of_ble_eq_true rfl), (Nat.le_of_ble_eq_true rfl)⟩ rfl rfl rfl rfl rfl dX1_isSame_278 ?_
          refine z_aload_n C 1 dX1_isSame_281 rfl rfl ?_
          refine z_iload C 8 dX1_isSame_282 rfl ?_
          refine z_callVX (w := (wS G cI cP v)) (w1 := (wX0 hh cI cZ v)) (w2 := ([] : va_W)) (As := [.int (nI i)]) (rest := [.int (xdebt v (nI i))]) C (c_X1_adds l D cI cP G v (nI i) hk30) (hAA.call _) zAA.blind (cwV 1 C.words gX1_isSame_X1_adds rfl rfl rfl (by decide +kernel) ⟨(Nat.le_of_ble_eq_true rfl), (Nat.le_of_ble_eq_true rfl)⟩) (q0 := 0) (ci := 1) rfl rfl rfl [0, 2] rfl rfl (Nat.le_of_ble_eq_true rfl) ⟨(Nat.le_of_ble_eq_true rfl), (Nat.le_of_ble_eq_true rfl)⟩ (List.append_nil _).symm rfl dX1_isSame_284 (fun x9 _ => ?_)
          refine z_ws (List.append_nil _) ?_
          refine z_st (st' := [.int (xdebt v (nI i)), .int (xdebt v (nI i))]) rfl ?_
          refine z_icmp_eq (tgt := 292) C dX1_isSame_287 (by decide) (fun _ => ?_) (fun h9 => absurd (rfl) h9)
          refine z_iload_n C 4 dX1_isSame_292 rfl rfl ?_
          refine z_if_lt (tgt := 311) C dX1_isSame_293 (by decide) (fun c293 => ?_) (fun c293 => ?_)
          · skip
            refine z_iload C 8 dX1_isSame_311 rfl ?_
            refine z_istore_n (L' := [(3, .int (nI i)), (8, .ref (gM G i)), (0, .ref (gO G)), (1, .ref (hh 0)), (2, .int (nI (xn v))), (4, .int (sumI (xa v) i)), (5, .int (clrI (xa v) i)), (6, .int (sumI (xl v) i)), (7, .int (nI i))]) C dX1_isSame_313 rfl (by decide) rfl ?_
            refine z_iload C 5 dX1_isSame_314 rfl ?_
            refine z_aload C 1 dX1_isSame_316 rfl ?_
            refine z_iconst (v := 1) C dX1_isSame_318 (by decide) ?_
            refine z_mget (x := (xa v) i) C 0 rfl 1 rfl (by decide) (show i < xn v from by omega) rfl dX1_isSame_319 ?_
            refine z_iadd C dX1_isSame_320 ?_
            refine z_istore (L' := [(4, .int ((sumI (xa v) i) + ((xa v) i))), (3, .int (nI i)), (8, .ref (gM G i)), (0, .ref (gO G)), (1, .ref (hh 0)), (2, .int (nI (xn v))), (5, .int (clrI (xa v) i)), (6, .int (sumI (xl v) i)), (7, .int (nI i))]) C dX1_isSame_321 (by decide) rfl ?_
            refine z_iload C 6 dX1_isSame_323 rfl ?_
            refine z_aload C 2 dX1_isSame_325 rfl ?_
            refine z_iconst (v := 1) C dX1_isSame_327 (by decide) ?_
            refine z_mget (x := (xa v) i) C 0 rfl 1 rfl (by decide) (show i < xn v from by omega) rfl dX1_isSame_328 ?_
            refine z_if_ne (tgt := 336) C dX1_isSame_329 (by decide) (fun c329 => ?_) (fun c329 => ?_)
            · skip
              refine z_iconst (v := 0) C dX1_isSame_336 (by decide) ?_
              refine z_iadd C dX1_isSame_337 ?_
              refine z_top (y := clrI (xa v) (i + 1)) (show clrI (xa v) i + 0 = (if xa v i = 0 then clrI (xa v) i + 1 else clrI (xa v) i) from by rw [if_neg c329, Int32.add_zero]) ?_
              refine z_istore (L' := [(5, .int (clrI (xa v) (i + 1))), (4, .int ((sumI (xa v) i) + ((xa v) i))), (3, .int (nI i)), (8, .ref (gM G i)), (0, .ref (gO G)), (1, .ref (hh 0)), (2, .int (nI (xn v))), (6, .int (sumI (xl v) i)), (7, .int (nI i))]) C dX1_isSame_338 (by decide) rfl ?_
              refine z_iload C 7 dX1_isSame_340 rfl ?_
              refine z_aload C 3 dX1_isSame_342 rfl ?_
              refine z_iconst (v := 0) C dX1_isSame_344 (by decide) ?_
              refine z_mget (x := (xl v) i) C 0 rfl 0 rfl (by decide) (show i < xn v from by omega) rfl dX1_isSame_345 ?_
              refine z_iadd C dX1_isSame_346 ?_
              refine z_istore (L' := [(6, .int ((sumI (xl v) i) + ((xl v) i))), (5, .int (clrI (xa v) (i + 1))), (4, .int ((sumI (xa v) i) + ((xa v) i))), (3, .int (nI i)), (8, .ref (gM G i)), (0, .ref (gO G)), (1, .ref (hh 0)), (2, .int (nI (xn v))), (7, .int (nI i))]) C dX1_isSame_347 (by decide) rfl ?_
              refine z_iinc (v := nI (i + 1)) (L' := [(7, .int (nI (i + 1))), (6, .int ((sumI (xl v) i) + ((xl v) i))), (5, .int (clrI (xa v) (i + 1))), (4, .int ((sumI (xa v) i) + ((xa v) i))), (3, .int (nI i)), (8, .ref (gM G i)), (0, .ref (gO G)), (1, .ref (hh 0)), (2, .int (nI (xn v)))]) C 8 dX1_isSame_349 rfl (z_inc _) (by decide) rfl ?_
              refine z_goto (tgt := 178) C dX1_isSame_352 (by decide) ?_
              refine z_sub (L' := [(0, .ref (gO G)), (1, .ref (hh 0)), (2, .int (nI (xn v))), (3, .int (nI i)), (4, .int ((sumI (xa v) i) + ((xa v) i))), (5, .int (clrI (xa v) (i + 1))), (6, .int ((sumI (xl v) i) + ((xl v) i))), (7, .int (nI (i + 1)))]) [6, 7, 8, 4, 3, 2, 1, 0] rfl ?_
              exact (by have e9 := ih (i + 1) (by omega); rw [luk_lt hI (by omega) c293] at e9; exact e9)
            · skip
              refine z_iconst (v := 1) C dX1_isSame_332 (by decide) ?_
              refine z_goto (tgt := 337) C dX1_isSame_333 (by decide) ?_
              refine z_iadd C dX1_isSame_337 ?_
              refine z_top (y := clrI (xa v) (i + 1)) (show clrI (xa v) i + 1 = (if xa v i = 0 then clrI (xa v) i + 1 else clrI (xa v) i) from by rw [if_pos c329]) ?_
              refine z_istore (L' := [(5, .int (clrI (xa v) (i + 1))), (4, .int ((sumI (xa v) i) + ((xa v) i))), (3, .int (nI i)), (8, .ref (gM G i)), (0, .ref (gO G)), (1, .ref (hh 0)), (2, .int (nI (xn v))), (6, .int (sumI (xl v) i)), (7, .int (nI i))]) C dX1_isSame_338 (by decide) rfl ?_
              refine z_iload C 7 dX1_isSame_340 rfl ?_
              refine z_aload C 3 dX1_isSame_342 rfl ?_
              refine z_iconst (v := 0) C dX1_isSame_344 (by decide) ?_
              refine z_mget (x := (xl v) i) C 0 rfl 0 rfl (by decide) (show i < xn v from by omega) rfl dX1_isSame_345 ?_
              refine z_iadd C dX1_isSame_346 ?_
              refine z_istore (L' := [(6, .int ((sumI (xl v) i) + ((xl v) i))), (5, .int (clrI (xa v) (i + 1))), (4, .int ((sumI (xa v) i) + ((xa v) i))), (3, .int (nI i)), (8, .ref (gM G i)), (0, .ref (gO G)), (1, .ref (hh 0)), (2, .int (nI (xn v))), (7, .int (nI i))]) C dX1_isSame_347 (by decide) rfl ?_
              refine z_iinc (v := nI (i + 1)) (L' := [(7, .int (nI (i + 1))), (6, .int ((sumI (xl v) i) + ((xl v) i))), (5, .int (clrI (xa v) (i + 1))), (4, .int ((sumI (xa v) i) + ((xa v) i))), (3, .int (nI i)), (8, .ref (gM G i)), (0, .ref (gO G)), (1, .ref (hh 0)), (2, .int (nI (xn v)))]) C 8 dX1_isSame_349 rfl (z_inc _) (by decide) rfl ?_
              refine z_goto (tgt := 178) C dX1_isSame_352 (by decide) ?_
              refine z_sub (L' := [(0, .ref (gO G)), (1, .ref (hh 0)), (2, .int (nI (xn v))), (3, .int (nI i)), (4, .int ((sumI (xa v) i) + ((xa v) i))), (5, .int (clrI (xa v) (i + 1))), (6, .int ((sumI (xl v) i) + ((xl v) i))), (7, .int (nI (i + 1)))]) [6, 7, 8, 4, 3, 2, 1, 0] rfl ?_
              exact (by have e9 := ih (i + 1) (by omega); rw [luk_lt hI (by omega) c293] at e9; exact e9)
          · skip
            obtain ⟨b, hb1, hb2⟩ := luk_ge hI (i := i) (by omega) c293
            refine z_aload C 0 dX1_isSame_296 rfl ?_
            refine z_iconst (v := 0) C dX1_isSame_298 (by decide) ?_
            refine z_mget (x := (xl v) i) C 0 rfl 0 rfl (by decide) (show i < xn v from by omega) rfl dX1_isSame_299 ?_
            refine z_aload_n C 1 dX1_isSame_300 rfl rfl ?_
            refine z_sget (v := .ref (gA G)) C ins 3 (by decide) rfl wd1 dX1_isSame_301 ?_
            refine z_iload_n C 4 dX1_isSame_304 rfl rfl ?_
            refine z_mrow C 2 rfl b (congrArg Prod.fst hb2) (show b < xn v from by omega) hn8 dX1_isSame_305 ?_
            refine z_iconst (v := 0) C dX1_isSame_306 (by decide) ?_
            refine z_mget (x := (xl v) b) C 0 rfl 0 rfl (by decide) (show b < xn v from by omega) rfl dX1_isSame_307 ?_
            refine z_icmp_le (tgt := 314) C dX1_isSame_308 (by decide) (fun c308 => ?_) (fun c308 => ?_)
            · skip
              refine z_iload C 5 dX1_isSame_314 rfl ?_
              refine z_aload C 0 dX1_isSame_316 rfl ?_
              refine z_iconst (v := 1) C dX1_isSame_318 (by decide) ?_
              refine z_mget (x := (xa v) i) C 0 rfl 1 rfl (by decide) (show i < xn v from by omega) rfl dX1_isSame_319 ?_
              refine z_iadd C dX1_isSame_320 ?_
              refine z_istore (L' := [(4, .int ((sumI (xa v) i) + ((xa v) i))), (8, .ref (gM G i)), (0, .ref (gO G)), (1, .ref (hh 0)), (2, .int (nI (xn v))), (3, .int ((lukN (xl v) i).1)), (5, .int (clrI (xa v) i)), (6, .int (sumI (xl v) i)), (7, .int (nI i))]) C dX1_isSame_321 (by decide) rfl ?_
              refine z_iload C 6 dX1_isSame_323 rfl ?_
              refine z_aload C 1 dX1_isSame_325 rfl ?_
              refine z_iconst (v := 1) C dX1_isSame_327 (by decide) ?_
              refine z_mget (x := (xa v) i) C 0 rfl 1 rfl (by decide) (show i < xn v from by omega) rfl dX1_isSame_328 ?_
              refine z_if_ne (tgt := 336) C dX1_isSame_329 (by decide) (fun c329 => ?_) (fun c329 => ?_)
              · skip
                refine z_iconst (v := 0) C dX1_isSame_336 (by decide) ?_
                refine z_iadd C dX1_isSame_337 ?_
                refine z_top (y := clrI (xa v) (i + 1)) (show clrI (xa v) i + 0 = (if xa v i = 0 then clrI (xa v) i + 1 else clrI (xa v) i) from by rw [if_neg c329, Int32.add_zero]) ?_
                refine z_istore (L' := [(5, .int (clrI (xa v) (i + 1))), (4, .int ((sumI (xa v) i) + ((xa v) i))), (8, .ref (gM G i)), (0, .ref (gO G)), (1, .ref (hh 0)), (2, .int (nI (xn v))), (3, .int ((lukN (xl v) i).1)), (6, .int (sumI (xl v) i)), (7, .int (nI i))]) C dX1_isSame_338 (by decide) rfl ?_
                refine z_iload C 7 dX1_isSame_340 rfl ?_
                refine z_aload C 2 dX1_isSame_342 rfl ?_
                refine z_iconst (v := 0) C dX1_isSame_344 (by decide) ?_
                refine z_mget (x := (xl v) i) C 0 rfl 0 rfl (by decide) (show i < xn v from by omega) rfl dX1_isSame_345 ?_
                refine z_iadd C dX1_isSame_346 ?_
                refine z_istore (L' := [(6, .int ((sumI (xl v) i) + ((xl v) i))), (5, .int (clrI (xa v) (i + 1))), (4, .int ((sumI (xa v) i) + ((xa v) i))), (8, .ref (gM G i)), (0, .ref (gO G)), (1, .ref (hh 0)), (2, .int (nI (xn v))), (3, .int ((lukN (xl v) i).1)), (7, .int (nI i))]) C dX1_isSame_347 (by decide) rfl ?_
                refine z_iinc (v := nI (i + 1)) (L' := [(7, .int (nI (i + 1))), (6, .int ((sumI (xl v) i) + ((xl v) i))), (5, .int (clrI (xa v) (i + 1))), (4, .int ((sumI (xa v) i) + ((xa v) i))), (8, .ref (gM G i)), (0, .ref (gO G)), (1, .ref (hh 0)), (2, .int (nI (xn v))), (3, .int ((lukN (xl v) i).1))]) C 8 dX1_isSame_349 rfl (z_inc _) (by decide) rfl ?_
                refine z_goto (tgt := 178) C dX1_isSame_352 (by decide) ?_
                refine z_sub (L' := [(0, .ref (gO G)), (1, .ref (hh 0)), (2, .int (nI (xn v))), (3, .int ((lukN (xl v) i).1)), (4, .int ((sumI (xa v) i) + ((xa v) i))), (5, .int (clrI (xa v) (i + 1))), (6, .int ((sumI (xl v) i) + ((xl v) i))), (7, .int (nI (i + 1)))]) [5, 6, 7, 8, 3, 2, 1, 0] rfl ?_
                exact (by have e9 := ih (i + 1) (by omega); rw [show lukN (xl v) (i + 1) = lukN (xl v) i from if_pos (by rw [hb2]; exact c308)] at e9; exact e9)
              · skip
                refine z_iconst (v := 1) C dX1_isSame_332 (by decide) ?_
                refine z_goto (tgt := 337) C dX1_isSame_333 (by decide) ?_
                refine z_iadd C dX1_isSame_337 ?_
                refine z_top (y := clrI (xa v) (i + 1)) (show clrI (xa v) i + 1 = (if xa v i = 0 then clrI (xa v) i + 1 else clrI (xa v) i) from by rw [if_pos c329]) ?_
                refine z_istore (L' := [(5, .int (clrI (xa v) (i + 1))), (4, .int ((sumI (xa v) i) + ((xa v) i))), (8, .ref (gM G i)), (0, .ref (gO G)), (1, .ref (hh 0)), (2, .int (nI (xn v))), (3, .int ((lukN (xl v) i).1)), (6, .int (sumI (xl v) i)), (7, .int (nI i))]) C dX1_isSame_338 (by decide) rfl ?_
                refine z_iload C 7 dX1_isSame_340 rfl ?_
                refine z_aload C 2 dX1_isSame_342 rfl ?_
                refine z_iconst (v := 0) C dX1_isSame_344 (by decide) ?_
                refine z_mget (x := (xl v) i) C 0 rfl 0 rfl (by decide) (show i < xn v from by omega) rfl dX1_isSame_345 ?_
                refine z_iadd C dX1_isSame_346 ?_
                refine z_istore (L' := [(6, .int ((sumI (xl v) i) + ((xl v) i))), (5, .int (clrI (xa v) (i + 1))), (4, .int ((sumI (xa v) i) + ((xa v) i))), (8, .ref (gM G i)), (0, .ref (gO G)), (1, .ref (hh 0)), (2, .int (nI (xn v))), (3, .int ((lukN (xl v) i).1)), (7, .int (nI i))]) C dX1_isSame_347 (by decide) rfl ?_
                refine z_iinc (v := nI (i + 1)) (L' := [(7, .int (nI (i + 1))), (6, .int ((sumI (xl v) i) + ((xl v) i))), (5, .int (clrI (xa v) (i + 1))), (4, .int ((sumI (xa v) i) + ((xa v) i))), (8, .ref (gM G i)), (0, .ref (gO G)), (1, .ref (hh 0)), (2, .int (nI (xn v))), (3, .int ((lukN (xl v) i).1))]) C 8 dX1_isSame_349 rfl (z_inc _) (by decide) rfl ?_
                refine z_goto (tgt := 178) C dX1_isSame_352 (by decide) ?_
                refine z_sub (L' := [(0, .ref (gO G)), (1, .ref (hh 0)), (2, .int (nI (xn v))), (3, .int ((lukN (xl v) i).1)), (4, .int ((sumI (xa v) i) + ((xa v) i))), (5, .int (clrI (xa v) (i + 1))), (6, .int ((sumI (xl v) i) + ((xl v) i))), (7, .int (nI (i + 1)))]) [5, 6, 7, 8, 3, 2, 1, 0] rfl ?_
                exact (by have e9 := ih (i + 1) (by omega); rw [show lukN (xl v) (i + 1) = lukN (xl v) i from if_pos (by rw [hb2]; exact c308)] at e9; exact e9)
            · skip
              refine z_iload C 8 dX1_isSame_311 rfl ?_
              refine z_istore_n (L' := [(3, .int (nI i)), (8, .ref (gM G i)), (0, .ref (gO G)), (1, .ref (hh 0)), (2, .int (nI (xn v))), (4, .int (sumI (xa v) i)), (5, .int (clrI (xa v) i)), (6, .int (sumI (xl v) i)), (7, .int (nI i))]) C dX1_isSame_313 rfl (by decide) rfl ?_
              refine z_iload C 5 dX1_isSame_314 rfl ?_
              refine z_aload C 1 dX1_isSame_316 rfl ?_
              refine z_iconst (v := 1) C dX1_isSame_318 (by decide) ?_
              refine z_mget (x := (xa v) i) C 0 rfl 1 rfl (by decide) (show i < xn v from by omega) rfl dX1_isSame_319 ?_
              refine z_iadd C dX1_isSame_320 ?_
              refine z_istore (L' := [(4, .int ((sumI (xa v) i) + ((xa v) i))), (3, .int (nI i)), (8, .ref (gM G i)), (0, .ref (gO G)), (1, .ref (hh 0)), (2, .int (nI (xn v))), (5, .int (clrI (xa v) i)), (6, .int (sumI (xl v) i)), (7, .int (nI i))]) C dX1_isSame_321 (by decide) rfl ?_
              refine z_iload C 6 dX1_isSame_323 rfl ?_
              refine z_aload C 2 dX1_isSame_325 rfl ?_
              refine z_iconst (v := 1) C dX1_isSame_327 (by decide) ?_
              refine z_mget (x := (xa v) i) C 0 rfl 1 rfl (by decide) (show i < xn v from by omega) rfl dX1_isSame_328 ?_
              refine z_if_ne (tgt := 336) C dX1_isSame_329 (by decide) (fun c329 => ?_) (fun c329 => ?_)
              · skip
                refine z_iconst (v := 0) C dX1_isSame_336 (by decide) ?_
                refine z_iadd C dX1_isSame_337 ?_
                refine z_top (y := clrI (xa v) (i + 1)) (show clrI (xa v) i + 0 = (if xa v i = 0 then clrI (xa v) i + 1 else clrI (xa v) i) from by rw [if_neg c329, Int32.add_zero]) ?_
                refine z_istore (L' := [(5, .int (clrI (xa v) (i + 1))), (4, .int ((sumI (xa v) i) + ((xa v) i))), (3, .int (nI i)), (8, .ref (gM G i)), (0, .ref (gO G)), (1, .ref (hh 0)), (2, .int (nI (xn v))), (6, .int (sumI (xl v) i)), (7, .int (nI i))]) C dX1_isSame_338 (by decide) rfl ?_
                refine z_iload C 7 dX1_isSame_340 rfl ?_
                refine z_aload C 3 dX1_isSame_342 rfl ?_
                refine z_iconst (v := 0) C dX1_isSame_344 (by decide) ?_
                refine z_mget (x := (xl v) i) C 0 rfl 0 rfl (by decide) (show i < xn v from by omega) rfl dX1_isSame_345 ?_
                refine z_iadd C dX1_isSame_346 ?_
                refine z_istore (L' := [(6, .int ((sumI (xl v) i) + ((xl v) i))), (5, .int (clrI (xa v) (i + 1))), (4, .int ((sumI (xa v) i) + ((xa v) i))), (3, .int (nI i)), (8, .ref (gM G i)), (0, .ref (gO G)), (1, .ref (hh 0)), (2, .int (nI (xn v))), (7, .int (nI i))]) C dX1_isSame_347 (by decide) rfl ?_
                refine z_iinc (v := nI (i + 1)) (L' := [(7, .int (nI (i + 1))), (6, .int ((sumI (xl v) i) + ((xl v) i))), (5, .int (clrI (xa v) (i + 1))), (4, .int ((sumI (xa v) i) + ((xa v) i))), (3, .int (nI i)), (8, .ref (gM G i)), (0, .ref (gO G)), (1, .ref (hh 0)), (2, .int (nI (xn v)))]) C 8 dX1_isSame_349 rfl (z_inc _) (by decide) rfl ?_
                refine z_goto (tgt := 178) C dX1_isSame_352 (by decide) ?_
                refine z_sub (L' := [(0, .ref (gO G)), (1, .ref (hh 0)), (2, .int (nI (xn v))), (3, .int (nI i)), (4, .int ((sumI (xa v) i) + ((xa v) i))), (5, .int (clrI (xa v) (i + 1))), (6, .int ((sumI (xl v) i) + ((xl v) i))), (7, .int (nI (i + 1)))]) [6, 7, 8, 4, 3, 2, 1, 0] rfl ?_
                exact (by have e9 := ih (i + 1) (by omega); rw [show lukN (xl v) (i + 1) = (nI i, xl v i) from if_neg (by rw [hb2]; exact c308)] at e9; exact e9)
              · skip
                refine z_iconst (v := 1) C dX1_isSame_332 (by decide) ?_
                refine z_goto (tgt := 337) C dX1_isSame_333 (by decide) ?_
                refine z_iadd C dX1_isSame_337 ?_
                refine z_top (y := clrI (xa v) (i + 1)) (show clrI (xa v) i + 1 = (if xa v i = 0 then clrI (xa v) i + 1 else clrI (xa v) i) from by rw [if_pos c329]) ?_
                refine z_istore (L' := [(5, .int (clrI (xa v) (i + 1))), (4, .int ((sumI (xa v) i) + ((xa v) i))), (3, .int (nI i)), (8, .ref (gM G i)), (0, .ref (gO G)), (1, .ref (hh 0)), (2, .int (nI (xn v))), (6, .int (sumI (xl v) i)), (7, .int (nI i))]) C dX1_isSame_338 (by decide) rfl ?_
                refine z_iload C 7 dX1_isSame_340 rfl ?_
                refine z_aload C 3 dX1_isSame_342 rfl ?_
                refine z_iconst (v := 0) C dX1_isSame_344 (by decide) ?_
                refine z_mget (x := (xl v) i) C 0 rfl 0 rfl (by decide) (show i < xn v from by omega) rfl dX1_isSame_345 ?_
                refine z_iadd C dX1_isSame_346 ?_
                refine z_istore (L' := [(6, .int ((sumI (xl v) i) + ((xl v) i))), (5, .int (clrI (xa v) (i + 1))), (4, .int ((sumI (xa v) i) + ((xa v) i))), (3, .int (nI i)), (8, .ref (gM G i)), (0, .ref (gO G)), (1, .ref (hh 0)), (2, .int (nI (xn v))), (7, .int (nI i))]) C dX1_isSame_347 (by decide) rfl ?_
                refine z_iinc (v := nI (i + 1)) (L' := [(7, .int (nI (i + 1))), (6, .int ((sumI (xl v) i) + ((xl v) i))), (5, .int (clrI (xa v) (i + 1))), (4, .int ((sumI (xa v) i) + ((xa v) i))), (3, .int (nI i)), (8, .ref (gM G i)), (0, .ref (gO G)), (1, .ref (hh 0)), (2, .int (nI (xn v)))]) C 8 dX1_isSame_349 rfl (z_inc _) (by decide) rfl ?_
                refine z_goto (tgt := 178) C dX1_isSame_352 (by decide) ?_
                refine z_sub (L' := [(0, .ref (gO G)), (1, .ref (hh 0)), (2, .int (nI (xn v))), (3, .int (nI i)), (4, .int ((sumI (xa v) i) + ((xa v) i))), (5, .int (clrI (xa v) (i + 1))), (6, .int ((sumI (xl v) i) + ((xl v) i))), (7, .int (nI (i + 1)))]) [6, 7, 8, 4, 3, 2, 1, 0] rfl ?_
                exact (by have e9 := ih (i + 1) (by omega); rw [show lukN (xl v) (i + 1) = (nI i, xl v i) from if_neg (by rw [hb2]; exact c308)] at e9; exact e9)
        · skip
          refine z_iconst (v := 1) C dX1_isSame_266 (by decide) ?_
          refine z_goto (tgt := 271) C dX1_isSame_267 (by decide) ?_
          refine z_iadd C dX1_isSame_271 ?_
          refine z_icmp_ne (tgt := 290) C dX1_isSame_272 (by decide) (fun h9 => absurd h9 ((fun q => q (s_loss2 h3 h4 c242 c263)))) (fun _ => ?_)
          refine z_aload_n C 2 dX1_isSame_275 rfl rfl ?_
          refine z_iload C 8 dX1_isSame_276 rfl ?_
          refine z_callV (w := (wX0 hh cI cZ v)) (w' := (wX0 hh cI cZ v)) (w1 := ([] : va_W)) (w2 := (([] : va_W) ++ (wS G cI cP v))) (ws' := ((wX0 hh cI cZ v) ++ (wS G cI cP v))) (As := [.int (nI i)]) (rest := []) (st' := [.int (xdebt v (nI i))]) (rv := some (.int (xdebt v (nI i)))) C (c_X0_arrearsByAudit l D hh cI cZ v i (by omega) (by omega) (by omega)) (cwV 1 C.words gX1_isSame_X0_arrearsByAudit rfl rfl rfl (by decide +kernel) ⟨(Nat.le_of_ble_eq_true rfl), (Nat.le_of_ble_eq_true rfl)⟩) (q0 := 0) (ci := 0) rfl rfl rfl [0, 1] rfl rfl (Nat.le_of_ble_eq_true rfl) ⟨(Nat.le_of_ble_eq_true rfl), (Nat.le_of_ble_eq_true rfl)⟩ rfl rfl rfl rfl rfl dX1_isSame_278 ?_
          refine z_aload_n C 1 dX1_isSame_281 rfl rfl ?_
          refine z_iload C 8 dX1_isSame_282 rfl ?_
          refine z_callVX (w := (wS G cI cP v)) (w1 := (wX0 hh cI cZ v)) (w2 := ([] : va_W)) (As := [.int (nI i)]) (rest := [.int (xdebt v (nI i))]) C (c_X1_adds l D cI cP G v (nI i) hk30) (hAA.call _) zAA.blind (cwV 1 C.words gX1_isSame_X1_adds rfl rfl rfl (by decide +kernel) ⟨(Nat.le_of_ble_eq_true rfl), (Nat.le_of_ble_eq_true rfl)⟩) (q0 := 0) (ci := 1) rfl rfl rfl [0, 2] rfl rfl (Nat.le_of_ble_eq_true rfl) ⟨(Nat.le_of_ble_eq_true rfl), (Nat.le_of_ble_eq_true rfl)⟩ (List.append_nil _).symm rfl dX1_isSame_284 (fun x9 _ => ?_)
          refine z_ws (List.append_nil _) ?_
          refine z_st (st' := [.int (xdebt v (nI i)), .int (xdebt v (nI i))]) rfl ?_
          refine z_icmp_eq (tgt := 292) C dX1_isSame_287 (by decide) (fun _ => ?_) (fun h9 => absurd (rfl) h9)
          refine z_iload_n C 4 dX1_isSame_292 rfl rfl ?_
          refine z_if_lt (tgt := 311) C dX1_isSame_293 (by decide) (fun c293 => ?_) (fun c293 => ?_)
          · skip
            refine z_iload C 8 dX1_isSame_311 rfl ?_
            refine z_istore_n (L' := [(3, .int (nI i)), (8, .ref (gM G i)), (0, .ref (gO G)), (1, .ref (hh 0)), (2, .int (nI (xn v))), (4, .int (sumI (xa v) i)), (5, .int (clrI (xa v) i)), (6, .int (sumI (xl v) i)), (7, .int (nI i))]) C dX1_isSame_313 rfl (by decide) rfl ?_
            refine z_iload C 5 dX1_isSame_314 rfl ?_
            refine z_aload C 1 dX1_isSame_316 rfl ?_
            refine z_iconst (v := 1) C dX1_isSame_318 (by decide) ?_
            refine z_mget (x := (xa v) i) C 0 rfl 1 rfl (by decide) (show i < xn v from by omega) rfl dX1_isSame_319 ?_
            refine z_iadd C dX1_isSame_320 ?_
            refine z_istore (L' := [(4, .int ((sumI (xa v) i) + ((xa v) i))), (3, .int (nI i)), (8, .ref (gM G i)), (0, .ref (gO G)), (1, .ref (hh 0)), (2, .int (nI (xn v))), (5, .int (clrI (xa v) i)), (6, .int (sumI (xl v) i)), (7, .int (nI i))]) C dX1_isSame_321 (by decide) rfl ?_
            refine z_iload C 6 dX1_isSame_323 rfl ?_
            refine z_aload C 2 dX1_isSame_325 rfl ?_
            refine z_iconst (v := 1) C dX1_isSame_327 (by decide) ?_
            refine z_mget (x := (xa v) i) C 0 rfl 1 rfl (by decide) (show i < xn v from by omega) rfl dX1_isSame_328 ?_
            refine z_if_ne (tgt := 336) C dX1_isSame_329 (by decide) (fun c329 => ?_) (fun c329 => ?_)
            · skip
              refine z_iconst (v := 0) C dX1_isSame_336 (by decide) ?_
              refine z_iadd C dX1_isSame_337 ?_
              refine z_top (y := clrI (xa v) (i + 1)) (show clrI (xa v) i + 0 = (if xa v i = 0 then clrI (xa v) i + 1 else clrI (xa v) i) from by rw [if_neg c329, Int32.add_zero]) ?_
              refine z_istore (L' := [(5, .int (clrI (xa v) (i + 1))), (4, .int ((sumI (xa v) i) + ((xa v) i))), (3, .int (nI i)), (8, .ref (gM G i)), (0, .ref (gO G)), (1, .ref (hh 0)), (2, .int (nI (xn v))), (6, .int (sumI (xl v) i)), (7, .int (nI i))]) C dX1_isSame_338 (by decide) rfl ?_
              refine z_iload C 7 dX1_isSame_340 rfl ?_
              refine z_aload C 3 dX1_isSame_342 rfl ?_
              refine z_iconst (v := 0) C dX1_isSame_344 (by decide) ?_
              refine z_mget (x := (xl v) i) C 0 rfl 0 rfl (by decide) (show i < xn v from by omega) rfl dX1_isSame_345 ?_
              refine z_iadd C dX1_isSame_346 ?_
              refine z_istore (L' := [(6, .int ((sumI (xl v) i) + ((xl v) i))), (5, .int (clrI (xa v) (i + 1))), (4, .int ((sumI (xa v) i) + ((xa v) i))), (3, .int (nI i)), (8, .ref (gM G i)), (0, .ref (gO G)), (1, .ref (hh 0)), (2, .int (nI (xn v))), (7, .int (nI i))]) C dX1_isSame_347 (by decide) rfl ?_
              refine z_iinc (v := nI (i + 1)) (L' := [(7, .int (nI (i + 1))), (6, .int ((sumI (xl v) i) + ((xl v) i))), (5, .int (clrI (xa v) (i + 1))), (4, .int ((sumI (xa v) i) + ((xa v) i))), (3, .int (nI i)), (8, .ref (gM G i)), (0, .ref (gO G)), (1, .ref (hh 0)), (2, .int (nI (xn v)))]) C 8 dX1_isSame_349 rfl (z_inc _) (by decide) rfl ?_
              refine z_goto (tgt := 178) C dX1_isSame_352 (by decide) ?_
              refine z_sub (L' := [(0, .ref (gO G)), (1, .ref (hh 0)), (2, .int (nI (xn v))), (3, .int (nI i)), (4, .int ((sumI (xa v) i) + ((xa v) i))), (5, .int (clrI (xa v) (i + 1))), (6, .int ((sumI (xl v) i) + ((xl v) i))), (7, .int (nI (i + 1)))]) [6, 7, 8, 4, 3, 2, 1, 0] rfl ?_
              exact (by have e9 := ih (i + 1) (by omega); rw [luk_lt hI (by omega) c293] at e9; exact e9)
            · skip
              refine z_iconst (v := 1) C dX1_isSame_332 (by decide) ?_
              refine z_goto (tgt := 337) C dX1_isSame_333 (by decide) ?_
              refine z_iadd C dX1_isSame_337 ?_
              refine z_top (y := clrI (xa v) (i + 1)) (show clrI (xa v) i + 1 = (if xa v i = 0 then clrI (xa v) i + 1 else clrI (xa v) i) from by rw [if_pos c329]) ?_
              refine z_istore (L' := [(5, .int (clrI (xa v) (i + 1))), (4, .int ((sumI (xa v) i) + ((xa v) i))), (3, .int (nI i)), (8, .ref (gM G i)), (0, .ref (gO G)), (1, .ref (hh 0)), (2, .int (nI (xn v))), (6, .int (sumI (xl v) i)), (7, .int (nI i))]) C dX1_isSame_338 (by decide) rfl ?_
              refine z_iload C 7 dX1_isSame_340 rfl ?_
              refine z_aload C 3 dX1_isSame_342 rfl ?_
              refine z_iconst (v := 0) C dX1_isSame_344 (by decide) ?_
              refine z_mget (x := (xl v) i) C 0 rfl 0 rfl (by decide) (show i < xn v from by omega) rfl dX1_isSame_345 ?_
              refine z_iadd C dX1_isSame_346 ?_
              refine z_istore (L' := [(6, .int ((sumI (xl v) i) + ((xl v) i))), (5, .int (clrI (xa v) (i + 1))), (4, .int ((sumI (xa v) i) + ((xa v) i))), (3, .int (nI i)), (8, .ref (gM G i)), (0, .ref (gO G)), (1, .ref (hh 0)), (2, .int (nI (xn v))), (7, .int (nI i))]) C dX1_isSame_347 (by decide) rfl ?_
              refine z_iinc (v := nI (i + 1)) (L' := [(7, .int (nI (i + 1))), (6, .int ((sumI (xl v) i) + ((xl v) i))), (5, .int (clrI (xa v) (i + 1))), (4, .int ((sumI (xa v) i) + ((xa v) i))), (3, .int (nI i)), (8, .ref (gM G i)), (0, .ref (gO G)), (1, .ref (hh 0)), (2, .int (nI (xn v)))]) C 8 dX1_isSame_349 rfl (z_inc _) (by decide) rfl ?_
              refine z_goto (tgt := 178) C dX1_isSame_352 (by decide) ?_
              refine z_sub (L' := [(0, .ref (gO G)), (1, .ref (hh 0)), (2, .int (nI (xn v))), (3, .int (nI i)), (4, .int ((sumI (xa v) i) + ((xa v) i))), (5, .int (clrI (xa v) (i + 1))), (6, .int ((sumI (xl v) i) + ((xl v) i))), (7, .int (nI (i + 1)))]) [6, 7, 8, 4, 3, 2, 1, 0] rfl ?_
              exact (by have e9 := ih (i + 1) (by omega); rw [luk_lt hI (by omega) c293] at e9; exact e9)
          · skip
            obtain ⟨b, hb1, hb2⟩ := luk_ge hI (i := i) (by omega) c293
            refine z_aload C 0 dX1_isSame_296 rfl ?_
            refine z_iconst (v := 0) C dX1_isSame_298 (by decide) ?_
            refine z_mget (x := (xl v) i) C 0 rfl 0 rfl (by decide) (show i < xn v from by omega) rfl dX1_isSame_299 ?_
            refine z_aload_n C 1 dX1_isSame_300 rfl rfl ?_
            refine z_sget (v := .ref (gA G)) C ins 3 (by decide) rfl wd1 dX1_isSame_301 ?_
            refine z_iload_n C 4 dX1_isSame_304 rfl rfl ?_
            refine z_mrow C 2 rfl b (congrArg Prod.fst hb2) (show b < xn v from by omega) hn8 dX1_isSame_305 ?_
            refine z_iconst (v := 0) C dX1_isSame_306 (by decide) ?_
            refine z_mget (x := (xl v) b) C 0 rfl 0 rfl (by decide) (show b < xn v from by omega) rfl dX1_isSame_307 ?_
            refine z_icmp_le (tgt := 314) C dX1_isSame_308 (by decide) (fun c308 => ?_) (fun c308 => ?_)
            · skip
              refine z_iload C 5 dX1_isSame_314 rfl ?_
              refine z_aload C 0 dX1_isSame_316 rfl ?_
              refine z_iconst (v := 1) C dX1_isSame_318 (by decide) ?_
              refine z_mget (x := (xa v) i) C 0 rfl 1 rfl (by decide) (show i < xn v from by omega) rfl dX1_isSame_319 ?_
              refine z_iadd C dX1_isSame_320 ?_
              refine z_istore (L' := [(4, .int ((sumI (xa v) i) + ((xa v) i))), (8, .ref (gM G i)), (0, .ref (gO G)), (1, .ref (hh 0)), (2, .int (nI (xn v))), (3, .int ((lukN (xl v) i).1)), (5, .int (clrI (xa v) i)), (6, .int (sumI (xl v) i)), (7, .int (nI i))]) C dX1_isSame_321 (by decide) rfl ?_
              refine z_iload C 6 dX1_isSame_323 rfl ?_
              refine z_aload C 1 dX1_isSame_325 rfl ?_
              refine z_iconst (v := 1) C dX1_isSame_327 (by decide) ?_
              refine z_mget (x := (xa v) i) C 0 rfl 1 rfl (by decide) (show i < xn v from by omega) rfl dX1_isSame_328 ?_
              refine z_if_ne (tgt := 336) C dX1_isSame_329 (by decide) (fun c329 => ?_) (fun c329 => ?_)
              · skip
                refine z_iconst (v := 0) C dX1_isSame_336 (by decide) ?_
                refine z_iadd C dX1_isSame_337 ?_
                refine z_top (y := clrI (xa v) (i + 1)) (show clrI (xa v) i + 0 = (if xa v i = 0 then clrI (xa v) i + 1 else clrI (xa v) i) from by rw [if_neg c329, Int32.add_zero]) ?_
                refine z_istore (L' := [(5, .int (clrI (xa v) (i + 1))), (4, .int ((sumI (xa v) i) + ((xa v) i))), (8, .ref (gM G i)), (0, .ref (gO G)), (1, .ref (hh 0)), (2, .int (nI (xn v))), (3, .int ((lukN (xl v) i).1)), (6, .int (sumI (xl v) i)), (7, .int (nI i))]) C dX1_isSame_338 (by decide) rfl ?_
                refine z_iload C 7 dX1_isSame_340 rfl ?_
                refine z_aload C 2 dX1_isSame_342 rfl ?_
                refine z_iconst (v := 0) C dX1_isSame_344 (by decide) ?_
                refine z_mget (x := (xl v) i) C 0 rfl 0 rfl (by decide) (show i < xn v from by omega) rfl dX1_isSame_345 ?_
                refine z_iadd C dX1_isSame_346 ?_
                refine z_istore (L' := [(6, .int ((sumI (xl v) i) + ((xl v) i))), (5, .int (clrI (xa v) (i + 1))), (4, .int ((sumI (xa v) i) + ((xa v) i))), (8, .ref (gM G i)), (0, .ref (gO G)), (1, .ref (hh 0)), (2, .int (nI (xn v))), (3, .int ((lukN (xl v) i).1)), (7, .int (nI i))]) C dX1_isSame_347 (by decide) rfl ?_
                refine z_iinc (v := nI (i + 1)) (L' := [(7, .int (nI (i + 1))), (6, .int ((sumI (xl v) i) + ((xl v) i))), (5, .int (clrI (xa v) (i + 1))), (4, .int ((sumI (xa v) i) + ((xa v) i))), (8, .ref (gM G i)), (0, .ref (gO G)), (1, .ref (hh 0)), (2, .int (nI (xn v))), (3, .int ((lukN (xl v) i).1))]) C 8 dX1_isSame_349 rfl (z_inc _) (by decide) rfl ?_
                refine z_goto (tgt := 178) C dX1_isSame_352 (by decide) ?_
                refine z_sub (L' := [(0, .ref (gO G)), (1, .ref (hh 0)), (2, .int (nI (xn v))), (3, .int ((lukN (xl v) i).1)), (4, .int ((sumI (xa v) i) + ((xa v) i))), (5, .int (clrI (xa v) (i + 1))), (6, .int ((sumI (xl v) i) + ((xl v) i))), (7, .int (nI (i + 1)))]) [5, 6, 7, 8, 3, 2, 1, 0] rfl ?_
                exact (by have e9 := ih (i + 1) (by omega); rw [show lukN (xl v) (i + 1) = lukN (xl v) i from if_pos (by rw [hb2]; exact c308)] at e9; exact e9)
              · skip
                refine z_iconst (v := 1) C dX1_isSame_332 (by decide) ?_
                refine z_goto (tgt := 337) C dX1_isSame_333 (by decide) ?_
                refine z_iadd C dX1_isSame_337 ?_
                refine z_top (y := clrI (xa v) (i + 1)) (show clrI (xa v) i + 1 = (if xa v i = 0 then clrI (xa v) i + 1 else clrI (xa v) i) from by rw [if_pos c329]) ?_
                refine z_istore (L' := [(5, .int (clrI (xa v) (i + 1))), (4, .int ((sumI (xa v) i) + ((xa v) i))), (8, .ref (gM G i)), (0, .ref (gO G)), (1, .ref (hh 0)), (2, .int (nI (xn v))), (3, .int ((lukN (xl v) i).1)), (6, .int (sumI (xl v) i)), (7, .int (nI i))]) C dX1_isSame_338 (by decide) rfl ?_
                refine z_iload C 7 dX1_isSame_340 rfl ?_
                refine z_aload C 2 dX1_isSame_342 rfl ?_
                refine z_iconst (v := 0) C dX1_isSame_344 (by decide) ?_
                refine z_mget (x := (xl v) i) C 0 rfl 0 rfl (by decide) (show i < xn v from by omega) rfl dX1_isSame_345 ?_
                refine z_iadd C dX1_isSame_346 ?_
                refine z_istore (L' := [(6, .int ((sumI (xl v) i) + ((xl v) i))), (5, .int (clrI (xa v) (i + 1))), (4, .int ((sumI (xa v) i) + ((xa v) i))), (8, .ref (gM G i)), (0, .ref (gO G)), (1, .ref (hh 0)), (2, .int (nI (xn v))), (3, .int ((lukN (xl v) i).1)), (7, .int (nI i))]) C dX1_isSame_347 (by decide) rfl ?_
                refine z_iinc (v := nI (i + 1)) (L' := [(7, .int (nI (i + 1))), (6, .int ((sumI (xl v) i) + ((xl v) i))), (5, .int (clrI (xa v) (i + 1))), (4, .int ((sumI (xa v) i) + ((xa v) i))), (8, .ref (gM G i)), (0, .ref (gO G)), (1, .ref (hh 0)), (2, .int (nI (xn v))), (3, .int ((lukN (xl v) i).1))]) C 8 dX1_isSame_349 rfl (z_inc _) (by decide) rfl ?_
                refine z_goto (tgt := 178) C dX1_isSame_352 (by decide) ?_
                refine z_sub (L' := [(0, .ref (gO G)), (1, .ref (hh 0)), (2, .int (nI (xn v))), (3, .int ((lukN (xl v) i).1)), (4, .int ((sumI (xa v) i) + ((xa v) i))), (5, .int (clrI (xa v) (i + 1))), (6, .int ((sumI (xl v) i) + ((xl v) i))), (7, .int (nI (i + 1)))]) [5, 6, 7, 8, 3, 2, 1, 0] rfl ?_
                exact (by have e9 := ih (i + 1) (by omega); rw [show lukN (xl v) (i + 1) = lukN (xl v) i from if_pos (by rw [hb2]; exact c308)] at e9; exact e9)
            · skip
              refine z_iload C 8 dX1_isSame_311 rfl ?_
              refine z_istore_n (L' := [(3, .int (nI i)), (8, .ref (gM G i)), (0, .ref (gO G)), (1, .ref (hh 0)), (2, .int (nI (xn v))), (4, .int (sumI (xa v) i)), (5, .int (clrI (xa v) i)), (6, .int (sumI (xl v) i)), (7, .int (nI i))]) C dX1_isSame_313 rfl (by decide) rfl ?_
              refine z_iload C 5 dX1_isSame_314 rfl ?_
              refine z_aload C 1 dX1_isSame_316 rfl ?_
              refine z_iconst (v := 1) C dX1_isSame_318 (by decide) ?_
              refine z_mget (x := (xa v) i) C 0 rfl 1 rfl (by decide) (show i < xn v from by omega) rfl dX1_isSame_319 ?_
              refine z_iadd C dX1_isSame_320 ?_
              refine z_istore (L' := [(4, .int ((sumI (xa v) i) + ((xa v) i))), (3, .int (nI i)), (8, .ref (gM G i)), (0, .ref (gO G)), (1, .ref (hh 0)), (2, .int (nI (xn v))), (5, .int (clrI (xa v) i)), (6, .int (sumI (xl v) i)), (7, .int (nI i))]) C dX1_isSame_321 (by decide) rfl ?_
              refine z_iload C 6 dX1_isSame_323 rfl ?_
              refine z_aload C 2 dX1_isSame_325 rfl ?_
              refine z_iconst (v := 1) C dX1_isSame_327 (by decide) ?_
              refine z_mget (x := (xa v) i) C 0 rfl 1 rfl (by decide) (show i < xn v from by omega) rfl dX1_isSame_328 ?_
              refine z_if_ne (tgt := 336) C dX1_isSame_329 (by decide) (fun c329 => ?_) (fun c329 => ?_)
              · skip
                refine z_iconst (v := 0) C dX1_isSame_336 (by decide) ?_
                refine z_iadd C dX1_isSame_337 ?_
                refine z_top (y := clrI (xa v) (i + 1)) (show clrI (xa v) i + 0 = (if xa v i = 0 then clrI (xa v) i + 1 else clrI (xa v) i) from by rw [if_neg c329, Int32.add_zero]) ?_
                refine z_istore (L' := [(5, .int (clrI (xa v) (i + 1))), (4, .int ((sumI (xa v) i) + ((xa v) i))), (3, .int (nI i)), (8, .ref (gM G i)), (0, .ref (gO G)), (1, .ref (hh 0)), (2, .int (nI (xn v))), (6, .int (sumI (xl v) i)), (7, .int (nI i))]) C dX1_isSame_338 (by decide) rfl ?_
                refine z_iload C 7 dX1_isSame_340 rfl ?_
                refine z_aload C 3 dX1_isSame_342 rfl ?_
                refine z_iconst (v := 0) C dX1_isSame_344 (by decide) ?_
                refine z_mget (x := (xl v) i) C 0 rfl 0 rfl (by decide) (show i < xn v from by omega) rfl dX1_isSame_345 ?_
                refine z_iadd C dX1_isSame_346 ?_
                refine z_istore (L' := [(6, .int ((sumI (xl v) i) + ((xl v) i))), (5, .int (clrI (xa v) (i + 1))), (4, .int ((sumI (xa v) i) + ((xa v) i))), (3, .int (nI i)), (8, .ref (gM G i)), (0, .ref (gO G)), (1, .ref (hh 0)), (2, .int (nI (xn v))), (7, .int (nI i))]) C dX1_isSame_347 (by decide) rfl ?_
                refine z_iinc (v := nI (i + 1)) (L' := [(7, .int (nI (i + 1))), (6, .int ((sumI (xl v) i) + ((xl v) i))), (5, .int (clrI (xa v) (i + 1))), (4, .int ((sumI (xa v) i) + ((xa v) i))), (3, .int (nI i)), (8, .ref (gM G i)), (0, .ref (gO G)), (1, .ref (hh 0)), (2, .int (nI (xn v)))]) C 8 dX1_isSame_349 rfl (z_inc _) (by decide) rfl ?_
                refine z_goto (tgt := 178) C dX1_isSame_352 (by decide) ?_
                refine z_sub (L' := [(0, .ref (gO G)), (1, .ref (hh 0)), (2, .int (nI (xn v))), (3, .int (nI i)), (4, .int ((sumI (xa v) i) + ((xa v) i))), (5, .int (clrI (xa v) (i + 1))), (6, .int ((sumI (xl v) i) + ((xl v) i))), (7, .int (nI (i + 1)))]) [6, 7, 8, 4, 3, 2, 1, 0] rfl ?_
                exact (by have e9 := ih (i + 1) (by omega); rw [show lukN (xl v) (i + 1) = (nI i, xl v i) from if_neg (by rw [hb2]; exact c308)] at e9; exact e9)
              · skip
                refine z_iconst (v := 1) C dX1_isSame_332 (by decide) ?_
                refine z_goto (tgt := 337) C dX1_isSame_333 (by decide) ?_
                refine z_iadd C dX1_isSame_337 ?_
                refine z_top (y := clrI (xa v) (i + 1)) (show clrI (xa v) i + 1 = (if xa v i = 0 then clrI (xa v) i + 1 else clrI (xa v) i) from by rw [if_pos c329]) ?_
                refine z_istore (L' := [(5, .int (clrI (xa v) (i + 1))), (4, .int ((sumI (xa v) i) + ((xa v) i))), (3, .int (nI i)), (8, .ref (gM G i)), (0, .ref (gO G)), (1, .ref (hh 0)), (2, .int (nI (xn v))), (6, .int (sumI (xl v) i)), (7, .int (nI i))]) C dX1_isSame_338 (by decide) rfl ?_
                refine z_iload C 7 dX1_isSame_340 rfl ?_
                refine z_aload C 3 dX1_isSame_342 rfl ?_
                refine z_iconst (v := 0) C dX1_isSame_344 (by decide) ?_
                refine z_mget (x := (xl v) i) C 0 rfl 0 rfl (by decide) (show i < xn v from by omega) rfl dX1_isSame_345 ?_
                refine z_iadd C dX1_isSame_346 ?_
                refine z_istore (L' := [(6, .int ((sumI (xl v) i) + ((xl v) i))), (5, .int (clrI (xa v) (i + 1))), (4, .int ((sumI (xa v) i) + ((xa v) i))), (3, .int (nI i)), (8, .ref (gM G i)), (0, .ref (gO G)), (1, .ref (hh 0)), (2, .int (nI (xn v))), (7, .int (nI i))]) C dX1_isSame_347 (by decide) rfl ?_
                refine z_iinc (v := nI (i + 1)) (L' := [(7, .int (nI (i + 1))), (6, .int ((sumI (xl v) i) + ((xl v) i))), (5, .int (clrI (xa v) (i + 1))), (4, .int ((sumI (xa v) i) + ((xa v) i))), (3, .int (nI i)), (8, .ref (gM G i)), (0, .ref (gO G)), (1, .ref (hh 0)), (2, .int (nI (xn v)))]) C 8 dX1_isSame_349 rfl (z_inc _) (by decide) rfl ?_
                refine z_goto (tgt := 178) C dX1_isSame_352 (by decide) ?_
                refine z_sub (L' := [(0, .ref (gO G)), (1, .ref (hh 0)), (2, .int (nI (xn v))), (3, .int (nI i)), (4, .int ((sumI (xa v) i) + ((xa v) i))), (5, .int (clrI (xa v) (i + 1))), (6, .int ((sumI (xl v) i) + ((xl v) i))), (7, .int (nI (i + 1)))]) [6, 7, 8, 4, 3, 2, 1, 0] rfl ?_
                exact (by have e9 := ih (i + 1) (by omega); rw [show lukN (xl v) (i + 1) = (nI i, xl v i) from if_neg (by rw [hb2]; exact c308)] at e9; exact e9)
      · skip
        refine z_iconst (v := 0) C dX1_isSame_245 (by decide) ?_
        refine z_goto (tgt := 272) C dX1_isSame_246 (by decide) ?_
        refine z_icmp_ne (tgt := 290) C dX1_isSame_272 (by decide) (fun h9 => absurd h9 ((fun q => q (s_loss0 c242)))) (fun _ => ?_)
        refine z_aload_n C 2 dX1_isSame_275 rfl rfl ?_
        refine z_iload C 8 dX1_isSame_276 rfl ?_
        refine z_callV (w := (wX0 hh cI cZ v)) (w' := (wX0 hh cI cZ v)) (w1 := ([] : va_W)) (w2 := (([] : va_W) ++ (wS G cI cP v))) (ws' := ((wX0 hh cI cZ v) ++ (wS G cI cP v))) (As := [.int (nI i)]) (rest := []) (st' := [.int (xdebt v (nI i))]) (rv := some (.int (xdebt v (nI i)))) C (c_X0_arrearsByAudit l D hh cI cZ v i (by omega) (by omega) (by omega)) (cwV 1 C.words gX1_isSame_X0_arrearsByAudit rfl rfl rfl (by decide +kernel) ⟨(Nat.le_of_ble_eq_true rfl), (Nat.le_of_ble_eq_true rfl)⟩) (q0 := 0) (ci := 0) rfl rfl rfl [0, 1] rfl rfl (Nat.le_of_ble_eq_true rfl) ⟨(Nat.le_of_ble_eq_true rfl), (Nat.le_of_ble_eq_true rfl)⟩ rfl rfl rfl rfl rfl dX1_isSame_278 ?_
        refine z_aload_n C 1 dX1_isSame_281 rfl rfl ?_
        refine z_iload C 8 dX1_isSame_282 rfl ?_
        refine z_callVX (w := (wS G cI cP v)) (w1 := (wX0 hh cI cZ v)) (w2 := ([] : va_W)) (As := [.int (nI i)]) (rest := [.int (xdebt v (nI i))]) C (c_X1_adds l D cI cP G v (nI i) hk30) (hAA.call _) zAA.blind (cwV 1 C.words gX1_isSame_X1_adds rfl rfl rfl (by decide +kernel) ⟨(Nat.le_of_ble_eq_true rfl), (Nat.le_of_ble_eq_true rfl)⟩) (q0 := 0) (ci := 1) rfl rfl rfl [0, 2] rfl rfl (Nat.le_of_ble_eq_true rfl) ⟨(Nat.le_of_ble_eq_true rfl), (Nat.le_of_ble_eq_true rfl)⟩ (List.append_nil _).symm rfl dX1_isSame_284 (fun x9 _ => ?_)
        refine z_ws (List.append_nil _) ?_
        refine z_st (st' := [.int (xdebt v (nI i)), .int (xdebt v (nI i))]) rfl ?_
        refine z_icmp_eq (tgt := 292) C dX1_isSame_287 (by decide) (fun _ => ?_) (fun h9 => absurd (rfl) h9)
        refine z_iload_n C 4 dX1_isSame_292 rfl rfl ?_
        refine z_if_lt (tgt := 311) C dX1_isSame_293 (by decide) (fun c293 => ?_) (fun c293 => ?_)
        · skip
          refine z_iload C 8 dX1_isSame_311 rfl ?_
          refine z_istore_n (L' := [(3, .int (nI i)), (8, .ref (gM G i)), (0, .ref (gO G)), (1, .ref (hh 0)), (2, .int (nI (xn v))), (4, .int (sumI (xa v) i)), (5, .int (clrI (xa v) i)), (6, .int (sumI (xl v) i)), (7, .int (nI i))]) C dX1_isSame_313 rfl (by decide) rfl ?_
          refine z_iload C 5 dX1_isSame_314 rfl ?_
          refine z_aload C 1 dX1_isSame_316 rfl ?_
          refine z_iconst (v := 1) C dX1_isSame_318 (by decide) ?_
          refine z_mget (x := (xa v) i) C 0 rfl 1 rfl (by decide) (show i < xn v from by omega) rfl dX1_isSame_319 ?_
          refine z_iadd C dX1_isSame_320 ?_
          refine z_istore (L' := [(4, .int ((sumI (xa v) i) + ((xa v) i))), (3, .int (nI i)), (8, .ref (gM G i)), (0, .ref (gO G)), (1, .ref (hh 0)), (2, .int (nI (xn v))), (5, .int (clrI (xa v) i)), (6, .int (sumI (xl v) i)), (7, .int (nI i))]) C dX1_isSame_321 (by decide) rfl ?_
          refine z_iload C 6 dX1_isSame_323 rfl ?_
          refine z_aload C 2 dX1_isSame_325 rfl ?_
          refine z_iconst (v := 1) C dX1_isSame_327 (by decide) ?_
          refine z_mget (x := (xa v) i) C 0 rfl 1 rfl (by decide) (show i < xn v from by omega) rfl dX1_isSame_328 ?_
          refine z_if_ne (tgt := 336) C dX1_isSame_329 (by decide) (fun c329 => ?_) (fun c329 => ?_)
          · skip
            refine z_iconst (v := 0) C dX1_isSame_336 (by decide) ?_
            refine z_iadd C dX1_isSame_337 ?_
            refine z_top (y := clrI (xa v) (i + 1)) (show clrI (xa v) i + 0 = (if xa v i = 0 then clrI (xa v) i + 1 else clrI (xa v) i) from by rw [if_neg c329, Int32.add_zero]) ?_
            refine z_istore (L' := [(5, .int (clrI (xa v) (i + 1))), (4, .int ((sumI (xa v) i) + ((xa v) i))), (3, .int (nI i)), (8, .ref (gM G i)), (0, .ref (gO G)), (1, .ref (hh 0)), (2, .int (nI (xn v))), (6, .int (sumI (xl v) i)), (7, .int (nI i))]) C dX1_isSame_338 (by decide) rfl ?_
            refine z_iload C 7 dX1_isSame_340 rfl ?_
            refine z_aload C 3 dX1_isSame_342 rfl ?_
            refine z_iconst (v := 0) C dX1_isSame_344 (by decide) ?_
            refine z_mget (x := (xl v) i) C 0 rfl 0 rfl (by decide) (show i < xn v from by omega) rfl dX1_isSame_345 ?_
            refine z_iadd C dX1_isSame_346 ?_
            refine z_istore (L' := [(6, .int ((sumI (xl v) i) + ((xl v) i))), (5, .int (clrI (xa v) (i + 1))), (4, .int ((sumI (xa v) i) + ((xa v) i))), (3, .int (nI i)), (8, .ref (gM G i)), (0, .ref (gO G)), (1, .ref (hh 0)), (2, .int (nI (xn v))), (7, .int (nI i))]) C dX1_isSame_347 (by decide) rfl ?_
            refine z_iinc (v := nI (i + 1)) (L' := [(7, .int (nI (i + 1))), (6, .int ((sumI (xl v) i) + ((xl v) i))), (5, .int (clrI (xa v) (i + 1))), (4, .int ((sumI (xa v) i) + ((xa v) i))), (3, .int (nI i)), (8, .ref (gM G i)), (0, .ref (gO G)), (1, .ref (hh 0)), (2, .int (nI (xn v)))]) C 8 dX1_isSame_349 rfl (z_inc _) (by decide) rfl ?_
            refine z_goto (tgt := 178) C dX1_isSame_352 (by decide) ?_
            refine z_sub (L' := [(0, .ref (gO G)), (1, .ref (hh 0)), (2, .int (nI (xn v))), (3, .int (nI i)), (4, .int ((sumI (xa v) i) + ((xa v) i))), (5, .int (clrI (xa v) (i + 1))), (6, .int ((sumI (xl v) i) + ((xl v) i))), (7, .int (nI (i + 1)))]) [6, 7, 8, 4, 3, 2, 1, 0] rfl ?_
            exact (by have e9 := ih (i + 1) (by omega); rw [luk_lt hI (by omega) c293] at e9; exact e9)
          · skip
            refine z_iconst (v := 1) C dX1_isSame_332 (by decide) ?_
            refine z_goto (tgt := 337) C dX1_isSame_333 (by decide) ?_
            refine z_iadd C dX1_isSame_337 ?_
            refine z_top (y := clrI (xa v) (i + 1)) (show clrI (xa v) i + 1 = (if xa v i = 0 then clrI (xa v) i + 1 else clrI (xa v) i) from by rw [if_pos c329]) ?_
            refine z_istore (L' := [(5, .int (clrI (xa v) (i + 1))), (4, .int ((sumI (xa v) i) + ((xa v) i))), (3, .int (nI i)), (8, .ref (gM G i)), (0, .ref (gO G)), (1, .ref (hh 0)), (2, .int (nI (xn v))), (6, .int (sumI (xl v) i)), (7, .int (nI i))]) C dX1_isSame_338 (by decide) rfl ?_
            refine z_iload C 7 dX1_isSame_340 rfl ?_
            refine z_aload C 3 dX1_isSame_342 rfl ?_
            refine z_iconst (v := 0) C dX1_isSame_344 (by decide) ?_
            refine z_mget (x := (xl v) i) C 0 rfl 0 rfl (by decide) (show i < xn v from by omega) rfl dX1_isSame_345 ?_
            refine z_iadd C dX1_isSame_346 ?_
            refine z_istore (L' := [(6, .int ((sumI (xl v) i) + ((xl v) i))), (5, .int (clrI (xa v) (i + 1))), (4, .int ((sumI (xa v) i) + ((xa v) i))), (3, .int (nI i)), (8, .ref (gM G i)), (0, .ref (gO G)), (1, .ref (hh 0)), (2, .int (nI (xn v))), (7, .int (nI i))]) C dX1_isSame_347 (by decide) rfl ?_
            refine z_iinc (v := nI (i + 1)) (L' := [(7, .int (nI (i + 1))), (6, .int ((sumI (xl v) i) + ((xl v) i))), (5, .int (clrI (xa v) (i + 1))), (4, .int ((sumI (xa v) i) + ((xa v) i))), (3, .int (nI i)), (8, .ref (gM G i)), (0, .ref (gO G)), (1, .ref (hh 0)), (2, .int (nI (xn v)))]) C 8 dX1_isSame_349 rfl (z_inc _) (by decide) rfl ?_
            refine z_goto (tgt := 178) C dX1_isSame_352 (by decide) ?_
            refine z_sub (L' := [(0, .ref (gO G)), (1, .ref (hh 0)), (2, .int (nI (xn v))), (3, .int (nI i)), (4, .int ((sumI (xa v) i) + ((xa v) i))), (5, .int (clrI (xa v) (i + 1))), (6, .int ((sumI (xl v) i) + ((xl v) i))), (7, .int (nI (i + 1)))]) [6, 7, 8, 4, 3, 2, 1, 0] rfl ?_
            exact (by have e9 := ih (i + 1) (by omega); rw [luk_lt hI (by omega) c293] at e9; exact e9)
        · skip
          obtain ⟨b, hb1, hb2⟩ := luk_ge hI (i := i) (by omega) c293
          refine z_aload C 0 dX1_isSame_296 rfl ?_
          refine z_iconst (v := 0) C dX1_isSame_298 (by decide) ?_
          refine z_mget (x := (xl v) i) C 0 rfl 0 rfl (by decide) (show i < xn v from by omega) rfl dX1_isSame_299 ?_
          refine z_aload_n C 1 dX1_isSame_300 rfl rfl ?_
          refine z_sget (v := .ref (gA G)) C ins 3 (by decide) rfl wd1 dX1_isSame_301 ?_
          refine z_iload_n C 4 dX1_isSame_304 rfl rfl ?_
          refine z_mrow C 2 rfl b (congrArg Prod.fst hb2) (show b < xn v from by omega) hn8 dX1_isSame_305 ?_
          refine z_iconst (v := 0) C dX1_isSame_306 (by decide) ?_
          refine z_mget (x := (xl v) b) C 0 rfl 0 rfl (by decide) (show b < xn v from by omega) rfl dX1_isSame_307 ?_
          refine z_icmp_le (tgt := 314) C dX1_isSame_308 (by decide) (fun c308 => ?_) (fun c308 => ?_)
          · skip
            refine z_iload C 5 dX1_isSame_314 rfl ?_
            refine z_aload C 0 dX1_isSame_316 rfl ?_
            refine z_iconst (v := 1) C dX1_isSame_318 (by decide) ?_
            refine z_mget (x := (xa v) i) C 0 rfl 1 rfl (by decide) (show i < xn v from by omega) rfl dX1_isSame_319 ?_
            refine z_iadd C dX1_isSame_320 ?_
            refine z_istore (L' := [(4, .int ((sumI (xa v) i) + ((xa v) i))), (8, .ref (gM G i)), (0, .ref (gO G)), (1, .ref (hh 0)), (2, .int (nI (xn v))), (3, .int ((lukN (xl v) i).1)), (5, .int (clrI (xa v) i)), (6, .int (sumI (xl v) i)), (7, .int (nI i))]) C dX1_isSame_321 (by decide) rfl ?_
            refine z_iload C 6 dX1_isSame_323 rfl ?_
            refine z_aload C 1 dX1_isSame_325 rfl ?_
            refine z_iconst (v := 1) C dX1_isSame_327 (by decide) ?_
            refine z_mget (x := (xa v) i) C 0 rfl 1 rfl (by decide) (show i < xn v from by omega) rfl dX1_isSame_328 ?_
            refine z_if_ne (tgt := 336) C dX1_isSame_329 (by decide) (fun c329 => ?_) (fun c329 => ?_)
            · skip
              refine z_iconst (v := 0) C dX1_isSame_336 (by decide) ?_
              refine z_iadd C dX1_isSame_337 ?_
              refine z_top (y := clrI (xa v) (i + 1)) (show clrI (xa v) i + 0 = (if xa v i = 0 then clrI (xa v) i + 1 else clrI (xa v) i) from by rw [if_neg c329, Int32.add_zero]) ?_
              refine z_istore (L' := [(5, .int (clrI (xa v) (i + 1))), (4, .int ((sumI (xa v) i) + ((xa v) i))), (8, .ref (gM G i)), (0, .ref (gO G)), (1, .ref (hh 0)), (2, .int (nI (xn v))), (3, .int ((lukN (xl v) i).1)), (6, .int (sumI (xl v) i)), (7, .int (nI i))]) C dX1_isSame_338 (by decide) rfl ?_
              refine z_iload C 7 dX1_isSame_340 rfl ?_
              refine z_aload C 2 dX1_isSame_342 rfl ?_
              refine z_iconst (v := 0) C dX1_isSame_344 (by decide) ?_
              refine z_mget (x := (xl v) i) C 0 rfl 0 rfl (by decide) (show i < xn v from by omega) rfl dX1_isSame_345 ?_
              refine z_iadd C dX1_isSame_346 ?_
              refine z_istore (L' := [(6, .int ((sumI (xl v) i) + ((xl v) i))), (5, .int (clrI (xa v) (i + 1))), (4, .int ((sumI (xa v) i) + ((xa v) i))), (8, .ref (gM G i)), (0, .ref (gO G)), (1, .ref (hh 0)), (2, .int (nI (xn v))), (3, .int ((lukN (xl v) i).1)), (7, .int (nI i))]) C dX1_isSame_347 (by decide) rfl ?_
              refine z_iinc (v := nI (i + 1)) (L' := [(7, .int (nI (i + 1))), (6, .int ((sumI (xl v) i) + ((xl v) i))), (5, .int (clrI (xa v) (i + 1))), (4, .int ((sumI (xa v) i) + ((xa v) i))), (8, .ref (gM G i)), (0, .ref (gO G)), (1, .ref (hh 0)), (2, .int (nI (xn v))), (3, .int ((lukN (xl v) i).1))]) C 8 dX1_isSame_349 rfl (z_inc _) (by decide) rfl ?_
              refine z_goto (tgt := 178) C dX1_isSame_352 (by decide) ?_
              refine z_sub (L' := [(0, .ref (gO G)), (1, .ref (hh 0)), (2, .int (nI (xn v))), (3, .int ((lukN (xl v) i).1)), (4, .int ((sumI (xa v) i) + ((xa v) i))), (5, .int (clrI (xa v) (i + 1))), (6, .int ((sumI (xl v) i) + ((xl v) i))), (7, .int (nI (i + 1)))]) [5, 6, 7, 8, 3, 2, 1, 0] rfl ?_
              exact (by have e9 := ih (i + 1) (by omega); rw [show lukN (xl v) (i + 1) = lukN (xl v) i from if_pos (by rw [hb2]; exact c308)] at e9; exact e9)
            · skip
              refine z_iconst (v := 1) C dX1_isSame_332 (by decide) ?_
              refine z_goto (tgt := 337) C dX1_isSame_333 (by decide) ?_
              refine z_iadd C dX1_isSame_337 ?_
              refine z_top (y := clrI (xa v) (i + 1)) (show clrI (xa v) i + 1 = (if xa v i = 0 then clrI (xa v) i + 1 else clrI (xa v) i) from by rw [if_pos c329]) ?_
              refine z_istore (L' := [(5, .int (clrI (xa v) (i + 1))), (4, .int ((sumI (xa v) i) + ((xa v) i))), (8, .ref (gM G i)), (0, .ref (gO G)), (1, .ref (hh 0)), (2, .int (nI (xn v))), (3, .int ((lukN (xl v) i).1)), (6, .int (sumI (xl v) i)), (7, .int (nI i))]) C dX1_isSame_338 (by decide) rfl ?_
              refine z_iload C 7 dX1_isSame_340 rfl ?_
              refine z_aload C 2 dX1_isSame_342 rfl ?_
              refine z_iconst (v := 0) C dX1_isSame_344 (by decide) ?_
              refine z_mget (x := (xl v) i) C 0 rfl 0 rfl (by decide) (show i < xn v from by omega) rfl dX1_isSame_345 ?_
              refine z_iadd C dX1_isSame_346 ?_
              refine z_istore (L' := [(6, .int ((sumI (xl v) i) + ((xl v) i))), (5, .int (clrI (xa v) (i + 1))), (4, .int ((sumI (xa v) i) + ((xa v) i))), (8, .ref (gM G i)), (0, .ref (gO G)), (1, .ref (hh 0)), (2, .int (nI (xn v))), (3, .int ((lukN (xl v) i).1)), (7, .int (nI i))]) C dX1_isSame_347 (by decide) rfl ?_
              refine z_iinc (v := nI (i + 1)) (L' := [(7, .int (nI (i + 1))), (6, .int ((sumI (xl v) i) + ((xl v) i))), (5, .int (clrI (xa v) (i + 1))), (4, .int ((sumI (xa v) i) + ((xa v) i))), (8, .ref (gM G i)), (0, .ref (gO G)), (1, .ref (hh 0)), (2, .int (nI (xn v))), (3, .int ((lukN (xl v) i).1))]) C 8 dX1_isSame_349 rfl (z_inc _) (by decide) rfl ?_
              refine z_goto (tgt := 178) C dX1_isSame_352 (by decide) ?_
              refine z_sub (L' := [(0, .ref (gO G)), (1, .ref (hh 0)), (2, .int (nI (xn v))), (3, .int ((lukN (xl v) i).1)), (4, .int ((sumI (xa v) i) + ((xa v) i))), (5, .int (clrI (xa v) (i + 1))), (6, .int ((sumI (xl v) i) + ((xl v) i))), (7, .int (nI (i + 1)))]) [5, 6, 7, 8, 3, 2, 1, 0] rfl ?_
              exact (by have e9 := ih (i + 1) (by omega); rw [show lukN (xl v) (i + 1) = lukN (xl v) i from if_pos (by rw [hb2]; exact c308)] at e9; exact e9)
          · skip
            refine z_iload C 8 dX1_isSame_311 rfl ?_
            refine z_istore_n (L' := [(3, .int (nI i)), (8, .ref (gM G i)), (0, .ref (gO G)), (1, .ref (hh 0)), (2, .int (nI (xn v))), (4, .int (sumI (xa v) i)), (5, .int (clrI (xa v) i)), (6, .int (sumI (xl v) i)), (7, .int (nI i))]) C dX1_isSame_313 rfl (by decide) rfl ?_
            refine z_iload C 5 dX1_isSame_314 rfl ?_
            refine z_aload C 1 dX1_isSame_316 rfl ?_
            refine z_iconst (v := 1) C dX1_isSame_318 (by decide) ?_
            refine z_mget (x := (xa v) i) C 0 rfl 1 rfl (by decide) (show i < xn v from by omega) rfl dX1_isSame_319 ?_
            refine z_iadd C dX1_isSame_320 ?_
            refine z_istore (L' := [(4, .int ((sumI (xa v) i) + ((xa v) i))), (3, .int (nI i)), (8, .ref (gM G i)), (0, .ref (gO G)), (1, .ref (hh 0)), (2, .int (nI (xn v))), (5, .int (clrI (xa v) i)), (6, .int (sumI (xl v) i)), (7, .int (nI i))]) C dX1_isSame_321 (by decide) rfl ?_
            refine z_iload C 6 dX1_isSame_323 rfl ?_
            refine z_aload C 2 dX1_isSame_325 rfl ?_
            refine z_iconst (v := 1) C dX1_isSame_327 (by decide) ?_
            refine z_mget (x := (xa v) i) C 0 rfl 1 rfl (by decide) (show i < xn v from by omega) rfl dX1_isSame_328 ?_
            refine z_if_ne (tgt := 336) C dX1_isSame_329 (by decide) (fun c329 => ?_) (fun c329 => ?_)
            · skip
              refine z_iconst (v := 0) C dX1_isSame_336 (by decide) ?_
              refine z_iadd C dX1_isSame_337 ?_
              refine z_top (y := clrI (xa v) (i + 1)) (show clrI (xa v) i + 0 = (if xa v i = 0 then clrI (xa v) i + 1 else clrI (xa v) i) from by rw [if_neg c329, Int32.add_zero]) ?_
              refine z_istore (L' := [(5, .int (clrI (xa v) (i + 1))), (4, .int ((sumI (xa v) i) + ((xa v) i))), (3, .int (nI i)), (8, .ref (gM G i)), (0, .ref (gO G)), (1, .ref (hh 0)), (2, .int (nI (xn v))), (6, .int (sumI (xl v) i)), (7, .int (nI i))]) C dX1_isSame_338 (by decide) rfl ?_
              refine z_iload C 7 dX1_isSame_340 rfl ?_
              refine z_aload C 3 dX1_isSame_342 rfl ?_
              refine z_iconst (v := 0) C dX1_isSame_344 (by decide) ?_
              refine z_mget (x := (xl v) i) C 0 rfl 0 rfl (by decide) (show i < xn v from by omega) rfl dX1_isSame_345 ?_
              refine z_iadd C dX1_isSame_346 ?_
              refine z_istore (L' := [(6, .int ((sumI (xl v) i) + ((xl v) i))), (5, .int (clrI (xa v) (i + 1))), (4, .int ((sumI (xa v) i) + ((xa v) i))), (3, .int (nI i)), (8, .ref (gM G i)), (0, .ref (gO G)), (1, .ref (hh 0)), (2, .int (nI (xn v))), (7, .int (nI i))]) C dX1_isSame_347 (by decide) rfl ?_
              refine z_iinc (v := nI (i + 1)) (L' := [(7, .int (nI (i + 1))), (6, .int ((sumI (xl v) i) + ((xl v) i))), (5, .int (clrI (xa v) (i + 1))), (4, .int ((sumI (xa v) i) + ((xa v) i))), (3, .int (nI i)), (8, .ref (gM G i)), (0, .ref (gO G)), (1, .ref (hh 0)), (2, .int (nI (xn v)))]) C 8 dX1_isSame_349 rfl (z_inc _) (by decide) rfl ?_
              refine z_goto (tgt := 178) C dX1_isSame_352 (by decide) ?_
              refine z_sub (L' := [(0, .ref (gO G)), (1, .ref (hh 0)), (2, .int (nI (xn v))), (3, .int (nI i)), (4, .int ((sumI (xa v) i) + ((xa v) i))), (5, .int (clrI (xa v) (i + 1))), (6, .int ((sumI (xl v) i) + ((xl v) i))), (7, .int (nI (i + 1)))]) [6, 7, 8, 4, 3, 2, 1, 0] rfl ?_
              exact (by have e9 := ih (i + 1) (by omega); rw [show lukN (xl v) (i + 1) = (nI i, xl v i) from if_neg (by rw [hb2]; exact c308)] at e9; exact e9)
            · skip
              refine z_iconst (v := 1) C dX1_isSame_332 (by decide) ?_
              refine z_goto (tgt := 337) C dX1_isSame_333 (by decide) ?_
              refine z_iadd C dX1_isSame_337 ?_
              refine z_top (y := clrI (xa v) (i + 1)) (show clrI (xa v) i + 1 = (if xa v i = 0 then clrI (xa v) i + 1 else clrI (xa v) i) from by rw [if_pos c329]) ?_
              refine z_istore (L' := [(5, .int (clrI (xa v) (i + 1))), (4, .int ((sumI (xa v) i) + ((xa v) i))), (3, .int (nI i)), (8, .ref (gM G i)), (0, .ref (gO G)), (1, .ref (hh 0)), (2, .int (nI (xn v))), (6, .int (sumI (xl v) i)), (7, .int (nI i))]) C dX1_isSame_338 (by decide) rfl ?_
              refine z_iload C 7 dX1_isSame_340 rfl ?_
              refine z_aload C 3 dX1_isSame_342 rfl ?_
              refine z_iconst (v := 0) C dX1_isSame_344 (by decide) ?_
              refine z_mget (x := (xl v) i) C 0 rfl 0 rfl (by decide) (show i < xn v from by omega) rfl dX1_isSame_345 ?_
              refine z_iadd C dX1_isSame_346 ?_
              refine z_istore (L' := [(6, .int ((sumI (xl v) i) + ((xl v) i))), (5, .int (clrI (xa v) (i + 1))), (4, .int ((sumI (xa v) i) + ((xa v) i))), (3, .int (nI i)), (8, .ref (gM G i)), (0, .ref (gO G)), (1, .ref (hh 0)), (2, .int (nI (xn v))), (7, .int (nI i))]) C dX1_isSame_347 (by decide) rfl ?_
              refine z_iinc (v := nI (i + 1)) (L' := [(7, .int (nI (i + 1))), (6, .int ((sumI (xl v) i) + ((xl v) i))), (5, .int (clrI (xa v) (i + 1))), (4, .int ((sumI (xa v) i) + ((xa v) i))), (3, .int (nI i)), (8, .ref (gM G i)), (0, .ref (gO G)), (1, .ref (hh 0)), (2, .int (nI (xn v)))]) C 8 dX1_isSame_349 rfl (z_inc _) (by decide) rfl ?_
              refine z_goto (tgt := 178) C dX1_isSame_352 (by decide) ?_
              refine z_sub (L' := [(0, .ref (gO G)), (1, .ref (hh 0)), (2, .int (nI (xn v))), (3, .int (nI i)), (4, .int ((sumI (xa v) i) + ((xa v) i))), (5, .int (clrI (xa v) (i + 1))), (6, .int ((sumI (xl v) i) + ((xl v) i))), (7, .int (nI (i + 1)))]) [6, 7, 8, 4, 3, 2, 1, 0] rfl ?_
              exact (by have e9 := ih (i + 1) (by omega); rw [show lukN (xl v) (i + 1) = (nI i, xl v i) from if_neg (by rw [hb2]; exact c308)] at e9; exact e9)
  have lp74 : ∀ (dd i : Nat), i + dd = xk v → zG p l e ({ frames := 2, cells := 0, slots := 0, locals := 44 } : Room) s m args below meth c D 9 A 0 0 (MQ below (zQX (fun _ : Unit => True) (fun _ => some (.int 1)) (fun _ => wX0 hh cI cZ v ++ wS G cI cP v) D A) args s 0 0 A) 74 [(0, .ref (gO G)), (1, .ref (hh 0)), (2, .int (nI (xn v))), (3, .int (nI i))] [] ((wX0 hh cI cZ v) ++ (wS G cI cP v)) := by
    intro dd
    induction dd with
    | zero =>
      intro i hi
      have hi : i = xk v := by omega
      subst hi
      refine z_iload_n C 3 dX1_isSame_74 rfl rfl ?_
      refine z_aload_n C 0 dX1_isSame_75 rfl rfl ?_
      refine z_sget (v := .ref (gB G)) C ins 4 (by decide) rfl wd2 dX1_isSame_76 ?_
      refine z_alenB C 2 rfl dX1_isSame_79 ?_
      refine z_icmp_ge (tgt := 164) C dX1_isSame_80 (by decide) (fun _ => ?_) (fun h9 => absurd (nI_le (by omega) (by omega)) h9)
      refine z_iconst (v := -1) C dX1_isSame_164 (by decide) ?_
      refine z_istore_n (L' := [(3, .int (-1)), (0, .ref (gO G)), (1, .ref (hh 0)), (2, .int (nI (xn v)))]) C dX1_isSame_165 rfl (by decide) rfl ?_
      refine z_iconst (v := 0) C dX1_isSame_166 (by decide) ?_
      refine z_istore (L' := [(4, .int 0), (3, .int (-1)), (0, .ref (gO G)), (1, .ref (hh 0)), (2, .int (nI (xn v)))]) C dX1_isSame_167 (by decide) rfl ?_
      refine z_iconst (v := 0) C dX1_isSame_169 (by decide) ?_
      refine z_istore (L' := [(5, .int 0), (4, .int 0), (3, .int (-1)), (0, .ref (gO G)), (1, .ref (hh 0)), (2, .int (nI (xn v)))]) C dX1_isSame_170 (by decide) rfl ?_
      refine z_iconst (v := 0) C dX1_isSame_172 (by decide) ?_
      refine z_istore (L' := [(6, .int 0), (5, .int 0), (4, .int 0), (3, .int (-1)), (0, .ref (gO G)), (1, .ref (hh 0)), (2, .int (nI (xn v)))]) C dX1_isSame_173 (by decide) rfl ?_
      refine z_iconst (v := 0) C dX1_isSame_175 (by decide) ?_
      refine z_istore (L' := [(7, .int 0), (6, .int 0), (5, .int 0), (4, .int 0), (3, .int (-1)), (0, .ref (gO G)), (1, .ref (hh 0)), (2, .int (nI (xn v)))]) C dX1_isSame_176 (by decide) rfl ?_
      refine z_sub (L' := [(0, .ref (gO G)), (1, .ref (hh 0)), (2, .int (nI (xn v))), (3, .int (-1)), (4, .int 0), (5, .int 0), (6, .int 0), (7, .int 0)]) [5, 6, 7, 4, 3, 2, 1, 0] rfl ?_
      exact lp178 (xn v) 0 (by omega)
    | succ dd ih =>
      intro i hi
      obtain ⟨j0, g0, x0, w1, w2, w3, w4, w5, w6, w7, hf, w9⟩ := hI.led i (by omega)
      refine z_iload_n C 3 dX1_isSame_74 rfl rfl ?_
      refine z_aload_n C 0 dX1_isSame_75 rfl rfl ?_
      refine z_sget (v := .ref (gB G)) C ins 4 (by decide) rfl wd2 dX1_isSame_76 ?_
      refine z_alenB C 2 rfl dX1_isSame_79 ?_
      refine z_icmp_ge (tgt := 164) C dX1_isSame_80 (by decide) (fun h9 => absurd h9 (nI_ge (by omega) (by omega))) (fun _ => ?_)
      refine z_aload_n C 1 dX1_isSame_83 rfl rfl ?_
      refine z_iload_n C 3 dX1_isSame_84 rfl rfl ?_
      refine z_callV (w := (wX0 hh cI cZ v)) (w' := (wX0 hh cI cZ v)) (w1 := ([] : va_W)) (w2 := (([] : va_W) ++ (wS G cI cP v))) (ws' := ((wX0 hh cI cZ v) ++ (wS G cI cP v))) (As := [.int (nI i)]) (rest := []) (st' := [.int (xw v i)]) (rv := some (.int (xw v i))) C (c_X0_memberOf l D hh cI cZ v i (by omega) (by omega)) (cwV 1 C.words gX1_isSame_X0_memberOf rfl rfl rfl (by decide +kernel) ⟨(Nat.le_of_ble_eq_true rfl), (Nat.le_of_ble_eq_true rfl)⟩) (q0 := 0) (ci := 0) rfl rfl rfl [0, 1] rfl rfl (Nat.le_of_ble_eq_true rfl) ⟨(Nat.le_of_ble_eq_true rfl), (Nat.le_of_ble_eq_true rfl)⟩ rfl rfl rfl rfl rfl dX1_isSame_85 ?_
      refine z_aload_n C 0 dX1_isSame_88 rfl rfl ?_
      refine z_sget (v := .ref (gB G)) C ins 4 (by decide) rfl wd2 dX1_isSame_89 ?_
      refine z_iload_n C 3 dX1_isSame_92 rfl rfl ?_
      refine z_lrow C 2 rfl i rfl (show i < xk v from by omega) hk30 dX1_isSame_93 ?_
      refine z_iconst (v := 0) C dX1_isSame_94 (by decide) ?_
      refine z_lget (x := (xw v) i) C 0 rfl 0 rfl (by decide) (show i < xk v from by omega) rfl dX1_isSame_95 ?_
      refine z_icmp_ne (tgt := 156) C dX1_isSame_96 (by decide) (fun h9 => absurd h9 ((fun q => q rfl))) (fun _ => ?_)
      refine z_aload_n C 1 dX1_isSame_99 rfl rfl ?_
      refine z_iload_n C 3 dX1_isSame_100 rfl rfl ?_
      refine z_callV (w := (wX0 hh cI cZ v)) (w' := (wX0 hh cI cZ v)) (w1 := ([] : va_W)) (w2 := (([] : va_W) ++ (wS G cI cP v))) (ws' := ((wX0 hh cI cZ v) ++ (wS G cI cP v))) (As := [.int (nI i)]) (rest := []) (st' := [.int (xf v i)]) (rv := some (.int (xf v i))) C (c_X0_isLeft l D hh cI cZ v i (by omega) (by omega) hf) (cwV 1 C.words gX1_isSame_X0_isLeft rfl rfl rfl (by decide +kernel) ⟨(Nat.le_of_ble_eq_true rfl), (Nat.le_of_ble_eq_true rfl)⟩) (q0 := 0) (ci := 0) rfl rfl rfl [0, 1] rfl rfl (Nat.le_of_ble_eq_true rfl) ⟨(Nat.le_of_ble_eq_true rfl), (Nat.le_of_ble_eq_true rfl)⟩ rfl rfl rfl rfl rfl dX1_isSame_101 ?_
      refine z_aload_n C 0 dX1_isSame_104 rfl rfl ?_
      refine z_sget (v := .ref (gB G)) C ins 4 (by decide) rfl wd2 dX1_isSame_105 ?_
      refine z_iload_n C 3 dX1_isSame_108 rfl rfl ?_
      refine z_lrow C 2 rfl i rfl (show i < xk v from by omega) hk30 dX1_isSame_109 ?_
      refine z_iconst (v := 1) C dX1_isSame_110 (by decide) ?_
      refine z_lget (x := (xf v) i) C 0 rfl 1 rfl (by decide) (show i < xk v from by omega) rfl dX1_isSame_111 ?_
      refine z_iconst (v := 1) C dX1_isSame_112 (by decide) ?_
      refine z_icmp_ne (tgt := 120) C dX1_isSame_113 (by decide) (fun c113 => ?_) (fun c113 => ?_)
      · skip
        refine z_iconst (v := 0) C dX1_isSame_120 (by decide) ?_
        refine z_icmp_ne (tgt := 156) C dX1_isSame_121 (by decide) (fun h9 => absurd h9 ((fun q => q (hf.resolve_right c113)))) (fun _ => ?_)
        refine z_aload_n C 1 dX1_isSame_124 rfl rfl ?_
        refine z_iload_n C 3 dX1_isSame_125 rfl rfl ?_
        refine z_callV (w := (wX0 hh cI cZ v)) (w' := (wX0 hh cI cZ v)) (w1 := ([] : va_W)) (w2 := (([] : va_W) ++ (wS G cI cP v))) (ws' := ((wX0 hh cI cZ v) ++ (wS G cI cP v))) (As := [.int (nI i)]) (rest := []) (st' := [.int (xg v i)]) (rv := some (.int (xg v i))) C (c_X0_grainsOf l D hh cI cZ v i (by omega) (by omega)) (cwV 1 C.words gX1_isSame_X0_grainsOf rfl rfl rfl (by decide +kernel) ⟨(Nat.le_of_ble_eq_true rfl), (Nat.le_of_ble_eq_true rfl)⟩) (q0 := 0) (ci := 0) rfl rfl rfl [0, 1] rfl rfl (Nat.le_of_ble_eq_true rfl) ⟨(Nat.le_of_ble_eq_true rfl), (Nat.le_of_ble_eq_true rfl)⟩ rfl rfl rfl rfl rfl dX1_isSame_126 ?_
        refine z_aload_n C 0 dX1_isSame_129 rfl rfl ?_
        refine z_sget (v := .ref (gB G)) C ins 4 (by decide) rfl wd2 dX1_isSame_130 ?_
        refine z_iload_n C 3 dX1_isSame_133 rfl rfl ?_
        refine z_lrow C 2 rfl i rfl (show i < xk v from by omega) hk30 dX1_isSame_134 ?_
        refine z_iconst (v := 2) C dX1_isSame_135 (by decide) ?_
        refine z_lget (x := (xg v) i) C 0 rfl 2 rfl (by decide) (show i < xk v from by omega) rfl dX1_isSame_136 ?_
        refine z_icmp_ne (tgt := 156) C dX1_isSame_137 (by decide) (fun h9 => absurd h9 ((fun q => q rfl))) (fun _ => ?_)
        refine z_aload_n C 1 dX1_isSame_140 rfl rfl ?_
        refine z_iload_n C 3 dX1_isSame_141 rfl rfl ?_
        refine z_callV (w := (wX0 hh cI cZ v)) (w' := (wX0 hh cI cZ v)) (w1 := ([] : va_W)) (w2 := (([] : va_W) ++ (wS G cI cP v))) (ws' := ((wX0 hh cI cZ v) ++ (wS G cI cP v))) (As := [.int (nI i)]) (rest := []) (st' := [.int (xx v i)]) (rv := some (.int (xx v i))) C (c_X0_excessOf l D hh cI cZ v i (by omega) (by omega)) (cwV 1 C.words gX1_isSame_X0_excessOf rfl rfl rfl (by decide +kernel) ⟨(Nat.le_of_ble_eq_true rfl), (Nat.le_of_ble_eq_true rfl)⟩) (q0 := 0) (ci := 0) rfl rfl rfl [0, 1] rfl rfl (Nat.le_of_ble_eq_true rfl) ⟨(Nat.le_of_ble_eq_true rfl), (Nat.le_of_ble_eq_true rfl)⟩ rfl rfl rfl rfl rfl dX1_isSame_142 ?_
        refine z_aload_n C 0 dX1_isSame_145 rfl rfl ?_
        refine z_sget (v := .ref (gB G)) C ins 4 (by decide) rfl wd2 dX1_isSame_146 ?_
        refine z_iload_n C 3 dX1_isSame_149 rfl rfl ?_
        refine z_lrow C 2 rfl i rfl (show i < xk v from by omega) hk30 dX1_isSame_150 ?_
        refine z_iconst (v := 3) C dX1_isSame_151 (by decide) ?_
        refine z_lget (x := (xx v) i) C 0 rfl 3 rfl (by decide) (show i < xk v from by omega) rfl dX1_isSame_152 ?_
        refine z_icmp_eq (tgt := 158) C dX1_isSame_153 (by decide) (fun _ => ?_) (fun h9 => absurd (rfl) h9)
        refine z_iinc (v := nI (i + 1)) (L' := [(3, .int (nI (i + 1))), (0, .ref (gO G)), (1, .ref (hh 0)), (2, .int (nI (xn v)))]) C 3 dX1_isSame_158 rfl (z_inc _) (by decide) rfl ?_
        refine z_goto (tgt := 74) C dX1_isSame_161 (by decide) ?_
        refine z_sub (L' := [(0, .ref (gO G)), (1, .ref (hh 0)), (2, .int (nI (xn v))), (3, .int (nI (i + 1)))]) [1, 2, 3, 0] rfl ?_
        exact ih (i + 1) (by omega)
      · skip
        refine z_iconst (v := 1) C dX1_isSame_116 (by decide) ?_
        refine z_goto (tgt := 121) C dX1_isSame_117 (by decide) ?_
        refine z_icmp_ne (tgt := 156) C dX1_isSame_121 (by decide) (fun h9 => absurd h9 ((fun q => q c113))) (fun _ => ?_)
        refine z_aload_n C 1 dX1_isSame_124 rfl rfl ?_
        refine z_iload_n C 3 dX1_isSame_125 rfl rfl ?_
        refine z_callV (w := (wX0 hh cI cZ v)) (w' := (wX0 hh cI cZ v)) (w1 := ([] : va_W)) (w2 := (([] : va_W) ++ (wS G cI cP v))) (ws' := ((wX0 hh cI cZ v) ++ (wS G cI cP v))) (As := [.int (nI i)]) (rest := []) (st' := [.int (xg v i)]) (rv := some (.int (xg v i))) C (c_X0_grainsOf l D hh cI cZ v i (by omega) (by omega)) (cwV 1 C.words gX1_isSame_X0_grainsOf rfl rfl rfl (by decide +kernel) ⟨(Nat.le_of_ble_eq_true rfl), (Nat.le_of_ble_eq_true rfl)⟩) (q0 := 0) (ci := 0) rfl rfl rfl [0, 1] rfl rfl (Nat.le_of_ble_eq_true rfl) ⟨(Nat.le_of_ble_eq_true rfl), (Nat.le_of_ble_eq_true rfl)⟩ rfl rfl rfl rfl rfl dX1_isSame_126 ?_
        refine z_aload_n C 0 dX1_isSame_129 rfl rfl ?_
        refine z_sget (v := .ref (gB G)) C ins 4 (by decide) rfl wd2 dX1_isSame_130 ?_
        refine z_iload_n C 3 dX1_isSame_133 rfl rfl ?_
        refine z_lrow C 2 rfl i rfl (show i < xk v from by omega) hk30 dX1_isSame_134 ?_
        refine z_iconst (v := 2) C dX1_isSame_135 (by decide) ?_
        refine z_lget (x := (xg v) i) C 0 rfl 2 rfl (by decide) (show i < xk v from by omega) rfl dX1_isSame_136 ?_
        refine z_icmp_ne (tgt := 156) C dX1_isSame_137 (by decide) (fun h9 => absurd h9 ((fun q => q rfl))) (fun _ => ?_)
        refine z_aload_n C 1 dX1_isSame_140 rfl rfl ?_
        refine z_iload_n C 3 dX1_isSame_141 rfl rfl ?_
        refine z_callV (w := (wX0 hh cI cZ v)) (w' := (wX0 hh cI cZ v)) (w1 := ([] : va_W)) (w2 := (([] : va_W) ++ (wS G cI cP v))) (ws' := ((wX0 hh cI cZ v) ++ (wS G cI cP v))) (As := [.int (nI i)]) (rest := []) (st' := [.int (xx v i)]) (rv := some (.int (xx v i))) C (c_X0_excessOf l D hh cI cZ v i (by omega) (by omega)) (cwV 1 C.words gX1_isSame_X0_excessOf rfl rfl rfl (by decide +kernel) ⟨(Nat.le_of_ble_eq_true rfl), (Nat.le_of_ble_eq_true rfl)⟩) (q0 := 0) (ci := 0) rfl rfl rfl [0, 1] rfl rfl (Nat.le_of_ble_eq_true rfl) ⟨(Nat.le_of_ble_eq_true rfl), (Nat.le_of_ble_eq_true rfl)⟩ rfl rfl rfl rfl rfl dX1_isSame_142 ?_
        refine z_aload_n C 0 dX1_isSame_145 rfl rfl ?_
        refine z_sget (v := .ref (gB G)) C ins 4 (by decide) rfl wd2 dX1_isSame_146 ?_
        refine z_iload_n C 3 dX1_isSame_149 rfl rfl ?_
        refine z_lrow C 2 rfl i rfl (show i < xk v from by omega) hk30 dX1_isSame_150 ?_
        refine z_iconst (v := 3) C dX1_isSame_151 (by decide) ?_
        refine z_lget (x := (xx v) i) C 0 rfl 3 rfl (by decide) (show i < xk v from by omega) rfl dX1_isSame_152 ?_
        refine z_icmp_eq (tgt := 158) C dX1_isSame_153 (by decide) (fun _ => ?_) (fun h9 => absurd (rfl) h9)
        refine z_iinc (v := nI (i + 1)) (L' := [(3, .int (nI (i + 1))), (0, .ref (gO G)), (1, .ref (hh 0)), (2, .int (nI (xn v)))]) C 3 dX1_isSame_158 rfl (z_inc _) (by decide) rfl ?_
        refine z_goto (tgt := 74) C dX1_isSame_161 (by decide) ?_
        refine z_sub (L' := [(0, .ref (gO G)), (1, .ref (hh 0)), (2, .int (nI (xn v))), (3, .int (nI (i + 1)))]) [1, 2, 3, 0] rfl ?_
        exact ih (i + 1) (by omega)
  refine z_aload_n C 0 dX1_isSame_0 rfl rfl ?_
  refine z_sget (v := .ref (gA G)) C ins 3 (by decide) rfl wd1 dX1_isSame_1 ?_
  refine z_alenA C 2 rfl dX1_isSame_4 ?_
  refine z_istore_n (L' := [(2, .int (nI (xn v))), (0, .ref (gO G)), (1, .ref (hh 0))]) C dX1_isSame_5 rfl (by decide) rfl ?_
  refine z_aload_n C 2 dX1_isSame_6 rfl rfl ?_
  refine z_callV (w := (wX0 hh cI cZ v)) (w' := (wX0 hh cI cZ v)) (w1 := ([] : va_W)) (w2 := (([] : va_W) ++ (wS G cI cP v))) (ws' := ((wX0 hh cI cZ v) ++ (wS G cI cP v))) (As := []) (rest := []) (st' := [.int (xd v)]) (rv := some (.int (xd v))) C (c_X0_day l D hh cI cZ v) (cwV 0 C.words gX1_isSame_X0_day rfl rfl rfl (by decide +kernel) ⟨(Nat.le_of_ble_eq_true rfl), (Nat.le_of_ble_eq_true rfl)⟩) (q0 := 0) (ci := 0) rfl rfl rfl [0, 1] rfl rfl (Nat.le_of_ble_eq_true rfl) ⟨(Nat.le_of_ble_eq_true rfl), (Nat.le_of_ble_eq_true rfl)⟩ rfl rfl rfl rfl rfl dX1_isSame_7 ?_
  refine z_aload_n C 1 dX1_isSame_10 rfl rfl ?_
  refine z_sget (v := .int (xd v)) C ins 0 (by decide) rfl wd0 dX1_isSame_11 ?_
  refine z_icmp_ne (tgt := 70) C dX1_isSame_14 (by decide) (fun h9 => absurd h9 ((fun q => q rfl))) (fun _ => ?_)
  refine z_aload_n C 2 dX1_isSame_17 rfl rfl ?_
  refine z_callV (w := (wX0 hh cI cZ v)) (w' := (wX0 hh cI cZ v)) (w1 := ([] : va_W)) (w2 := (([] : va_W) ++ (wS G cI cP v))) (ws' := ((wX0 hh cI cZ v) ++ (wS G cI cP v))) (As := []) (rest := []) (st' := [.int (nI (xn v))]) (rv := some (.int (nI (xn v)))) C (c_X0_members l D hh cI cZ v) (cwV 0 C.words gX1_isSame_X0_members rfl rfl rfl (by decide +kernel) ⟨(Nat.le_of_ble_eq_true rfl), (Nat.le_of_ble_eq_true rfl)⟩) (q0 := 0) (ci := 0) rfl rfl rfl [0, 1] rfl rfl (Nat.le_of_ble_eq_true rfl) ⟨(Nat.le_of_ble_eq_true rfl), (Nat.le_of_ble_eq_true rfl)⟩ rfl rfl rfl rfl rfl dX1_isSame_18 ?_
  refine z_iload_n C 0 dX1_isSame_21 rfl rfl ?_
  refine z_icmp_ne (tgt := 70) C dX1_isSame_22 (by decide) (fun h9 => absurd h9 ((fun q => q rfl))) (fun _ => ?_)
  refine z_aload_n C 2 dX1_isSame_25 rfl rfl ?_
  refine z_callV (w := (wX0 hh cI cZ v)) (w' := (wX0 hh cI cZ v)) (w1 := ([] : va_W)) (w2 := (([] : va_W) ++ (wS G cI cP v))) (ws' := ((wX0 hh cI cZ v) ++ (wS G cI cP v))) (As := []) (rest := []) (st' := [.int (nI (xc v))]) (rv := some (.int (nI (xc v)))) C (c_X0_salt l D hh cI cZ v) (cwV 0 C.words gX1_isSame_X0_salt rfl rfl rfl (by decide +kernel) ⟨(Nat.le_of_ble_eq_true rfl), (Nat.le_of_ble_eq_true rfl)⟩) (q0 := 0) (ci := 0) rfl rfl rfl [0, 1] rfl rfl (Nat.le_of_ble_eq_true rfl) ⟨(Nat.le_of_ble_eq_true rfl), (Nat.le_of_ble_eq_true rfl)⟩ rfl rfl rfl rfl rfl dX1_isSame_26 ?_
  refine z_aload_n C 1 dX1_isSame_29 rfl rfl ?_
  refine z_sget (v := .int (nI (xc v))) C ins 1 (by decide) rfl wd3 dX1_isSame_30 ?_
  refine z_icmp_ne (tgt := 70) C dX1_isSame_33 (by decide) (fun h9 => absurd h9 ((fun q => q rfl))) (fun _ => ?_)
  refine z_aload_n C 2 dX1_isSame_36 rfl rfl ?_
  refine z_callV (w := (wX0 hh cI cZ v)) (w' := (wX0 hh cI cZ v)) (w1 := ([] : va_W)) (w2 := (([] : va_W) ++ (wS G cI cP v))) (ws' := ((wX0 hh cI cZ v) ++ (wS G cI cP v))) (As := []) (rest := []) (st' := [.int (nI (xk v))]) (rv := some (.int (nI (xk v)))) C (c_X0_ledger l D hh cI cZ v) (cwV 0 C.words gX1_isSame_X0_ledger rfl rfl rfl (by decide +kernel) ⟨(Nat.le_of_ble_eq_true rfl), (Nat.le_of_ble_eq_true rfl)⟩) (q0 := 0) (ci := 0) rfl rfl rfl [0, 1] rfl rfl (Nat.le_of_ble_eq_true rfl) ⟨(Nat.le_of_ble_eq_true rfl), (Nat.le_of_ble_eq_true rfl)⟩ rfl rfl rfl rfl rfl dX1_isSame_37 ?_
  refine z_aload_n C 1 dX1_isSame_40 rfl rfl ?_
  refine z_sget (v := .ref (gB G)) C ins 4 (by decide) rfl wd2 dX1_isSame_41 ?_
  refine z_alenB C 2 rfl dX1_isSame_44 ?_
  refine z_icmp_ne (tgt := 70) C dX1_isSame_45 (by decide) (fun h9 => absurd h9 ((fun q => q rfl))) (fun _ => ?_)
  refine z_aload_n C 2 dX1_isSame_48 rfl rfl ?_
  refine z_callV (w := (wX0 hh cI cZ v)) (w' := (wX0 hh cI cZ v)) (w1 := ([] : va_W)) (w2 := (([] : va_W) ++ (wS G cI cP v))) (ws' := ((wX0 hh cI cZ v) ++ (wS G cI cP v))) (As := []) (rest := []) (st' := [.int (xflt v)]) (rv := some (.int (xflt v))) C (c_X0_faults l D hh cI cZ v (by omega)) (cwV 0 C.words gX1_isSame_X0_faults rfl rfl rfl (by decide +kernel) ⟨(Nat.le_of_ble_eq_true rfl), (Nat.le_of_ble_eq_true rfl)⟩) (q0 := 0) (ci := 0) rfl rfl rfl [0, 1] rfl rfl (Nat.le_of_ble_eq_true rfl) ⟨(Nat.le_of_ble_eq_true rfl), (Nat.le_of_ble_eq_true rfl)⟩ rfl rfl rfl rfl rfl dX1_isSame_49 ?_
  refine z_aload_n C 1 dX1_isSame_52 rfl rfl ?_
  refine z_callVX (w := (wS G cI cP v)) (w1 := (wX0 hh cI cZ v)) (w2 := ([] : va_W)) (As := []) (rest := [.int (xflt v)]) C (c_X1_faults l D cI cP G v hk30) (hAA.call _) zAA.blind (cwV 0 C.words gX1_isSame_X1_faults rfl rfl rfl (by decide +kernel) ⟨(Nat.le_of_ble_eq_true rfl), (Nat.le_of_ble_eq_true rfl)⟩) (q0 := 0) (ci := 1) rfl rfl rfl [0, 2] rfl rfl (Nat.le_of_ble_eq_true rfl) ⟨(Nat.le_of_ble_eq_true rfl), (Nat.le_of_ble_eq_true rfl)⟩ (List.append_nil _).symm rfl dX1_isSame_53 (fun x9 _ => ?_)
  refine z_ws (List.append_nil _) ?_
  refine z_st (st' := [.int (xflt v), .int (xflt v)]) rfl ?_
  refine z_icmp_ne (tgt := 70) C dX1_isSame_56 (by decide) (fun h9 => absurd h9 ((fun q => q rfl))) (fun _ => ?_)
  refine z_aload_n C 2 dX1_isSame_59 rfl rfl ?_
  refine z_callV (w := (wX0 hh cI cZ v)) (w' := (wX0 hh cI cZ v)) (w1 := ([] : va_W)) (w2 := (([] : va_W) ++ (wS G cI cP v))) (ws' := ((wX0 hh cI cZ v) ++ (wS G cI cP v))) (As := []) (rest := []) (st' := [.int (xo v)]) (rv := some (.int (xo v))) C (c_X0_faultsFound l D hh cI cZ v) (cwV 0 C.words gX1_isSame_X0_faultsFound rfl rfl rfl (by decide +kernel) ⟨(Nat.le_of_ble_eq_true rfl), (Nat.le_of_ble_eq_true rfl)⟩) (q0 := 0) (ci := 0) rfl rfl rfl [0, 1] rfl rfl (Nat.le_of_ble_eq_true rfl) ⟨(Nat.le_of_ble_eq_true rfl), (Nat.le_of_ble_eq_true rfl)⟩ rfl rfl rfl rfl rfl dX1_isSame_60 ?_
  refine z_aload_n C 1 dX1_isSame_63 rfl rfl ?_
  refine z_sget (v := .int (xo v)) C ins 2 (by decide) rfl wd4 dX1_isSame_64 ?_
  refine z_icmp_eq (tgt := 72) C dX1_isSame_67 (by decide) (fun _ => ?_) (fun h9 => absurd (rfl) h9)
  refine z_iconst (v := 0) C dX1_isSame_72 (by decide) ?_
  refine z_istore_n (L' := [(3, .int 0), (2, .int (nI (xn v))), (0, .ref (gO G)), (1, .ref (hh 0))]) C dX1_isSame_73 rfl (by decide) rfl ?_
  refine z_sub (L' := [(0, .ref (gO G)), (1, .ref (hh 0)), (2, .int (nI (xn v))), (3, .int 0)]) [2, 3, 1, 0] rfl ?_
  exact lp74 (xk v) 0 (by omega)
end
section
/-! what the law's own methods lean on -/
/-- a number below n, out of any -/
def bel (x n : Int32) : Int32 := (x &&& 2147483647) - (x &&& 2147483647) / n * n
theorem bel_ex (x : Int32) {m : Nat} (h0 : 0 < m) (hm : m < 2 ^ 31) : ∃ r : Nat, r < m ∧ bel x (nI m) = nI r := by
  obtain ⟨j, hj, ej⟩ := pk_andE x (m := 2147483647) 31 (by decide)
  refine ⟨j % m, Nat.mod_lt _ h0, ?_⟩
  unfold bel
  rw [ej]
  exact pk_rem hj h0 hm
theorem xthrow_n (v : S0) (j : Nat) (b : Int32) (g : Nat) : xn (xthrow v j b g) = xn v := by
  unfold xthrow
  split
  · rfl
  · rfl
theorem row3 {u : S0} {m : Nat} {a b c : Int32} (h0 : xl u m = a) (h1 : xa u m = b) (h2 : xe u m = c) : upd (upd (upd (fun _ => 0) 0 a) 1 b) 2 c = mrow u m := by
  funext k
  unfold mrow
  rw [upd_i, upd_i, upd_i, h0, h1, h2]
  by_cases k0 : k = 0
  · subst k0; rfl
  · by_cases k1 : k = 1
    · subst k1; rfl
    · by_cases k2 : k = 2
      · subst k2; rfl
      · simp only [k0, k1, k2, ↓reduceIte]
theorem wS_pushM {pre : va_W} {cI cP : ClassId} {G : AG} {u u2 : S0} {q bb : Nat} {F : Nat → Int32} (hn : xn u + 1 = xn u2) (hk : xk u = xk u2) (hd : xd u = xd u2) (hc : xc u = xc u2) (ho : xo u = xo u2) (hm : ∀ m, m < xn u → mrow u m = mrow u2 m) (hl : ∀ t, t < xk u → lrow u t = lrow u2 t) (hF : F = mrow u2 (xn u)) : (pre ++ wSo (gO G, bb, gB G, gM G, gL G) u) ++ (wT bb cP cI (xn u + 1) 3 (snoc (xn u) (gM G) q) (snoc (xn u) (mrow u) F) ++ wT (gB G) cP cI (xk u) 4 (gL G) (lrow u)) = pre ++ wS (gO G, bb, gB G, snoc (xn u) (gM G) q, gL G) cI cP u2 := by
  have e1 : wT bb cP cI (xn u + 1) 3 (snoc (xn u) (gM G) q) (snoc (xn u) (mrow u) F) = wT bb cP cI (xn u + 1) 3 (snoc (xn u) (gM G) q) (mrow u2) := wT_congr (fun _ _ => rfl) (fun m hm2 => by
    by_cases h : m < xn u
    · rw [snoc_lt h, hm m h]
    · rw [show m = xn u by omega, snoc_n, hF])
  rw [e1, wT_congr (g' := gL G) (r' := lrow u2) (fun _ _ => rfl) hl]
  unfold wS wSo
  rw [hn, hk, hd, hc, ho]
  simp only [List.append_assoc]
/-- the law's script, where a method reads it -/
def zES (b N : Nat) (xs : Nat → Int32) (U : State) : Prop := va_X b N xs U U.heap ∧ b < U.heap.size
def zEB (b N : Nat) (xs : Nat → Int32) (U : State) : Prop := zAA U ∧ va_Nw (.methodLinkNest RL 70 yX1_init RL) U ∧ zES b N xs U
theorem zES.call {s : State} {b N : Nat} {xs : Nat → Int32} {A : Nat → Prop} (hX : va_X b N xs s s.heap) (hbl : b < s.heap.size) (hbA : ¬ A b) : ∀ (H : Heap) (locs : List Loc) (U : State), va_S A s.heap H locs → U.heap = H → s.WarmedH U.vm → zES b N xs U := fun H _ U hS hU hW => ⟨by rw [hU]; exact (hX.kept (hS.2.1 b hbl hbA)).moved hW.alike, by rw [hU]; exact Nat.lt_of_lt_of_le hbl hS.1⟩
theorem zES.blind {b N : Nat} {xs : Nat → Int32} : ∀ (U : State) (g : JFrame) (mk : MethodId) (a : Array Value), zES b N xs U → zES b N xs (U.calling g mk a) := fun U g mk a h => ⟨va_X.moved (u := U) (U := U.calling g mk a) (Vm.Alike.refl U.vm) h.1, h.2⟩
theorem zEB.call {s : State} {b N : Nat} {xs : Nat → Int32} {A : Nat → Prop} (hAA : zAA s) (hNw : va_Nw (.methodLinkNest RL 70 yX1_init RL) s) (hX : va_X b N xs s s.heap) (hbl : b < s.heap.size) (hbA : ¬ A b) : ∀ (H : Heap) (locs : List Loc) (U : State), va_S A s.heap H locs → U.heap = H → s.WarmedH U.vm → zEB b N xs U := fun H locs U hS hU hW => ⟨hAA.moved hW.alike, hNw.warmM hW, zES.call hX hbl hbA H locs U hS hU hW⟩
theorem zEB.blind {b N : Nat} {xs : Nat → Int32} : ∀ (U : State) (g : JFrame) (mk : MethodId) (a : Array Value), zEB b N xs U → zEB b N xs (U.calling g mk a) := fun U g mk a h => ⟨zAA.blind U g mk a h.1, va_Nw.same (by decide +kernel) rfl h.2.1, zES.blind U g mk a h.2.2⟩
section LAW
variable {p : Program} {l : Launch} {e : Env} {R : Room} {s : State} {m : MethodId} {args : Array Value} {below : List Frame} {meth : Method} {c : Code}
variable {cc : ByteArray} {nL : Nat} {own : String} {Ts : List Cond} {D : va_G} {tys : List (ClassId × FieldType)} {A : Nat → Prop} {cells slots : Nat} {Q : State → Prop} {pc : Nat} {L : List (Nat × Value)} {st : List Value} {ws : va_W}
theorem z_sld (C : zC p s m args c cc nL own Ts D tys A) {b N : Nat} {xs : Nat → Int32} (hX : va_X b N xs s s.heap) (hbl : b < s.heap.size) (hbA : ¬ A b) {i : Int32} (j : Nat) (hi : i = nI j) (hj : j < N) (hN : N < 2 ^ 31) (hdg : decode cc pc = .ok (.iaload, 1)) (kk : zG p l e R s m args below meth c D nL A cells slots Q (pc + 1) L (.int (xs j) :: st) ws) : zG p l e R s m args below meth c D nL A cells slots Q (pc) L (.int i :: .ref b :: st) ws := fun H locs ls hl hP hD hS => va_sld C.exec C.code hX hbl hbA hS (z_cl hi hj hN).1 hdg (by rw [(z_cl hi hj hN).2]; exact kk H locs ls hl hP hD hS)
theorem z_slen (C : zC p s m args c cc nL own Ts D tys A) {b N : Nat} {xs : Nat → Int32} (hX : va_X b N xs s s.heap) (hbl : b < s.heap.size) (hbA : ¬ A b) (hdg : decode cc pc = .ok (.arraylength, 1)) (kk : zG p l e R s m args below meth c D nL A cells slots Q (pc + 1) L (.int (nI N) :: st) ws) : zG p l e R s m args below meth c D nL A cells slots Q (pc) L (.ref b :: st) ws := fun H locs ls hl hP hD hS => va_slen C.exec C.code hX hbl hbA hS hdg (kk H locs ls hl hP hD hS)
theorem df0 : ∀ j, j < 14 → defaultValue (tyX0 j) = vp_V [.null, .null, .null, .int 0, .null, .null, .null, .null, .int 0, .int 0, .int 0, .int 0, .int 0, .int 0] j := by
  intro j hj
  rcases (show j = 0 ∨ j = 1 ∨ j = 2 ∨ j = 3 ∨ j = 4 ∨ j = 5 ∨ j = 6 ∨ j = 7 ∨ j = 8 ∨ j = 9 ∨ j = 10 ∨ j = 11 ∨ j = 12 ∨ j = 13 by omega) with rfl | rfl | rfl | rfl | rfl | rfl | rfl | rfl | rfl | rfl | rfl | rfl | rfl | rfl <;> rfl
theorem df1 : ∀ j, j < 5 → defaultValue (tyX1 j) = vp_V [.int 0, .int 0, .int 0, .null, .null] j := by
  intro j hj
  rcases (show j = 0 ∨ j = 1 ∨ j = 2 ∨ j = 3 ∨ j = 4 by omega) with rfl | rfl | rfl | rfl | rfl <;> rfl
theorem z_new0 (C : zC p s m args c cc nL own Ts D tys A) {index : Nat} (hin : ∀ w ∈ u_ws RX0 TX0 14, w ∈ Ts) (h1 : Cond.classLink own index RX0 ∈ Ts) (h2 : Cond.instantiable RX0 14 ∈ Ts) (h3 : Cond.initialized RX0 ∈ Ts) (hcells : cells + 1 ≤ R.cells) (hslots : slots + 14 ≤ R.slots) (hdg : decode cc pc = .ok (.new index, 3)) (kk : ∀ q : Nat, zG p l e R s m args below meth c D nL A (cells + 1) (slots + 14) Q (pc + 3) L (.ref q :: st) (ws ++ [(q, .inr (0, [.null, .null, .null, .int 0, .null, .null, .null, .null, .int 0, .int 0, .int 0, .int 0, .int 0, .int 0]))])) : zG p l e R s m args below meth c D nL A cells slots Q (pc) L st ws := fun H locs ls hl hP hD hS => va_new (ci := 0) (C := RX0) (T := TX0) (N := 14) C.exec C.code C.words hin tyX0 tyX0_ok C.here (C.words _ h1) (C.words _ h2) (C.words _ h3) C.known hP hD hS C.new rfl df0 hcells hslots hdg (fun q H1 hP hD hS => kk q H1 locs ls hl hP hD hS)
theorem z_new1 (C : zC p s m args c cc nL own Ts D tys A) {index : Nat} (hin : ∀ w ∈ u_ws RX1 TX1 5, w ∈ Ts) (h1 : Cond.classLink own index RX1 ∈ Ts) (h2 : Cond.instantiable RX1 5 ∈ Ts) (h3 : Cond.initialized RX1 ∈ Ts) (hcells : cells + 1 ≤ R.cells) (hslots : slots + 5 ≤ R.slots) (hdg : decode cc pc = .ok (.new index, 3)) (kk : ∀ q : Nat, zG p l e R s m args below meth c D nL A (cells + 1) (slots + 5) Q (pc + 3) L (.ref q :: st) (ws ++ [(q, .inr (1, [.int 0, .int 0, .int 0, .null, .null]))])) : zG p l e R s m args below meth c D nL A cells slots Q (pc) L st ws := fun H locs ls hl hP hD hS => va_new (ci := 1) (C := RX1) (T := TX1) (N := 5) C.exec C.code C.words hin tyX1 tyX1_ok C.here (C.words _ h1) (C.words _ h2) (C.words _ h3) C.known hP hD hS C.new rfl df1 hcells hslots hdg (fun q H1 hP hD hS => kk q H1 locs ls hl hP hD hS)
/-- where the cells lie -/
theorem z_at (k : (∀ (i : Nat) (q : Nat × va_E), ws[i]? = some q → A q.1) → zG p l e R s m args below meth c D nL A cells slots Q pc L st ws) : zG p l e R s m args below meth c D nL A cells slots Q pc L st ws := fun H locs ls hl hP hD hS => k hD.2 H locs ls hl hP hD hS
end LAW
set_option maxHeartbeats 4000000 in
set_option maxRecDepth 100000 in
theorem c_L_cell (l : Launch) (D : va_G) {b N k : Nat} {xs : Nat → Int32} (hk : k < 2 ^ 31) (hN : N < 2 ^ 31) : zMX l yL_cell wsL_cell 0 0 0 0 [.ref b, .int (nI k)] [] D ([] : va_W) (zES b N xs) (fun _ : Int32 => True) (fun x => some (.int x)) (fun _ => ([] : va_W)) := by
  refine z_metX (cc := cL_cell) (maxL := 2) (ret := (some .int)) (by decide) rfl (Nat.le_of_ble_eq_true rfl) ?_
  intro p e s m args below meth c A hAw hE C hr hlocks
  obtain ⟨hX, hbl⟩ := hE
  have hbA : ¬ A b := fun q => by
    rw [hAw] at q
    rcases q with ⟨j, e, h⟩ | h
    · cases h
    · omega
  have wk : Cond.constant RL 8 (790386105) ∈ wsL_cell := by decide +kernel
  refine z_sub (L' := [(0, .ref b), (1, .int (nI k))]) [0, 1] rfl ?_
  refine z_iload_n C 1 dL_cell_0 rfl rfl ?_
  refine z_aload_n C 0 dL_cell_1 rfl rfl ?_
  refine z_slen C hX hbl hbA dL_cell_2 ?_
  refine z_icmp_ge (tgt := 12) C dL_cell_3 (by decide) (fun _ => ?_) (fun c3 => ?_)
  · refine z_ldc C wk dL_cell_12 ?_
    refine z_iload_n C 1 dL_cell_14 rfl rfl ?_
    refine z_iconst (v := 3) C dL_cell_15 (by decide) ?_
    refine z_iadd C dL_cell_16 ?_
    refine z_imul C dL_cell_17 ?_
    exact z_iretX C (790386105 * (nI k + 3)) (by trivial) hr hlocks (Nat.le_of_ble_eq_true rfl) (Nat.le_of_ble_eq_true rfl) dL_cell_18 (by rfl) (by rfl)
  · refine z_aload_n C 0 dL_cell_6 rfl rfl ?_
    refine z_iload_n C 1 dL_cell_7 rfl rfl ?_
    refine z_sld C hX hbl hbA k rfl (Nat.not_le.mp (fun q => c3 (nI_le q hk))) hN dL_cell_8 ?_
    refine z_goto (tgt := 18) C dL_cell_9 (by decide) ?_
    exact z_iretX C (xs k) (by trivial) hr hlocks (Nat.le_of_ble_eq_true rfl) (Nat.le_of_ble_eq_true rfl) dL_cell_18 (by rfl) (by rfl)
end
section
set_option maxHeartbeats 4000000 in
set_option maxRecDepth 100000 in
theorem c_L_below (l : Launch) (D : va_G) (x n : Int32) (hn : ¬ n = 0) : zM l yL_below wsL_below 0 0 0 0 [.int x, .int n] [] D ([] : va_W) ([] : va_W) (some (.int (bel x n))) := by
  refine z_met (cc := cL_below) (maxL := 2) (ret := (some .int)) (by decide) rfl (Nat.le_of_ble_eq_true rfl) ?_
  intro p e s m args below meth c A C hr hlocks
  have wd0 : Cond.constant RL 7 (2147483647) ∈ wsL_below := by decide +kernel
  refine z_sub (L' := [(0, .int x), (1, .int n)]) [0, 1] rfl ?_
  refine z_iload_n C 0 dL_below_0 rfl rfl ?_
  refine z_ldc C wd0 dL_below_1 ?_
  refine z_iand C dL_below_3 ?_
  refine z_iload_n C 1 dL_below_4 rfl rfl ?_
  refine z_irem C dL_below_5 hn ?_
  exact z_iret C hr hlocks (Nat.le_of_ble_eq_true rfl) (Nat.le_of_ble_eq_true rfl) dL_below_6 (by first | rfl | (simp only [bel, ↓reduceIte]; done) | (simp only [bel, ↓reduceIte]; rfl)) rfl
set_option maxHeartbeats 8000000 in
set_option maxRecDepth 100000 in
theorem c_L_act (l : Launch) (D : va_G) (hh : Nat → Nat) (cI cZ cP : ClassId) (G : AG) (B : Nat) (v : S0) (x : Int32) (hI : Inv B v) (hB : B + 60 < 2 ^ 20) : zMX l yL_act wsL_act 5 104 60 45 [.ref (hh 0), .ref (gO G), .int x] [(cI, .int), (cZ, .boolean), (cP, .array .int)] D (wX0 hh cI cZ v ++ wS G cI cP v) zAA (fun z : S0 × AG => Inv (B + 60) z.1 ∧ gO z.2 = gO G ∧ 1 ≤ xn z.1) (fun _ => some (.int 1)) (fun z => wX0 hh cI cZ z.1 ++ wS z.2 cI cP z.1) := by
  refine z_metX (cc := cL_act) (maxL := 12) (ret := (some .boolean)) (by decide) rfl (Nat.le_of_ble_eq_true rfl) ?_
  intro p e s m args below meth c A hAw hAA C hr hlocks
  have hn8 := hI.n8
  have hk30 := hI.k30
  have hc5 := hI.c5
  have ins : ∀ w ∈ u_ws RX1 TX1 5, w ∈ wsL_act := by decide +kernel
  have wd0 : Cond.fieldLink RL 31 "SaltOrderLaw$Sim" "salt" "I" ∈ wsL_act := by decide +kernel
  have wd1 : Cond.fieldLink RL 9 "SaltOrderLaw$Sim" "members" "[[I" ∈ wsL_act := by decide +kernel
  have wd2 : Cond.methodLink RL 35 Lib.Math.min.name ∈ wsL_act := by decide +kernel
  have wd3 : Cond.static Lib.Math.min.name ∈ wsL_act := by decide +kernel
  have wd4 : Cond.initialized "java/lang/Math" ∈ wsL_act := by decide +kernel
  have wd5 : Cond.code Lib.Math.min.name Lib.Math.min.code 2 (some .int) ∈ wsL_act := by decide +kernel
  have wd6 : Cond.fieldLink RL 43 "SaltOrderLaw$Sim" "ledger" "[[I" ∈ wsL_act := by decide +kernel
  have wd7 : Cond.arrayClass .int ∈ wsL_act := by decide +kernel
  refine z_sub (L' := [(0, .ref (hh 0)), (1, .ref (gO G)), (2, .int x)]) [0, 1, 2] rfl ?_
  have k156 : ∀ (so j : Nat), j < xn v → zG p l e ({ frames := 5, cells := 60, slots := 45, locals := 104 } : Room) s m args below meth c D 12 A 0 0 (MQ below (zQX (fun z : S0 × AG => Inv (B + 60) z.1 ∧ gO z.2 = gO G ∧ 1 ≤ xn z.1) (fun _ => some (.int 1)) (fun z => wX0 hh cI cZ z.1 ++ wS z.2 cI cP z.1) D A) args s 60 45 A) 156 [(0, .ref (hh 0)), (1, .ref (gO G)), (2, .int x), (3, .int (nI (xn v))), (4, .int (nI so)), (5, .int (nI j))] [] ((wX0 hh cI cZ v) ++ (wS G cI cP v)) := by
    intro so j hj
    refine z_iconst (v := 1) C dL_act_156 (by decide) ?_
    refine z_iload_n C 2 dL_act_157 rfl rfl ?_
    refine z_iconst (v := 3) C dL_act_158 (by decide) ?_
    refine z_ishr C dL_act_159 ?_
    refine z_bipush (v := 30) C dL_act_160 (by decide) ?_
    obtain ⟨g0, hg0, eg0⟩ := bel_ex (x >>> (3 &&& 31)) (m := 30) (by omega) (by omega)
    refine z_callS (w := ([] : va_W)) (w' := ([] : va_W)) (w1 := ([] : va_W)) (w2 := ((wX0 hh cI cZ v) ++ (wS G cI cP v))) (ws' := ((wX0 hh cI cZ v) ++ (wS G cI cP v))) (As := [.int (x >>> (3 &&& 31)), .int 30]) (rest := [.int 1]) (st' := [.int (bel (x >>> (3 &&& 31)) 30), .int 1]) (rv := some (.int (bel (x >>> (3 &&& 31)) 30))) C (c_L_below l D (x >>> (3 &&& 31)) 30 (by decide)) (va_cwS 2 C.words gL_act_L_below rfl rfl rfl (by decide +kernel) ⟨(Nat.le_of_ble_eq_true rfl), (Nat.le_of_ble_eq_true rfl)⟩) [] rfl rfl (Nat.le_of_ble_eq_true rfl) ⟨(Nat.le_of_ble_eq_true rfl), (Nat.le_of_ble_eq_true rfl)⟩ rfl rfl rfl rfl rfl dL_act_162 ?_
    refine z_top (y := nI g0) eg0 ?_
    refine z_iadd C dL_act_165 ?_
    refine z_top (y := nI (1 + g0)) (nI_add 1 g0) ?_
    refine z_istore (L' := [(6, .int (nI (1 + g0))), (0, .ref (hh 0)), (1, .ref (gO G)), (2, .int x), (3, .int (nI (xn v))), (4, .int (nI so)), (5, .int (nI j))]) C dL_act_166 (by decide) rfl ?_
    refine z_iload C 0 dL_act_168 rfl ?_
    refine z_aload_n C 2 dL_act_170 rfl rfl ?_
    refine z_sget (v := .int (nI (xc v))) C ins 1 (by decide) rfl wd0 dL_act_171 ?_
    refine z_icmp_le (tgt := 179) C dL_act_174 (by decide) (fun c174 => ?_) (fun c174 => ?_)
    · skip
      have hg : 1 + g0 ≤ xc v := (nI_leI (by omega) (by omega)).mp c174
      refine z_aload_n C 2 dL_act_179 rfl rfl ?_
      refine z_dup C dL_act_180 rfl ?_
      refine z_sget (v := .int (nI (xc v))) C ins 1 (by decide) rfl wd0 dL_act_181 ?_
      refine z_iload C 0 dL_act_184 rfl ?_
      refine z_isub C dL_act_186 ?_
      refine z_top (y := nI (xc v - (1 + g0))) (pk_sub hg) ?_
      refine z_sputC (n := (xc v - (1 + g0))) C ins rfl wd0 dL_act_187 ?_
      refine z_aload_n C 2 dL_act_190 rfl rfl ?_
      refine z_sget (v := .ref (gA G)) C ins 3 (by decide) rfl wd1 dL_act_191 ?_
      refine z_iload C 6 dL_act_194 rfl ?_
      refine z_mrow C 2 rfl j rfl (show j < xn v from by omega) hn8 dL_act_196 ?_
      refine z_iconst (v := 1) C dL_act_197 (by decide) ?_
      refine z_bipush (v := 99) C dL_act_198 (by decide) ?_
      refine z_aload_n C 2 dL_act_200 rfl rfl ?_
      refine z_sget (v := .ref (gA G)) C ins 3 (by decide) rfl wd1 dL_act_201 ?_
      refine z_iload C 6 dL_act_204 rfl ?_
      refine z_mrow C 2 rfl j rfl (show j < xn v from by omega) hn8 dL_act_206 ?_
      refine z_iconst (v := 1) C dL_act_207 (by decide) ?_
      refine z_mget (x := (xa v) j) C 0 rfl 1 rfl (by decide) (show j < xn v from by omega) rfl dL_act_208 ?_
      refine z_iload C 0 dL_act_209 rfl ?_
      refine z_iadd C dL_act_211 ?_
      refine z_mmin C wd2 wd3 wd4 wd5 (Nat.le_of_ble_eq_true rfl) (Nat.le_of_ble_eq_true rfl) (by show _ ≤ 60; omega) (by show _ ≤ 45; omega) dL_act_212 ?_
      refine z_mset1 C 0 rfl rfl (show j < xn v from by omega) dL_act_215 ?_
      refine z_aload_n C 1 dL_act_216 rfl rfl ?_
      refine z_iload C 6 dL_act_217 rfl ?_
      refine z_iload C 0 dL_act_219 rfl ?_
      obtain ⟨v1, hv1⟩ : ∃ z, z = xspill v j (1 + g0) := ⟨_, rfl⟩
      refine z_callV (w := (wX0 hh cI cZ v)) (w' := (wX0 hh cI cZ v1)) (w1 := ([] : va_W)) (w2 := (([] : va_W) ++ (wS G cI cP (xl v, upd (xa v) j (imin 99 (((xa v) j) + (nI (1 + g0)))), xe v, xn v, xw v, xf v, xg v, xx v, xk v, (xc v - (1 + g0)), xd v, xo v, xy v, xb v)))) (ws' := ((wX0 hh cI cZ v1) ++ (wS G cI cP (xl v, upd (xa v) j (imin 99 (((xa v) j) + (nI (1 + g0)))), xe v, xn v, xw v, xf v, xg v, xx v, xk v, (xc v - (1 + g0)), xd v, xo v, xy v, xb v)))) (As := [.int (nI j), .int (nI (1 + g0))]) (rest := []) (st' := [.int (xa (xspill v j (1 + g0)) j)]) (rv := some (.int (xa (xspill v j (1 + g0)) j))) C (by rw [hv1]; exact c_X0_spill l D hh cI cZ v j (1 + g0) (by omega) (by omega) (by omega) (by omega) (by omega) (by omega)) (cwV 2 C.words gL_act_X0_spill rfl rfl rfl (by decide +kernel) ⟨(Nat.le_of_ble_eq_true rfl), (Nat.le_of_ble_eq_true rfl)⟩) (q0 := 0) (ci := 0) rfl rfl rfl [0, 1] rfl rfl (Nat.le_of_ble_eq_true rfl) ⟨(by show _ ≤ 60; omega), (by show _ ≤ 45; omega)⟩ rfl rfl rfl rfl rfl dL_act_221 ?_
      refine z_aload_n C 2 dL_act_224 rfl rfl ?_
      refine z_sget (v := .ref (gA G)) C ins 3 (by decide) rfl wd1 dL_act_225 ?_
      refine z_iload C 6 dL_act_228 rfl ?_
      refine z_mrow C 2 rfl j rfl (show j < xn v from by omega) hn8 dL_act_230 ?_
      refine z_iconst (v := 1) C dL_act_231 (by decide) ?_
      refine z_mget (x := (upd (xa v) j (imin 99 (((xa v) j) + (nI (1 + g0))))) j) C 0 rfl 1 rfl (by decide) (show j < xn v from by omega) rfl dL_act_232 ?_
      refine z_icmp_ne (tgt := 240) C dL_act_233 (by decide) (fun h9 => absurd h9 ((fun q => q rfl))) (fun _ => ?_)
      refine z_iconst (v := 1) C dL_act_236 (by decide) ?_
      refine z_goto (tgt := 241) C dL_act_237 (by decide) ?_
      exact z_zretX C ((xspill v j (1 + g0), G) : S0 × AG) (by exact ⟨(hI.spill j (by omega)).le (by omega), rfl, by show 1 ≤ xn v; omega⟩) hr hlocks (by show _ ≤ 60; omega) (by show _ ≤ 45; omega) (by first | exact Or.inl rfl | exact Or.inr rfl) dL_act_241 (by rfl) (by subst hv1; rfl)
    · skip
      refine z_iconst (v := 1) C dL_act_177 (by decide) ?_
      exact z_zretX C ((v, G) : S0 × AG) (by exact ⟨hI.le (by omega), rfl, by show 1 ≤ xn v; omega⟩) hr hlocks (by show _ ≤ 60; omega) (by show _ ≤ 45; omega) (by first | exact Or.inl rfl | exact Or.inr rfl) dL_act_178 (by rfl) (by rfl)
  have k242 : ∀ (so j : Nat), j < xn v → zG p l e ({ frames := 5, cells := 60, slots := 45, locals := 104 } : Room) s m args below meth c D 12 A 0 0 (MQ below (zQX (fun z : S0 × AG => Inv (B + 60) z.1 ∧ gO z.2 = gO G ∧ 1 ≤ xn z.1) (fun _ => some (.int 1)) (fun z => wX0 hh cI cZ z.1 ++ wS z.2 cI cP z.1) D A) args s 60 45 A) 242 [(0, .ref (hh 0)), (1, .ref (gO G)), (2, .int x), (3, .int (nI (xn v))), (4, .int (nI so)), (5, .int (nI j))] [] ((wX0 hh cI cZ v) ++ (wS G cI cP v)) := by
    intro so j hj
    refine z_iconst (v := 1) C dL_act_242 (by decide) ?_
    refine z_iload_n C 2 dL_act_243 rfl rfl ?_
    refine z_iconst (v := 3) C dL_act_244 (by decide) ?_
    refine z_ishr C dL_act_245 ?_
    refine z_bipush (v := 9) C dL_act_246 (by decide) ?_
    obtain ⟨g0, hg0, eg0⟩ := bel_ex (x >>> (3 &&& 31)) (m := 9) (by omega) (by omega)
    refine z_callS (w := ([] : va_W)) (w' := ([] : va_W)) (w1 := ([] : va_W)) (w2 := ((wX0 hh cI cZ v) ++ (wS G cI cP v))) (ws' := ((wX0 hh cI cZ v) ++ (wS G cI cP v))) (As := [.int (x >>> (3 &&& 31)), .int 9]) (rest := [.int 1]) (st' := [.int (bel (x >>> (3 &&& 31)) 9), .int 1]) (rv := some (.int (bel (x >>> (3 &&& 31)) 9))) C (c_L_below l D (x >>> (3 &&& 31)) 9 (by decide)) (va_cwS 2 C.words gL_act_L_below rfl rfl rfl (by decide +kernel) ⟨(Nat.le_of_ble_eq_true rfl), (Nat.le_of_ble_eq_true rfl)⟩) [] rfl rfl (Nat.le_of_ble_eq_true rfl) ⟨(Nat.le_of_ble_eq_true rfl), (Nat.le_of_ble_eq_true rfl)⟩ rfl rfl rfl rfl rfl dL_act_248 ?_
    refine z_top (y := nI g0) eg0 ?_
    refine z_iadd C dL_act_251 ?_
    refine z_top (y := nI (1 + g0)) (nI_add 1 g0) ?_
    refine z_istore (L' := [(7, .int (nI (1 + g0))), (0, .ref (hh 0)), (1, .ref (gO G)), (2, .int x), (3, .int (nI (xn v))), (4, .int (nI so)), (5, .int (nI j))]) C dL_act_252 (by decide) rfl ?_
    refine z_iload_n C 3 dL_act_254 rfl rfl ?_
    refine z_iconst (v := 4) C dL_act_255 (by decide) ?_
    obtain ⟨r0, hr0, er0⟩ := bel_ex (x) (m := 4) (by omega) (by omega)
    refine z_callS (w := ([] : va_W)) (w' := ([] : va_W)) (w1 := ([] : va_W)) (w2 := ((wX0 hh cI cZ v) ++ (wS G cI cP v))) (ws' := ((wX0 hh cI cZ v) ++ (wS G cI cP v))) (As := [.int x, .int 4]) (rest := []) (st' := [.int (bel x 4)]) (rv := some (.int (bel x 4))) C (c_L_below l D x 4 (by decide)) (va_cwS 2 C.words gL_act_L_below rfl rfl rfl (by decide +kernel) ⟨(Nat.le_of_ble_eq_true rfl), (Nat.le_of_ble_eq_true rfl)⟩) [] rfl rfl (Nat.le_of_ble_eq_true rfl) ⟨(Nat.le_of_ble_eq_true rfl), (Nat.le_of_ble_eq_true rfl)⟩ rfl rfl rfl rfl rfl dL_act_256 ?_
    refine z_top (y := nI r0) er0 ?_
    refine z_if_ne (tgt := 266) C dL_act_259 (by decide) (fun c259 => ?_) (fun c259 => ?_)
    · skip
      refine z_iconst (v := 0) C dL_act_266 (by decide) ?_
      refine z_istore (L' := [(8, .int 0), (7, .int (nI (1 + g0))), (0, .ref (hh 0)), (1, .ref (gO G)), (2, .int x), (3, .int (nI (xn v))), (4, .int (nI so)), (5, .int (nI j))]) C dL_act_267 (by decide) rfl ?_
      refine z_iload C 1 dL_act_269 rfl ?_
      refine z_aload_n C 3 dL_act_271 rfl rfl ?_
      refine z_sget (v := .int (nI (xc v))) C ins 1 (by decide) rfl wd0 dL_act_272 ?_
      refine z_icmp_gt (tgt := 288) C dL_act_275 (by decide) (fun c275 => ?_) (fun c275 => ?_)
      · skip
        refine z_iconst (v := 1) C dL_act_288 (by decide) ?_
        exact z_zretX C ((v, G) : S0 × AG) (by exact ⟨hI.le (by omega), rfl, by show 1 ≤ xn v; omega⟩) hr hlocks (by show _ ≤ 60; omega) (by show _ ≤ 45; omega) (by first | exact Or.inl rfl | exact Or.inr rfl) dL_act_289 (by rfl) (by rfl)
      · skip
        have hg : 1 + g0 ≤ xc v := by have q : ¬ xc v < 1 + g0 := fun q => c275 ((nI_ltI (by omega) (by omega)).mpr q); omega
        refine z_aload_n C 3 dL_act_278 rfl rfl ?_
        refine z_sget (v := .ref (gB G)) C ins 4 (by decide) rfl wd6 dL_act_279 ?_
        refine z_alenB C 2 rfl dL_act_282 ?_
        refine z_bipush (v := 30) C dL_act_283 (by decide) ?_
        refine z_icmp_ne (tgt := 290) C dL_act_285 (by decide) (fun c285 => ?_) (fun c285 => ?_)
        · skip
          have hk3 : xk v < 30 := by have q : xk v ≠ 30 := fun q => c285 (by rw [q]; rfl); omega
          refine z_aload_n C 2 dL_act_290 rfl rfl ?_
          refine z_iload C 7 dL_act_291 rfl ?_
          refine z_iload C 0 dL_act_293 rfl ?_
          refine z_iload C 1 dL_act_295 rfl ?_
          obtain ⟨v2, hv2⟩ : ∃ z, z = xthrow v j 0 (1 + g0) := ⟨_, rfl⟩
          refine z_callV (w := (wX0 hh cI cZ v)) (w' := (wX0 hh cI cZ v2)) (w1 := ([] : va_W)) (w2 := (([] : va_W) ++ (wS G cI cP v))) (ws' := ((wX0 hh cI cZ v2) ++ (wS G cI cP v))) (As := [.int (nI j), .int 0, .int (nI (1 + g0))]) (rest := []) (st' := [.int (xthrowR v j 0 (1 + g0))]) (rv := some (.int (xthrowR v j 0 (1 + g0)))) C (by rw [hv2]; exact c_X0_throwSalt l D hh cI cZ v j 0 (1 + g0) (by omega) (by omega) (by first | exact Or.inl rfl | exact Or.inr rfl) (by omega) (by omega) (by omega) (by omega) (by omega)) (cwV 3 C.words gL_act_X0_throwSalt rfl rfl rfl (by decide +kernel) ⟨(Nat.le_of_ble_eq_true rfl), (Nat.le_of_ble_eq_true rfl)⟩) (q0 := 0) (ci := 0) rfl rfl rfl [0, 1] rfl rfl (Nat.le_of_ble_eq_true rfl) ⟨(by show _ ≤ 60; omega), (by show _ ≤ 45; omega)⟩ rfl rfl rfl rfl rfl dL_act_297 ?_
          refine z_aload_n C 3 dL_act_300 rfl rfl ?_
          refine z_iload C 7 dL_act_301 rfl ?_
          refine z_iload C 0 dL_act_303 rfl ?_
          refine z_iload C 1 dL_act_305 rfl ?_
          refine z_callVX (w := (wS G cI cP v)) (w1 := (wX0 hh cI cZ v2)) (w2 := ([] : va_W)) (As := [.int (nI j), .int 0, .int (nI (1 + g0))]) (rest := [.int (xthrowR v j 0 (1 + g0))]) C (c_X1_cast l D cI cP G B v j (1 + g0) 0 hI hj (by first | exact Or.inl rfl | exact Or.inr rfl) (by omega) hg hk3) (hAA.call _) zAA.blind (cwV 3 C.words gL_act_X1_cast rfl rfl rfl (by decide +kernel) ⟨(Nat.le_of_ble_eq_true rfl), (Nat.le_of_ble_eq_true rfl)⟩) (q0 := 0) (ci := 1) rfl rfl rfl [0, 2] rfl rfl (Nat.le_of_ble_eq_true rfl) ⟨(by show _ ≤ 60; omega), (by show _ ≤ 45; omega)⟩ (List.append_nil _).symm rfl dL_act_307 (fun G2 hG2 => ?_)
          refine z_ws (List.append_nil _) ?_
          refine z_st (st' := [.int (xthrowR v j 0 (1 + g0)), .int (xthrowR v j 0 (1 + g0))]) rfl ?_
          refine z_icmp_ne (tgt := 317) C dL_act_310 (by decide) (fun h9 => absurd h9 ((fun q => q rfl))) (fun _ => ?_)
          refine z_iconst (v := 1) C dL_act_313 (by decide) ?_
          refine z_goto (tgt := 318) C dL_act_314 (by decide) ?_
          exact z_zretX C ((xthrow v j 0 (1 + g0), G2) : S0 × AG) (by exact ⟨(hI.throw hj hk3 (by omega) (by omega)).le (by omega), hG2, by show 1 ≤ xn (xthrow v j 0 (1 + g0)); rw [xthrow_n]; omega⟩) hr hlocks (by show _ ≤ 60; omega) (by show _ ≤ 45; omega) (by first | exact Or.inl rfl | exact Or.inr rfl) dL_act_318 (by rfl) (by subst hv2; rfl)
        · skip
          refine z_iconst (v := 1) C dL_act_288 (by decide) ?_
          exact z_zretX C ((v, G) : S0 × AG) (by exact ⟨hI.le (by omega), rfl, by show 1 ≤ xn v; omega⟩) hr hlocks (by show _ ≤ 60; omega) (by show _ ≤ 45; omega) (by first | exact Or.inl rfl | exact Or.inr rfl) dL_act_289 (by rfl) (by rfl)
    · skip
      refine z_iconst (v := 1) C dL_act_262 (by decide) ?_
      refine z_goto (tgt := 267) C dL_act_263 (by decide) ?_
      refine z_istore (L' := [(8, .int 1), (7, .int (nI (1 + g0))), (0, .ref (hh 0)), (1, .ref (gO G)), (2, .int x), (3, .int (nI (xn v))), (4, .int (nI so)), (5, .int (nI j))]) C dL_act_267 (by decide) rfl ?_
      refine z_iload C 1 dL_act_269 rfl ?_
      refine z_aload_n C 3 dL_act_271 rfl rfl ?_
      refine z_sget (v := .int (nI (xc v))) C ins 1 (by decide) rfl wd0 dL_act_272 ?_
      refine z_icmp_gt (tgt := 288) C dL_act_275 (by decide) (fun c275 => ?_) (fun c275 => ?_)
      · skip
        refine z_iconst (v := 1) C dL_act_288 (by decide) ?_
        exact z_zretX C ((v, G) : S0 × AG) (by exact ⟨hI.le (by omega), rfl, by show 1 ≤ xn v; omega⟩) hr hlocks (by show _ ≤ 60; omega) (by show _ ≤ 45; omega) (by first | exact Or.inl rfl | exact Or.inr rfl) dL_act_289 (by rfl) (by rfl)
      · skip
        have hg : 1 + g0 ≤ xc v := by have q : ¬ xc v < 1 + g0 := fun q => c275 ((nI_ltI (by omega) (by omega)).mpr q); omega
        refine z_aload_n C 3 dL_act_278 rfl rfl ?_
        refine z_sget (v := .ref (gB G)) C ins 4 (by decide) rfl wd6 dL_act_279 ?_
        refine z_alenB C 2 rfl dL_act_282 ?_
        refine z_bipush (v := 30) C dL_act_283 (by decide) ?_
        refine z_icmp_ne (tgt := 290) C dL_act_285 (by decide) (fun c285 => ?_) (fun c285 => ?_)
        · skip
          have hk3 : xk v < 30 := by have q : xk v ≠ 30 := fun q => c285 (by rw [q]; rfl); omega
          refine z_aload_n C 2 dL_act_290 rfl rfl ?_
          refine z_iload C 7 dL_act_291 rfl ?_
          refine z_iload C 0 dL_act_293 rfl ?_
          refine z_iload C 1 dL_act_295 rfl ?_
          obtain ⟨v3, hv3⟩ : ∃ z, z = xthrow v j 1 (1 + g0) := ⟨_, rfl⟩
          refine z_callV (w := (wX0 hh cI cZ v)) (w' := (wX0 hh cI cZ v3)) (w1 := ([] : va_W)) (w2 := (([] : va_W) ++ (wS G cI cP v))) (ws' := ((wX0 hh cI cZ v3) ++ (wS G cI cP v))) (As := [.int (nI j), .int 1, .int (nI (1 + g0))]) (rest := []) (st' := [.int (xthrowR v j 1 (1 + g0))]) (rv := some (.int (xthrowR v j 1 (1 + g0)))) C (by rw [hv3]; exact c_X0_throwSalt l D hh cI cZ v j 1 (1 + g0) (by omega) (by omega) (by first | exact Or.inl rfl | exact Or.inr rfl) (by omega) (by omega) (by omega) (by omega) (by omega)) (cwV 3 C.words gL_act_X0_throwSalt rfl rfl rfl (by decide +kernel) ⟨(Nat.le_of_ble_eq_true rfl), (Nat.le_of_ble_eq_true rfl)⟩) (q0 := 0) (ci := 0) rfl rfl rfl [0, 1] rfl rfl (Nat.le_of_ble_eq_true rfl) ⟨(by show _ ≤ 60; omega), (by show _ ≤ 45; omega)⟩ rfl rfl rfl rfl rfl dL_act_297 ?_
          refine z_aload_n C 3 dL_act_300 rfl rfl ?_
          refine z_iload C 7 dL_act_301 rfl ?_
          refine z_iload C 0 dL_act_303 rfl ?_
          refine z_iload C 1 dL_act_305 rfl ?_
          refine z_callVX (w := (wS G cI cP v)) (w1 := (wX0 hh cI cZ v3)) (w2 := ([] : va_W)) (As := [.int (nI j), .int 1, .int (nI (1 + g0))]) (rest := [.int (xthrowR v j 1 (1 + g0))]) C (c_X1_cast l D cI cP G B v j (1 + g0) 1 hI hj (by first | exact Or.inl rfl | exact Or.inr rfl) (by omega) hg hk3) (hAA.call _) zAA.blind (cwV 3 C.words gL_act_X1_cast rfl rfl rfl (by decide +kernel) ⟨(Nat.le_of_ble_eq_true rfl), (Nat.le_of_ble_eq_true rfl)⟩) (q0 := 0) (ci := 1) rfl rfl rfl [0, 2] rfl rfl (Nat.le_of_ble_eq_true rfl) ⟨(by show _ ≤ 60; omega), (by show _ ≤ 45; omega)⟩ (List.append_nil _).symm rfl dL_act_307 (fun G2 hG2 => ?_)
          refine z_ws (List.append_nil _) ?_
          refine z_st (st' := [.int (xthrowR v j 1 (1 + g0)), .int (xthrowR v j 1 (1 + g0))]) rfl ?_
          refine z_icmp_ne (tgt := 317) C dL_act_310 (by decide) (fun h9 => absurd h9 ((fun q => q rfl))) (fun _ => ?_)
          refine z_iconst (v := 1) C dL_act_313 (by decide) ?_
          refine z_goto (tgt := 318) C dL_act_314 (by decide) ?_
          exact z_zretX C ((xthrow v j 1 (1 + g0), G2) : S0 × AG) (by exact ⟨(hI.throw hj hk3 (by omega) (by omega)).le (by omega), hG2, by show 1 ≤ xn (xthrow v j 1 (1 + g0)); rw [xthrow_n]; omega⟩) hr hlocks (by show _ ≤ 60; omega) (by show _ ≤ 45; omega) (by first | exact Or.inl rfl | exact Or.inr rfl) dL_act_318 (by rfl) (by subst hv3; rfl)
        · skip
          refine z_iconst (v := 1) C dL_act_288 (by decide) ?_
          exact z_zretX C ((v, G) : S0 × AG) (by exact ⟨hI.le (by omega), rfl, by show 1 ≤ xn v; omega⟩) hr hlocks (by show _ ≤ 60; omega) (by show _ ≤ 45; omega) (by first | exact Or.inl rfl | exact Or.inr rfl) dL_act_289 (by rfl) (by rfl)
  have k319 : ∀ (so j : Nat), j < xn v → zG p l e ({ frames := 5, cells := 60, slots := 45, locals := 104 } : Room) s m args below meth c D 12 A 0 0 (MQ below (zQX (fun z : S0 × AG => Inv (B + 60) z.1 ∧ gO z.2 = gO G ∧ 1 ≤ xn z.1) (fun _ => some (.int 1)) (fun z => wX0 hh cI cZ z.1 ++ wS z.2 cI cP z.1) D A) args s 60 45 A) 319 [(0, .ref (hh 0)), (1, .ref (gO G)), (2, .int x), (3, .int (nI (xn v))), (4, .int (nI so)), (5, .int (nI j))] [] ((wX0 hh cI cZ v) ++ (wS G cI cP v)) := by
    intro so j hj
    refine z_iconst (v := 1) C dL_act_319 (by decide) ?_
    refine z_iload_n C 2 dL_act_320 rfl rfl ?_
    refine z_iconst (v := 3) C dL_act_321 (by decide) ?_
    refine z_ishr C dL_act_322 ?_
    refine z_bipush (v := 9) C dL_act_323 (by decide) ?_
    obtain ⟨g0, hg0, eg0⟩ := bel_ex (x >>> (3 &&& 31)) (m := 9) (by omega) (by omega)
    refine z_callS (w := ([] : va_W)) (w' := ([] : va_W)) (w1 := ([] : va_W)) (w2 := ((wX0 hh cI cZ v) ++ (wS G cI cP v))) (ws' := ((wX0 hh cI cZ v) ++ (wS G cI cP v))) (As := [.int (x >>> (3 &&& 31)), .int 9]) (rest := [.int 1]) (st' := [.int (bel (x >>> (3 &&& 31)) 9), .int 1]) (rv := some (.int (bel (x >>> (3 &&& 31)) 9))) C (c_L_below l D (x >>> (3 &&& 31)) 9 (by decide)) (va_cwS 2 C.words gL_act_L_below rfl rfl rfl (by decide +kernel) ⟨(Nat.le_of_ble_eq_true rfl), (Nat.le_of_ble_eq_true rfl)⟩) [] rfl rfl (Nat.le_of_ble_eq_true rfl) ⟨(Nat.le_of_ble_eq_true rfl), (Nat.le_of_ble_eq_true rfl)⟩ rfl rfl rfl rfl rfl dL_act_325 ?_
    refine z_top (y := nI g0) eg0 ?_
    refine z_iadd C dL_act_328 ?_
    refine z_top (y := nI (1 + g0)) (nI_add 1 g0) ?_
    refine z_istore (L' := [(9, .int (nI (1 + g0))), (0, .ref (hh 0)), (1, .ref (gO G)), (2, .int x), (3, .int (nI (xn v))), (4, .int (nI so)), (5, .int (nI j))]) C dL_act_329 (by decide) rfl ?_
    refine z_aload_n C 2 dL_act_331 rfl rfl ?_
    refine z_sget (v := .ref (gA G)) C ins 3 (by decide) rfl wd1 dL_act_332 ?_
    refine z_iload C 6 dL_act_335 rfl ?_
    refine z_mrow C 2 rfl j rfl (show j < xn v from by omega) hn8 dL_act_337 ?_
    refine z_iconst (v := 2) C dL_act_338 (by decide) ?_
    refine z_bipush (v := 9) C dL_act_339 (by decide) ?_
    refine z_aload_n C 2 dL_act_341 rfl rfl ?_
    refine z_sget (v := .ref (gA G)) C ins 3 (by decide) rfl wd1 dL_act_342 ?_
    refine z_iload C 6 dL_act_345 rfl ?_
    refine z_mrow C 2 rfl j rfl (show j < xn v from by omega) hn8 dL_act_347 ?_
    refine z_iconst (v := 2) C dL_act_348 (by decide) ?_
    refine z_mget (x := (xe v) j) C 0 rfl 2 rfl (by decide) (show j < xn v from by omega) rfl dL_act_349 ?_
    refine z_iload C 0 dL_act_350 rfl ?_
    refine z_iadd C dL_act_352 ?_
    refine z_mmin C wd2 wd3 wd4 wd5 (Nat.le_of_ble_eq_true rfl) (Nat.le_of_ble_eq_true rfl) (by show _ ≤ 60; omega) (by show _ ≤ 45; omega) dL_act_353 ?_
    refine z_mset2 C 0 rfl rfl (show j < xn v from by omega) dL_act_356 ?_
    refine z_aload_n C 1 dL_act_357 rfl rfl ?_
    refine z_iload C 6 dL_act_358 rfl ?_
    refine z_iload C 0 dL_act_360 rfl ?_
    obtain ⟨v4, hv4⟩ : ∃ z, z = xlump v j (nI (1 + g0)) := ⟨_, rfl⟩
    refine z_callV (w := (wX0 hh cI cZ v)) (w' := (wX0 hh cI cZ v4)) (w1 := ([] : va_W)) (w2 := (([] : va_W) ++ (wS G cI cP (xl v, xa v, upd (xe v) j (imin 9 (((xe v) j) + (nI (1 + g0)))), xn v, xw v, xf v, xg v, xx v, xk v, xc v, xd v, xo v, xy v, xb v)))) (ws' := ((wX0 hh cI cZ v4) ++ (wS G cI cP (xl v, xa v, upd (xe v) j (imin 9 (((xe v) j) + (nI (1 + g0)))), xn v, xw v, xf v, xg v, xx v, xk v, xc v, xd v, xo v, xy v, xb v)))) (As := [.int (nI j), .int (nI (1 + g0))]) (rest := []) (st' := [.int (xe (xlump v j (nI (1 + g0))) j)]) (rv := some (.int (xe (xlump v j (nI (1 + g0))) j))) C (by rw [hv4]; exact c_X0_doPenance l D hh cI cZ v j (1 + g0) (by omega) (by omega) (by omega) (by omega)) (cwV 2 C.words gL_act_X0_doPenance rfl rfl rfl (by decide +kernel) ⟨(Nat.le_of_ble_eq_true rfl), (Nat.le_of_ble_eq_true rfl)⟩) (q0 := 0) (ci := 0) rfl rfl rfl [0, 1] rfl rfl (Nat.le_of_ble_eq_true rfl) ⟨(by show _ ≤ 60; omega), (by show _ ≤ 45; omega)⟩ rfl rfl rfl rfl rfl dL_act_362 ?_
    refine z_aload_n C 2 dL_act_365 rfl rfl ?_
    refine z_sget (v := .ref (gA G)) C ins 3 (by decide) rfl wd1 dL_act_366 ?_
    refine z_iload C 6 dL_act_369 rfl ?_
    refine z_mrow C 2 rfl j rfl (show j < xn v from by omega) hn8 dL_act_371 ?_
    refine z_iconst (v := 2) C dL_act_372 (by decide) ?_
    refine z_mget (x := (upd (xe v) j (imin 9 (((xe v) j) + (nI (1 + g0))))) j) C 0 rfl 2 rfl (by decide) (show j < xn v from by omega) rfl dL_act_373 ?_
    refine z_icmp_ne (tgt := 381) C dL_act_374 (by decide) (fun h9 => absurd h9 ((fun q => q rfl))) (fun _ => ?_)
    refine z_iconst (v := 1) C dL_act_377 (by decide) ?_
    refine z_goto (tgt := 382) C dL_act_378 (by decide) ?_
    exact z_zretX C ((xlump v j (nI (1 + g0)), G) : S0 × AG) (by exact ⟨(hI.lump j (by omega)).le (by omega), rfl, by show 1 ≤ xn v; omega⟩) hr hlocks (by show _ ≤ 60; omega) (by show _ ≤ 45; omega) (by first | exact Or.inl rfl | exact Or.inr rfl) dL_act_382 (by rfl) (by subst hv4; rfl)
  have k383 : ∀ (so j : Nat), j < xn v → zG p l e ({ frames := 5, cells := 60, slots := 45, locals := 104 } : Room) s m args below meth c D 12 A 0 0 (MQ below (zQX (fun z : S0 × AG => Inv (B + 60) z.1 ∧ gO z.2 = gO G ∧ 1 ≤ xn z.1) (fun _ => some (.int 1)) (fun z => wX0 hh cI cZ z.1 ++ wS z.2 cI cP z.1) D A) args s 60 45 A) 383 [(0, .ref (hh 0)), (1, .ref (gO G)), (2, .int x), (3, .int (nI (xn v))), (4, .int (nI so)), (5, .int (nI j))] [] ((wX0 hh cI cZ v) ++ (wS G cI cP v)) := by
    intro so j hj
    refine z_iconst (v := 1) C dL_act_383 (by decide) ?_
    refine z_iload_n C 2 dL_act_384 rfl rfl ?_
    refine z_iconst (v := 3) C dL_act_385 (by decide) ?_
    refine z_ishr C dL_act_386 ?_
    refine z_iload_n C 2 dL_act_387 rfl rfl ?_
    refine z_iconst (v := 2) C dL_act_388 (by decide) ?_
    obtain ⟨r0, hr0, er0⟩ := bel_ex (x) (m := 2) (by omega) (by omega)
    refine z_callS (w := ([] : va_W)) (w' := ([] : va_W)) (w1 := ([] : va_W)) (w2 := ((wX0 hh cI cZ v) ++ (wS G cI cP v))) (ws' := ((wX0 hh cI cZ v) ++ (wS G cI cP v))) (As := [.int x, .int 2]) (rest := [.int (x >>> (3 &&& 31)), .int 1]) (st' := [.int (bel x 2), .int (x >>> (3 &&& 31)), .int 1]) (rv := some (.int (bel x 2))) C (c_L_below l D x 2 (by decide)) (va_cwS 2 C.words gL_act_L_below rfl rfl rfl (by decide +kernel) ⟨(Nat.le_of_ble_eq_true rfl), (Nat.le_of_ble_eq_true rfl)⟩) [] rfl rfl (Nat.le_of_ble_eq_true rfl) ⟨(Nat.le_of_ble_eq_true rfl), (Nat.le_of_ble_eq_true rfl)⟩ rfl rfl rfl rfl rfl dL_act_389 ?_
    refine z_top (y := nI r0) er0 ?_
    refine z_if_ne (tgt := 401) C dL_act_392 (by decide) (fun c392 => ?_) (fun c392 => ?_)
    · skip
      refine z_bipush (v := 60) C dL_act_401 (by decide) ?_
      obtain ⟨g0, hg0, eg0⟩ := bel_ex (x >>> (3 &&& 31)) (m := 60) (by omega) (by omega)
      refine z_callS (w := ([] : va_W)) (w' := ([] : va_W)) (w1 := ([] : va_W)) (w2 := ((wX0 hh cI cZ v) ++ (wS G cI cP v))) (ws' := ((wX0 hh cI cZ v) ++ (wS G cI cP v))) (As := [.int (x >>> (3 &&& 31)), .int 60]) (rest := [.int 1]) (st' := [.int (bel (x >>> (3 &&& 31)) 60), .int 1]) (rv := some (.int (bel (x >>> (3 &&& 31)) 60))) C (c_L_below l D (x >>> (3 &&& 31)) 60 (by decide)) (va_cwS 2 C.words gL_act_L_below rfl rfl rfl (by decide +kernel) ⟨(Nat.le_of_ble_eq_true rfl), (Nat.le_of_ble_eq_true rfl)⟩) [] rfl rfl (Nat.le_of_ble_eq_true rfl) ⟨(Nat.le_of_ble_eq_true rfl), (Nat.le_of_ble_eq_true rfl)⟩ rfl rfl rfl rfl rfl dL_act_403 ?_
      refine z_top (y := nI g0) eg0 ?_
      refine z_iadd C dL_act_406 ?_
      refine z_top (y := nI (1 + g0)) (nI_add 1 g0) ?_
      refine z_istore (L' := [(10, .int (nI (1 + g0))), (0, .ref (hh 0)), (1, .ref (gO G)), (2, .int x), (3, .int (nI (xn v))), (4, .int (nI so)), (5, .int (nI j))]) C dL_act_407 (by decide) rfl ?_
      refine z_aload_n C 2 dL_act_409 rfl rfl ?_
      refine z_sipush (v := 500) C dL_act_410 (by decide) ?_
      refine z_aload_n C 2 dL_act_413 rfl rfl ?_
      refine z_sget (v := .int (nI (xc v))) C ins 1 (by decide) rfl wd0 dL_act_414 ?_
      refine z_iload C 0 dL_act_417 rfl ?_
      refine z_iadd C dL_act_419 ?_
      refine z_top (y := nI (xc v + (1 + g0))) (nI_add _ _) ?_
      refine z_mmin C wd2 wd3 wd4 wd5 (Nat.le_of_ble_eq_true rfl) (Nat.le_of_ble_eq_true rfl) (by show _ ≤ 60; omega) (by show _ ≤ 45; omega) dL_act_420 ?_
      refine z_top (y := nI (min 500 (xc v + (1 + g0)))) (imin_nI (a := 500) (by omega) (by omega)) ?_
      refine z_sputC (n := (min 500 (xc v + (1 + g0)))) C ins rfl wd0 dL_act_423 ?_
      refine z_aload_n C 1 dL_act_426 rfl rfl ?_
      refine z_iload C 0 dL_act_427 rfl ?_
      obtain ⟨v5, hv5⟩ : ∃ z, z = uc v (min 500 (xc v + (1 + g0))) := ⟨_, rfl⟩
      refine z_callV (w := (wX0 hh cI cZ v)) (w' := (wX0 hh cI cZ v5)) (w1 := ([] : va_W)) (w2 := (([] : va_W) ++ (wS G cI cP (xl v, xa v, xe v, xn v, xw v, xf v, xg v, xx v, xk v, (min 500 (xc v + (1 + g0))), xd v, xo v, xy v, xb v)))) (ws' := ((wX0 hh cI cZ v5) ++ (wS G cI cP (xl v, xa v, xe v, xn v, xw v, xf v, xg v, xx v, xk v, (min 500 (xc v + (1 + g0))), xd v, xo v, xy v, xb v)))) (As := [.int (nI (1 + g0))]) (rest := []) (st' := [.int (nI (min 500 (xc v + (1 + g0))))]) (rv := some (.int (nI (min 500 (xc v + (1 + g0)))))) C (by rw [hv5]; exact c_X0_bringSalt l D hh cI cZ v (1 + g0) (by omega) (by omega) (by omega)) (cwV 1 C.words gL_act_X0_bringSalt rfl rfl rfl (by decide +kernel) ⟨(Nat.le_of_ble_eq_true rfl), (Nat.le_of_ble_eq_true rfl)⟩) (q0 := 0) (ci := 0) rfl rfl rfl [0, 1] rfl rfl (Nat.le_of_ble_eq_true rfl) ⟨(by show _ ≤ 60; omega), (by show _ ≤ 45; omega)⟩ rfl rfl rfl rfl rfl dL_act_429 ?_
      refine z_aload_n C 2 dL_act_432 rfl rfl ?_
      refine z_sget (v := .int (nI (min 500 (xc v + (1 + g0))))) C ins 1 (by decide) rfl wd0 dL_act_433 ?_
      refine z_icmp_ne (tgt := 443) C dL_act_436 (by decide) (fun h9 => absurd h9 ((fun q => q rfl))) (fun _ => ?_)
      refine z_iconst (v := 1) C dL_act_439 (by decide) ?_
      refine z_goto (tgt := 444) C dL_act_440 (by decide) ?_
      exact z_zretX C ((uc v (min 500 (xc v + (1 + g0))), G) : S0 × AG) (by exact ⟨(hI.cell (by omega)).le (by omega), rfl, by show 1 ≤ xn v; omega⟩) hr hlocks (by show _ ≤ 60; omega) (by show _ ≤ 45; omega) (by first | exact Or.inl rfl | exact Or.inr rfl) dL_act_444 (by rfl) (by subst hv5; rfl)
    · skip
      refine z_sipush (v := 500) C dL_act_395 (by decide) ?_
      refine z_goto (tgt := 403) C dL_act_398 (by decide) ?_
      obtain ⟨g0, hg0, eg0⟩ := bel_ex (x >>> (3 &&& 31)) (m := 500) (by omega) (by omega)
      refine z_callS (w := ([] : va_W)) (w' := ([] : va_W)) (w1 := ([] : va_W)) (w2 := ((wX0 hh cI cZ v) ++ (wS G cI cP v))) (ws' := ((wX0 hh cI cZ v) ++ (wS G cI cP v))) (As := [.int (x >>> (3 &&& 31)), .int 500]) (rest := [.int 1]) (st' := [.int (bel (x >>> (3 &&& 31)) 500), .int 1]) (rv := some (.int (bel (x >>> (3 &&& 31)) 500))) C (c_L_below l D (x >>> (3 &&& 31)) 500 (by decide)) (va_cwS 2 C.words gL_act_L_below rfl rfl rfl (by decide +kernel) ⟨(Nat.le_of_ble_eq_true rfl), (Nat.le_of_ble_eq_true rfl)⟩) [] rfl rfl (Nat.le_of_ble_eq_true rfl) ⟨(Nat.le_of_ble_eq_true rfl), (Nat.le_of_ble_eq_true rfl)⟩ rfl rfl rfl rfl rfl dL_act_403 ?_
      refine z_top (y := nI g0) eg0 ?_
      refine z_iadd C dL_act_406 ?_
      refine z_top (y := nI (1 + g0)) (nI_add 1 g0) ?_
      refine z_istore (L' := [(10, .int (nI (1 + g0))), (0, .ref (hh 0)), (1, .ref (gO G)), (2, .int x), (3, .int (nI (xn v))), (4, .int (nI so)), (5, .int (nI j))]) C dL_act_407 (by decide) rfl ?_
      refine z_aload_n C 2 dL_act_409 rfl rfl ?_
      refine z_sipush (v := 500) C dL_act_410 (by decide) ?_
      refine z_aload_n C 2 dL_act_413 rfl rfl ?_
      refine z_sget (v := .int (nI (xc v))) C ins 1 (by decide) rfl wd0 dL_act_414 ?_
      refine z_iload C 0 dL_act_417 rfl ?_
      refine z_iadd C dL_act_419 ?_
      refine z_top (y := nI (xc v + (1 + g0))) (nI_add _ _) ?_
      refine z_mmin C wd2 wd3 wd4 wd5 (Nat.le_of_ble_eq_true rfl) (Nat.le_of_ble_eq_true rfl) (by show _ ≤ 60; omega) (by show _ ≤ 45; omega) dL_act_420 ?_
      refine z_top (y := nI (min 500 (xc v + (1 + g0)))) (imin_nI (a := 500) (by omega) (by omega)) ?_
      refine z_sputC (n := (min 500 (xc v + (1 + g0)))) C ins rfl wd0 dL_act_423 ?_
      refine z_aload_n C 1 dL_act_426 rfl rfl ?_
      refine z_iload C 0 dL_act_427 rfl ?_
      obtain ⟨v6, hv6⟩ : ∃ z, z = uc v (min 500 (xc v + (1 + g0))) := ⟨_, rfl⟩
      refine z_callV (w := (wX0 hh cI cZ v)) (w' := (wX0 hh cI cZ v6)) (w1 := ([] : va_W)) (w2 := (([] : va_W) ++ (wS G cI cP (xl v, xa v, xe v, xn v, xw v, xf v, xg v, xx v, xk v, (min 500 (xc v + (1 + g0))), xd v, xo v, xy v, xb v)))) (ws' := ((wX0 hh cI cZ v6) ++ (wS G cI cP (xl v, xa v, xe v, xn v, xw v, xf v, xg v, xx v, xk v, (min 500 (xc v + (1 + g0))), xd v, xo v, xy v, xb v)))) (As := [.int (nI (1 + g0))]) (rest := []) (st' := [.int (nI (min 500 (xc v + (1 + g0))))]) (rv := some (.int (nI (min 500 (xc v + (1 + g0)))))) C (by rw [hv6]; exact c_X0_bringSalt l D hh cI cZ v (1 + g0) (by omega) (by omega) (by omega)) (cwV 1 C.words gL_act_X0_bringSalt rfl rfl rfl (by decide +kernel) ⟨(Nat.le_of_ble_eq_true rfl), (Nat.le_of_ble_eq_true rfl)⟩) (q0 := 0) (ci := 0) rfl rfl rfl [0, 1] rfl rfl (Nat.le_of_ble_eq_true rfl) ⟨(by show _ ≤ 60; omega), (by show _ ≤ 45; omega)⟩ rfl rfl rfl rfl rfl dL_act_429 ?_
      refine z_aload_n C 2 dL_act_432 rfl rfl ?_
      refine z_sget (v := .int (nI (min 500 (xc v + (1 + g0))))) C ins 1 (by decide) rfl wd0 dL_act_433 ?_
      refine z_icmp_ne (tgt := 443) C dL_act_436 (by decide) (fun h9 => absurd h9 ((fun q => q rfl))) (fun _ => ?_)
      refine z_iconst (v := 1) C dL_act_439 (by decide) ?_
      refine z_goto (tgt := 444) C dL_act_440 (by decide) ?_
      exact z_zretX C ((uc v (min 500 (xc v + (1 + g0))), G) : S0 × AG) (by exact ⟨(hI.cell (by omega)).le (by omega), rfl, by show 1 ≤ xn v; omega⟩) hr hlocks (by show _ ≤ 60; omega) (by show _ ≤ 45; omega) (by first | exact Or.inl rfl | exact Or.inr rfl) dL_act_444 (by rfl) (by subst hv6; rfl)
  have k445 : ∀ (so j : Nat), j < xn v → zG p l e ({ frames := 5, cells := 60, slots := 45, locals := 104 } : Room) s m args below meth c D 12 A 0 0 (MQ below (zQX (fun z : S0 × AG => Inv (B + 60) z.1 ∧ gO z.2 = gO G ∧ 1 ≤ xn z.1) (fun _ => some (.int 1)) (fun z => wX0 hh cI cZ z.1 ++ wS z.2 cI cP z.1) D A) args s 60 45 A) 445 [(0, .ref (hh 0)), (1, .ref (gO G)), (2, .int x), (3, .int (nI (xn v))), (4, .int (nI so)), (5, .int (nI j))] [] ((wX0 hh cI cZ v) ++ (wS G cI cP v)) := by
    intro so j hj
    refine z_iload_n C 2 dL_act_445 rfl rfl ?_
    refine z_iconst (v := 3) C dL_act_446 (by decide) ?_
    obtain ⟨r0, hr0, er0⟩ := bel_ex (x) (m := 3) (by omega) (by omega)
    refine z_callS (w := ([] : va_W)) (w' := ([] : va_W)) (w1 := ([] : va_W)) (w2 := ((wX0 hh cI cZ v) ++ (wS G cI cP v))) (ws' := ((wX0 hh cI cZ v) ++ (wS G cI cP v))) (As := [.int x, .int 3]) (rest := []) (st' := [.int (bel x 3)]) (rv := some (.int (bel x 3))) C (c_L_below l D x 3 (by decide)) (va_cwS 2 C.words gL_act_L_below rfl rfl rfl (by decide +kernel) ⟨(Nat.le_of_ble_eq_true rfl), (Nat.le_of_ble_eq_true rfl)⟩) [] rfl rfl (Nat.le_of_ble_eq_true rfl) ⟨(Nat.le_of_ble_eq_true rfl), (Nat.le_of_ble_eq_true rfl)⟩ rfl rfl rfl rfl rfl dL_act_447 ?_
    refine z_top (y := nI r0) er0 ?_
    refine z_if_le (tgt := 455) C dL_act_450 (by decide) (fun c450 => ?_) (fun c450 => ?_)
    · skip
      refine z_aload_n C 0 dL_act_455 rfl rfl ?_
      obtain ⟨v7, hv7⟩ : ∃ z, z = xaud v := ⟨_, rfl⟩
      refine z_callV (w := (wX0 hh cI cZ v)) (w' := (wX0 hh cI cZ v7)) (w1 := ([] : va_W)) (w2 := (([] : va_W) ++ (wS G cI cP v))) (ws' := ((wX0 hh cI cZ v7) ++ (wS G cI cP v))) (As := []) (rest := []) (st' := [.int (xflt v)]) (rv := some (.int (xflt v))) C (by rw [hv7]; exact c_X0_audit l D hh cI cZ v (by omega) (by omega)) (cwV 0 C.words gL_act_X0_audit rfl rfl rfl (by decide +kernel) ⟨(Nat.le_of_ble_eq_true rfl), (Nat.le_of_ble_eq_true rfl)⟩) (q0 := 0) (ci := 0) rfl rfl rfl [0, 1] rfl rfl (Nat.le_of_ble_eq_true rfl) ⟨(by show _ ≤ 60; omega), (by show _ ≤ 45; omega)⟩ rfl rfl rfl rfl rfl dL_act_456 ?_
      have hv7k0 : xn v7 = xn v := by rw [hv7]; exact xaud_n v
      refine z_aload_n C 1 dL_act_459 rfl rfl ?_
      refine z_callVX (w := (wS G cI cP v)) (w1 := (wX0 hh cI cZ v7)) (w2 := ([] : va_W)) (As := []) (rest := [.int (xflt v)]) C (c_X1_audit l D cI cP G B v hI) (hAA.call _) zAA.blind (cwV 0 C.words gL_act_X1_audit rfl rfl rfl (by decide +kernel) ⟨(Nat.le_of_ble_eq_true rfl), (Nat.le_of_ble_eq_true rfl)⟩) (q0 := 0) (ci := 1) rfl rfl rfl [0, 2] rfl rfl (Nat.le_of_ble_eq_true rfl) ⟨(by show _ ≤ 60; omega), (by show _ ≤ 45; omega)⟩ (List.append_nil _).symm rfl dL_act_460 (fun G2 hG2 => ?_)
      refine z_ws (List.append_nil _) ?_
      refine z_st (st' := [.int (xflt v), .int (xflt v)]) rfl ?_
      refine z_icmp_ne (tgt := 470) C dL_act_463 (by decide) (fun h9 => absurd h9 ((fun q => q rfl))) (fun _ => ?_)
      refine z_iconst (v := 1) C dL_act_466 (by decide) ?_
      refine z_goto (tgt := 471) C dL_act_467 (by decide) ?_
      exact z_zretX C ((xaud v, G2) : S0 × AG) (by exact ⟨hI.aud.le (by omega), hG2, by show 1 ≤ xn (xaud v); rw [xaud_n]; omega⟩) hr hlocks (by show _ ≤ 60; omega) (by show _ ≤ 45; omega) (by first | exact Or.inl rfl | exact Or.inr rfl) dL_act_471 (by rfl) (by subst hv7; rfl)
    · skip
      refine z_iconst (v := 1) C dL_act_453 (by decide) ?_
      exact z_zretX C ((v, G) : S0 × AG) (by exact ⟨hI.le (by omega), rfl, by show 1 ≤ xn v; omega⟩) hr hlocks (by show _ ≤ 60; omega) (by show _ ≤ 45; omega) (by first | exact Or.inl rfl | exact Or.inr rfl) dL_act_454 (by rfl) (by rfl)
  have k472 : ∀ (so j : Nat), j < xn v → zG p l e ({ frames := 5, cells := 60, slots := 45, locals := 104 } : Room) s m args below meth c D 12 A 0 0 (MQ below (zQX (fun z : S0 × AG => Inv (B + 60) z.1 ∧ gO z.2 = gO G ∧ 1 ≤ xn z.1) (fun _ => some (.int 1)) (fun z => wX0 hh cI cZ z.1 ++ wS z.2 cI cP z.1) D A) args s 60 45 A) 472 [(0, .ref (hh 0)), (1, .ref (gO G)), (2, .int x), (3, .int (nI (xn v))), (4, .int (nI so)), (5, .int (nI j))] [] ((wX0 hh cI cZ v) ++ (wS G cI cP v)) := by
    intro so j hj
    refine z_iconst (v := 1) C dL_act_472 (by decide) ?_
    refine z_iload_n C 2 dL_act_473 rfl rfl ?_
    refine z_iconst (v := 2) C dL_act_474 (by decide) ?_
    refine z_ishr C dL_act_475 ?_
    refine z_iload_n C 2 dL_act_476 rfl rfl ?_
    refine z_bipush (v := 6) C dL_act_477 (by decide) ?_
    obtain ⟨r0, hr0, er0⟩ := bel_ex (x) (m := 6) (by omega) (by omega)
    refine z_callS (w := ([] : va_W)) (w' := ([] : va_W)) (w1 := ([] : va_W)) (w2 := ((wX0 hh cI cZ v) ++ (wS G cI cP v))) (ws' := ((wX0 hh cI cZ v) ++ (wS G cI cP v))) (As := [.int x, .int 6]) (rest := [.int (x >>> (2 &&& 31)), .int 1]) (st' := [.int (bel x 6), .int (x >>> (2 &&& 31)), .int 1]) (rv := some (.int (bel x 6))) C (c_L_below l D x 6 (by decide)) (va_cwS 2 C.words gL_act_L_below rfl rfl rfl (by decide +kernel) ⟨(Nat.le_of_ble_eq_true rfl), (Nat.le_of_ble_eq_true rfl)⟩) [] rfl rfl (Nat.le_of_ble_eq_true rfl) ⟨(Nat.le_of_ble_eq_true rfl), (Nat.le_of_ble_eq_true rfl)⟩ rfl rfl rfl rfl rfl dL_act_479 ?_
    refine z_top (y := nI r0) er0 ?_
    refine z_if_ne (tgt := 490) C dL_act_482 (by decide) (fun c482 => ?_) (fun c482 => ?_)
    · skip
      refine z_iconst (v := 4) C dL_act_490 (by decide) ?_
      obtain ⟨g0, hg0, eg0⟩ := bel_ex (x >>> (2 &&& 31)) (m := 4) (by omega) (by omega)
      refine z_callS (w := ([] : va_W)) (w' := ([] : va_W)) (w1 := ([] : va_W)) (w2 := ((wX0 hh cI cZ v) ++ (wS G cI cP v))) (ws' := ((wX0 hh cI cZ v) ++ (wS G cI cP v))) (As := [.int (x >>> (2 &&& 31)), .int 4]) (rest := [.int 1]) (st' := [.int (bel (x >>> (2 &&& 31)) 4), .int 1]) (rv := some (.int (bel (x >>> (2 &&& 31)) 4))) C (c_L_below l D (x >>> (2 &&& 31)) 4 (by decide)) (va_cwS 2 C.words gL_act_L_below rfl rfl rfl (by decide +kernel) ⟨(Nat.le_of_ble_eq_true rfl), (Nat.le_of_ble_eq_true rfl)⟩) [] rfl rfl (Nat.le_of_ble_eq_true rfl) ⟨(Nat.le_of_ble_eq_true rfl), (Nat.le_of_ble_eq_true rfl)⟩ rfl rfl rfl rfl rfl dL_act_491 ?_
      refine z_top (y := nI g0) eg0 ?_
      refine z_iadd C dL_act_494 ?_
      refine z_top (y := nI (1 + g0)) (nI_add 1 g0) ?_
      refine z_istore (L' := [(11, .int (nI (1 + g0))), (0, .ref (hh 0)), (1, .ref (gO G)), (2, .int x), (3, .int (nI (xn v))), (4, .int (nI so)), (5, .int (nI j))]) C dL_act_495 (by decide) rfl ?_
      refine z_aload_n C 1 dL_act_497 rfl rfl ?_
      refine z_iload C 0 dL_act_498 rfl ?_
      obtain ⟨v8, hv8⟩ : ∃ z, z = xpass v (1 + g0) := ⟨_, rfl⟩
      refine z_callV (w := (wX0 hh cI cZ v)) (w' := (wX0 hh cI cZ v8)) (w1 := ([] : va_W)) (w2 := (([] : va_W) ++ (wS G cI cP v))) (ws' := ((wX0 hh cI cZ v8) ++ (wS G cI cP v))) (As := [.int (nI (1 + g0))]) (rest := []) (st' := [.int (xpassF v (1 + g0))]) (rv := some (.int (xpassF v (1 + g0)))) C (by rw [hv8]; exact c_X0_pass l D hh cI cZ v (1 + g0) (by omega) (by omega) (by omega) (by omega)) (cwV 1 C.words gL_act_X0_pass rfl rfl rfl (by decide +kernel) ⟨(Nat.le_of_ble_eq_true rfl), (Nat.le_of_ble_eq_true rfl)⟩) (q0 := 0) (ci := 0) rfl rfl rfl [0, 1] rfl rfl (Nat.le_of_ble_eq_true rfl) ⟨(by show _ ≤ 60; omega), (by show _ ≤ 45; omega)⟩ rfl rfl rfl rfl rfl dL_act_500 ?_
      refine z_aload_n C 2 dL_act_503 rfl rfl ?_
      refine z_iload C 0 dL_act_504 rfl ?_
      refine z_callVX (w := (wS G cI cP v)) (w1 := (wX0 hh cI cZ v8)) (w2 := ([] : va_W)) (As := [.int (nI (1 + g0))]) (rest := [.int (xpassF v (1 + g0))]) C (c_X1_behind l D cI cP G B v (1 + g0) hI (by omega) hB) (hAA.call _) zAA.blind (cwV 1 C.words gL_act_X1_behind rfl rfl rfl (by decide +kernel) ⟨(Nat.le_of_ble_eq_true rfl), (Nat.le_of_ble_eq_true rfl)⟩) (q0 := 0) (ci := 1) rfl rfl rfl [0, 2] rfl rfl (Nat.le_of_ble_eq_true rfl) ⟨(by show _ ≤ 60; omega), (by show _ ≤ 45; omega)⟩ (List.append_nil _).symm rfl dL_act_506 (fun G2 hG2 => ?_)
      refine z_ws (List.append_nil _) ?_
      refine z_st (st' := [.int (xpassF v (1 + g0)), .int (xpassF v (1 + g0))]) rfl ?_
      refine z_icmp_ne (tgt := 516) C dL_act_509 (by decide) (fun h9 => absurd h9 ((fun q => q rfl))) (fun _ => ?_)
      refine z_iconst (v := 1) C dL_act_512 (by decide) ?_
      refine z_goto (tgt := 517) C dL_act_513 (by decide) ?_
      exact z_zretX C ((xpass v (1 + g0), G2) : S0 × AG) (by exact ⟨(hI.pass (1 + g0)).le (by omega), hG2, by show 1 ≤ xn (xpass v (1 + g0)); rw [xpass_n]; omega⟩) hr hlocks (by show _ ≤ 60; omega) (by show _ ≤ 45; omega) (by first | exact Or.inl rfl | exact Or.inr rfl) dL_act_517 (by rfl) (by subst hv8; rfl)
    · skip
      refine z_bipush (v := 60) C dL_act_485 (by decide) ?_
      refine z_goto (tgt := 491) C dL_act_487 (by decide) ?_
      obtain ⟨g0, hg0, eg0⟩ := bel_ex (x >>> (2 &&& 31)) (m := 60) (by omega) (by omega)
      refine z_callS (w := ([] : va_W)) (w' := ([] : va_W)) (w1 := ([] : va_W)) (w2 := ((wX0 hh cI cZ v) ++ (wS G cI cP v))) (ws' := ((wX0 hh cI cZ v) ++ (wS G cI cP v))) (As := [.int (x >>> (2 &&& 31)), .int 60]) (rest := [.int 1]) (st' := [.int (bel (x >>> (2 &&& 31)) 60), .int 1]) (rv := some (.int (bel (x >>> (2 &&& 31)) 60))) C (c_L_below l D (x >>> (2 &&& 31)) 60 (by decide)) (va_cwS 2 C.words gL_act_L_below rfl rfl rfl (by decide +kernel) ⟨(Nat.le_of_ble_eq_true rfl), (Nat.le_of_ble_eq_true rfl)⟩) [] rfl rfl (Nat.le_of_ble_eq_true rfl) ⟨(Nat.le_of_ble_eq_true rfl), (Nat.le_of_ble_eq_true rfl)⟩ rfl rfl rfl rfl rfl dL_act_491 ?_
      refine z_top (y := nI g0) eg0 ?_
      refine z_iadd C dL_act_494 ?_
      refine z_top (y := nI (1 + g0)) (nI_add 1 g0) ?_
      refine z_istore (L' := [(11, .int (nI (1 + g0))), (0, .ref (hh 0)), (1, .ref (gO G)), (2, .int x), (3, .int (nI (xn v))), (4, .int (nI so)), (5, .int (nI j))]) C dL_act_495 (by decide) rfl ?_
      refine z_aload_n C 1 dL_act_497 rfl rfl ?_
      refine z_iload C 0 dL_act_498 rfl ?_
      obtain ⟨v9, hv9⟩ : ∃ z, z = xpass v (1 + g0) := ⟨_, rfl⟩
      refine z_callV (w := (wX0 hh cI cZ v)) (w' := (wX0 hh cI cZ v9)) (w1 := ([] : va_W)) (w2 := (([] : va_W) ++ (wS G cI cP v))) (ws' := ((wX0 hh cI cZ v9) ++ (wS G cI cP v))) (As := [.int (nI (1 + g0))]) (rest := []) (st' := [.int (xpassF v (1 + g0))]) (rv := some (.int (xpassF v (1 + g0)))) C (by rw [hv9]; exact c_X0_pass l D hh cI cZ v (1 + g0) (by omega) (by omega) (by omega) (by omega)) (cwV 1 C.words gL_act_X0_pass rfl rfl rfl (by decide +kernel) ⟨(Nat.le_of_ble_eq_true rfl), (Nat.le_of_ble_eq_true rfl)⟩) (q0 := 0) (ci := 0) rfl rfl rfl [0, 1] rfl rfl (Nat.le_of_ble_eq_true rfl) ⟨(by show _ ≤ 60; omega), (by show _ ≤ 45; omega)⟩ rfl rfl rfl rfl rfl dL_act_500 ?_
      refine z_aload_n C 2 dL_act_503 rfl rfl ?_
      refine z_iload C 0 dL_act_504 rfl ?_
      refine z_callVX (w := (wS G cI cP v)) (w1 := (wX0 hh cI cZ v9)) (w2 := ([] : va_W)) (As := [.int (nI (1 + g0))]) (rest := [.int (xpassF v (1 + g0))]) C (c_X1_behind l D cI cP G B v (1 + g0) hI (by omega) hB) (hAA.call _) zAA.blind (cwV 1 C.words gL_act_X1_behind rfl rfl rfl (by decide +kernel) ⟨(Nat.le_of_ble_eq_true rfl), (Nat.le_of_ble_eq_true rfl)⟩) (q0 := 0) (ci := 1) rfl rfl rfl [0, 2] rfl rfl (Nat.le_of_ble_eq_true rfl) ⟨(by show _ ≤ 60; omega), (by show _ ≤ 45; omega)⟩ (List.append_nil _).symm rfl dL_act_506 (fun G2 hG2 => ?_)
      refine z_ws (List.append_nil _) ?_
      refine z_st (st' := [.int (xpassF v (1 + g0)), .int (xpassF v (1 + g0))]) rfl ?_
      refine z_icmp_ne (tgt := 516) C dL_act_509 (by decide) (fun h9 => absurd h9 ((fun q => q rfl))) (fun _ => ?_)
      refine z_iconst (v := 1) C dL_act_512 (by decide) ?_
      refine z_goto (tgt := 517) C dL_act_513 (by decide) ?_
      exact z_zretX C ((xpass v (1 + g0), G2) : S0 × AG) (by exact ⟨(hI.pass (1 + g0)).le (by omega), hG2, by show 1 ≤ xn (xpass v (1 + g0)); rw [xpass_n]; omega⟩) hr hlocks (by show _ ≤ 60; omega) (by show _ ≤ 45; omega) (by first | exact Or.inl rfl | exact Or.inr rfl) dL_act_517 (by rfl) (by subst hv9; rfl)
  have k26 : ∀ (so : Nat), zG p l e ({ frames := 5, cells := 60, slots := 45, locals := 104 } : Room) s m args below meth c D 12 A 0 0 (MQ below (zQX (fun z : S0 × AG => Inv (B + 60) z.1 ∧ gO z.2 = gO G ∧ 1 ≤ xn z.1) (fun _ => some (.int 1)) (fun z => wX0 hh cI cZ z.1 ++ wS z.2 cI cP z.1) D A) args s 60 45 A) 26 [(0, .ref (hh 0)), (1, .ref (gO G)), (2, .int x), (3, .int (nI (xn v))), (4, .int (nI so))] [] ((wX0 hh cI cZ v) ++ (wS G cI cP v)) := by
    intro so
    refine z_iload_n C 3 dL_act_26 rfl rfl ?_
    refine z_bipush (v := 8) C dL_act_27 (by decide) ?_
    refine z_icmp_ne (tgt := 34) C dL_act_29 (by decide) (fun c29 => ?_) (fun c29 => ?_)
    · skip
      have hn87 : xn v < 8 := by have q : xn v ≠ 8 := fun q => c29 (by rw [q]; rfl); omega
      refine z_aload_n C 1 dL_act_34 rfl rfl ?_
      refine z_aload_n C 1 dL_act_35 rfl rfl ?_
      refine z_sget (v := .ref (gA G)) C ins 3 (by decide) rfl wd1 dL_act_36 ?_
      refine z_iconst (v := 3) C dL_act_39 (by decide) ?_
      refine z_newi (N := 3) C 0 rfl wd7 (by decide) (by decide) (by decide) (by show _ ≤ 60; omega) (by show _ ≤ 45; omega) dL_act_40 (fun q => ?_)
      refine z_dup C dL_act_42 rfl ?_
      refine z_iconst (v := 0) C dL_act_43 (by decide) ?_
      refine z_bipush (v := 50) C dL_act_44 (by decide) ?_
      refine z_qset C 0 rfl 0 rfl (by decide) (by decide) dL_act_46 ?_
      refine z_dup C dL_act_47 rfl ?_
      refine z_iconst (v := 1) C dL_act_48 (by decide) ?_
      refine z_iconst (v := 0) C dL_act_49 (by decide) ?_
      refine z_qset C 0 rfl 1 rfl (by decide) (by decide) dL_act_50 ?_
      refine z_dup C dL_act_51 rfl ?_
      refine z_iconst (v := 2) C dL_act_52 (by decide) ?_
      refine z_iconst (v := 0) C dL_act_53 (by decide) ?_
      refine z_qset C 0 rfl 2 rfl (by decide) (by decide) dL_act_54 ?_
      refine z_ws (ws' := (((wX0 hh cI cZ v ++ wSo G v) ++ wT (gA G) cP cI (xn v) 3 (gM G) (mrow v)) ++ wT (gB G) cP cI (xk v) 4 (gL G) (lrow v)) ++ [(q, .inl (cI, 3, .inl (upd (upd (upd (fun _ => 0) 0 50) 1 0) 2 0)))]) (by unfold wS; simp only [List.append_assoc]) ?_
      refine z_swap ?_
      refine z_callSX (w := wT (gA G) cP cI (xn v) 3 (gM G) (mrow v) ++ [(q, .inl (cI, 3, .inl (upd (upd (upd (fun _ => 0) 0 50) 1 0) 2 0)))]) (w1 := wX0 hh cI cZ v ++ wSo G v) (w2 := wT (gB G) cP cI (xk v) 4 (gL G) (lrow v)) (As := [.ref (gA G), .ref q]) (rest := [.ref (gO G)]) C (c_X1_with l D cI cP (g := gM G) (r := mrow v) (by omega)) (hAA.call _) zAA.blind (va_cwS 2 C.words gL_act_X1_with rfl rfl rfl (by decide +kernel) ⟨(Nat.le_of_ble_eq_true rfl), (Nat.le_of_ble_eq_true rfl)⟩) [0, 2] rfl rfl (Nat.le_of_ble_eq_true rfl) ⟨(by show _ ≤ 60; omega), (by show _ ≤ 45; omega)⟩ (congrArg (· ++ wT (gB G) cP cI (xk v) 4 (gL G) (lrow v)) (List.append_assoc _ _ _)) rfl dL_act_55 (fun bb _ => ?_)
      refine z_ws (ws' := (wX0 hh cI cZ v ++ wSo G v) ++ (wT bb cP cI (xn v + 1) 3 (snoc (xn v) (gM G) q) (snoc (xn v) (mrow v) (upd (upd (upd (fun _ => 0) 0 50) 1 0) 2 0)) ++ wT (gB G) cP cI (xk v) 4 (gL G) (lrow v))) (List.append_assoc _ _ _) ?_
      refine z_st (st' := [.ref bb, .ref (gO G)]) rfl ?_
      refine z_sputA (pre := wX0 hh cI cZ v) (G := G) (u := v) (b := bb) C ins wd1 dL_act_58 ?_
      refine z_ws (ws' := wX0 hh cI cZ v ++ wS (gO G, bb, gB G, snoc (xn v) (gM G) q, gL G) cI cP (xjoin v)) (wS_pushM (u2 := xjoin v) rfl rfl rfl rfl rfl (fun m hm => mrow_eq (pk_un (Nat.ne_of_lt hm)).symm (pk_un (Nat.ne_of_lt hm)).symm (pk_un (Nat.ne_of_lt hm)).symm) (fun _ _ => rfl) (row3 pk_us pk_us pk_us)) ?_
      refine z_aload_n C 0 dL_act_61 rfl rfl ?_
      obtain ⟨v10, hv10⟩ : ∃ z, z = xjoin v := ⟨_, rfl⟩
      refine z_callV (w := (wX0 hh cI cZ v)) (w' := (wX0 hh cI cZ v10)) (w1 := ([] : va_W)) (w2 := (([] : va_W) ++ (wS (gO G, bb, gB G, snoc (xn v) (gM G) q, gL G) cI cP (xjoin v)))) (ws' := ((wX0 hh cI cZ v10) ++ (wS (gO G, bb, gB G, snoc (xn v) (gM G) q, gL G) cI cP (xjoin v)))) (As := []) (rest := []) (st' := [.int (nI (xn v))]) (rv := some (.int (nI (xn v)))) C (by rw [hv10]; exact c_X0_join l D hh cI cZ v (by omega)) (cwV 0 C.words gL_act_X0_join rfl rfl rfl (by decide +kernel) ⟨(Nat.le_of_ble_eq_true rfl), (Nat.le_of_ble_eq_true rfl)⟩) (q0 := 0) (ci := 0) rfl rfl rfl [0, 1] rfl rfl (Nat.le_of_ble_eq_true rfl) ⟨(by show _ ≤ 60; omega), (by show _ ≤ 45; omega)⟩ rfl rfl rfl rfl rfl dL_act_62 ?_
      refine z_iload_n C 3 dL_act_65 rfl rfl ?_
      refine z_icmp_ne (tgt := 73) C dL_act_66 (by decide) (fun h9 => absurd h9 ((fun q => q rfl))) (fun _ => ?_)
      refine z_iconst (v := 1) C dL_act_69 (by decide) ?_
      refine z_goto (tgt := 74) C dL_act_70 (by decide) ?_
      exact z_zretX C ((xjoin v, (gO G, bb, gB G, snoc (xn v) (gM G) q, gL G)) : S0 × AG) (by exact ⟨(hI.join hn87).le (by omega), rfl, by show 1 ≤ xn v + 1; omega⟩) hr hlocks (by show _ ≤ 60; omega) (by show _ ≤ 45; omega) (by first | exact Or.inl rfl | exact Or.inr rfl) dL_act_74 (by rfl) (by subst hv10; rfl)
    · skip
      have hn88 : xn v = 8 := (nI_eq (b := 8) (by omega) (by omega)).mp c29
      refine z_iconst (v := 1) C dL_act_32 (by decide) ?_
      exact z_zretX C ((v, G) : S0 × AG) (by exact ⟨hI.le (by omega), rfl, by show 1 ≤ xn v; omega⟩) hr hlocks (by show _ ≤ 60; omega) (by show _ ≤ 45; omega) (by first | exact Or.inl rfl | exact Or.inr rfl) dL_act_33 (by rfl) (by rfl)
  refine z_aload_n C 1 dL_act_0 rfl rfl ?_
  refine z_sget (v := .ref (gA G)) C ins 3 (by decide) rfl wd1 dL_act_1 ?_
  refine z_alenA C 2 rfl dL_act_4 ?_
  refine z_istore_n (L' := [(3, .int (nI (xn v))), (0, .ref (hh 0)), (1, .ref (gO G)), (2, .int x)]) C dL_act_5 rfl (by decide) rfl ?_
  refine z_iload_n C 3 dL_act_6 rfl rfl ?_
  refine z_bipush (v := 9) C dL_act_7 (by decide) ?_
  refine z_ishr C dL_act_9 ?_
  refine z_bipush (v := 20) C dL_act_10 (by decide) ?_
  obtain ⟨so, hso, eso⟩ := bel_ex (x >>> (9 &&& 31)) (m := 20) (by omega) (by omega)
  refine z_callS (w := ([] : va_W)) (w' := ([] : va_W)) (w1 := ([] : va_W)) (w2 := ((wX0 hh cI cZ v) ++ (wS G cI cP v))) (ws' := ((wX0 hh cI cZ v) ++ (wS G cI cP v))) (As := [.int (x >>> (9 &&& 31)), .int 20]) (rest := []) (st' := [.int (bel (x >>> (9 &&& 31)) 20)]) (rv := some (.int (bel (x >>> (9 &&& 31)) 20))) C (c_L_below l D (x >>> (9 &&& 31)) 20 (by decide)) (va_cwS 2 C.words gL_act_L_below rfl rfl rfl (by decide +kernel) ⟨(Nat.le_of_ble_eq_true rfl), (Nat.le_of_ble_eq_true rfl)⟩) [] rfl rfl (Nat.le_of_ble_eq_true rfl) ⟨(Nat.le_of_ble_eq_true rfl), (Nat.le_of_ble_eq_true rfl)⟩ rfl rfl rfl rfl rfl dL_act_12 ?_
  refine z_top (y := nI so) eso ?_
  refine z_istore (L' := [(4, .int (nI so)), (3, .int (nI (xn v))), (0, .ref (hh 0)), (1, .ref (gO G)), (2, .int x)]) C dL_act_15 (by decide) rfl ?_
  refine z_iload_n C 1 dL_act_17 rfl rfl ?_
  refine z_if_eq (tgt := 26) C dL_act_18 (by decide) (fun c18 => ?_) (fun c18 => ?_)
  · skip
    refine z_sub (L' := [(0, .ref (hh 0)), (1, .ref (gO G)), (2, .int x), (3, .int (nI (xn v))), (4, .int (nI so))]) [2, 3, 4, 1, 0] rfl ?_
    exact k26 so
  · skip
    refine z_iload C 0 dL_act_21 rfl ?_
    refine z_if_ne (tgt := 75) C dL_act_23 (by decide) (fun c23 => ?_) (fun c23 => ?_)
    · skip
      refine z_iload_n C 4 dL_act_75 rfl rfl ?_
      refine z_iconst (v := 1) C dL_act_76 (by decide) ?_
      refine z_ishr C dL_act_77 ?_
      refine z_iload_n C 1 dL_act_78 rfl rfl ?_
      have hn1 := nI_nz c18
      obtain ⟨j, hj, ej⟩ := bel_ex (x >>> (1 &&& 31)) (m := xn v) hn1 (by omega)
      refine z_callS (w := ([] : va_W)) (w' := ([] : va_W)) (w1 := ([] : va_W)) (w2 := ((wX0 hh cI cZ v) ++ (wS G cI cP v))) (ws' := ((wX0 hh cI cZ v) ++ (wS G cI cP v))) (As := [.int (x >>> (1 &&& 31)), .int (nI (xn v))]) (rest := []) (st' := [.int (bel (x >>> (1 &&& 31)) (nI (xn v)))]) (rv := some (.int (bel (x >>> (1 &&& 31)) (nI (xn v))))) C (c_L_below l D (x >>> (1 &&& 31)) (nI (xn v)) c18) (va_cwS 2 C.words gL_act_L_below rfl rfl rfl (by decide +kernel) ⟨(Nat.le_of_ble_eq_true rfl), (Nat.le_of_ble_eq_true rfl)⟩) [] rfl rfl (Nat.le_of_ble_eq_true rfl) ⟨(Nat.le_of_ble_eq_true rfl), (Nat.le_of_ble_eq_true rfl)⟩ rfl rfl rfl rfl rfl dL_act_79 ?_
      refine z_top (y := nI j) ej ?_
      refine z_istore (L' := [(5, .int (nI j)), (4, .int (nI so)), (3, .int (nI (xn v))), (0, .ref (hh 0)), (1, .ref (gO G)), (2, .int x)]) C dL_act_82 (by decide) rfl ?_
      refine z_iload C 1 dL_act_84 rfl ?_
      have hso14 : so = 0 ∨ so = 1 ∨ so = 2 ∨ so = 3 ∨ so = 4 ∨ so = 5 ∨ so = 6 ∨ so = 7 ∨ so = 8 ∨ so = 9 ∨ so = 10 ∨ so = 11 ∨ so = 12 ∨ so = 13 ∨ so = 14 ∨ 15 ≤ so := by omega
      refine z_sub (L' := [(0, .ref (hh 0)), (1, .ref (gO G)), (2, .int x), (3, .int (nI (xn v))), (4, .int (nI so)), (5, .int (nI j))]) [3, 4, 5, 2, 1, 0] rfl ?_
      rcases hso14 with rfl | rfl | rfl | rfl | rfl | rfl | rfl | rfl | rfl | rfl | rfl | rfl | rfl | rfl | rfl | h15
      · exact absurd rfl c23
      · exact z_tabIn (off := 70) (tgt := 156) C dL_act_86 (by decide +kernel) (by decide +kernel) (by decide +kernel) (by decide) (k156 _ j hj)
      · exact z_tabIn (off := 70) (tgt := 156) C dL_act_86 (by decide +kernel) (by decide +kernel) (by decide +kernel) (by decide) (k156 _ j hj)
      · exact z_tabIn (off := 70) (tgt := 156) C dL_act_86 (by decide +kernel) (by decide +kernel) (by decide +kernel) (by decide) (k156 _ j hj)
      · exact z_tabIn (off := 70) (tgt := 156) C dL_act_86 (by decide +kernel) (by decide +kernel) (by decide +kernel) (by decide) (k156 _ j hj)
      · exact z_tabIn (off := 156) (tgt := 242) C dL_act_86 (by decide +kernel) (by decide +kernel) (by decide +kernel) (by decide) (k242 _ j hj)
      · exact z_tabIn (off := 156) (tgt := 242) C dL_act_86 (by decide +kernel) (by decide +kernel) (by decide +kernel) (by decide) (k242 _ j hj)
      · exact z_tabIn (off := 156) (tgt := 242) C dL_act_86 (by decide +kernel) (by decide +kernel) (by decide +kernel) (by decide) (k242 _ j hj)
      · exact z_tabIn (off := 156) (tgt := 242) C dL_act_86 (by decide +kernel) (by decide +kernel) (by decide +kernel) (by decide) (k242 _ j hj)
      · exact z_tabIn (off := 156) (tgt := 242) C dL_act_86 (by decide +kernel) (by decide +kernel) (by decide +kernel) (by decide) (k242 _ j hj)
      · exact z_tabIn (off := 233) (tgt := 319) C dL_act_86 (by decide +kernel) (by decide +kernel) (by decide +kernel) (by decide) (k319 _ j hj)
      · exact z_tabIn (off := 233) (tgt := 319) C dL_act_86 (by decide +kernel) (by decide +kernel) (by decide +kernel) (by decide) (k319 _ j hj)
      · exact z_tabIn (off := 297) (tgt := 383) C dL_act_86 (by decide +kernel) (by decide +kernel) (by decide +kernel) (by decide) (k383 _ j hj)
      · exact z_tabIn (off := 297) (tgt := 383) C dL_act_86 (by decide +kernel) (by decide +kernel) (by decide +kernel) (by decide) (k383 _ j hj)
      · exact z_tabIn (off := 359) (tgt := 445) C dL_act_86 (by decide +kernel) (by decide +kernel) (by decide +kernel) (by decide) (k445 _ j hj)
      · exact z_tabOut (tgt := 472) C dL_act_86 (Or.inr (by rw [nI_toInt (by omega)]; omega)) (by decide) (k472 _ j hj)
    · skip
      refine z_sub (L' := [(0, .ref (hh 0)), (1, .ref (gO G)), (2, .int x), (3, .int (nI (xn v))), (4, .int (nI so))]) [2, 3, 4, 1, 0] rfl ?_
      exact k26 so
end
