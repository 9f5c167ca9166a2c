/-! the simulation's cells: its object, its two tables of rows -/
/-- addresses: the object, its array of members, of throws, a member's row, a throw's row -/
abbrev AG : Type := Nat × Nat × Nat × (Nat → Nat) × (Nat → Nat)
abbrev gO (G : AG) : Nat := G.1
abbrev gA (G : AG) : Nat := G.2.1
abbrev gB (G : AG) : Nat := G.2.2.1
abbrev gM (G : AG) : Nat → Nat := G.2.2.2.1
abbrev gL (G : AG) : Nat → Nat := G.2.2.2.2
def refs (n : Nat) (g : Nat → Nat) : Nat → Option Nat := fun i => if i < n then some (g i) else none
def wR (cI : ClassId) (n c : Nat) (g : Nat → Nat) (r : Nat → Nat → Int32) : va_W := (List.range n).map (fun i => (g i, .inl (cI, c, .inl (r i))))
def wT (a : Nat) (cP cI : ClassId) (n c : Nat) (g : Nat → Nat) (r : Nat → Nat → Int32) : va_W := (a, .inl (cP, n, .inr (.inr (.inr (.inr (refs n g)))))) :: wR cI n c g r
def mrow (u : S0) (i : Nat) : Nat → Int32 := fun j => if j = 0 then xl u i else if j = 1 then xa u i else if j = 2 then xe u i else 0
def lrow (u : S0) (t : Nat) : Nat → Int32 := fun j => if j = 0 then xw u t else if j = 1 then xf u t else if j = 2 then xg u t else if j = 3 then xx u t else 0
def wSo (G : AG) (u : S0) : va_W := [(gO G, .inr (1, [.int (xd u), .int (nI (xc u)), .int (xo u), .ref (gA G), .ref (gB G)]))]
def wS (G : AG) (cI cP : ClassId) (u : S0) : va_W := (wSo G u ++ wT (gA G) cP cI (xn u) 3 (gM G) (mrow u)) ++ wT (gB G) cP cI (xk u) 4 (gL G) (lrow u)
/-- n things, and one behind them -/
def snoc {α : Type} (n : Nat) (f : Nat → α) (x : α) : Nat → α := fun i => if i < n then f i else x
theorem snoc_lt {α : Type} {n i : Nat} {f : Nat → α} {x : α} (h : i < n) : snoc n f x i = f i := if_pos h
theorem snoc_n {α : Type} {n : Nat} {f : Nat → α} {x : α} : snoc n f x n = x := if_neg (Nat.lt_irrefl n)
section WT
variable {a : Nat} {cP cI : ClassId} {n c i : Nat} {g g' : Nat → Nat} {r r' : Nat → Nat → Int32} {pre : va_W} {G : AG} {u : S0}
theorem wR_get (h : i < n) : (wR cI n c g r)[i]? = some (g i, .inl (cI, c, .inl (r i))) := by
  unfold wR
  rw [List.getElem?_map, List.getElem?_range h]
  rfl
theorem wT_get (h : i < n) : (wT a cP cI n c g r)[1 + i]? = some (g i, .inl (cI, c, .inl (r i))) := by
  rw [Nat.add_comm]
  exact wR_get h
theorem wR_congr (hg : ∀ i, i < n → g i = g' i) (hr : ∀ i, i < n → r i = r' i) : wR cI n c g r = wR cI n c g' r' := List.map_congr_left (fun i hi => by rw [hg i (List.mem_range.mp hi), hr i (List.mem_range.mp hi)])
theorem refs_congr (hg : ∀ i, i < n → g i = g' i) : refs n g = refs n g' := by
  funext i
  unfold refs
  by_cases h : i < n
  · rw [if_pos h, if_pos h, hg i h]
  · rw [if_neg h, if_neg h]
theorem wT_congr (hg : ∀ i, i < n → g i = g' i) (hr : ∀ i, i < n → r i = r' i) : wT a cP cI n c g r = wT a cP cI n c g' r' := by
  unfold wT
  rw [wR_congr hg hr, refs_congr hg]
theorem wR_set (h : i < n) (x : Nat → Int32) : (wR cI n c g r).set i (g i, .inl (cI, c, .inl x)) = wR cI n c g (va_up r i x) := by
  apply List.ext_getElem?
  intro k
  rw [List.getElem?_set]
  by_cases hk : i = k
  · subst hk
    have hl : i < (wR cI n c g r).length := by
      unfold wR
      rw [List.length_map, List.length_range]
      exact h
    rw [if_pos rfl, if_pos hl, wR_get h]
    unfold va_up
    rw [if_pos rfl]
  · rw [if_neg hk]
    unfold wR
    rw [List.getElem?_map, List.getElem?_map]
    by_cases h2 : k < n
    · rw [List.getElem?_range h2]
      show some (g k, Sum.inl (cI, c, Sum.inl (r k))) = some (g k, Sum.inl (cI, c, Sum.inl (va_up r i x k)))
      unfold va_up
      rw [if_neg (Ne.symm hk)]
    · rw [List.getElem?_eq_none (by rw [List.length_range]; omega)]
      rfl
theorem wT_set (h : i < n) (x : Nat → Int32) : (wT a cP cI n c g r).set (1 + i) (g i, .inl (cI, c, .inl x)) = wT a cP cI n c g (va_up r i x) := by
  rw [Nat.add_comm]
  show _ :: (wR cI n c g r).set i _ = _
  rw [wR_set h]
  rfl
theorem wR_snoc (q : Nat) (x : Nat → Int32) : wR cI n c g r ++ [(q, .inl (cI, c, .inl x))] = wR cI (n + 1) c (snoc n g q) (snoc n r x) := by
  have e : wR cI n c g r = wR cI n c (snoc n g q) (snoc n r x) := wR_congr (fun i h => (snoc_lt h).symm) (fun i h => (snoc_lt h).symm)
  rw [e]
  unfold wR
  rw [List.range_succ, List.map_append]
  show _ = _ ++ [(snoc n g q n, Sum.inl (cI, c, Sum.inl (snoc n r x n)))]
  rw [snoc_n, snoc_n]
theorem wS_o : (pre ++ wS G cI cP u)[pre.length + 0]? = some (gO G, .inr (1, [.int (xd u), .int (nI (xc u)), .int (xo u), .ref (gA G), .ref (gB G)])) := z_apr rfl
theorem wS_a : (pre ++ wS G cI cP u)[pre.length + 1]? = some (gA G, .inl (cP, xn u, .inr (.inr (.inr (.inr (refs (xn u) (gM G))))))) := z_apr rfl
theorem wS_m (h : i < xn u) : (pre ++ wS G cI cP u)[pre.length + (1 + (1 + i))]? = some (gM G i, .inl (cI, 3, .inl (mrow u i))) := z_apr (z_apl (z_apr (a := wSo G u) (wT_get h)))
abbrev nS (G : AG) (cI cP : ClassId) (u : S0) : Nat := (wSo G u ++ wT (gA G) cP cI (xn u) 3 (gM G) (mrow u)).length
theorem wS_b : (pre ++ wS G cI cP u)[pre.length + (nS G cI cP u + 0)]? = some (gB G, .inl (cP, xk u, .inr (.inr (.inr (.inr (refs (xk u) (gL G))))))) := z_apr (z_apr rfl)
theorem wS_l (h : i < xk u) : (pre ++ wS G cI cP u)[pre.length + (nS G cI cP u + (1 + i))]? = some (gL G i, .inl (cI, 4, .inl (lrow u i))) := z_apr (z_apr (wT_get h))
theorem wS_congr {u' : S0} (hn : xn u = xn u') (hk : xk u = xk u') (hd : xd u = xd u') (hc : xc u = xc u') (ho : xo u = xo u') (hm : ∀ i, i < xn u → mrow u i = mrow u' i) (hl : ∀ t, t < xk u → lrow u t = lrow u' t) : wS G cI cP u = wS G cI cP u' := by
  unfold wS wSo
  rw [wT_congr (g' := gM G) (r' := mrow u') (fun _ _ => rfl) hm, wT_congr (g' := gL G) (r' := lrow u') (fun _ _ => rfl) hl, hn, hk, hd, hc, ho]
theorem wS_setrow {u' : S0} {x : Nat → Int32} (h : i < xn u) (hn : xn u = xn u') (hk : xk u = xk u') (hd : xd u = xd u') (hc : xc u = xc u') (ho : xo u = xo u') (hm : ∀ j, j < xn u → va_up (mrow u) i x j = mrow u' j) (hl : ∀ t, t < xk u → lrow u t = lrow u' t) : (pre ++ wS G cI cP u).set (pre.length + (1 + (1 + i))) (gM G i, .inl (cI, 3, .inl x)) = pre ++ wS G cI cP u' := by
  rw [z_str]
  refine congrArg (pre ++ ·) ?_
  unfold wS
  have hz : (wSo G u ++ wT (gA G) cP cI (xn u) 3 (gM G) (mrow u))[1 + (1 + i)]? = some (gM G i, .inl (cI, 3, .inl (mrow u i))) := z_apr (a := wSo G u) (wT_get h)
  rw [z_stl hz]
  have e1 : (wSo G u ++ wT (gA G) cP cI (xn u) 3 (gM G) (mrow u)).set (1 + (1 + i)) (gM G i, .inl (cI, 3, .inl x)) = wSo G u ++ wT (gA G) cP cI (xn u) 3 (gM G) (va_up (mrow u) i x) := by
    rw [← wT_set h]
    exact z_str (a := wSo G u)
  rw [e1, wT_congr (g' := gM G) (r' := mrow u') (fun _ _ => rfl) hm, wT_congr (g' := gL G) (r' := lrow u') (fun _ _ => rfl) hl]
  unfold wSo
  rw [hn, hk, hd, hc, ho]
theorem mrow_0 {u' : S0} {j : Nat} {x : Int32} (hl : xl u' = upd (xl u) i x) (ha : xa u' = xa u) (he : xe u' = xe u) : va_up (mrow u) i (upd (mrow u i) 0 x) j = mrow u' j := by
  unfold va_up
  by_cases h : j = i
  · subst h
    rw [if_pos rfl]
    funext k
    by_cases k0 : k = 0
    · subst k0
      rw [pk_us]
      show x = xl u' j
      rw [hl, pk_us]
    · rw [pk_un k0]
      unfold mrow
      rw [if_neg k0, if_neg k0, ha, he]
  · rw [if_neg h]
    unfold mrow
    rw [hl, ha, he, pk_un h]
theorem mrow_1 {u' : S0} {j : Nat} {x : Int32} (hl : xl u' = xl u) (ha : xa u' = upd (xa u) i x) (he : xe u' = xe u) : va_up (mrow u) i (upd (mrow u i) 1 x) j = mrow u' j := by
  unfold va_up
  by_cases h : j = i
  · subst h
    rw [if_pos rfl]
    funext k
    by_cases k0 : k = 1
    · subst k0
      rw [pk_us]
      show x = xa u' j
      rw [ha, pk_us]
    · rw [pk_un k0]
      unfold mrow
      rw [if_neg k0, if_neg k0, hl, he]
  · rw [if_neg h]
    unfold mrow
    rw [hl, ha, he, pk_un h]
theorem mrow_2 {u' : S0} {j : Nat} {x : Int32} (hl : xl u' = xl u) (ha : xa u' = xa u) (he : xe u' = upd (xe u) i x) : va_up (mrow u) i (upd (mrow u i) 2 x) j = mrow u' j := by
  unfold va_up
  by_cases h : j = i
  · subst h
    rw [if_pos rfl]
    funext k
    by_cases k0 : k = 2
    · subst k0
      rw [pk_us]
      show x = xe u' j
      rw [he, pk_us]
    · rw [pk_un k0]
      unfold mrow
      rw [if_neg k0, if_neg k0, hl, ha]
  · rw [if_neg h]
    unfold mrow
    rw [hl, ha, he, pk_un h]
theorem mrow_eq {u' : S0} (hl : xl u i = xl u' i) (ha : xa u i = xa u' i) (he : xe u i = xe u' i) : mrow u i = mrow u' i := by
  unfold mrow
  rw [hl, ha, he]
theorem lrow_eq {u' : S0} (h0 : xw u i = xw u' i) (h1 : xf u i = xf u' i) (h2 : xg u i = xg u' i) (h3 : xx u i = xx u' i) : lrow u i = lrow u' i := by
  unfold lrow
  rw [h0, h1, h2, h3]
end WT
section ZS
variable {p : Program} {l : Launch} {e : Env} {R : Room} {s : State} {m : MethodId} {args : Array Value} {below : List Frame} {meth : Method} {c : Code}
variable {cc : ByteArray} {nL : Nat} {own : String} {Ts : List Cond} {D : va_G} {tys : List (ClassId × FieldType)} {A : Nat → Prop} {cells slots : Nat} {Q : State → Prop} {pc : Nat} {L : List (Nat × Value)} {st : List Value} {ws : va_W}
variable {pre : va_W} {G : AG} {cI cP : ClassId} {u : S0}
theorem z_sget (C : zC p s m args c cc nL own Ts D tys A) (hin : ∀ w ∈ u_ws RX1 TX1 5, w ∈ Ts) {index : Nat} (k : Nat) (hk : k < 5) {v : Value} (hv : ([.int (xd u), .int (nI (xc u)), .int (xo u), .ref (gA G), .ref (gB G)] : List Value)[k]? = some v) (hlink : Cond.fieldLink own index (TX1 k).1 (TX1 k).2.1 (TX1 k).2.2.1 ∈ Ts) (hdg : decode cc pc = .ok (.getfield index, 3)) (kk : zG p l e R s m args below meth c D nL A cells slots Q (pc + 3) L (v :: st) (pre ++ wS G cI cP u)) : zG p l e R s m args below meth c D nL A cells slots Q pc L (.ref (gO G) :: st) (pre ++ wS G cI cP u) := z_get1 C hin (pre.length + 0) k hk wS_o hv hlink hdg kk
theorem z_sputD (C : zC p s m args c cc nL own Ts D tys A) (hin : ∀ w ∈ u_ws RX1 TX1 5, w ∈ Ts) {index : Nat} {v : Int32} (hlink : Cond.fieldLink own index "SaltOrderLaw$Sim" "day" "I" ∈ Ts) (hdg : decode cc pc = .ok (.putfield index, 3)) (kk : zG p l e R s m args below meth c D nL A cells slots Q (pc + 3) L st (pre ++ wS G cI cP (ud u v))) : zG p l e R s m args below meth c D nL A cells slots Q pc L (.int v :: .ref (gO G) :: st) (pre ++ wS G cI cP u) := z_put1 C hin (pre.length + 0) 0 (by decide) wS_o rfl (by decide) (by rw [z_str]; rfl) hlink hdg kk
theorem z_sputC (C : zC p s m args c cc nL own Ts D tys A) (hin : ∀ w ∈ u_ws RX1 TX1 5, w ∈ Ts) {index n : Nat} {v : Int32} (hv : v = nI n) (hlink : Cond.fieldLink own index "SaltOrderLaw$Sim" "salt" "I" ∈ Ts) (hdg : decode cc pc = .ok (.putfield index, 3)) (kk : zG p l e R s m args below meth c D nL A cells slots Q (pc + 3) L st (pre ++ wS G cI cP (uc u n))) : zG p l e R s m args below meth c D nL A cells slots Q pc L (.int v :: .ref (gO G) :: st) (pre ++ wS G cI cP u) := by
  subst hv
  exact z_put1 C hin (pre.length + 0) 1 (by decide) wS_o rfl (by decide) (by rw [z_str]; rfl) hlink hdg kk
theorem z_sputO (C : zC p s m args c cc nL own Ts D tys A) (hin : ∀ w ∈ u_ws RX1 TX1 5, w ∈ Ts) {index : Nat} {v : Int32} (hlink : Cond.fieldLink own index "SaltOrderLaw$Sim" "found" "I" ∈ Ts) (hdg : decode cc pc = .ok (.putfield index, 3)) (kk : zG p l e R s m args below meth c D nL A cells slots Q (pc + 3) L st (pre ++ wS G cI cP (uo u v))) : zG p l e R s m args below meth c D nL A cells slots Q pc L (.int v :: .ref (gO G) :: st) (pre ++ wS G cI cP u) := z_put1 C hin (pre.length + 0) 2 (by decide) wS_o rfl (by decide) (by rw [z_str]; rfl) hlink hdg kk
theorem z_putr1 (C : zC p s m args c cc nL own Ts D tys A) (hin : ∀ w ∈ u_ws RX1 TX1 5, w ∈ Ts) {index a : Nat} (q0 k : Nat) (hk : k < 5) {fs : List Value} {v : Nat} {ws' : va_W} (he : ws[q0]? = some (a, .inr (1, fs))) (hlen : fs.length = 5) (hty : (TX1 k).2.2.1 = "[[I" ∧ (TX1 k).2.2.2 = false) (hws : ws.set q0 (a, .inr (1, fs.set k (.ref v))) = ws') (hlink : Cond.fieldLink own index (TX1 k).1 (TX1 k).2.1 (TX1 k).2.2.1 ∈ Ts) (hdg : decode cc pc = .ok (.putfield index, 3)) (kk : zG p l e R s m args below meth c D nL A cells slots Q (pc + 3) L st ws') : zG p l e R s m args below meth c D nL A cells slots Q pc L (.ref v :: .ref a :: st) ws := fun H locs ls hl hP hD hS => va_put (C := RX1) (T := TX1) (N := 5) (ty := .array (.array .int)) C.exec C.code C.words hin tyX1 tyX1_ok nmX1 C.here C.known hP hD hS q0 he rfl k hk (C.words _ hlink) (fun _ h => h) hty.2 (by rw [hty.1]; decide +kernel) rfl rfl (by rw [hlen]; exact hk) hdg (fun H1 locs1 hP hD hS => kk H1 locs1 ls hl (hws ▸ hP) (hws ▸ hD) hS)
theorem z_sputA (C : zC p s m args c cc nL own Ts D tys A) (hin : ∀ w ∈ u_ws RX1 TX1 5, w ∈ Ts) {index b : Nat} {X : va_W} (hlink : Cond.fieldLink own index "SaltOrderLaw$Sim" "members" "[[I" ∈ Ts) (hdg : decode cc pc = .ok (.putfield index, 3)) (kk : zG p l e R s m args below meth c D nL A cells slots Q (pc + 3) L st ((pre ++ wSo (gO G, b, gB G, gM G, gL G) u) ++ X)) : zG p l e R s m args below meth c D nL A cells slots Q pc L (.ref b :: .ref (gO G) :: st) ((pre ++ wSo G u) ++ X) := z_putr1 (fs := [.int (xd u), .int (nI (xc u)), .int (xo u), .ref (gA G), .ref (gB G)]) C hin (pre.length + 0) 3 (by decide) (z_apl (z_apr rfl)) rfl (by decide) (by rw [z_stl (q := (gO G, .inr (1, [.int (xd u), .int (nI (xc u)), .int (xo u), .ref (gA G), .ref (gB G)]))) (z_apr rfl), z_str]; rfl) hlink hdg kk
theorem z_sputB (C : zC p s m args c cc nL own Ts D tys A) (hin : ∀ w ∈ u_ws RX1 TX1 5, w ∈ Ts) {index b : Nat} {X : va_W} (hlink : Cond.fieldLink own index "SaltOrderLaw$Sim" "ledger" "[[I" ∈ Ts) (hdg : decode cc pc = .ok (.putfield index, 3)) (kk : zG p l e R s m args below meth c D nL A cells slots Q (pc + 3) L st ((pre ++ wSo (gO G, gA G, b, gM G, gL G) u) ++ X)) : zG p l e R s m args below meth c D nL A cells slots Q pc L (.ref b :: .ref (gO G) :: st) ((pre ++ wSo G u) ++ X) := z_putr1 (fs := [.int (xd u), .int (nI (xc u)), .int (xo u), .ref (gA G), .ref (gB G)]) C hin (pre.length + 0) 4 (by decide) (z_apl (z_apr rfl)) rfl (by decide) (by rw [z_stl (q := (gO G, .inr (1, [.int (xd u), .int (nI (xc u)), .int (xo u), .ref (gA G), .ref (gB G)]))) (z_apr rfl), z_str]; rfl) hlink hdg kk
theorem z_mrow (C : zC p s m args c cc nL own Ts D tys A) (t1 : Nat) (ht : tys[t1]? = some (cP, .array .int)) {i : Int32} (j : Nat) (hi : i = nI j) (hj : j < xn u) (hn : xn u ≤ 8) (hdg : decode cc pc = .ok (.aaload, 1)) (kk : zG p l e R s m args below meth c D nL A cells slots Q (pc + 1) L (.ref (gM G j) :: st) (pre ++ wS G cI cP u)) : zG p l e R s m args below meth c D nL A cells slots Q pc L (.int i :: .ref (gA G) :: st) (pre ++ wS G cI cP u) := z_aald C (pre.length + 1) t1 wS_a ht j hi hj (by omega) (if_pos hj) hdg kk
theorem z_lrow (C : zC p s m args c cc nL own Ts D tys A) (t1 : Nat) (ht : tys[t1]? = some (cP, .array .int)) {i : Int32} (j : Nat) (hi : i = nI j) (hj : j < xk u) (hn : xk u ≤ 30) (hdg : decode cc pc = .ok (.aaload, 1)) (kk : zG p l e R s m args below meth c D nL A cells slots Q (pc + 1) L (.ref (gL G j) :: st) (pre ++ wS G cI cP u)) : zG p l e R s m args below meth c D nL A cells slots Q pc L (.int i :: .ref (gB G) :: st) (pre ++ wS G cI cP u) := z_aald C (pre.length + (nS G cI cP u + 0)) t1 wS_b ht j hi hj (by omega) (if_pos hj) hdg kk
theorem z_mget (C : zC p s m args c cc nL own Ts D tys A) (t0 : Nat) (ht : tys[t0]? = some (cI, .int)) {i x : Int32} {j : Nat} (k : Nat) (hi : i = nI k) (hk : k < 3) (hj : j < xn u) (hx : mrow u j k = x) (hdg : decode cc pc = .ok (.iaload, 1)) (kk : zG p l e R s m args below meth c D nL A cells slots Q (pc + 1) L (.int x :: st) (pre ++ wS G cI cP u)) : zG p l e R s m args below meth c D nL A cells slots Q pc L (.int i :: .ref (gM G j) :: st) (pre ++ wS G cI cP u) := by
  subst hx
  exact z_iald C (pre.length + (1 + (1 + j))) t0 (wS_m hj) ht k hi hk (by omega) hdg kk
theorem z_lget (C : zC p s m args c cc nL own Ts D tys A) (t0 : Nat) (ht : tys[t0]? = some (cI, .int)) {i x : Int32} {j : Nat} (k : Nat) (hi : i = nI k) (hk : k < 4) (hj : j < xk u) (hx : lrow u j k = x) (hdg : decode cc pc = .ok (.iaload, 1)) (kk : zG p l e R s m args below meth c D nL A cells slots Q (pc + 1) L (.int x :: st) (pre ++ wS G cI cP u)) : zG p l e R s m args below meth c D nL A cells slots Q pc L (.int i :: .ref (gL G j) :: st) (pre ++ wS G cI cP u) := by
  subst hx
  exact z_iald C (pre.length + (nS G cI cP u + (1 + j))) t0 (wS_l hj) ht k hi hk (by omega) hdg kk
theorem z_mset0 (C : zC p s m args c cc nL own Ts D tys A) (t0 : Nat) (ht : tys[t0]? = some (cI, .int)) {i x : Int32} {j : Nat} (hi : i = nI 0) (hj : j < xn u) (hdg : decode cc pc = .ok (.iastore, 1)) (kk : zG p l e R s m args below meth c D nL A cells slots Q (pc + 1) L st (pre ++ wS G cI cP (ul u (upd (xl u) j x)))) : zG p l e R s m args below meth c D nL A cells slots Q pc L (.int x :: .int i :: .ref (gM G j) :: st) (pre ++ wS G cI cP u) := z_iast C (pre.length + (1 + (1 + j))) t0 (wS_m hj) ht 0 hi (by decide) (by decide) (wS_setrow (u' := ul u (upd (xl u) j x)) hj rfl rfl rfl rfl rfl (fun _ _ => mrow_0 rfl rfl rfl) (fun _ _ => rfl)) hdg kk
theorem z_mset1 (C : zC p s m args c cc nL own Ts D tys A) (t0 : Nat) (ht : tys[t0]? = some (cI, .int)) {i x : Int32} {j : Nat} (hi : i = nI 1) (hj : j < xn u) (hdg : decode cc pc = .ok (.iastore, 1)) (kk : zG p l e R s m args below meth c D nL A cells slots Q (pc + 1) L st (pre ++ wS G cI cP (ua u (upd (xa u) j x)))) : zG p l e R s m args below meth c D nL A cells slots Q pc L (.int x :: .int i :: .ref (gM G j) :: st) (pre ++ wS G cI cP u) := z_iast C (pre.length + (1 + (1 + j))) t0 (wS_m hj) ht 1 hi (by decide) (by decide) (wS_setrow (u' := ua u (upd (xa u) j x)) hj rfl rfl rfl rfl rfl (fun _ _ => mrow_1 rfl rfl rfl) (fun _ _ => rfl)) hdg kk
theorem z_mset2 (C : zC p s m args c cc nL own Ts D tys A) (t0 : Nat) (ht : tys[t0]? = some (cI, .int)) {i x : Int32} {j : Nat} (hi : i = nI 2) (hj : j < xn u) (hdg : decode cc pc = .ok (.iastore, 1)) (kk : zG p l e R s m args below meth c D nL A cells slots Q (pc + 1) L st (pre ++ wS G cI cP (ue u (upd (xe u) j x)))) : zG p l e R s m args below meth c D nL A cells slots Q pc L (.int x :: .int i :: .ref (gM G j) :: st) (pre ++ wS G cI cP u) := z_iast C (pre.length + (1 + (1 + j))) t0 (wS_m hj) ht 2 hi (by decide) (by decide) (wS_setrow (u' := ue u (upd (xe u) j x)) hj rfl rfl rfl rfl rfl (fun _ _ => mrow_2 rfl rfl rfl) (fun _ _ => rfl)) hdg kk
theorem z_alenA (C : zC p s m args c cc nL own Ts D tys A) (t1 : Nat) (ht : tys[t1]? = some (cP, .array .int)) (hdg : decode cc pc = .ok (.arraylength, 1)) (kk : zG p l e R s m args below meth c D nL A cells slots Q (pc + 1) L (.int (nI (xn u)) :: st) (pre ++ wS G cI cP u)) : zG p l e R s m args below meth c D nL A cells slots Q pc L (.ref (gA G) :: st) (pre ++ wS G cI cP u) := z_alen C (pre.length + 1) t1 wS_a ht rfl hdg kk
theorem z_alenB (C : zC p s m args c cc nL own Ts D tys A) (t1 : Nat) (ht : tys[t1]? = some (cP, .array .int)) (hdg : decode cc pc = .ok (.arraylength, 1)) (kk : zG p l e R s m args below meth c D nL A cells slots Q (pc + 1) L (.int (nI (xk u)) :: st) (pre ++ wS G cI cP u)) : zG p l e R s m args below meth c D nL A cells slots Q pc L (.ref (gB G) :: st) (pre ++ wS G cI cP u) := z_alen C (pre.length + (nS G cI cP u + 0)) t1 wS_b ht rfl hdg kk
end ZS
