/-! the trial; what stays under it; the relation of class and reference -/
abbrev T5 : Type := T3 × Int32 × Int32
def stT (q : T5) : T5 := (st3 (dy3 q.2.1 q.2.2 q.1), q.2.1 + 1, if isA q.2.1 = 0 then q.2.2 else 0)
def stN (q : T5) : Nat → T5
  | 0 => q
  | i + 1 => stT (stN q i)
def p5 (v : S0) : T5 := (tr0 v 8, xy v, xb v)
def q5 (f : Nat → Int32) (j k : Nat) : T5 := (tr1 f j, f 0, raddN f (nI j) k)
theorem re_n {v v2 : S0} (h : v2.2.2.2 = v.2.2.2) : xn v2 = xn v := by unfold xn; rw [h]
theorem re_w {v v2 : S0} (h : v2.2.2.2 = v.2.2.2) : xw v2 = xw v := by unfold xw; rw [h]
theorem re_f {v v2 : S0} (h : v2.2.2.2 = v.2.2.2) : xf v2 = xf v := by unfold xf; rw [h]
theorem re_g {v v2 : S0} (h : v2.2.2.2 = v.2.2.2) : xg v2 = xg v := by unfold xg; rw [h]
theorem re_x {v v2 : S0} (h : v2.2.2.2 = v.2.2.2) : xx v2 = xx v := by unfold xx; rw [h]
theorem re_k {v v2 : S0} (h : v2.2.2.2 = v.2.2.2) : xk v2 = xk v := by unfold xk; rw [h]
theorem re_c {v v2 : S0} (h : v2.2.2.2 = v.2.2.2) : xc v2 = xc v := by unfold xc; rw [h]
theorem re_d {v v2 : S0} (h : v2.2.2.2 = v.2.2.2) : xd v2 = xd v := by unfold xd; rw [h]
theorem re_o {v v2 : S0} (h : v2.2.2.2 = v.2.2.2) : xo v2 = xo v := by unfold xo; rw [h]
theorem re_y {v v2 : S0} (h : v2.2.2.2 = v.2.2.2) : xy v2 = xy v := by unfold xy; rw [h]
theorem re_b {v v2 : S0} (h : v2.2.2.2 = v.2.2.2) : xb v2 = xb v := by unfold xb; rw [h]
theorem xtd1_row (v : S0) : tr0 (xtd1 v) 8 = dy3 (xy v) (xb v) (tr0 v 8) := by
  unfold xtd1 dy3
  split
  · rfl
  · show tr0 (xadd v 8 (xb v)) 8 = _
    rw [xadd_row, if_pos rfl]
theorem xtd1_y (v : S0) : xy (xtd1 v) = xy v := by
  unfold xtd1
  split
  · rfl
  · rfl
theorem xtd1_b (v : S0) : xb (xtd1 v) = if isA (xy v) = 0 then xb v else 0 := by
  unfold xtd1
  by_cases c : isA (xy v) = 0
  · rw [if_pos c, if_pos c]
  · rw [if_neg c, if_neg c]; rfl
theorem tr0_uy (v : S0) (z : Int32) (i : Nat) : tr0 (uy v z) i = tr0 v i := rfl
theorem xy_uy (v : S0) (z : Int32) : xy (uy v z) = z := rfl
theorem xb_uy (v : S0) (z : Int32) : xb (uy v z) = xb v := rfl
theorem xtd_5 (v : S0) : p5 (xtd v) = stT (p5 v) := by
  have e1 : tr0 (xtd v) 8 = st3 (dy3 (xy v) (xb v) (tr0 v 8)) := by
    unfold xtd
    rw [tr0_uy, xeat_row, if_pos rfl, xtd1_row]
  have e2 : xy (xtd v) = xy v + 1 := by
    unfold xtd
    rw [xy_uy, re_y (xeat_r _ _), xtd1_y]
  have e3 : xb (xtd v) = if isA (xy v) = 0 then xb v else 0 := by
    unfold xtd
    rw [xb_uy, re_b (xeat_r _ _), xtd1_b]
  unfold p5 stT
  rw [e1, e2, e3]
theorem xtdN_5 (v : S0) (i : Nat) : p5 (xtdN v i) = stN (p5 v) i := by
  induction i with
  | zero => rfl
  | succ i ih =>
    show p5 (xtd (xtdN v i)) = stT (stN (p5 v) i)
    rw [xtd_5, ih]
/-- all but the trial's row, day and debt -/
def ke (v v2 : S0) : Prop := (xn v2 = xn v ∧ xw v2 = xw v ∧ xf v2 = xf v ∧ xg v2 = xg v ∧ xx v2 = xx v ∧ xk v2 = xk v ∧ xc v2 = xc v ∧ xd v2 = xd v ∧ xo v2 = xo v) ∧ ∀ i, i < 8 → tr0 v2 i = tr0 v i
theorem ke.rf (v : S0) : ke v v := ⟨⟨rfl, rfl, rfl, rfl, rfl, rfl, rfl, rfl, rfl⟩, fun _ _ => rfl⟩
theorem ke.tr {a b c : S0} (h1 : ke a b) (h2 : ke b c) : ke a c := by
  obtain ⟨⟨n, w, f, g, x, k, cc, d, o⟩, t⟩ := h1
  obtain ⟨⟨n', w', f', g', x', k', cc', d', o'⟩, t'⟩ := h2
  exact ⟨⟨n'.trans n, w'.trans w, f'.trans f, g'.trans g, x'.trans x, k'.trans k, cc'.trans cc, d'.trans d, o'.trans o⟩, fun i hi => (t' i hi).trans (t i hi)⟩
theorem ke.of {v v2 : S0} (h : v2.2.2.2 = v.2.2.2) (t : ∀ i, i < 8 → tr0 v2 i = tr0 v i) : ke v v2 := ⟨⟨re_n h, re_w h, re_f h, re_g h, re_x h, re_k h, re_c h, re_d h, re_o h⟩, t⟩
theorem ke.ub (v : S0) (z : Int32) : ke v (ub v z) := ⟨⟨rfl, rfl, rfl, rfl, rfl, rfl, rfl, rfl, rfl⟩, fun _ _ => rfl⟩
theorem ke.uy (v : S0) (z : Int32) : ke v (uy v z) := ⟨⟨rfl, rfl, rfl, rfl, rfl, rfl, rfl, rfl, rfl⟩, fun _ _ => rfl⟩
theorem ke.eat (v : S0) : ke v (xeat v 8) := ke.of (xeat_r v 8) (fun i hi => by rw [xeat_row, if_neg (by omega)])
theorem ke.add (v : S0) (g : Int32) : ke v (xadd v 8 g) := ke.of rfl (fun i hi => by rw [xadd_row, if_neg (by omega)])
theorem ke.less (v : S0) (g : Int32) : ke v (xless v 8 g) := ke.of rfl (fun i hi => by rw [xless_row, if_neg (by omega)])
theorem ke.lump (v : S0) (g : Int32) : ke v (xlump v 8 g) := ke.of rfl (fun i hi => by rw [xlump_row, if_neg (by omega)])
theorem ke.begin (v : S0) (j : Nat) : ke v (xbegin v j) := ⟨⟨rfl, rfl, rfl, rfl, rfl, rfl, rfl, rfl, rfl⟩, fun i hi => T3e (pk_un (by omega)) (pk_un (by omega)) (pk_un (by omega))⟩
theorem ke.td1 (v : S0) : ke v (xtd1 v) := by
  unfold xtd1
  split
  · exact ke.rf v
  · exact (ke.add v (xb v)).tr (ke.ub _ 0)
theorem ke.td (v : S0) : ke v (xtd v) := ((ke.td1 v).tr (ke.eat _)).tr (ke.uy _ _)
theorem ke.tdN (v : S0) (i : Nat) : ke v (xtdN v i) := by
  induction i with
  | zero => exact ke.rf v
  | succ i ih => exact ih.tr (ke.td _)
theorem ke.bpin (v : S0) (j : Nat) (g : Int32) : ke v (xbpin v j g) := ((ke.begin v j).tr (ke.ub _ _)).tr (ke.less _ _)
theorem ke.bpen (v : S0) (j : Nat) (g : Int32) : ke v (xbpen v j g) := (ke.begin v j).tr (ke.lump _ _)
theorem ke.unt (z : S0 → Int32) (v : S0) (d i : Nat) : ke v (untS z v i d) := by
  induction d generalizing i with
  | zero => exact ke.tdN v i
  | succ d ih =>
    unfold untS
    split
    · exact ke.tdN v i
    · exact ih (i + 1)
theorem ke.pinG {z : S0 → Nat → S0} (h : ∀ s i, ke s (z s i)) (v : S0) (i : Nat) : ke v (pinG z v i).2.2 := by
  induction i with
  | zero => exact ke.rf v
  | succ i ih => rw [pinG_S]; exact ih.tr (h _ _)
theorem ke.pinZ (j : Nat) (s : S0) (i : Nat) : ke s (pinZ j s i) := (ke.bpin s j _).tr (ke.tdN _ _)
theorem ke.penZ (j : Nat) (s : S0) (i : Nat) : ke s (penZ j s i) := (ke.bpen s j _).tr (ke.tdN _ _)
theorem ke.pin (v : S0) (j : Nat) : ke v (xpin v j) := by
  unfold xpin
  split
  · unfold pinN; exact ke.pinG (ke.pinZ j) v _
  · exact ke.rf v
theorem ke.pen (v : S0) (j : Nat) : ke v (xpen v j) := by unfold xpen penN; exact ke.pinG (ke.penZ j) v 10
theorem ke.memN (v : S0) (i : Nat) : ke v (xmemN v i) := by
  induction i with
  | zero => exact ke.rf v
  | succ i ih => exact (ih.tr (ke.pin _ i)).tr (ke.pen _ i)
theorem ke.debt {v v2 : S0} (h : ke v v2) (j : Int32) : xdebt v2 j = xdebt v j := by
  obtain ⟨⟨-, w, -, -, x, k, -, -, -⟩, -⟩ := h
  unfold xdebt
  rw [w, x, k]
/-! the relation -/
def Rel (v : S0) (u : S1) (W X : Nat → Nat) : Prop :=
  rn u = xn v ∧ gd (rf u) (xn v) (xk v) W X ∧ (∀ j, j < xn v → tr1 (rf u) j = tr0 v j) ∧ (∀ j, xn v ≤ j → j < 8 → rf u (mi j 1) = 0 ∧ rf u (mi j 2) = 0) ∧ (rf u 0 = xd v ∧ rf u 1 = nI (xc v) ∧ xc v ≤ 500 ∧ rf u 2 = xo v) ∧
  ∀ t, t < xk v → rf u (ti t 0) = xw v t ∧ rf u (ti t 1) = xf v t ∧ rf u (ti t 2) = xg v t ∧ rf u (ti t 3) = xx v t ∧ (xf v t = 0 ∨ xf v t = 1)
section RELS
variable {v : S0} {u : S1} {W X : Nat → Nat}
theorem Rel.n8 (h : Rel v u W X) : xn v ≤ 8 := h.2.1.1
theorem Rel.k30 (h : Rel v u W X) : xk v ≤ 30 := h.2.1.2.1.2.1
theorem Rel.L (h : Rel v u W X) : rL (rf u) (xk v) W := h.2.1.2.1
theorem Rel.l (h : Rel v u W X) {j : Nat} (hj : j < xn v) : rf u (mi j 0) = xl v j := congrArg (fun z : T3 => z.1) (h.2.2.1 j hj)
theorem Rel.a (h : Rel v u W X) {j : Nat} (hj : j < xn v) : rf u (mi j 1) = xa v j := congrArg (fun z : T3 => z.2.1) (h.2.2.1 j hj)
theorem Rel.e (h : Rel v u W X) {j : Nat} (hj : j < xn v) : rf u (mi j 2) = xe v j := congrArg (fun z : T3 => z.2.2) (h.2.2.1 j hj)
/-- what a look or a look ahead leaves -/
theorem Rel.keep (h : Rel v u W X) {v2 : S0} {u2 : S1} (hv : ke v v2) (hn : rn u2 = rn u) (hf : ∀ x, x < 148 → rf u2 x = rf u x) : Rel v2 u2 W X := by
  obtain ⟨⟨n, w, f, g, x, k, c, d, o⟩, t⟩ := hv
  obtain ⟨h1, ⟨g1, ⟨l1, l2, l3⟩, g2, g3⟩, h3, h4, ⟨h5, h6, h7, h8⟩, h9⟩ := h
  unfold Rel
  rw [n, w, f, g, x, k, c, d, o]
  refine ⟨hn.trans h1, ⟨g1, ⟨(hf _ (by omega)).trans l1, l2, fun t ht => ⟨(hf _ (ti_lt (by omega) (by omega))).trans (l3 t ht).1, (l3 t ht).2⟩⟩, fun t ht => ⟨(g2 t ht).1, (hf _ (ti_lt (by omega) (by omega))).trans (g2 t ht).2.1, (g2 t ht).2.2⟩, fun j hj => ?_⟩, fun j hj => ?_, fun j hj h8 => ?_, ⟨(hf _ (by omega)).trans h5, (hf _ (by omega)).trans h6, h7, (hf _ (by omega)).trans h8⟩, fun t ht => ?_⟩
  · rw [hf _ (mi_lt (by omega) (by omega)), hf _ (mi_lt (by omega) (by omega))]; exact g3 j hj
  · rw [t j (by omega), ← h3 j hj]
    exact T3e (hf _ (mi_lt (by omega) (by omega))) (hf _ (mi_lt (by omega) (by omega))) (hf _ (mi_lt (by omega) (by omega)))
  · rw [hf _ (mi_lt h8 (by omega)), hf _ (mi_lt h8 (by omega))]; exact h4 j hj h8
  · rw [hf _ (ti_lt (by omega) (by omega)), hf _ (ti_lt (by omega) (by omega)), hf _ (ti_lt (by omega) (by omega)), hf _ (ti_lt (by omega) (by omega))]; exact h9 t ht
theorem Rel.t (h : Rel v u W X) (z : Int32) : Rel v (vt u z) W X := h
theorem Rel.debt (h : Rel v u W X) (j : Int32) : xdebt v j = raddN (rf u) j (xk v) := by
  have key : ∀ t, t ≤ xk v → xdebtN (xw v) (xx v) j t = raddN (rf u) j t := by
    intro t
    induction t with
    | zero => intro _; rfl
    | succ t ih =>
      intro ht
      obtain ⟨h0, -, -, h3, -⟩ := h.2.2.2.2.2 t (by omega)
      unfold xdebtN raddN
      rw [ih (by omega), h0, h3]
      by_cases c : xw v t = j
      · rw [if_pos c, if_pos c]
      · rw [if_neg c, if_neg c, Int32.add_zero]
  exact key _ (Nat.le_refl _)
theorem Rel.flt (h : Rel v u W X) : xflt v = rfltN (rf u) (xk v) := by
  have key : ∀ t, t ≤ xk v → xfltN (xx v) t = rfltN (rf u) t := by
    intro t
    induction t with
    | zero => intro _; rfl
    | succ t ih =>
      intro ht
      obtain ⟨-, -, -, h3, -⟩ := h.2.2.2.2.2 t (by omega)
      unfold xfltN rfltN
      rw [ih (by omega), h3]
      by_cases c : xx v t ≤ 0
      · rw [if_pos c, if_pos c, Int32.add_zero]
      · rw [if_neg c, if_neg c]
  exact key _ (Nat.le_refl _)
theorem Rel.loss (h : Rel v u W X) {j : Nat} (hj : j < xn v) : xloss v j = rloss (rf u) j := by
  unfold xloss rloss
  rw [h.a hj, h.e hj, e_9]
/-! audit and day -/
theorem xaud_k0 (v : S0) : xk (xaud v) = 0 := rfl
theorem xaud_s (v : S0) : xn (xaud v) = xn v ∧ xw (xaud v) = xw v ∧ xf (xaud v) = xf v ∧ xg (xaud v) = xg v ∧ xx (xaud v) = xx v ∧ xc (xaud v) = xc v ∧ xd (xaud v) = xd v ∧ xo (xaud v) = xo v + xflt v := by
  have r := xaudN_r v (xn v)
  have n := re_n r
  have w := re_w r
  have f := re_f r
  have g := re_g r
  have x := re_x r
  have c := re_c r
  have d := re_d r
  have o : xo (xaudN v (xn v)) + xflt v = xo v + xflt v := by rw [re_o r]
  exact ⟨n, w, f, g, x, c, d, o⟩
theorem Rel.aud (h : Rel v u W X) : Rel (xaud v) (vf u (raud (rf u) (xk v) W)) W X := by
  obtain ⟨n, w, f, g, x, c, d, o⟩ := xaud_s v
  have hg := h.2.1
  unfold Rel
  rw [n, w, f, g, x, c, d, o, xaud_k0]
  refine ⟨h.1, raud_gd hg, fun j hj => ?_, fun j hj h8 => ?_, ⟨(raud_hi hg (by omega)).trans h.2.2.2.2.1.1, (raud_hi hg (by omega)).trans h.2.2.2.2.1.2.1, h.2.2.2.2.1.2.2.1, ?_⟩, fun t ht => absurd ht (Nat.not_lt_zero t)⟩
  · show tr1 (raud (rf u) (xk v) W) j = _
    rw [raud_row hg hj, xaud_row v hj, h.2.2.1 j hj, h.debt]
  · have e := raud_out hg hj
    have e1 := congrArg (fun z : T3 => z.2.1) e
    have e2 := congrArg (fun z : T3 => z.2.2) e
    exact ⟨e1.trans (h.2.2.2.1 j hj h8).1, e2.trans (h.2.2.2.1 j hj h8).2⟩
  · show raud (rf u) (xk v) W 2 = _
    rw [raud_2 hg, h.2.2.2.2.1.2.2.2, h.flt]
theorem xday1_k1 (v : S0) : xk (xday1 v) = if isA (xd v) = 0 then xk v else 0 := by
  unfold xday1
  by_cases c : isA (xd v) = 0
  · rw [if_pos c, if_pos c]
  · rw [if_neg c, if_neg c]; rfl
theorem xday1_s (v : S0) : xn (xday1 v) = xn v ∧ xw (xday1 v) = xw v ∧ xf (xday1 v) = xf v ∧ xg (xday1 v) = xg v ∧ xx (xday1 v) = xx v ∧ xc (xday1 v) = xc v ∧ xd (xday1 v) = xd v ∧ xo (xday1 v) = xo v + xdayF v := by
  unfold xday1 xdayF
  by_cases c : isA (xd v) = 0
  · rw [if_pos c, if_pos c, Int32.add_zero]; exact ⟨rfl, rfl, rfl, rfl, rfl, rfl, rfl, rfl⟩
  · rw [if_neg c, if_neg c]; exact xaud_s v
theorem xday_s (v : S0) : xn (xday v) = xn v ∧ xw (xday v) = xw v ∧ xf (xday v) = xf v ∧ xg (xday v) = xg v ∧ xx (xday v) = xx v ∧ xc (xday v) = xc v ∧ xd (xday v) = xd v + 1 ∧ xo (xday v) = xo v + xdayF v ∧ xk (xday v) = if isA (xd v) = 0 then xk v else 0 := by
  have r := xeatN_r (xday1 v) (xn v)
  obtain ⟨n, w, f, g, x, c, d, o⟩ := xday1_s v
  have n2 := (re_n r).trans n
  have w2 := (re_w r).trans w
  have f2 := (re_f r).trans f
  have g2 := (re_g r).trans g
  have x2 := (re_x r).trans x
  have c2 := (re_c r).trans c
  have d2 : xd (xeatN (xday1 v) (xn v)) + 1 = xd v + 1 := by rw [re_d r, d]
  have o2 := (re_o r).trans o
  have k2 := (re_k r).trans (xday1_k1 v)
  exact ⟨n2, w2, f2, g2, x2, c2, d2, o2, k2⟩
theorem Rel.kd (h : Rel v u W X) : xk (xday v) = kday (rf u) (xk v) := by
  rw [(xday_s v).2.2.2.2.2.2.2.2]
  unfold kday
  rw [h.2.2.2.2.1.1]
  by_cases c : isA (xd v) = 0
  · rw [if_pos c, if_neg ((isA_0 _).mp c)]
  · rw [if_neg c, if_pos (Decidable.byContradiction fun e => c ((isA_0 _).mpr e))]
theorem Rel.dayF (h : Rel v u W X) : xdayF v = rdayF (rf u) (xk v) := by
  unfold xdayF rdayF
  rw [h.2.2.2.2.1.1, h.flt]
  by_cases c : isA (xd v) = 0
  · rw [if_pos c, if_neg ((isA_0 _).mp c)]
  · rw [if_neg c, if_pos (Decidable.byContradiction fun e => c ((isA_0 _).mpr e))]
theorem Rel.day (h : Rel v u W X) : Rel (xday v) (vf u (rday (rf u) (xn v) (xk v) W)) W X := by
  obtain ⟨n, w, f, g, x, c, d, o, -⟩ := xday_s v
  have hg := h.2.1
  have hk := h.kd
  unfold Rel
  rw [n, w, f, g, x, c, d, o, hk]
  refine ⟨h.1, rday_gd hg, fun j hj => ?_, fun j hj h8 => ?_, ⟨(rday_0 hg).trans (by rw [h.2.2.2.2.1.1]), (rday_hi hg (by omega)).trans h.2.2.2.2.1.2.1, h.2.2.2.2.1.2.2.1, ?_⟩, fun t ht => ?_⟩
  · show tr1 (rday (rf u) (xn v) (xk v) W) j = _
    rw [rday_row hg hj, xday_row v hj, h.2.2.1 j hj, h.debt, h.2.2.2.2.1.1]
  · have e := rday_out hg hj
    have e1 := congrArg (fun z : T3 => z.2.1) e
    have e2 := congrArg (fun z : T3 => z.2.2) e
    exact ⟨e1.trans (h.2.2.2.1 j hj h8).1, e2.trans (h.2.2.2.1 j hj h8).2⟩
  · show rday (rf u) (xn v) (xk v) W 2 = _
    rw [rday_2 hg, h.2.2.2.2.1.2.2.2, h.dayF]
  · have e := kday_le (rf u) (xk v)
    have h1 := h.2.2.2.2.2 t (by omega)
    show rday (rf u) (xn v) (xk v) W (ti t 0) = _ ∧ rday (rf u) (xn v) (xk v) W (ti t 1) = _ ∧ rday (rf u) (xn v) (xk v) W (ti t 2) = _ ∧ rday (rf u) (xn v) (xk v) W (ti t 3) = _ ∧ _
    rw [rday_hi hg (by unfold ti; omega), rday_hi hg (by unfold ti; omega), rday_hi hg (by unfold ti; omega), rday_hi hg (by unfold ti; omega)]
    exact h1
theorem Rel.pass (h : Rel v u W X) (i : Nat) : Rel (xpass v i) (vf u (rdp (rf u) (xn v) (xk v) W i).1) W X ∧ xk (xpass v i) = (rdp (rf u) (xn v) (xk v) W i).2 ∧ xpassF v i = rdpF (rf u) (xn v) (xk v) W i := by
  induction i with
  | zero => exact ⟨h, rfl, rfl⟩
  | succ i ih =>
    obtain ⟨h1, h2, h3⟩ := ih
    have hn := xpass_n v i
    have a1 := h1.day
    have a2 := h1.kd
    have a3 := h1.dayF
    rw [hn, h2] at a1
    rw [h2] at a2 a3
    refine ⟨a1, a2, ?_⟩
    show xpassF v i + xdayF (xpass v i) = rdpF (rf u) (xn v) (xk v) W i + rdayF (rdp (rf u) (xn v) (xk v) W i).1 (rdp (rf u) (xn v) (xk v) W i).2
    rw [h3]
    exact congrArg _ a3
end RELS
