/-! the answers; what each call leaves -/
section ANS
variable {v : S0} {u : S1} {W X : Nat → Nat} {j : Nat}
theorem nI_nm1 {a : Nat} (h : a < 2 ^ 31) : ¬ nI a ≤ -1 := fun q => nI_pos h (Int32.lt_of_le_of_lt q (by decide))
theorem nI_em1 {a : Nat} (h : a < 2 ^ 31) : ¬ nI a = -1 := fun q => nI_nm1 h (by rw [q]; exact Int32.le_refl _)
theorem Rel.luk1 (h : Rel v u W X) : ∀ i, i ≤ xn v → (i = 0 ∧ lukN (xl v) i = (-1, -1) ∧ rbN (rf u) i = -1) ∨ ∃ b, b < i ∧ lukN (xl v) i = (nI b, xl v b) ∧ rbN (rf u) i = nI b := by
  have hn := h.n8
  intro i
  induction i with
  | zero => intro _; exact Or.inl ⟨rfl, rfl, rfl⟩
  | succ i ih =>
    intro hi
    obtain ⟨-, b0, -, -, hb, hb1⟩ := h.2.1.2.2.2 i (by omega)
    have hl : xl v i = nI b0 := (h.l (by omega)).symm.trans hb
    right
    rcases ih (by omega) with ⟨rfl, e1, e2⟩ | ⟨b, hbi, e1, e2⟩
    · refine ⟨0, by omega, ?_, ?_⟩
      · unfold lukN
        rw [e1, if_neg (show ¬ xl v 0 ≤ -1 by rw [hl]; exact nI_nm1 (by omega))]
      · unfold rbN
        rw [if_pos e2]
    · have hc : (nI b).toNatClampNeg = b := nI_clamp (by omega)
      by_cases c : xl v i ≤ xl v b
      · refine ⟨b, by omega, ?_, ?_⟩
        · unfold lukN
          rw [e1, if_pos (show xl v i ≤ xl v b from c)]
        · unfold rbN
          rw [e2, if_neg (nI_em1 (by omega)), hc, h.l (by omega), h.l (by omega), if_pos c]
      · refine ⟨i, by omega, ?_, ?_⟩
        · unfold lukN
          rw [e1, if_neg (show ¬ xl v i ≤ xl v b from c)]
        · unfold rbN
          rw [e2, if_neg (nI_em1 (by omega)), hc, h.l (by omega), h.l (by omega), if_neg c]
theorem Rel.luk (h : Rel v u W X) : (lukN (xl v) (xn v)).1 = rbN (rf u) (xn v) := by
  rcases h.luk1 _ (Nat.le_refl _) with ⟨-, e1, e2⟩ | ⟨b, -, e1, e2⟩
  · rw [e1, e2]
  · rw [e1, e2]
theorem sum_eq {f g : Nat → Int32} (w : Nat) : ∀ n, (∀ i, i < n → g (mi i w) = f i) → sumI f n = rowS g w n := by
  intro n
  induction n with
  | zero => intro _; rfl
  | succ n ih => intro h; unfold sumI rowS; rw [ih (fun i hi => h i (by omega)), h n (by omega)]
theorem clr_eq {f g : Nat → Int32} : ∀ n, (∀ i, i < n → g (mi i 1) = f i) → clrI f n = rclr g n := by
  intro n
  induction n with
  | zero => intro _; rfl
  | succ n ih =>
    intro h
    unfold clrI rclr
    rw [ih (fun i hi => h i (by omega)), h n (by omega)]
    by_cases c : f n = 0
    · rw [if_pos c, if_pos c]
    · rw [if_neg c, if_neg c, Int32.add_zero]
theorem Rel.sumA (h : Rel v u W X) : sumI (xa v) (xn v) = rowS (rf u) 1 (xn v) := sum_eq 1 _ (fun _ hi => h.a hi)
theorem Rel.sumL (h : Rel v u W X) : sumI (xl v) (xn v) = rowS (rf u) 0 (xn v) := sum_eq 0 _ (fun _ hi => h.l hi)
theorem Rel.clr (h : Rel v u W X) : clrI (xa v) (xn v) = rclr (rf u) (xn v) := clr_eq _ (fun _ hi => h.a hi)
theorem Rel.mean (h : Rel v u W X) : xmean v = rmean u := by unfold xmean rmean; rw [h.1, h.sumL]
theorem sumI_val {f : Nat → Int32} : ∀ n, (∀ i, i < n → ∃ b : Nat, f i = nI b ∧ b ≤ 100) → ∃ s : Nat, sumI f n = nI s ∧ s ≤ 100 * n := by
  intro n
  induction n with
  | zero => intro _; exact ⟨0, rfl, Nat.le_refl _⟩
  | succ n ih =>
    intro h
    obtain ⟨s, h1, h2⟩ := ih (fun i hi => h i (by omega))
    obtain ⟨b, h3, h4⟩ := h n (by omega)
    refine ⟨s + b, ?_, by omega⟩
    unfold sumI
    rw [h1, h3, nI_add]
theorem Rel.sumV (h : Rel v u W X) : ∃ s : Nat, sumI (xl v) (xn v) = nI s ∧ s ≤ 800 := by
  have hn := h.n8
  obtain ⟨s, h1, h2⟩ := sumI_val (f := xl v) (xn v) (fun i hi => by
    obtain ⟨-, b, -, -, hb, hb1⟩ := h.2.1.2.2.2 i hi
    exact ⟨b, (h.l hi).symm.trans hb, hb1⟩)
  exact ⟨s, h1, by omega⟩
/-! the digest -/
theorem Rel.memD (h : Rel v u W X) (hj : j < xn v) (d : Int64) : xmemD v d j = rmemD u (xk v) W (xc v) d j := by
  have h2 := h.pin j
  have k2 := ke.pin v j
  have en : xn (xpin v j) = xn v := k2.1.1
  have ek : xk (xpin v j) = xk v := k2.1.2.2.2.2.2.1
  have e := h2.penR (j := j) (by rw [en]; exact hj)
  rw [ek] at e
  unfold xmemD rmemD
  rw [h.l hj, h.a hj, h.e hj, h.loss hj, h.debt, h.pinR hj, e]
theorem Rel.memN (h : Rel v u W X) (i : Nat) : Rel (xmemN v i) (rmemN u (xk v) W (xc v) i) W X := h.keep (ke.memN v i) (rmemN_n u _ _ _ _) (fun x hx => rmemN_f u _ _ _ _ hx)
theorem Rel.memDN (h : Rel v u W X) (d : Int64) : ∀ i, i ≤ xn v → xmemDN v d i = rmemDN u (xk v) W (xc v) d i := by
  intro i
  induction i with
  | zero => intro _; rfl
  | succ i ih =>
    intro hi
    have k2 := ke.memN v i
    have en : xn (xmemN v i) = xn v := k2.1.1
    have ek : xk (xmemN v i) = xk v := k2.1.2.2.2.2.2.1
    have ec : xc (xmemN v i) = xc v := k2.1.2.2.2.2.2.2.1
    have e := (h.memN i).memD (j := i) (by rw [en]; omega) (rmemDN u (xk v) W (xc v) d i)
    rw [ek, ec] at e
    unfold xmemDN rmemDN
    rw [ih (by omega)]
    exact e
theorem Rel.thDN (h : Rel v u W X) (d : Int64) : ∀ t, t ≤ xk v → xthDN v d t = rthDN (rf u) d t := by
  intro t
  induction t with
  | zero => intro _; rfl
  | succ t ih =>
    intro ht
    obtain ⟨h0, h1, h2, h3, h4⟩ := h.2.2.2.2.2 t (by omega)
    unfold xthDN rthDN
    rw [ih (by omega)]
    unfold xthD
    show _ = mixd (mixd (mixd (mixd (rthDN (rf u) d t) (rf u (ti t 0))) (rf u (ti t 1))) (rf u (ti t 2))) (rf u (ti t 3))
    have e : (if xf v t = 0 then (0 : Int32) else 1) = xf v t := by
      rcases h4 with c | c
      · rw [if_pos c, c]
      · rw [c]; rfl
    rw [h0, h1, h2, h3, e]
theorem Rel.dig8 (h : Rel v u W X) : xdig8 v = rdig8 u (xk v) := by
  unfold xdig8 rdig8
  rw [h.2.2.2.2.1.1, h.2.2.2.2.1.2.1, h.2.2.2.2.1.2.2.2, h.L.1, h.1, h.flt, h.luk, h.sumA]
theorem Rel.digR (h : Rel v u W X) : xdigR v = rdigR u (xk v) W (xc v) := by
  have h0 : Rel v (vt u 0) W X := h
  have hm := h0.memN (xn v)
  have ek : xk (xmemN v (xn v)) = xk v := (ke.memN v (xn v)).1.2.2.2.2.2.1
  unfold xdigR rdigR xdig rdig
  rw [h.1, ← h.dig8, ← h0.memDN _ _ (Nat.le_refl _)]
  exact hm.thDN _ _ (by rw [ek]; exact Nat.le_refl _)
theorem Rel.dig (h : Rel v u W X) : Rel (xdig v) (rdig u (xk v) W (xc v)) W X := by
  have h0 : Rel v (vt u 0) W X := h
  unfold xdig rdig
  rw [h.1]
  exact h0.memN (xn v)
/-! what changes -/
theorem Rel.x00 : Rel x00 r00 (fun _ => 0) (fun _ => 0) := by
  refine ⟨rfl, ⟨by decide, ⟨rfl, by decide, fun t ht => absurd ht (Nat.not_lt_zero t)⟩, fun t ht => absurd ht (Nat.not_lt_zero t), fun j hj => absurd hj (Nat.not_lt_zero j)⟩, fun j hj => absurd hj (Nat.not_lt_zero j), fun j _ h8 => ?_, ⟨rfl, rfl, by decide, rfl⟩, fun t ht => absurd ht (Nat.not_lt_zero t)⟩
  show upd (fun _ => (0 : Int32)) 1 100 (mi j 1) = 0 ∧ upd (fun _ => (0 : Int32)) 1 100 (mi j 2) = 0
  rw [upd_ne (by unfold mi; omega), upd_ne (by unfold mi; omega)]
  exact ⟨rfl, rfl⟩
theorem Rel.cell (h : Rel v u W X) {c : Nat} (hc : c ≤ 500) : Rel (uc v c) (vf u (upd (rf u) 1 (nI c))) W X := by
  have eF : rf (vf u (upd (rf u) 1 (nI c))) = upd (rf u) 1 (nI c) := rfl
  have en : xn (uc v c) = xn v := rfl
  have ek : xk (uc v c) = xk v := rfl
  have ec : xc (uc v c) = c := rfl
  unfold Rel
  rw [eF, en, ek, ec]
  refine ⟨h.1, h.2.1.lo _ (by omega), fun j hj => ?_, fun j hj h8 => ?_, ⟨(upd_ne (by omega)).trans h.2.2.2.2.1.1, pk_us, hc, (upd_ne (by omega)).trans h.2.2.2.2.1.2.2.2⟩, fun t ht => ?_⟩
  · exact (tr1_lo _ _ _ (by omega)).trans (h.2.2.1 j hj)
  · have e := h.2.2.2.1 j hj h8
    exact ⟨(upd_ne (by unfold mi; omega)).trans e.1, (upd_ne (by unfold mi; omega)).trans e.2⟩
  · obtain ⟨h0, h1, h2, h3, h4⟩ := h.2.2.2.2.2 t ht
    exact ⟨(upd_ne (by unfold ti; omega)).trans h0, (upd_ne (by unfold ti; omega)).trans h1, (upd_ne (by unfold ti; omega)).trans h2, (upd_ne (by unfold ti; omega)).trans h3, h4⟩
/-- a member's row is set -/
theorem Rel.set (h : Rel v u W X) (hj : j < xn v) {v2 : S0} {u2 : S1} (hr : v2.2.2.2 = v.2.2.2) (ht : ∀ i, i ≠ j → tr0 v2 i = tr0 v i) (hn : rn u2 = rn u) (hx : ∀ x, x < 4 ∨ 28 ≤ x → rf u2 x = rf u x) (hx2 : ∀ i, i ≠ j → tr1 (rf u2) i = tr1 (rf u) i) (he : tr1 (rf u2) j = tr0 v2 j) (hb : ∃ a b : Nat, xa v2 j = nI a ∧ a ≤ 99 ∧ xl v2 j = nI b ∧ b ≤ 100) : Rel v2 u2 W X := by
  have n := re_n hr
  have w := re_w hr
  have f := re_f hr
  have g := re_g hr
  have x := re_x hr
  have k := re_k hr
  have c := re_c hr
  have d := re_d hr
  have o := re_o hr
  obtain ⟨h1, ⟨g1, ⟨l1, l2, l3⟩, g2, g3⟩, h3, h4, ⟨h5, h6, h7, h8⟩, h9⟩ := h
  unfold Rel
  rw [n, w, f, g, x, k, c, d, o]
  refine ⟨hn.trans h1, ⟨g1, ⟨(hx _ (by omega)).trans l1, l2, fun t ht => ⟨(hx _ (by unfold ti; omega)).trans (l3 t ht).1, (l3 t ht).2⟩⟩, fun t ht => ⟨(g2 t ht).1, (hx _ (by unfold ti; omega)).trans (g2 t ht).2.1, (g2 t ht).2.2⟩, fun i hi => ?_⟩, fun i hi => ?_, fun i hi h8 => ?_, ⟨(hx _ (by omega)).trans h5, (hx _ (by omega)).trans h6, h7, (hx _ (by omega)).trans h8⟩, fun t ht => ?_⟩
  · by_cases q : i = j
    · subst q
      obtain ⟨a, b, b1, b2, b3, b4⟩ := hb
      exact ⟨a, b, (congrArg (fun z : T3 => z.2.1) he).trans b1, b2, (congrArg (fun z : T3 => z.1) he).trans b3, b4⟩
    · obtain ⟨a, b, b1, b2, b3, b4⟩ := g3 i hi
      have e := hx2 i q
      exact ⟨a, b, (congrArg (fun z : T3 => z.2.1) e).trans b1, b2, (congrArg (fun z : T3 => z.1) e).trans b3, b4⟩
  · by_cases q : i = j
    · subst q; exact he
    · rw [hx2 i q, ht i q]; exact h3 i hi
  · have e := hx2 i (by omega)
    exact ⟨(congrArg (fun z : T3 => z.2.1) e).trans (h4 i hi h8).1, (congrArg (fun z : T3 => z.2.2) e).trans (h4 i hi h8).2⟩
  · rw [hx _ (by unfold ti; omega), hx _ (by unfold ti; omega), hx _ (by unfold ti; omega), hx _ (by unfold ti; omega)]; exact h9 t ht
theorem Rel.penance (h : Rel v u W X) (hj : j < xn v) (g : Int32) : Rel (xlump v j g) (vf (vt u 0) (upd (rf u) (mi j 2) (imin 9 (rf u (mi j 2) + g)))) W X := by
  have hn := h.n8
  have eL := xlump_row v j g j
  rw [if_pos rfl] at eL
  refine h.set hj rfl (fun i hi => by rw [xlump_row, if_neg hi]) rfl (fun x hx => upd_ne (by unfold mi; omega)) (fun i hi => by show tr1 (upd _ _ _) i = _; rw [tr1_u2, if_neg hi]) ?_ ?_
  · show tr1 (upd _ _ _) j = _
    rw [tr1_u2, if_pos rfl, eL, h.l hj, h.a hj, h.e hj]
  · obtain ⟨a, b, ha, ha9, hb, hb1⟩ := h.2.1.2.2.2 j hj
    exact ⟨a, b, (h.a hj).symm.trans ha, ha9, (h.l hj).symm.trans hb, hb1⟩
theorem Rel.penanceR (h : Rel v u W X) (hj : j < xn v) (g : Int32) : xe (xlump v j g) j = upd (rf u) (mi j 2) (imin 9 (rf u (mi j 2) + g)) (mi j 2) := by
  have eL := xlump_row v j g j
  rw [if_pos rfl] at eL
  rw [pk_us, h.e hj]
  exact congrArg (fun z : T3 => z.2.2) eL
theorem Rel.spill (h : Rel v u W X) (hj : j < xn v) {g : Nat} (hg : g ≤ 30) : Rel (xspill v j g) (rspill u j (xc v) g) W X := by
  have hn := h.n8
  have hc := h.2.2.2.2.1.2.2.1
  have h1 := h.cell (c := xc v - g) (by omega)
  have eA := xadd_row (uc v (xc v - g)) j (nI g) j
  rw [if_pos rfl] at eA
  obtain ⟨a, b, ha, ha9, hb, hb1⟩ := h1.2.1.2.2.2 j hj
  refine h1.set (j := j) hj rfl (fun i hi => by show tr0 (xadd _ _ _) i = _; rw [xadd_row, if_neg hi]) rfl (fun x hx => upd_ne (by unfold mi; omega)) (fun i hi => by show tr1 (upd _ _ _) i = _; rw [tr1_u1, if_neg hi]; rfl) ?_ ?_
  · show tr1 (upd (rf (vf u (upd (rf u) 1 (nI (xc v - g))))) (mi j 1) (imin 99 (rf (vf u (upd (rf u) 1 (nI (xc v - g)))) (mi j 1) + nI g))) j = tr0 (xadd (uc v (xc v - g)) j (nI g)) j
    rw [tr1_u1, if_pos rfl, eA, h1.l hj, h1.a hj, h1.e hj]
    rfl
  · have ea : xa (uc v (xc v - g)) j = nI a := (h1.a hj).symm.trans ha
    refine ⟨min 99 (a + g), b, (congrArg (fun z : T3 => z.2.1) eA).trans ?_, by omega, (h1.l hj).symm.trans hb, hb1⟩
    show imin 99 (xa (uc v (xc v - g)) j + nI g) = _
    rw [ea, nI_add, imin_99 (by omega)]
theorem Rel.spillR (h : Rel v u W X) (hj : j < xn v) (g : Nat) : xa (xspill v j g) j = rspF (rf u) j (xc v) g (mi j 1) := by
  have eA := xadd_row (uc v (xc v - g)) j (nI g) j
  rw [if_pos rfl] at eA
  unfold rspF
  rw [pk_us, upd_ne (by unfold mi; omega), h.a hj]
  exact congrArg (fun z : T3 => z.2.1) eA
theorem Rel.join (h : Rel v u W X) (hn : xn v < 8) : Rel (xjoin v) (rjoin u) W X := by
  obtain ⟨h1, ⟨g1, g0, g2, g3⟩, h3, h4, ⟨h5, h6, h7, h8⟩, h9⟩ := h
  have e0 := h4 (xn v) (Nat.le_refl _) hn
  have ef : rf (rjoin u) = upd (rf u) (mi (xn v) 0) 50 := by rw [← h1]; rfl
  have er : rn (rjoin u) = xn v + 1 := by rw [← h1]; rfl
  have en : xn (xjoin v) = xn v + 1 := rfl
  have ek : xk (xjoin v) = xk v := rfl
  have et : ∀ i, tr0 (xjoin v) i = if i = xn v then ((50, 0, 0) : T3) else tr0 v i := by
    intro i
    show (upd (xl v) (xn v) 50 i, upd (xa v) (xn v) 0 i, upd (xe v) (xn v) 0 i) = _
    by_cases c : i = xn v
    · rw [if_pos c, c, pk_us, pk_us, pk_us]
    · rw [if_neg c, pk_un c, pk_un c, pk_un c]; rfl
  have eu : ∀ i, tr1 (rf (rjoin u)) i = if i = xn v then ((50, rf u (mi (xn v) 1), rf u (mi (xn v) 2)) : T3) else tr1 (rf u) i := fun i => by rw [ef, tr1_u0]
  have ex : ∀ x, x < 4 ∨ 28 ≤ x → rf (rjoin u) x = rf u x := fun x hx => by rw [ef]; exact upd_ne (by unfold mi; omega)
  unfold Rel
  rw [en, ek]
  refine ⟨er, ⟨hn, g0.hi (fun z hz => ex z (by omega)), fun t ht => ⟨by have := (g2 t ht).1; omega, (ex _ (by unfold ti; omega)).trans (g2 t ht).2.1, (g2 t ht).2.2⟩, fun i hi => ?_⟩, fun i hi => ?_, fun i hi h8 => ?_, ⟨(ex _ (by omega)).trans h5, (ex _ (by omega)).trans h6, h7, (ex _ (by omega)).trans h8⟩, fun t ht => ?_⟩
  · have e := eu i
    by_cases c : i = xn v
    · rw [if_pos c, e0.1] at e
      exact ⟨0, 50, congrArg (fun z : T3 => z.2.1) e, by omega, congrArg (fun z : T3 => z.1) e, by omega⟩
    · rw [if_neg c] at e
      obtain ⟨a, b, b1, b2, b3, b4⟩ := g3 i (by omega)
      exact ⟨a, b, (congrArg (fun z : T3 => z.2.1) e).trans b1, b2, (congrArg (fun z : T3 => z.1) e).trans b3, b4⟩
  · rw [eu, et]
    by_cases c : i = xn v
    · rw [if_pos c, if_pos c, e0.1, e0.2]
    · rw [if_neg c, if_neg c]; exact h3 i (by omega)
  · have e := eu i
    rw [if_neg (by omega)] at e
    exact ⟨(congrArg (fun z : T3 => z.2.1) e).trans (h4 i (by omega) h8).1, (congrArg (fun z : T3 => z.2.2) e).trans (h4 i (by omega) h8).2⟩
  · rw [ex _ (by unfold ti; omega), ex _ (by unfold ti; omega), ex _ (by unfold ti; omega), ex _ (by unfold ti; omega)]; exact h9 t ht
theorem Rel.cast (h : Rel v u W X) (hj : j < xn v) (hk : xk v < 30) {g : Nat} (hG : g ≤ 9) (hc : g ≤ xc v) (b lb E : Int32) {v1 : S0} (hr : v1.2.2.2 = v.2.2.2) (ht : ∀ i, i < xn v → tr0 v1 i = tr1 (rc1 (rf u) j b (nI g)) i) (hl : lb = if b = 0 then 0 else 1) (hE : E = rcE (rf u) j b (nI g)) : ∃ W2 X2, Rel (xwrite (uc v1 (xc v - g)) (nI j) lb (nI g) E) (vf (vt u 0) (rcast (rf u) (xk v) j b (nI g))) W2 X2 := by
  have hn := h.n8
  obtain ⟨h1, hg, h3, h4, ⟨h5, h6, h7, h8⟩, h9⟩ := h
  obtain ⟨a, b0, ha, ha9, -, -⟩ := hg.2.2.2 j hj
  refine ⟨cW W (xk v) j, cX X (xk v) (if b = 0 then g else g - a), ?_⟩
  have en : xn (xwrite (uc v1 (xc v - g)) (nI j) lb (nI g) E) = xn v := by
    show xn v1 = _
    exact re_n hr
  have ek : xk (xwrite (uc v1 (xc v - g)) (nI j) lb (nI g) E) = xk v + 1 := by
    show xk v1 + 1 = _
    rw [re_k hr]
  have ew : xw (xwrite (uc v1 (xc v - g)) (nI j) lb (nI g) E) = upd (xw v) (xk v) (nI j) := by
    show upd (xw v1) (xk v1) (nI j) = _
    rw [re_w hr, re_k hr]
  have ef : xf (xwrite (uc v1 (xc v - g)) (nI j) lb (nI g) E) = upd (xf v) (xk v) lb := by
    show upd (xf v1) (xk v1) lb = _
    rw [re_f hr, re_k hr]
  have eg : xg (xwrite (uc v1 (xc v - g)) (nI j) lb (nI g) E) = upd (xg v) (xk v) (nI g) := by
    show upd (xg v1) (xk v1) (nI g) = _
    rw [re_g hr, re_k hr]
  have ee : xx (xwrite (uc v1 (xc v - g)) (nI j) lb (nI g) E) = upd (xx v) (xk v) E := by
    show upd (xx v1) (xk v1) E = _
    rw [re_x hr, re_k hr]
  have ec : xc (xwrite (uc v1 (xc v - g)) (nI j) lb (nI g) E) = xc v - g := rfl
  have ed : xd (xwrite (uc v1 (xc v - g)) (nI j) lb (nI g) E) = xd v := by
    show xd v1 = _
    exact re_d hr
  have eo : xo (xwrite (uc v1 (xc v - g)) (nI j) lb (nI g) E) = xo v := by
    show xo v1 = _
    exact re_o hr
  have er : ∀ i, tr0 (xwrite (uc v1 (xc v - g)) (nI j) lb (nI g) E) i = tr0 v1 i := fun _ => rfl
  have eF : rf (vf (vt u 0) (rcast (rf u) (xk v) j b (nI g))) = rcast (rf u) (xk v) j b (nI g) := rfl
  unfold Rel
  rw [en, ek, ew, ef, eg, ee, ec, ed, eo, eF]
  refine ⟨h1, gd_cast hg hj hk ha ha9 hG b, fun i hi => ?_, fun i hi h8 => ?_, ⟨(rcast_0 _ _ _ _ _).trans h5, ?_, by omega, (rcast_2 _ _ _ _ _).trans h8⟩, fun t ht => ?_⟩
  · rw [er, ht i hi]; exact rcast_row _ _ _ _ _ (by omega)
  · have e := (rcast_row (rf u) (xk v) j b (nI g) h8).trans (rc1_row i)
    rw [if_neg (by omega)] at e
    exact ⟨(congrArg (fun z : T3 => z.2.1) e).trans (h4 i hi h8).1, (congrArg (fun z : T3 => z.2.2) e).trans (h4 i hi h8).2⟩
  · rw [rcast_1, h6, pk_sub hc]
  · by_cases c : t = xk v
    · subst c
      rw [pk_us, pk_us, pk_us, pk_us, rcast_k0, rcast_k1, rcast_k2, rcast_k3]
      refine ⟨rfl, hl.symm, rfl, hE.symm, ?_⟩
      rw [hl]
      split
      · exact Or.inl rfl
      · exact Or.inr rfl
    · rw [pk_un c, pk_un c, pk_un c, pk_un c, rcast_t _ _ _ _ (by omega) c (by omega), rcast_t _ _ _ _ (by omega) c (by omega), rcast_t _ _ _ _ (by omega) c (by omega), rcast_t _ _ _ _ (by omega) c (by omega)]
      exact h9 t (by omega)
theorem Rel.throw (h : Rel v u W X) (hj : j < xn v) (hk : xk v < 30) {g : Nat} (hG : g ≤ 9) (hc : g ≤ xc v) (b : Int32) : ∃ W2 X2, Rel (xthrow v j b g) (vf (vt u 0) (rcast (rf u) (xk v) j (if b = 0 then 1 else 0) (nI g))) W2 X2 := by
  unfold xthrow
  by_cases c : b = 0
  · rw [if_pos c, if_pos c, xless_c]
    refine h.cast hj hk hG hc 1 1 _ (v1 := xless v j (nI g)) rfl (fun i hi => ?_) rfl ?_
    · rw [xless_row, rc1_row]
      by_cases q : i = j
      · rw [if_pos q, if_pos ⟨q, by decide⟩, h.l hj, h.a hj, h.e hj]
      · rw [if_neg q, if_neg (fun z => q z.1)]; exact (h.2.2.1 i hi).symm
    · unfold rcE xlexc
      rw [if_neg (by decide), h.a hj]
  · rw [if_neg c, if_neg c]
    refine h.cast hj hk hG hc 0 0 _ (v1 := v) rfl (fun i hi => ?_) rfl ?_
    · rw [rc1_0 rfl]; exact (h.2.2.1 i hi).symm
    · unfold rcE; rw [if_pos rfl]
theorem Rel.throwR (h : Rel v u W X) (hj : j < xn v) (b : Int32) (g : Nat) : xthrowR v j b g = rcE (rf u) j (if b = 0 then 1 else 0) (nI g) := by
  unfold xthrowR rcE xlexc
  by_cases c : b = 0
  · rw [if_pos c, if_pos c, if_neg (by decide), h.a hj]
  · rw [if_neg c, if_neg c, if_pos rfl]
end ANS
/-! what is asked of a call -/
theorem mem_or (x : Int32) {n : Nat} (hn : n ≤ 30) : (∃ j, j < n ∧ x = nI j) ∨ ((x < 0 ∨ nI n ≤ x) ∧ isin x 0 (nI n - 1) = 0) := by
  rcases pk_ix x (n := n) (by omega) with h | h | h
  · refine Or.inr ⟨Or.inl h, ?_⟩
    unfold isin; rw [if_pos h]
  · refine Or.inr ⟨Or.inr h, ?_⟩
    have e : nI n - 1 < x := by
      rcases Nat.eq_zero_or_pos n with q | q
      · subst q; exact Int32.lt_of_lt_of_le (by decide) h
      · have e1 : nI n - nI 1 = nI (n - 1) := pk_sub (by omega)
        have e2 : nI n - 1 = nI (n - 1) := e1
        rw [e2]
        exact Int32.lt_of_lt_of_le (nI_lt (by omega) (by omega)) h
    unfold isin
    rw [if_pos e]
    split <;> rfl
  · exact Or.inl h
theorem amt_or (g : Int32) {hi : Nat} (hh : hi < 2 ^ 30) : (∃ a, 1 ≤ a ∧ a ≤ hi ∧ g = nI a) ∨ ((g < 1 ∨ ¬ g ≤ nI hi) ∧ isin g 1 (nI hi) = 0) := by
  by_cases c : g < 1
  · refine Or.inr ⟨Or.inl c, ?_⟩
    unfold isin; rw [if_pos c]
  · by_cases c2 : g ≤ nI hi
    · left
      have c0 : ¬ g < 0 := fun q => c (Int32.lt_trans q (by decide))
      obtain ⟨a, ha, rfl⟩ := nI_of c0
      refine ⟨a, ?_, (nI_leI ha (by omega)).mp c2, rfl⟩
      rcases Nat.eq_zero_or_pos a with q | q
      · subst q; exact absurd (show nI 0 < 1 by decide) c
      · exact q
    · refine Or.inr ⟨Or.inr c2, ?_⟩
      unfold isin
      rw [if_neg c, if_pos (Int32.not_le.mp c2)]
theorem sh_or (b : Int32) : ((b = 0 ∨ b = 1) ∧ isin b 0 1 = 1) ∨ (¬ (b = 0 ∨ b = 1) ∧ isin b 0 1 = 0) := by
  by_cases c : b = 0
  · subst c; exact Or.inl ⟨Or.inl rfl, by decide⟩
  · by_cases c2 : b = 1
    · subst c2; exact Or.inl ⟨Or.inr rfl, by decide⟩
    · refine Or.inr ⟨fun h => h.elim c c2, ?_⟩
      unfold isin
      by_cases c3 : b < 0
      · rw [if_pos c3]
      · rw [if_neg c3]
        by_cases c4 : (1 : Int32) < b
        · rw [if_pos c4]
        · exfalso
          obtain ⟨a, ha, rfl⟩ := nI_of c3
          have c5 : nI a ≤ nI 1 := Int32.not_lt.mp c4
          have c6 := (nI_leI ha (by omega)).mp c5
          rcases (show a = 0 ∨ a = 1 by omega) with q | q
          · subst q; exact c rfl
          · subst q; exact c2 rfl
