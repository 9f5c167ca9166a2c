/-! looks ahead -/
theorem raddN_congr {f g : Nat → Int32} (j : Int32) : ∀ k, (∀ t, t < k → g (ti t 0) = f (ti t 0) ∧ g (ti t 3) = f (ti t 3)) → raddN g j k = raddN f j k := by
  intro k
  induction k with
  | zero => intro _; rfl
  | succ k ih =>
    intro h
    obtain ⟨h1, h2⟩ := h k (Nat.lt_succ_self k)
    unfold raddN
    rw [ih (fun t ht => h t (by omega)), h1, h2]
section LOOK
variable {f : Nat → Int32} {n k j : Nat} {W X : Nat → Nat}
theorem rday_5 (h : gd f n k W X) (hj : j < n) : q5 (rday f n k W) j (kday f k) = stT (q5 f j k) := by
  have e3 : raddN (rday f n k W) (nI j) (kday f k) = if isA (f 0) = 0 then raddN f (nI j) k else 0 := by
    unfold kday
    by_cases c : f 0 - f 0 / 7 * 7 = 6
    · rw [if_pos c, if_neg (fun e => (isA_0 _).mp e c)]; rfl
    · rw [if_neg c, if_pos ((isA_0 _).mpr c)]
      exact raddN_congr _ _ (fun t ht => ⟨rday_hi h (by unfold ti; omega), rday_hi h (by unfold ti; omega)⟩)
  unfold q5 stT
  rw [rday_row h hj, rday_0 h, e3]
theorem rdp_5 (h : gd f n k W X) (hj : j < n) (i : Nat) : q5 (rdp f n k W i).1 j (rdp f n k W i).2 = stN (q5 f j k) i := by
  induction i with
  | zero => rfl
  | succ i ih =>
    show q5 (rday (rdp f n k W i).1 n (rdp f n k W i).2 W) j (kday (rdp f n k W i).1 (rdp f n k W i).2) = stT (stN (q5 f j k) i)
    rw [rday_5 (rdp_gd h i) hj, ih]
theorem rdp_row (h : gd f n k W X) (hj : j < n) (i : Nat) : tr1 (rdp f n k W i).1 j = (stN (q5 f j k) i).1 := congrArg (fun q : T5 => q.1) (rdp_5 h hj i)
theorem rdp_l (h : gd f n k W X) (hj : j < n) (i : Nat) : (rdp f n k W i).1 (mi j 0) = (stN (q5 f j k) i).1.1 := congrArg (fun q : T3 => q.1) (rdp_row h hj i)
theorem xtdN_row (v : S0) (i : Nat) : tr0 (xtdN v i) 8 = (stN (p5 v) i).1 := congrArg (fun q : T5 => q.1) (xtdN_5 v i)
theorem xtdN_l (v : S0) (i : Nat) : xl (xtdN v i) 8 = (stN (p5 v) i).1.1 := congrArg (fun q : T3 => q.1) (xtdN_row v i)
theorem xb8_l (v : S0) (j : Nat) : xl (xbegin v j) 8 = xl v j := by
  show upd (xl v) 8 (xl v j) 8 = xl v j
  exact pk_us
theorem xb8_a (v : S0) (j : Nat) : xa (xbegin v j) 8 = xa v j := by
  show upd (xa v) 8 (xa v j) 8 = xa v j
  exact pk_us
theorem xb8_e (v : S0) (j : Nat) : xe (xbegin v j) 8 = xe v j := by
  show upd (xe v) 8 (xe v j) 8 = xe v j
  exact pk_us
theorem xbegin_8 (v : S0) (j : Nat) : tr0 (xbegin v j) 8 = tr0 v j := T3e (xb8_l v j) (xb8_a v j) (xb8_e v j)
theorem p5_begin (v : S0) (j : Nat) : p5 (xbegin v j) = (tr0 v j, xd v, xdebt v (nI j)) := by
  have e2 : xy (xbegin v j) = xd v := rfl
  have e3 : xb (xbegin v j) = xdebt v (nI j) := rfl
  unfold p5
  rw [xbegin_8, e2, e3]
theorem p5_bpin (v : S0) (j : Nat) (g : Int32) : p5 (xbpin v j g) = ((xl v j, imax 0 (xa v j - g), xe v j), xd v, xdebt v (nI j) + 2 * imax 0 (g - xa v j)) := by
  have b1 : xl (xbegin v j) 8 = xl v j := xb8_l v j
  have b2 : xa (xbegin v j) 8 = xa v j := xb8_a v j
  have b3 : xe (xbegin v j) 8 = xe v j := xb8_e v j
  have c1 : xl (ub (xbegin v j) (xb (xbegin v j) + 2 * xlexc (xbegin v j) 8 g)) 8 = xl v j := b1
  have c2 : xa (ub (xbegin v j) (xb (xbegin v j) + 2 * xlexc (xbegin v j) 8 g)) 8 = xa v j := b2
  have c3 : xe (ub (xbegin v j) (xb (xbegin v j) + 2 * xlexc (xbegin v j) 8 g)) 8 = xe v j := b3
  have e1 : tr0 (xbpin v j g) 8 = (xl v j, imax 0 (xa v j - g), xe v j) := by
    unfold xbpin
    rw [xless_row, if_pos rfl, c1, c2, c3]
  have e2 : xy (xbpin v j g) = xd v := rfl
  have e3 : xb (xbpin v j g) = xb (xbegin v j) + 2 * xlexc (xbegin v j) 8 g := rfl
  have e4 : xb (xbegin v j) = xdebt v (nI j) := rfl
  unfold p5
  rw [e1, e2, e3, e4]
  unfold xlexc
  rw [b2]
theorem p5_bpen (v : S0) (j : Nat) (g : Int32) : p5 (xbpen v j g) = ((xl v j, xa v j, imin 9 (xe v j + g)), xd v, xdebt v (nI j)) := by
  have b1 : xl (xbegin v j) 8 = xl v j := xb8_l v j
  have b2 : xa (xbegin v j) 8 = xa v j := xb8_a v j
  have b3 : xe (xbegin v j) 8 = xe v j := xb8_e v j
  have e1 : tr0 (xbpen v j g) 8 = (xl v j, xa v j, imin 9 (xe v j + g)) := by
    unfold xbpen
    rw [xlump_row, if_pos rfl, b1, b2, b3]
  have e2 : xy (xbpen v j g) = xd v := rfl
  have e3 : xb (xbpen v j g) = xdebt v (nI j) := rfl
  unfold p5
  rw [e1, e2, e3]
/-! a throw that can be done -/
theorem rcast_lo (f : Nat → Int32) (k j : Nat) (b g : Int32) {x : Nat} (h3 : x ≠ 3) (h : x < 28) : rcast f k j b g x = rc2 f j b g x := by
  unfold rcast
  rw [upd_ne h3, upd_ne (by unfold ti; omega), upd_ne (by unfold ti; omega), upd_ne (by unfold ti; omega), upd_ne (by unfold ti; omega)]
theorem rc1_0 {f : Nat → Int32} {j : Nat} {b g : Int32} (hb : b = 0) : rc1 f j b g = f := by unfold rc1; rw [if_pos hb]
theorem rc1_1 {f : Nat → Int32} {j : Nat} {b g : Int32} (hb : ¬ b = 0) : rc1 f j b g = upd f (mi j 1) (imax 0 (f (mi j 1) - g)) := by unfold rc1; rw [if_neg hb]
theorem rc1_x (f : Nat → Int32) (j : Nat) (b g : Int32) {x : Nat} (hx : x ≠ mi j 1) : rc1 f j b g x = f x := by
  unfold rc1
  split
  · rfl
  · exact upd_ne hx
theorem rcast_row (f : Nat → Int32) (k j : Nat) (b g : Int32) {i : Nat} (hi : i < 8) : tr1 (rcast f k j b g) i = tr1 (rc1 f j b g) i := by
  unfold tr1
  rw [rcast_lo _ _ _ _ _ (by unfold mi; omega) (by unfold mi; omega), rcast_lo _ _ _ _ _ (by unfold mi; omega) (by unfold mi; omega), rcast_lo _ _ _ _ _ (by unfold mi; omega) (by unfold mi; omega)]
  unfold rc2
  rw [upd_ne (by unfold mi; omega), upd_ne (by unfold mi; omega), upd_ne (by unfold mi; omega)]
theorem rc1_row {f : Nat → Int32} {j : Nat} {b g : Int32} (i : Nat) : tr1 (rc1 f j b g) i = if i = j ∧ ¬ b = 0 then (f (mi j 0), imax 0 (f (mi j 1) - g), f (mi j 2)) else tr1 f i := by
  by_cases hb : b = 0
  · rw [rc1_0 hb, if_neg (fun h => h.2 hb)]
  · rw [rc1_1 hb, tr1_u1]
    by_cases h : i = j
    · rw [if_pos h, if_pos ⟨h, hb⟩]
    · rw [if_neg h, if_neg (fun z => h z.1)]
theorem rcast_0 (f : Nat → Int32) (k j : Nat) (b g : Int32) : rcast f k j b g 0 = f 0 := by
  rw [rcast_lo _ _ _ _ _ (by omega) (by omega)]
  unfold rc2
  rw [upd_ne (by omega), rc1_x _ _ _ _ (by unfold mi; omega)]
theorem rcast_1 (f : Nat → Int32) (k j : Nat) (b g : Int32) : rcast f k j b g 1 = f 1 - g := by
  rw [rcast_lo _ _ _ _ _ (by omega) (by omega)]
  unfold rc2
  rw [pk_us, rc1_x _ _ _ _ (by unfold mi; omega)]
theorem rcast_2 (f : Nat → Int32) (k j : Nat) (b g : Int32) : rcast f k j b g 2 = f 2 := by
  rw [rcast_lo _ _ _ _ _ (by omega) (by omega)]
  unfold rc2
  rw [upd_ne (by omega), rc1_x _ _ _ _ (by unfold mi; omega)]
theorem rcast_t (f : Nat → Int32) (k : Nat) {j : Nat} (b g : Int32) (hj : j < 8) {t w : Nat} (ht : t ≠ k) (hw : w < 4) : rcast f k j b g (ti t w) = f (ti t w) := by
  unfold rcast rc2
  rw [upd_ne (by unfold ti; omega), upd_ne (by unfold ti; omega), upd_ne (by unfold ti; omega), upd_ne (by unfold ti; omega), upd_ne (by unfold ti; omega), upd_ne (by unfold ti; omega), rc1_x _ _ _ _ (by unfold ti mi; omega)]
theorem rcast_k0 (f : Nat → Int32) (k j : Nat) (b g : Int32) : rcast f k j b g (ti k 0) = nI j := by
  unfold rcast
  rw [upd_ne (by unfold ti; omega), upd_ne (by unfold ti; omega), upd_ne (by unfold ti; omega), upd_ne (by unfold ti; omega), pk_us]
theorem rcast_k1 (f : Nat → Int32) (k j : Nat) (b g : Int32) : rcast f k j b g (ti k 1) = if b = 0 then 0 else 1 := by
  unfold rcast
  rw [upd_ne (by unfold ti; omega), upd_ne (by unfold ti; omega), upd_ne (by unfold ti; omega), pk_us]
theorem rcast_k2 (f : Nat → Int32) (k j : Nat) (b g : Int32) : rcast f k j b g (ti k 2) = g := by
  unfold rcast
  rw [upd_ne (by unfold ti; omega), upd_ne (by unfold ti; omega), pk_us]
theorem rcast_k3 (f : Nat → Int32) (k j : Nat) (b g : Int32) : rcast f k j b g (ti k 3) = rcE f j b g := by
  unfold rcast
  rw [upd_ne (by unfold ti; omega), pk_us]
abbrev cW (W : Nat → Nat) (k j : Nat) : Nat → Nat := fun t => if t = k then j else W t
abbrev cX (X : Nat → Nat) (k x : Nat) : Nat → Nat := fun t => if t = k then x else X t
theorem gd_cast (h : gd f n k W X) (hj : j < n) (hk : k < 30) {a G : Nat} (ha : f (mi j 1) = nI a) (ha9 : a ≤ 99) (hG : G ≤ 9) (b : Int32) : gd (rcast f k j b (nI G)) n (k + 1) (cW W k j) (cX X k (if b = 0 then G else G - a)) := by
  have hn := h.1
  refine ⟨hn, rcast_L h.2.1 (by omega) hk, fun t ht => ?_, fun i hi => ?_⟩
  · by_cases c : t = k
    · subst c
      show (if t = t then j else W t) < n ∧ _ = nI (if t = t then (if b = 0 then G else G - a) else X t) ∧ (if t = t then (if b = 0 then G else G - a) else X t) ≤ 9
      rw [if_pos rfl, if_pos rfl, rcast_k3]
      refine ⟨hj, ?_, ?_⟩
      · unfold rcE
        by_cases hb : b = 0
        · rw [if_pos hb, if_pos hb]
        · rw [if_neg hb, if_neg hb, ha, imax_sub (by omega) (by omega)]
      · split <;> omega
    · show (if t = k then j else W t) < n ∧ _ = nI (if t = k then (if b = 0 then G else G - a) else X t) ∧ (if t = k then (if b = 0 then G else G - a) else X t) ≤ 9
      rw [if_neg c, if_neg c, rcast_t f k b (nI G) (by omega) c (by omega)]
      exact h.2.2.1 t (by omega)
  · obtain ⟨a1, b1, h1, h2, h3, h4⟩ := h.2.2.2 i hi
    have e := (rcast_row f k j b (nI G) (i := i) (by omega)).trans (rc1_row i)
    by_cases c : i = j ∧ ¬ b = 0
    · obtain ⟨c1, c2⟩ := c
      subst c1
      rw [if_pos ⟨rfl, c2⟩, ha] at e
      refine ⟨a - G, b1, ?_, by omega, ?_, h4⟩
      · exact (congrArg (fun q : T3 => q.2.1) e).trans (imax_sub (by omega) (by omega))
      · exact (congrArg (fun q : T3 => q.1) e).trans h3
    · rw [if_neg c] at e
      exact ⟨a1, b1, (congrArg (fun q : T3 => q.2.1) e).trans h1, h2, (congrArg (fun q : T3 => q.1) e).trans h3, h4⟩
theorem raddN_cast (f : Nat → Int32) (k : Nat) {j : Nat} (hj : j < 8) (b g : Int32) : raddN (rcast f k j b g) (nI j) (k + 1) = raddN f (nI j) k + 2 * rcE f j b g := by
  show raddN (rcast f k j b g) (nI j) k + (if rcast f k j b g (ti k 0) = nI j then 2 * rcast f k j b g (ti k 3) else 0) = _
  rw [rcast_k0, if_pos rfl, rcast_k3, raddN_congr (f := f) (nI j) k (fun t ht => ⟨rcast_t f k b g hj (by omega) (by omega), rcast_t f k b g hj (by omega) (by omega)⟩)]
theorem q5_cast (f : Nat → Int32) (k : Nat) {j : Nat} (hj : j < 8) (g : Int32) : q5 (rcast f k j 1 g) j (k + 1) = ((f (mi j 0), imax 0 (f (mi j 1) - g), f (mi j 2)), f 0, raddN f (nI j) k + 2 * imax 0 (g - f (mi j 1))) := by
  have e1 := (rcast_row f k j 1 g (i := j) hj).trans (rc1_row j)
  rw [if_pos ⟨rfl, by decide⟩] at e1
  have e2 : rcE f j 1 g = imax 0 (g - f (mi j 1)) := by unfold rcE; rw [if_neg (by decide)]
  unfold q5
  rw [e1, rcast_0, raddN_cast f k hj, e2]
theorem gd.sweet (h : gd f n k W X) (hj : j < 8) (y : Int32) : gd (upd f (mi j 2) y) n k W X :=
  ⟨h.1, h.2.1.hi (fun z hz => upd_ne (by unfold mi; omega)), fun t ht => ⟨(h.2.2.1 t ht).1, (upd_ne (by unfold ti mi; omega)).trans (h.2.2.1 t ht).2.1, (h.2.2.1 t ht).2.2⟩, fun i hi => by
    rw [upd_ne (by unfold mi; omega), upd_ne (by unfold mi; omega)]; exact h.2.2.2 i hi⟩
theorem q5_sweet (f : Nat → Int32) (k : Nat) {j : Nat} (hj : j < 8) (y : Int32) : q5 (upd f (mi j 2) y) j k = ((f (mi j 0), f (mi j 1), y), f 0, raddN f (nI j) k) := by
  unfold q5
  rw [tr1_u2, if_pos rfl, upd_ne (by unfold mi; omega), raddN_congr (f := f) (nI j) k (fun t ht => ⟨upd_ne (by unfold ti mi; omega), upd_ne (by unfold ti mi; omega)⟩)]
end LOOK
section LOOKS
variable {v : S0} {u : S1} {W X : Nat → Nat} {j : Nat}
theorem Rel.b5 (h : Rel v u W X) (hj : j < xn v) : p5 (xbegin v j) = q5 (rf u) j (xk v) := by
  rw [p5_begin, ← h.2.2.1 j hj, h.debt, ← h.2.2.2.2.1.1]
  rfl
theorem Rel.look (h : Rel v u W X) (hj : j < xn v) (d : Nat) : tr0 (xtdN (xbegin v j) d) 8 = tr1 (rdp (rf u) (xn v) (xk v) W d).1 j := by
  rw [xtdN_row, h.b5 hj, rdp_row h.2.1 hj]
theorem Rel.luckIn (h : Rel v u W X) (hj : j < xn v) (d : Nat) : xl (xtdN (xbegin v j) d) 8 = (rdp (rf u) (xn v) (xk v) W d).1 (mi j 0) := congrArg (fun q : T3 => q.1) (h.look hj d)
theorem z_le0 {x : Int32} {a : Nat} (h : x = nI a) (ha : a < 2 ^ 31) : x = 0 ↔ x ≤ 0 := by
  subst h
  rw [show (0 : Int32) = nI 0 from rfl, nI_eq ha (by omega), nI_leI ha (by omega)]
  omega
theorem unt_eq {z : S0 → Int32} {v0 : S0} {f : Nat → Int32} {n k w : Nat} (hz : ∀ i, i ≤ 60 → (z (xtdN v0 i) = 0 ↔ (rdp f n k W i).1 (mi j w) ≤ 0)) : ∀ d i, i + d = 61 → untN z v0 i d = if nI (runN f n k W j w i d) ≤ 60 then nI (runN f n k W j w i d) else -1 := by
  intro d
  induction d with
  | zero =>
    intro i hi
    obtain rfl : i = 61 := by omega
    unfold untN runN
    rw [if_neg (show ¬ nI 61 ≤ 60 by decide)]
  | succ d ih =>
    intro i hi
    unfold untN runN
    by_cases c : z (xtdN v0 i) = 0
    · rw [if_pos c, if_pos ((hz i (by omega)).mp c), if_pos (show nI i ≤ 60 from nI_le (b := 60) (by omega) (by omega))]
    · rw [if_neg c, if_neg (fun e => c ((hz i (by omega)).mpr e))]
      exact ih (i + 1) (by omega)
theorem Rel.clear (h : Rel v u W X) (hj : j < xn v) : untN za8 (xbegin v j) 0 61 = runR u (xk v) W j 1 := by
  unfold runR
  rw [h.1]
  refine unt_eq (fun i hi => ?_) 61 0 (by omega)
  obtain ⟨a, b, ha, ha9, hb, hb1⟩ := (rdp_gd h.2.1 i).2.2.2 j hj
  have e : za8 (xtdN (xbegin v j) i) = (rdp (rf u) (xn v) (xk v) W i).1 (mi j 1) := congrArg (fun q : T3 => q.2.1) (h.look hj i)
  rw [e]
  exact z_le0 ha (by omega)
theorem Rel.unlucky (h : Rel v u W X) (hj : j < xn v) : untN zl8 (xbegin v j) 0 61 = runR u (xk v) W j 0 := by
  unfold runR
  rw [h.1]
  refine unt_eq (fun i hi => ?_) 61 0 (by omega)
  obtain ⟨a, b, ha, ha9, hb, hb1⟩ := (rdp_gd h.2.1 i).2.2.2 j hj
  have e : zl8 (xtdN (xbegin v j) i) = (rdp (rf u) (xn v) (xk v) W i).1 (mi j 0) := congrArg (fun q : T3 => q.1) (h.look hj i)
  rw [e]
  exact z_le0 hb (by omega)
/-- two loops of looks ahead -/
theorem lo_eq {z : S0 → Nat → S0} {y : (Nat → Int32) → Nat → Nat → Int32} {N : Nat} (hz : ∀ i, i < N → xl (z (pinG z v i).2.2 i) 8 = y (rf (rlo y (rkeep u) j i).2.2) i (mi j 0)) : ∀ i, i ≤ N → (pinG z v i).1 = (rlo y (rkeep u) j i).1 ∧ (pinG z v i).2.1 = (rlo y (rkeep u) j i).2.1 := by
  intro i
  induction i with
  | zero => intro _; exact ⟨rfl, rfl⟩
  | succ i ih =>
    intro hi
    obtain ⟨i1, i2⟩ := ih (by omega)
    have e := hz i (by omega)
    by_cases c : xl (z (pinG z v i).2.2 i) 8 ≤ (pinG z v i).2.1
    · rw [pinG_pos c, rlo_neg rfl (fun q => by rw [← e, ← i2] at q; exact absurd q (Int32.not_lt.mpr c))]
      exact ⟨i1, i2⟩
    · rw [pinG_neg c, rlo_pos rfl (by rw [← e, ← i2]; exact Int32.not_le.mp c)]
      exact ⟨rfl, e⟩
theorem Rel.lo (h : Rel v u W X) {z : S0 → Nat → S0} (hz : ∀ s i, ke s (z s i)) (y : (Nat → Int32) → Nat → Nat → Int32) (j i : Nat) : Rel (pinG z v i).2.2 (rlo y (rkeep u) j i).2.2 W X := h.keep (ke.pinG hz v i) (rlo_n y (rkeep u) j i) (fun x hx => rlo_f y u j i hx)
theorem Rel.pinS (h : Rel v u W X) (hj : j < xn v) (hk : xk v < 30) {i : Nat} (hi : i ≤ 9) : xl (pinZ j v i) 8 = rpf (xn v) (xk v) W j (rf u) i (mi j 0) := by
  have hn := h.n8
  obtain ⟨a, b, ha, ha9, hb, hb1⟩ := h.2.1.2.2.2 j hj
  have hxa : xa v j = nI a := (h.a hj).symm.trans ha
  unfold pinZ rpf
  rw [xtdN_l, p5_bpin]
  by_cases c : nI i ≤ 0
  · rw [if_pos c, rdp_l h.2.1 hj]
    have hi0 : i = 0 := by
      have := (nI_leI (a := i) (b := 0) (by omega) (by omega)).mp c
      omega
    subst hi0
    have e1 : imax 0 (xa v j - nI 0) = xa v j := by rw [hxa, imax_sub (by omega) (by omega)]; rfl
    have e2 : (2 : Int32) * imax 0 (nI 0 - xa v j) = 0 := by rw [hxa, imax_sub (by omega) (by omega), Nat.zero_sub]; rfl
    rw [e1, e2, Int32.add_zero, h.debt, ← h.2.2.2.2.1.1, ← h.l hj, ← h.a hj, ← h.e hj]
    rfl
  · rw [if_neg c, rdp_l (gd_cast h.2.1 hj hk ha ha9 hi 1) hj, q5_cast _ _ (by omega), h.debt, h.2.2.2.2.1.1, h.l hj, h.a hj, h.e hj]
theorem Rel.penS (h : Rel v u W X) (hj : j < xn v) (i : Nat) : xl (penZ j v i) 8 = rpe (xn v) (xk v) W j (rf u) i (mi j 0) := by
  have hn := h.n8
  unfold penZ rpe
  rw [xtdN_l, p5_bpen, rdp_l (h.2.1.sweet (by omega) _) hj, q5_sweet _ _ (by omega), h.debt, h.2.2.2.2.1.1, h.l hj, h.a hj, h.e hj]
theorem Rel.pinR (h : Rel v u W X) (hj : j < xn v) : xpinR v j = rpinR u (xk v) W j (xc v) := by
  have hk := h.k30
  unfold xpinR rpinR
  by_cases c : xk v = 30
  · rw [c, if_neg (by decide), if_pos (by rfl)]
  · rw [if_pos (show nI (xk v) < 30 from nI_lt (b := 30) (by omega) (by omega)), if_neg (show ¬ nI (xk v) = 30 from fun e => c ((nI_eq (b := 30) (by omega) (by omega)).mp e))]
    unfold pinN rpl
    rw [h.1]
    refine (lo_eq (N := min 9 (xc v) + 1) (fun i hi => ?_) _ (Nat.le_refl _)).1
    have h2 := h.lo (ke.pinZ j) (rpf (xn v) (xk v) W j) j i
    have k2 := ke.pinG (ke.pinZ j) v i
    have en : xn (pinG (pinZ j) v i).2.2 = xn v := k2.1.1
    have ek : xk (pinG (pinZ j) v i).2.2 = xk v := k2.1.2.2.2.2.2.1
    have e := h2.pinS (j := j) (i := i) (by rw [en]; exact hj) (by rw [ek]; omega) (by omega)
    rw [en, ek] at e
    exact e
theorem Rel.penR (h : Rel v u W X) (hj : j < xn v) : xpenR v j = rpenR u (xk v) W j := by
  unfold xpenR rpenR penN rpm
  rw [h.1]
  refine (lo_eq (N := 10) (fun i hi => ?_) 10 (Nat.le_refl _)).1
  have h2 := h.lo (ke.penZ j) (rpe (xn v) (xk v) W j) j i
  have k2 := ke.pinG (ke.penZ j) v i
  have en : xn (pinG (penZ j) v i).2.2 = xn v := k2.1.1
  have ek : xk (pinG (penZ j) v i).2.2 = xk v := k2.1.2.2.2.2.2.1
  have e := h2.penS (j := j) (by rw [en]; exact hj) i
  rw [en, ek] at e
  exact e
theorem Rel.pin (h : Rel v u W X) (j : Nat) : Rel (xpin v j) (rpin u (xk v) W j (xc v)) W X := h.keep (ke.pin v j) (rpin_n u _ _ _ _) (fun x hx => rpin_f u _ _ _ _ hx)
theorem Rel.pen (h : Rel v u W X) (j : Nat) : Rel (xpen v j) (rpen u (xk v) W j) W X := h.keep (ke.pen v j) (rpen_n u _ _ _) (fun x hx => rpen_f u _ _ _ hx)
end LOOKS
