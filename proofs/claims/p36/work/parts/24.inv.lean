/-! what the order's state keeps to -/
def bT (p : T3) : Prop := ∃ l a e : Nat, p.1 = nI l ∧ l ≤ 100 ∧ p.2.1 = nI a ∧ a ≤ 99 ∧ p.2.2 = nI e ∧ e ≤ 9
def iL (v : S0) (t : Nat) : Prop := ∃ j g x : Nat, xw v t = nI j ∧ j < xn v ∧ xg v t = nI g ∧ 1 ≤ g ∧ g ≤ 9 ∧ xx v t = nI x ∧ x ≤ g ∧ (xf v t = 0 ∨ xf v t = 1) ∧ (xf v t = 0 → x = g)
def Inv (B : Nat) (v : S0) : Prop := xn v ≤ 8 ∧ xk v ≤ 30 ∧ xc v ≤ 500 ∧ (∃ d : Nat, xd v = nI d ∧ d ≤ B) ∧ (∀ m, m < xn v → bT (tr0 v m)) ∧ ∀ t, t < xk v → iL v t
theorem Inv.n8 {B : Nat} {v : S0} (h : Inv B v) : xn v ≤ 8 := h.1
theorem Inv.k30 {B : Nat} {v : S0} (h : Inv B v) : xk v ≤ 30 := h.2.1
theorem Inv.c5 {B : Nat} {v : S0} (h : Inv B v) : xc v ≤ 500 := h.2.2.1
theorem Inv.day {B : Nat} {v : S0} (h : Inv B v) : ∃ d : Nat, xd v = nI d ∧ d ≤ B := h.2.2.2.1
theorem Inv.row {B : Nat} {v : S0} (h : Inv B v) {m : Nat} (hm : m < xn v) : bT (tr0 v m) := h.2.2.2.2.1 m hm
theorem Inv.led {B : Nat} {v : S0} (h : Inv B v) : ∀ t, t < xk v → iL v t := h.2.2.2.2.2
theorem Inv.le {B B' : Nat} {v : S0} (h : Inv B v) (hB : B ≤ B') : Inv B' v := ⟨h.1, h.2.1, h.2.2.1, (by obtain ⟨d, e, hd⟩ := h.day; exact ⟨d, e, Nat.le_trans hd hB⟩), h.2.2.2.2.1, h.2.2.2.2.2⟩
/-! sums over the ledger -/
def dsN (v : S0) (m : Nat) : Nat → Nat
  | 0 => 0
  | t + 1 => if xw v t = nI m then dsN v m t + 2 * (xx v t).toNatClampNeg else dsN v m t
section DS
variable {v : S0} {m t : Nat}
theorem xcl {x : Nat} (h : xx v t = nI x) (hx : x ≤ 9) : (xx v t).toNatClampNeg = x := by rw [h, nI_clamp (by omega)]
theorem ds_le (h : ∀ t, t < xk v → iL v t) : ∀ t, t ≤ xk v → dsN v m t ≤ 18 * t := by
  intro t
  induction t with
  | zero => intro _; exact Nat.le_refl _
  | succ t ih =>
    intro ht
    obtain ⟨j, g, x, h1, h2, h3, h4, h5, h6, h7, -⟩ := h t (by omega)
    have := ih (by omega)
    unfold dsN
    rw [xcl h6 (by omega)]
    split <;> omega
theorem ds_val (h : ∀ t, t < xk v → iL v t) : ∀ t, t ≤ xk v → xdebtN (xw v) (xx v) (nI m) t = nI (dsN v m t) := by
  intro t
  induction t with
  | zero => intro _; rfl
  | succ t ih =>
    intro ht
    obtain ⟨j, g, x, h1, h2, h3, h4, h5, h6, h7, -⟩ := h t (by omega)
    unfold xdebtN dsN
    rw [xcl h6 (by omega)]
    by_cases c : xw v t = nI m
    · rw [if_pos c, if_pos c, ih (by omega), h6]
      show nI _ + nI 2 * nI x = _
      rw [pk_mul, nI_add]
    · rw [if_neg c, if_neg c, ih (by omega)]
theorem xdebt_val (h : ∀ t, t < xk v → iL v t) : xdebt v (nI m) = nI (dsN v m (xk v)) := ds_val h _ (Nat.le_refl _)
theorem xx_0 (h : iL v t) : xx v t = 0 ↔ xx v t ≤ 0 := by
  obtain ⟨j, g, x, h1, h2, h3, h4, h5, h6, h7, -⟩ := h
  rw [h6]
  constructor
  · intro q; rw [q]; exact Int32.le_refl _
  · intro q
    rcases Nat.eq_zero_or_pos x with h0 | h0
    · rw [h0]; rfl
    · exact absurd q (nI_nle h0 (by omega))
end DS
/-! rows -/
theorem bT_au3 {p : T3} {g : Nat} (h : bT p) (hg : g < 2 ^ 20) : bT (au3 (nI g) p) := by
  obtain ⟨l, a, e, h1, h2, h3, h4, h5, h6⟩ := h
  refine ⟨l, min 99 (a + g), e, h1, h2, ?_, by omega, h5, h6⟩
  show imin 99 (p.2.1 + nI g) = _
  rw [h3, nI_add, imin_99 (by omega)]
theorem bT_dy3 {p : T3} {d : Int32} {g : Nat} (h : bT p) (hg : g < 2 ^ 20) : bT (dy3 d (nI g) p) := by
  unfold dy3
  split
  · exact h
  · exact bT_au3 h hg
theorem nI_le0 {a : Nat} (ha : a < 2 ^ 31) : nI a ≤ 0 ↔ a = 0 := by
  constructor
  · intro q
    rcases Nat.eq_zero_or_pos a with h0 | h0
    · exact h0
    · exact absurd q (nI_nle h0 ha)
  · intro q; rw [q]; exact Int32.le_refl _
theorem st3_val {p : T3} {l a e : Nat} (h1 : p.1 = nI l) (h2 : l ≤ 100) (h3 : p.2.1 = nI a) (h4 : a ≤ 99) (h5 : p.2.2 = nI e) (h6 : e ≤ 9) : st3 p = if e = 0 then (if a = 0 then (nI (min 100 (l + 1)), nI a, nI e) else (nI (l - (a + 9) / 10), nI a, nI e)) else (nI l, nI (a - 3), nI (e - 1)) := by
  unfold st3 stE
  rw [h1, h3, h5]
  by_cases c : e = 0
  · rw [if_pos ((nI_le0 (by omega)).mpr c), if_pos c]
    by_cases c2 : a = 0
    · rw [if_pos ((nI_le0 (by omega)).mpr c2), if_pos c2]
      refine T3e ?_ rfl rfl
      show imin (nI 100) (nI l + 1) = _
      rw [nI_1, imin_nI (by omega) (by omega)]
    · rw [if_neg (fun q => c2 ((nI_le0 (by omega)).mp q)), if_neg c2]
      refine T3e ?_ rfl rfl
      show imax 0 (nI l - (nI a + nI 9) / nI 10) = _
      rw [nI_add, pk_div (by omega) (by omega) (by omega), imax_sub (by omega) (by omega)]
  · rw [if_neg (fun q => c ((nI_le0 (by omega)).mp q)), if_neg c]
    refine T3e rfl ?_ ?_
    · show imax 0 (nI a - nI 3) = _
      exact imax_sub (by omega) (by omega)
    · show nI e - nI 1 = _
      exact pk_sub (by omega)
theorem bT_st3 {p : T3} (h : bT p) : bT (st3 p) := by
  obtain ⟨l, a, e, h1, h2, h3, h4, h5, h6⟩ := h
  rw [st3_val h1 h2 h3 h4 h5 h6]
  split
  · split
    · exact ⟨_, _, _, rfl, by omega, rfl, h4, rfl, h6⟩
    · exact ⟨_, _, _, rfl, by omega, rfl, h4, rfl, h6⟩
  · exact ⟨_, _, _, rfl, h2, rfl, by omega, rfl, by omega⟩
/-! what each call keeps -/
theorem iL_eq {v v2 : S0} {t : Nat} (h : iL v t) (hn : xn v ≤ xn v2) (hw : xw v2 t = xw v t) (hf : xf v2 t = xf v t) (hg : xg v2 t = xg v t) (hx : xx v2 t = xx v t) : iL v2 t := by
  obtain ⟨j, g, x, h1, h2, h3, h4, h5, h6, h7, h8, h9⟩ := h
  exact ⟨j, g, x, hw.trans h1, by omega, hg.trans h3, h4, h5, hx.trans h6, h7, by rw [hf]; exact h8, by rw [hf]; exact h9⟩
section INV
variable {B : Nat} {v : S0}
theorem Inv.x00 : Inv 0 x00 := ⟨by decide, by decide, by decide, ⟨0, rfl, Nat.le_refl _⟩, fun m hm => absurd hm (Nat.not_lt_zero m), fun t ht => absurd ht (Nat.not_lt_zero t)⟩
theorem Inv.cell (h : Inv B v) {c : Nat} (hc : c ≤ 500) : Inv B (uc v c) := ⟨h.1, h.2.1, hc, h.2.2.2.1, h.2.2.2.2.1, h.2.2.2.2.2⟩
theorem Inv.join (h : Inv B v) (hn : xn v < 8) : Inv B (xjoin v) := by
  refine ⟨by show xn v + 1 ≤ 8; omega, h.2.1, h.2.2.1, h.2.2.2.1, fun m hm => ?_, fun t ht => iL_eq (h.led t ht) (Nat.le_succ _) rfl rfl rfl rfl⟩
  have hm2 : m < xn v + 1 := hm
  show bT (upd (xl v) (xn v) 50 m, upd (xa v) (xn v) 0 m, upd (xe v) (xn v) 0 m)
  by_cases e : m = xn v
  · rw [e, pk_us, pk_us, pk_us]
    exact ⟨50, 0, 0, rfl, by omega, rfl, by omega, rfl, by omega⟩
  · rw [pk_un e, pk_un e, pk_un e]
    exact h.row (by omega)
theorem Inv.add (h : Inv B v) (j : Nat) {g : Nat} (hg : g < 2 ^ 20) : Inv B (xadd v j (nI g)) := by
  refine ⟨h.1, h.2.1, h.2.2.1, h.2.2.2.1, fun m hm => ?_, h.2.2.2.2.2⟩
  rw [xadd_row]
  by_cases e : m = j
  · subst e; rw [if_pos rfl]; exact bT_au3 (h.row hm) hg
  · rw [if_neg e]; exact h.row hm
theorem Inv.spill (h : Inv B v) (j : Nat) {g : Nat} (hg : g ≤ 30) : Inv B (xspill v j g) := (h.cell (c := xc v - g) (by have := h.c5; omega)).add j (by omega)
theorem Inv.lump (h : Inv B v) (j : Nat) {g : Nat} (hg : g ≤ 9) : Inv B (xlump v j (nI g)) := by
  refine ⟨h.1, h.2.1, h.2.2.1, h.2.2.2.1, fun m hm => ?_, h.2.2.2.2.2⟩
  rw [xlump_row]
  by_cases e : m = j
  · subst e
    rw [if_pos rfl]
    obtain ⟨l, a, e, h1, h2, h3, h4, h5, h6⟩ := h.row hm
    refine ⟨l, a, min 9 (e + g), h1, h2, h3, h4, ?_, by omega⟩
    have h5b : xe v m = nI e := h5
    show imin (nI 9) (xe v m + nI g) = _
    rw [h5b, nI_add, imin_nI (by omega) (by omega)]
  · rw [if_neg e]; exact h.row hm
theorem Inv.less (h : Inv B v) (j : Nat) {g : Nat} (hg : g ≤ 9) : Inv B (xless v j (nI g)) := by
  refine ⟨h.1, h.2.1, h.2.2.1, h.2.2.2.1, fun m hm => ?_, h.2.2.2.2.2⟩
  rw [xless_row]
  by_cases e : m = j
  · subst e
    rw [if_pos rfl]
    obtain ⟨l, a, e, h1, h2, h3, h4, h5, h6⟩ := h.row hm
    refine ⟨l, a - g, e, h1, h2, ?_, by omega, h5, h6⟩
    have h3b : xa v m = nI a := h3
    show imax 0 (xa v m - nI g) = _
    rw [h3b, imax_sub (by omega) (by omega)]
  · rw [if_neg e]; exact h.row hm
theorem Inv.write (h : Inv B v) {j g x : Nat} {b : Int32} (hj : j < xn v) (hk : xk v < 30) (h1 : 1 ≤ g) (h9 : g ≤ 9) (hx : x ≤ g) (hb : b = 0 ∨ b = 1) (hbx : b = 0 → x = g) : Inv B (xwrite v (nI j) b (nI g) (nI x)) := by
  refine ⟨h.1, by show xk v + 1 ≤ 30; omega, h.2.2.1, h.2.2.2.1, h.2.2.2.2.1, fun t ht => ?_⟩
  have ht2 : t < xk v + 1 := ht
  by_cases e : t = xk v
  · subst e
    refine ⟨j, g, x, pk_us, hj, pk_us, h1, h9, pk_us, hx, ?_, ?_⟩
    · show upd (xf v) (xk v) b (xk v) = 0 ∨ upd (xf v) (xk v) b (xk v) = 1
      rw [pk_us]; exact hb
    · show upd (xf v) (xk v) b (xk v) = 0 → _
      rw [pk_us]; exact hbx
  · exact iL_eq (h.led t (by omega)) (Nat.le_refl _) (pk_un e) (pk_un e) (pk_un e) (pk_un e)
theorem Inv.throw (h : Inv B v) {j g : Nat} {b : Int32} (hj : j < xn v) (hk : xk v < 30) (h1 : 1 ≤ g) (h9 : g ≤ 9) : Inv B (xthrow v j b g) := by
  unfold xthrow
  by_cases hb : b = 0
  · rw [if_pos hb]
    obtain ⟨l, a, e, q1, q2, q3, q4, q5, q6⟩ := h.row hj
    have q3b : xa v j = nI a := q3
    have ex : xlexc v j (nI g) = nI (g - a) := by
      unfold xlexc
      rw [q3b, imax_sub (by omega) (by omega)]
    rw [ex]
    exact ((h.less j h9).cell (c := xc (xless v j (nI g)) - g) (by have := (h.less j h9).c5; omega)).write hj hk h1 h9 (by omega) (Or.inr rfl) (fun q => absurd q (by decide))
  · rw [if_neg hb]
    exact (h.cell (c := xc v - g) (by have := h.c5; omega)).write hj hk h1 h9 (Nat.le_refl _) (Or.inl rfl) (fun _ => rfl)
theorem xaud_n2 : xn (xaud v) = xn v := xaud_n v
theorem xaud_d : xd (xaud v) = xd v := by
  show xd (xaudN v (xn v)) = xd v
  exact re_d (xaudN_r v (xn v))
theorem xaud_c2 : xc (xaud v) = xc v := by
  show xc (xaudN v (xn v)) = xc v
  exact re_c (xaudN_r v (xn v))
theorem xaud_o : xo (xaud v) = xo v + xflt v := congrArg (· + xflt v) (re_o (xaudN_r v (xn v)))
theorem Inv.ds20 (h : Inv B v) (m : Nat) : dsN v m (xk v) < 2 ^ 20 := by
  have h1 := ds_le (m := m) h.led (xk v) (Nat.le_refl _)
  have h2 := h.k30
  omega
theorem Inv.aud (h : Inv B v) : Inv B (xaud v) := by
  refine ⟨by rw [xaud_n2]; exact h.1, by rw [xaud_k]; omega, by rw [xaud_c2]; exact h.2.2.1, by rw [xaud_d]; exact h.2.2.2.1, fun m hm => ?_, fun t ht => by rw [xaud_k] at ht; exact absurd ht (Nat.not_lt_zero t)⟩
  rw [xaud_n2] at hm
  rw [xaud_row v hm, xdebt_val h.led]
  exact bT_au3 (h.row hm) (h.ds20 m)
theorem xday_r1 : (xeatN (xday1 v) (xn v)).2.2.2 = (xday1 v).2.2.2 := xeatN_r _ _
theorem xday1_n2 : xn (xday1 v) = xn v := xday1_n v
theorem xday1_d : xd (xday1 v) = xd v := by
  unfold xday1
  split
  · rfl
  · exact xaud_d
theorem xday1_c2 : xc (xday1 v) = xc v := by
  unfold xday1
  split
  · rfl
  · exact xaud_c2
theorem xday1_o : xo (xday1 v) = xo v + xdayF v := by
  unfold xday1 xdayF
  split
  · exact (Int32.add_zero _).symm
  · exact xaud_o
theorem xday_d : xd (xday v) = xd v + 1 := by
  show xd (xeatN (xday1 v) (xn v)) + 1 = _
  rw [re_d xday_r1, xday1_d]
theorem xday_c2 : xc (xday v) = xc v := (re_c xday_r1).trans xday1_c2
theorem xday_o : xo (xday v) = xo v + xdayF v := (re_o xday_r1).trans xday1_o
theorem xday_n2 : xn (xday v) = xn v := xday_n v
theorem xday_k1 : xk (xday v) = xk (xday1 v) := by
  show xk (xeatN (xday1 v) (xn v)) = _
  exact re_k xday_r1
theorem Inv.day1 (h : Inv B v) : Inv B (xday1 v) := by
  unfold xday1
  split
  · exact h
  · exact h.aud
theorem Inv.eatN (h : Inv B v) : Inv B (xeatN v (xn v)) := by
  have r := xeatN_r v (xn v)
  refine ⟨by rw [re_n r]; exact h.1, by rw [re_k r]; exact h.2.1, by rw [re_c r]; exact h.2.2.1, by rw [re_d r]; exact h.2.2.2.1, fun m hm => ?_, fun t ht => ?_⟩
  · rw [re_n r] at hm
    rw [xeatN_row, if_pos hm]
    exact bT_st3 (h.row hm)
  · rw [re_k r] at ht
    exact iL_eq (h.led t ht) (by rw [re_n r]; omega) (by rw [re_w r]) (by rw [re_f r]) (by rw [re_g r]) (by rw [re_x r])
theorem Inv.dayS (h : Inv B v) : Inv (B + 1) (xday v) := by
  have h2 : Inv B (xeatN (xday1 v) (xn v)) := by
    have := h.day1.eatN
    rw [xday1_n2] at this
    exact this
  refine ⟨h2.1, h2.2.1, h2.2.2.1, ?_, h2.2.2.2.2.1, h2.2.2.2.2.2⟩
  obtain ⟨d, e, hd⟩ := h.day
  exact ⟨d + 1, by rw [xday_d, e, nI_1], by omega⟩
theorem Inv.pass (h : Inv B v) : ∀ d, Inv (B + d) (xpass v d)
  | 0 => h
  | d + 1 => (Inv.pass h d).dayS
end INV
/-! the simulation's own sums -/
/-- arrears behind the first t throws of an audit, cut at 99 at each -/
def sA (u : S0) : Nat → Nat → Int32
  | 0 => xa u
  | t + 1 => if xx u t = 0 then sA u t else if sA u t (xw u t).toNatClampNeg + 2 * xx u t ≤ 99 then upd (sA u t) (xw u t).toNatClampNeg (sA u t (xw u t).toNatClampNeg + 2 * xx u t) else upd (upd (sA u t) (xw u t).toNatClampNeg (sA u t (xw u t).toNatClampNeg + 2 * xx u t)) (xw u t).toNatClampNeg 99
theorem sA_0 {u : S0} {t : Nat} (h : xx u t = 0) : sA u (t + 1) = sA u t := if_pos h
theorem sA_1 {u : S0} {t j : Nat} (h : ¬ xx u t = 0) (hj : (xw u t).toNatClampNeg = j) (h9 : sA u t j + 2 * xx u t ≤ 99) : sA u (t + 1) = upd (sA u t) j (sA u t j + 2 * xx u t) := by
  subst hj
  exact (if_neg h).trans (if_pos h9)
theorem sA_2 {u : S0} {t j : Nat} (h : ¬ xx u t = 0) (hj : (xw u t).toNatClampNeg = j) (h9 : ¬ sA u t j + 2 * xx u t ≤ 99) : sA u (t + 1) = upd (upd (sA u t) j (sA u t j + 2 * xx u t)) j 99 := by
  subst hj
  exact (if_neg h).trans (if_neg h9)
theorem sA_val {v : S0} {B m a : Nat} (h : Inv B v) (hm : m < xn v) (ha : xa v m = nI a) (ha9 : a ≤ 99) : ∀ t, t ≤ xk v → sA v t m = nI (min 99 (a + dsN v m t)) := by
  have hn := h.n8
  have hk := h.k30
  intro t
  induction t with
  | zero =>
    intro _
    show xa v m = nI (min 99 (a + 0))
    rw [ha, Nat.add_zero, Nat.min_eq_right ha9]
  | succ t ih =>
    intro ht
    have ih := ih (by omega)
    have hd := ds_le (m := m) h.led t (by omega)
    obtain ⟨j, g, x, h1, h2, h3, h4, h5, h6, h7, -⟩ := h.led t (by omega)
    have hcl : (xw v t).toNatClampNeg = j := by rw [h1, nI_clamp (by omega)]
    have hds : dsN v m (t + 1) = if j = m then dsN v m t + 2 * x else dsN v m t := by
      show (if xw v t = nI m then dsN v m t + 2 * (xx v t).toNatClampNeg else dsN v m t) = _
      rw [xcl h6 (by omega), h1]
      by_cases e : j = m
      · rw [if_pos (by rw [e]), if_pos e]
      · rw [if_neg (fun q => e ((nI_eq (by omega) (by omega)).mp q)), if_neg e]
    by_cases c0 : xx v t = 0
    · have hx0 : x = 0 := by
        rw [h6] at c0
        exact (nI_eq (a := x) (b := 0) (by omega) (by omega)).mp c0
      rw [sA_0 c0, ih, hds]
      split <;> first | rfl | (congr 1; omega)
    · have hx0 : x ≠ 0 := fun q => c0 (by rw [h6, q]; rfl)
      by_cases e : j = m
      · subst e
        have hy : sA v t j + 2 * xx v t = nI (min 99 (a + dsN v j t) + 2 * x) := by
          rw [ih, h6]
          show nI _ + nI 2 * nI x = _
          rw [pk_mul, nI_add]
        rw [hds, if_pos rfl]
        by_cases c9 : sA v t j + 2 * xx v t ≤ 99
        · rw [sA_1 c0 hcl c9, pk_us, hy]
          rw [hy] at c9
          have c9b : min 99 (a + dsN v j t) + 2 * x ≤ 99 := (nI_leI (b := 99) (by omega) (by omega)).mp c9
          congr 1
          omega
        · rw [sA_2 c0 hcl c9, pk_us]
          rw [hy] at c9
          have c9b : ¬ min 99 (a + dsN v j t) + 2 * x ≤ 99 := fun q => c9 ((nI_leI (b := 99) (by omega) (by omega)).mpr q)
          show nI 99 = _
          congr 1
          omega
      · rw [hds, if_neg e]
        by_cases c9 : sA v t j + 2 * xx v t ≤ 99
        · rw [sA_1 c0 hcl c9, pk_un (Ne.symm e), ih]
        · rw [sA_2 c0 hcl c9, pk_un (Ne.symm e), pk_un (Ne.symm e), ih]
/-- the simulation's audit is the class's -/
theorem sA_pic {v : S0} {B : Nat} {G : AG} {cI cP : ClassId} (h : Inv B v) : wS G cI cP (uo (uk (ua v (sA v (xk v))) 0) (xo v + xflt v)) = wS G cI cP (xaud v) := by
  refine wS_congr (show xn v = xn (xaud v) from xaud_n2.symm) (xaud_k v).symm (show xd v = xd (xaud v) from xaud_d.symm) (show xc v = xc (xaud v) from xaud_c2.symm) (show xo v + xflt v = xo (xaud v) from xaud_o.symm) (fun m hm => ?_) (fun t ht => absurd ht (Nat.not_lt_zero t))
  have hm2 : m < xn v := hm
  have r := xaud_row v hm2
  rw [xdebt_val h.led] at r
  obtain ⟨l, a, e, h1, h2, h3, h4, h5, h6⟩ := h.row hm2
  have h3b : xa v m = nI a := h3
  have rl : xl (xaud v) m = xl v m := congrArg (fun p : T3 => p.1) r
  have re : xe (xaud v) m = xe v m := congrArg (fun p : T3 => p.2.2) r
  have ra : xa (xaud v) m = imin 99 (xa v m + nI (dsN v m (xk v))) := congrArg (fun p : T3 => p.2.1) r
  have hd := h.ds20 m
  refine mrow_eq rl.symm ?_ re.symm
  rw [ra, h3b, nI_add, imin_99 (by omega)]
  exact sA_val h hm2 h3b h4 _ (Nat.le_refl _)
/-- a day's luck lost, 1 for each 10 owed or a part -/
def lossF : Nat → Int32 → Int32 → Int32
  | 0, _, l => l
  | d + 1, z, l => if z ≤ 0 then l else lossF d (z + -10) (if l ≤ 0 then l else l - 1)
def lossE : Nat → Int32 → Prop
  | 0, z => z ≤ 0
  | d + 1, z => z ≤ 0 ∨ lossE d (z + -10)
theorem lossF_0 {d : Nat} {z l : Int32} (h : z ≤ 0) : lossF d z l = l := by
  cases d with
  | zero => rfl
  | succ d => exact if_pos h
theorem m10 {a : Nat} (h : 10 ≤ a) : nI a + -10 = nI (a - 10) := by
  rw [← pk_sub h, Int32.sub_eq_add_neg]
  rfl
theorem m10le {a : Nat} (h : a ≤ 10) : nI a + -10 ≤ 0 := by
  have e : nI a + -10 = nI a - nI 10 := by
    rw [Int32.sub_eq_add_neg]
    rfl
  rw [e, Int32.le_iff_toInt_le, pk_sub_toInt (by omega) (by omega)]
  show (a : Int) - (10 : Nat) ≤ 0
  omega
theorem lossF_val : ∀ (d a l : Nat), a ≤ 10 * d → a ≤ 99 → l ≤ 100 → lossF d (nI a) (nI l) = nI (l - (a + 9) / 10) := by
  intro d
  induction d with
  | zero =>
    intro a l h1 h2 h3
    obtain rfl : a = 0 := by omega
    rfl
  | succ d ih =>
    intro a l h1 h2 h3
    by_cases c : a = 0
    · subst c
      exact if_pos (Int32.le_refl _)
    · have s : lossF (d + 1) (nI a) (nI l) = lossF d (nI a + -10) (if nI l ≤ 0 then nI l else nI l - 1) := if_neg (fun q => c ((nI_le0 (by omega)).mp q))
      have e : (if nI l ≤ 0 then nI l else nI l - 1) = nI (l - 1) := by
        by_cases c2 : l = 0
        · rw [if_pos ((nI_le0 (by omega)).mpr c2), c2]
        · rw [if_neg (fun q => c2 ((nI_le0 (by omega)).mp q))]
          exact pk_sub (b := 1) (by omega)
      rw [s, e]
      rcases Nat.lt_or_ge 10 a with h4 | h4
      · rw [m10 (by omega), ih (a - 10) (l - 1) (by omega) (by omega) (by omega)]
        congr 1
        omega
      · rw [lossF_0 (m10le h4)]
        congr 1
        omega
theorem lossE_val : ∀ (d a : Nat), a ≤ 10 * d → a ≤ 99 → lossE d (nI a) := by
  intro d
  induction d with
  | zero =>
    intro a h1 _
    exact (nI_le0 (by omega)).mpr (by omega)
  | succ d ih =>
    intro a h1 h2
    rcases Nat.lt_or_ge 10 a with h4 | h4
    · refine Or.inr ?_
      rw [m10 (by omega)]
      exact ih (a - 10) (by omega) (by omega)
    · exact Or.inr (by
        cases d with
        | zero => exact m10le h4
        | succ d => exact Or.inl (m10le h4))
/-! a member's day, in the simulation's steps -/
section EAT
variable {w : S0} {i l a e : Nat} {G : AG} {cI cP : ClassId}
theorem s_loss (h1 : xl w i = nI l) (h2 : l ≤ 100) (h3 : xa w i = nI a) (h4 : a ≤ 99) (he : xe w i ≤ 0) : lossF 10 (xa w i) (xl w i) = imax 0 (xl w i - xloss w i) := by
  unfold xloss
  rw [if_pos he, e_9, h1, h3, lossF_val 10 a l (by omega) h4 h2]
  show _ = imax 0 (nI l - (nI a + nI 9) / nI 10)
  rw [nI_add, pk_div (by omega) (by omega) (by omega), imax_sub (by omega) (by omega)]
theorem upd_same {f : Nat → Int32} {k : Nat} : upd f k (f k) = f := by
  funext j
  by_cases h : j = k
  · rw [h, pk_us]
  · rw [pk_un h]
end EAT
