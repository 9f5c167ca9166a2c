/-! what the class does, as functions of its state; then the reference -/
/-- luck, arrears, lumps, members, (throwers, lefts, grains, excesses), throws, cellar, day, found, trial's day, trial's debt -/
abbrev S0 : Type := (Nat → Int32) × (Nat → Int32) × (Nat → Int32) × Nat × (Nat → Int32) × (Nat → Int32) × (Nat → Int32) × (Nat → Int32) × Nat × Nat × Int32 × Int32 × Int32 × Int32
abbrev xl (v : S0) : Nat → Int32 := v.1
abbrev xa (v : S0) : Nat → Int32 := v.2.1
abbrev xe (v : S0) : Nat → Int32 := v.2.2.1
abbrev xn (v : S0) : Nat := v.2.2.2.1
abbrev xw (v : S0) : Nat → Int32 := v.2.2.2.2.1
abbrev xf (v : S0) : Nat → Int32 := v.2.2.2.2.2.1
abbrev xg (v : S0) : Nat → Int32 := v.2.2.2.2.2.2.1
abbrev xx (v : S0) : Nat → Int32 := v.2.2.2.2.2.2.2.1
abbrev xk (v : S0) : Nat := v.2.2.2.2.2.2.2.2.1
abbrev xc (v : S0) : Nat := v.2.2.2.2.2.2.2.2.2.1
abbrev xd (v : S0) : Int32 := v.2.2.2.2.2.2.2.2.2.2.1
abbrev xo (v : S0) : Int32 := v.2.2.2.2.2.2.2.2.2.2.2.1
abbrev xy (v : S0) : Int32 := v.2.2.2.2.2.2.2.2.2.2.2.2.1
abbrev xb (v : S0) : Int32 := v.2.2.2.2.2.2.2.2.2.2.2.2.2
def ul (v : S0) (f : Nat → Int32) : S0 := (f, xa v, xe v, xn v, xw v, xf v, xg v, xx v, xk v, xc v, xd v, xo v, xy v, xb v)
def ua (v : S0) (f : Nat → Int32) : S0 := (xl v, f, xe v, xn v, xw v, xf v, xg v, xx v, xk v, xc v, xd v, xo v, xy v, xb v)
def ue (v : S0) (f : Nat → Int32) : S0 := (xl v, xa v, f, xn v, xw v, xf v, xg v, xx v, xk v, xc v, xd v, xo v, xy v, xb v)
def un (v : S0) (n : Nat) : S0 := (xl v, xa v, xe v, n, xw v, xf v, xg v, xx v, xk v, xc v, xd v, xo v, xy v, xb v)
def uk (v : S0) (n : Nat) : S0 := (xl v, xa v, xe v, xn v, xw v, xf v, xg v, xx v, n, xc v, xd v, xo v, xy v, xb v)
def uc (v : S0) (n : Nat) : S0 := (xl v, xa v, xe v, xn v, xw v, xf v, xg v, xx v, xk v, n, xd v, xo v, xy v, xb v)
def ud (v : S0) (z : Int32) : S0 := (xl v, xa v, xe v, xn v, xw v, xf v, xg v, xx v, xk v, xc v, z, xo v, xy v, xb v)
def uo (v : S0) (z : Int32) : S0 := (xl v, xa v, xe v, xn v, xw v, xf v, xg v, xx v, xk v, xc v, xd v, z, xy v, xb v)
def uy (v : S0) (z : Int32) : S0 := (xl v, xa v, xe v, xn v, xw v, xf v, xg v, xx v, xk v, xc v, xd v, xo v, z, xb v)
def ub (v : S0) (z : Int32) : S0 := (xl v, xa v, xe v, xn v, xw v, xf v, xg v, xx v, xk v, xc v, xd v, xo v, xy v, z)
/-- the class's cells: the object at hh 0, its arrays at hh 1 to hh 7 -/
def wX0 (hh : Nat → Nat) (cI cZ : ClassId) (v : S0) : va_W := [(hh 0, .inr (0, [.ref (hh 1), .ref (hh 2), .ref (hh 3), .int (nI (xn v)), .ref (hh 4), .ref (hh 5), .ref (hh 6), .ref (hh 7), .int (nI (xk v)), .int (nI (xc v)), .int (xd v), .int (xo v), .int (xy v), .int (xb v)])),
  (hh 1, .inl (cI, 9, .inl (xl v))), (hh 2, .inl (cI, 9, .inl (xa v))), (hh 3, .inl (cI, 9, .inl (xe v))), (hh 4, .inl (cI, 30, .inl (xw v))), (hh 5, .inl (cZ, 30, .inl (xf v))), (hh 6, .inl (cI, 30, .inl (xg v))), (hh 7, .inl (cI, 30, .inl (xx v)))]
/-- the reference's: thrown, members, now, kept -/
abbrev S1 : Type := Int32 × Nat × (Nat → Int32) × (Nat → Int32)
abbrev rt (v : S1) : Int32 := v.1
abbrev rn (v : S1) : Nat := v.2.1
abbrev rf (v : S1) : Nat → Int32 := v.2.2.1
abbrev rk (v : S1) : Nat → Int32 := v.2.2.2
def vt (v : S1) (z : Int32) : S1 := (z, rn v, rf v, rk v)
def vn (v : S1) (n : Nat) : S1 := (rt v, n, rf v, rk v)
def vf (v : S1) (f : Nat → Int32) : S1 := (rt v, rn v, f, rk v)
def vk (v : S1) (f : Nat → Int32) : S1 := (rt v, rn v, rf v, f)
def wX1 (gg : Nat → Nat) (cI : ClassId) (v : S1) : va_W := [(gg 0, .inr (1, [.int (rt v), .int (nI (rn v)), .ref (gg 1), .ref (gg 2)])), (gg 1, .inl (cI, 148, .inl (rf v))), (gg 2, .inl (cI, 148, .inl (rk v)))]
theorem z_inc (i : Nat) : nI i + Int32.ofInt 1 = nI (i + 1) := nI_1 i
theorem z_1 (i : Nat) : nI i + 1 = nI (i + 1) := nI_1 i
theorem z_dec (i : Nat) (h : 0 < i) : nI i - 1 = nI (i - 1) := pk_sub h
/-! the class -/
def xadd (v : S0) (j : Nat) (g : Int32) : S0 := ua v (upd (xa v) j (imin 99 (xa v j + g)))
def xless (v : S0) (j : Nat) (g : Int32) : S0 := ua v (upd (xa v) j (imax 0 (xa v j - g)))
def xlump (v : S0) (j : Nat) (g : Int32) : S0 := ue v (upd (xe v) j (imin 9 (xe v j + g)))
def xlexc (v : S0) (j : Nat) (g : Int32) : Int32 := imax 0 (g - xa v j)
def xloss (v : S0) (j : Nat) : Int32 := if xe v j ≤ 0 then (xa v j + 10 - 1) / 10 else 0
def xeat (v : S0) (j : Nat) : S0 :=
  if xe v j ≤ 0 then (if xa v j ≤ 0 then ul v (upd (xl v) j (imin 100 (xl v j + 1))) else ul v (upd (xl v) j (imax 0 (xl v j - xloss v j))))
  else xless (ue v (upd (xe v) j (xe v j - 1))) j 3
def xdebtN (w x : Nat → Int32) (j : Int32) : Nat → Int32
  | 0 => 0
  | t + 1 => if w t = j then xdebtN w x j t + 2 * x t else xdebtN w x j t
def xdebt (v : S0) (j : Int32) : Int32 := xdebtN (xw v) (xx v) j (xk v)
def xfltN (x : Nat → Int32) : Nat → Int32
  | 0 => 0
  | t + 1 => if x t ≤ 0 then xfltN x t else xfltN x t + 1
def xflt (v : S0) : Int32 := xfltN (xx v) (xk v)
def xaudN (v : S0) : Nat → S0
  | 0 => v
  | i + 1 => xadd (xaudN v i) i (xdebt (xaudN v i) (nI i))
def xaud (v : S0) : S0 := uo (uk (xaudN v (xn v)) 0) (xo (xaudN v (xn v)) + xflt v)
def isA (d : Int32) : Int32 := if d - d / 7 * 7 = 6 then 1 else 0
def xeatN (v : S0) : Nat → S0
  | 0 => v
  | i + 1 => xeat (xeatN v i) i
def xday1 (v : S0) : S0 := if isA (xd v) = 0 then v else xaud v
def xdayF (v : S0) : Int32 := if isA (xd v) = 0 then 0 else xflt v
def xday (v : S0) : S0 := ud (xeatN (xday1 v) (xn v)) (xd (xeatN (xday1 v) (xn v)) + 1)
def xpass (v : S0) : Nat → S0
  | 0 => v
  | i + 1 => xday (xpass v i)
def xpassF (v : S0) : Nat → Int32
  | 0 => 0
  | i + 1 => xpassF v i + xdayF (xpass v i)
def xwrite (v : S0) (j b g z : Int32) : S0 := (xl v, xa v, xe v, xn v, upd (xw v) (xk v) j, upd (xf v) (xk v) b, upd (xg v) (xk v) g, upd (xx v) (xk v) z, xk v + 1, xc v, xd v, xo v, xy v, xb v)
def xbegin (v : S0) (j : Nat) : S0 := (upd (xl v) 8 (xl v j), upd (xa v) 8 (xa v j), upd (xe v) 8 (xe v j), xn v, xw v, xf v, xg v, xx v, xk v, xc v, xd v, xo v, xd v, xdebt v (nI j))
def xbpin (v : S0) (j : Nat) (g : Int32) : S0 := xless (ub (xbegin v j) (xb (xbegin v j) + 2 * xlexc (xbegin v j) 8 g)) 8 g
def xbpen (v : S0) (j : Nat) (g : Int32) : S0 := xlump (xbegin v j) 8 g
def xtd1 (v : S0) : S0 := if isA (xy v) = 0 then v else ub (xadd v 8 (xb v)) 0
def xtd (v : S0) : S0 := uy (xeat (xtd1 v) 8) (xy (xeat (xtd1 v) 8) + 1)
def xtdN (v : S0) : Nat → S0
  | 0 => v
  | i + 1 => xtd (xtdN v i)
def sumI (f : Nat → Int32) : Nat → Int32
  | 0 => 0
  | i + 1 => sumI f i + f i
def clrI (f : Nat → Int32) : Nat → Int32
  | 0 => 0
  | i + 1 => if f i = 0 then clrI f i + 1 else clrI f i
/-- the loop of luckiest: best, and its luck -/
def lukN (f : Nat → Int32) : Nat → Int32 × Int32
  | 0 => (-1, -1)
  | i + 1 => if f i ≤ (lukN f i).2 then lukN f i else (nI i, f i)
/-- the first of days 0 to 60 with 0 in f, by fuel -/
def untN (z : S0 → Int32) (v : S0) (i : Nat) : Nat → Int32
  | 0 => -1
  | d + 1 => if z (xtdN v i) = 0 then nI i else untN z v (i + 1) d
/-- the state behind such a loop -/
def untS (z : S0 → Int32) (v : S0) (i : Nat) : Nat → S0
  | 0 => xtdN v i
  | d + 1 => if z (xtdN v i) = 0 then xtdN v i else untS z v (i + 1) d
/-- a loop of looks ahead: best, its luck, the state; z the look of a state -/
def pinG (z : S0 → Nat → S0) (v : S0) : Nat → Int32 × Int32 × S0
  | 0 => (0, -1, v)
  | i + 1 => if xl (z (pinG z v i).2.2 i) 8 ≤ (pinG z v i).2.1 then ((pinG z v i).1, (pinG z v i).2.1, z (pinG z v i).2.2 i) else (nI i, xl (z (pinG z v i).2.2 i) 8, z (pinG z v i).2.2 i)
theorem pinG_pos {z : S0 → Nat → S0} {v : S0} {i : Nat} (c : xl (z (pinG z v i).2.2 i) 8 ≤ (pinG z v i).2.1) : pinG z v (i + 1) = ((pinG z v i).1, (pinG z v i).2.1, z (pinG z v i).2.2 i) := if_pos c
theorem pinG_neg {z : S0 → Nat → S0} {v : S0} {i : Nat} (c : ¬ xl (z (pinG z v i).2.2 i) 8 ≤ (pinG z v i).2.1) : pinG z v (i + 1) = (nI i, xl (z (pinG z v i).2.2 i) 8, z (pinG z v i).2.2 i) := if_neg c
theorem pinG_S (z : S0 → Nat → S0) (v : S0) (i : Nat) : (pinG z v (i + 1)).2.2 = z (pinG z v i).2.2 i := by
  by_cases c : xl (z (pinG z v i).2.2 i) 8 ≤ (pinG z v i).2.1
  · rw [pinG_pos c]
  · rw [pinG_neg c]
theorem pinG_keep {α : Type} (P : S0 → α) {z : S0 → Nat → S0} (h : ∀ s i, P (z s i) = P s) (v : S0) : ∀ i, P (pinG z v i).2.2 = P v := by
  intro i
  induction i with
  | zero => rfl
  | succ i ih => rw [pinG_S, h, ih]
def pinZ (j : Nat) (s : S0) (i : Nat) : S0 := xtdN (xbpin s j (nI i)) 14
def penZ (j : Nat) (s : S0) (i : Nat) : S0 := xtdN (xbpen s j (nI i)) 20
def pinN (v : S0) (j : Nat) : Nat → Int32 × Int32 × S0 := pinG (pinZ j) v
def penN (v : S0) (j : Nat) : Nat → Int32 × Int32 × S0 := pinG (penZ j) v
theorem pinN_pos {v : S0} {j i : Nat} {g : S0} (e : pinZ j (pinN v j i).2.2 i = g) (c : xl g 8 ≤ (pinN v j i).2.1) : pinN v j (i + 1) = ((pinN v j i).1, (pinN v j i).2.1, g) := by subst e; unfold pinN at c ⊢; exact pinG_pos c
theorem pinN_neg {v : S0} {j i : Nat} {g : S0} (e : pinZ j (pinN v j i).2.2 i = g) (c : ¬ xl g 8 ≤ (pinN v j i).2.1) : pinN v j (i + 1) = (nI i, xl g 8, g) := by subst e; unfold pinN at c ⊢; exact pinG_neg c
theorem penN_pos {v : S0} {j i : Nat} {g : S0} (e : penZ j (penN v j i).2.2 i = g) (c : xl g 8 ≤ (penN v j i).2.1) : penN v j (i + 1) = ((penN v j i).1, (penN v j i).2.1, g) := by subst e; unfold penN at c ⊢; exact pinG_pos c
theorem penN_neg {v : S0} {j i : Nat} {g : S0} (e : penZ j (penN v j i).2.2 i = g) (c : ¬ xl g 8 ≤ (penN v j i).2.1) : penN v j (i + 1) = (nI i, xl g 8, g) := by subst e; unfold penN at c ⊢; exact pinG_neg c
def xspill (v : S0) (j g : Nat) : S0 := xadd (uc v (xc v - g)) j (nI g)
def xthrow (v : S0) (j : Nat) (b : Int32) (g : Nat) : S0 :=
  if b = 0 then xwrite (uc (xless v j (nI g)) (xc (xless v j (nI g)) - g)) (nI j) 1 (nI g) (xlexc v j (nI g))
  else xwrite (uc v (xc v - g)) (nI j) 0 (nI g) (nI g)
def xthrowR (v : S0) (j : Nat) (b : Int32) (g : Nat) : Int32 := if b = 0 then xlexc v j (nI g) else nI g
def xjoin (v : S0) : S0 := (upd (xl v) (xn v) 50, upd (xa v) (xn v) 0, upd (xe v) (xn v) 0, xn v + 1, xw v, xf v, xg v, xx v, xk v, xc v, xd v, xo v, xy v, xb v)
def xmean (v : S0) : UInt64 := if nI (xn v) = 0 then 0 else FP.ddiv (FP.i2d (sumI (xl v) (xn v))) (FP.i2d (nI (xn v)))
def mixd (d : Int64) (x : Int32) : Int64 := d * 31 + x.toInt64
def xpin (v : S0) (j : Nat) : S0 := if nI (xk v) < 30 then (pinN v j (min 9 (xc v) + 1)).2.2 else v
def xpinR (v : S0) (j : Nat) : Int32 := if nI (xk v) < 30 then (pinN v j (min 9 (xc v) + 1)).1 else 0
def xpen (v : S0) (j : Nat) : S0 := (penN v j 10).2.2
def xpenR (v : S0) (j : Nat) : Int32 := (penN v j 10).1
def xmemD (v : S0) (d : Int64) (j : Nat) : Int64 := mixd (mixd (mixd (mixd (mixd (mixd (mixd d (xl v j)) (xa v j)) (xe v j)) (xloss v j)) (xdebt v (nI j))) (xpinR v j)) (xpenR (xpin v j) j)
def xmem (v : S0) (j : Nat) : S0 := xpen (xpin v j) j
def xmemN (v : S0) : Nat → S0
  | 0 => v
  | i + 1 => xmem (xmemN v i) i
def xmemDN (v : S0) (d : Int64) : Nat → Int64
  | 0 => d
  | i + 1 => xmemD (xmemN v i) (xmemDN v d i) i
def xthD (v : S0) (d : Int64) (t : Nat) : Int64 := mixd (mixd (mixd (mixd d (xw v t)) (if xf v t = 0 then 0 else 1)) (xg v t)) (xx v t)
def xthDN (v : S0) (d : Int64) : Nat → Int64
  | 0 => d
  | i + 1 => xthD v (xthDN v d i) i
def xdig8 (v : S0) : Int64 := mixd (mixd (mixd (mixd (mixd (mixd (mixd (mixd 2011 (xd v)) (nI (xn v))) (nI (xc v))) (nI (xk v))) (xflt v)) (xo v)) (lukN (xl v) (xn v)).1) (sumI (xa v) (xn v))
def xdig (v : S0) : S0 := xmemN v (xn v)
def xdigR (v : S0) : Int64 := xthDN (xdig v) (xmemDN v (xdig8 v) (xn v)) (xk v)
/-! what stays -/
theorem ul_n (v : S0) (f : Nat → Int32) : xn (ul v f) = xn v := rfl
theorem ul_k (v : S0) (f : Nat → Int32) : xk (ul v f) = xk v := rfl
theorem ul_c (v : S0) (f : Nat → Int32) : xc (ul v f) = xc v := rfl
theorem ul_f (v : S0) (f : Nat → Int32) : xf (ul v f) = xf v := rfl
theorem ua_n (v : S0) (f : Nat → Int32) : xn (ua v f) = xn v := rfl
theorem ua_k (v : S0) (f : Nat → Int32) : xk (ua v f) = xk v := rfl
theorem ua_c (v : S0) (f : Nat → Int32) : xc (ua v f) = xc v := rfl
theorem ua_f (v : S0) (f : Nat → Int32) : xf (ua v f) = xf v := rfl
theorem ue_n (v : S0) (f : Nat → Int32) : xn (ue v f) = xn v := rfl
theorem ue_k (v : S0) (f : Nat → Int32) : xk (ue v f) = xk v := rfl
theorem ue_c (v : S0) (f : Nat → Int32) : xc (ue v f) = xc v := rfl
theorem ue_f (v : S0) (f : Nat → Int32) : xf (ue v f) = xf v := rfl
theorem un_k (v : S0) (f : Nat) : xk (un v f) = xk v := rfl
theorem un_c (v : S0) (f : Nat) : xc (un v f) = xc v := rfl
theorem un_f (v : S0) (f : Nat) : xf (un v f) = xf v := rfl
theorem uk_n (v : S0) (f : Nat) : xn (uk v f) = xn v := rfl
theorem uk_c (v : S0) (f : Nat) : xc (uk v f) = xc v := rfl
theorem uk_f (v : S0) (f : Nat) : xf (uk v f) = xf v := rfl
theorem uc_n (v : S0) (f : Nat) : xn (uc v f) = xn v := rfl
theorem uc_k (v : S0) (f : Nat) : xk (uc v f) = xk v := rfl
theorem uc_f (v : S0) (f : Nat) : xf (uc v f) = xf v := rfl
theorem ud_n (v : S0) (f : Int32) : xn (ud v f) = xn v := rfl
theorem ud_k (v : S0) (f : Int32) : xk (ud v f) = xk v := rfl
theorem ud_c (v : S0) (f : Int32) : xc (ud v f) = xc v := rfl
theorem ud_f (v : S0) (f : Int32) : xf (ud v f) = xf v := rfl
theorem uo_n (v : S0) (f : Int32) : xn (uo v f) = xn v := rfl
theorem uo_k (v : S0) (f : Int32) : xk (uo v f) = xk v := rfl
theorem uo_c (v : S0) (f : Int32) : xc (uo v f) = xc v := rfl
theorem uo_f (v : S0) (f : Int32) : xf (uo v f) = xf v := rfl
theorem uy_n (v : S0) (f : Int32) : xn (uy v f) = xn v := rfl
theorem uy_k (v : S0) (f : Int32) : xk (uy v f) = xk v := rfl
theorem uy_c (v : S0) (f : Int32) : xc (uy v f) = xc v := rfl
theorem uy_f (v : S0) (f : Int32) : xf (uy v f) = xf v := rfl
theorem ub_n (v : S0) (f : Int32) : xn (ub v f) = xn v := rfl
theorem ub_k (v : S0) (f : Int32) : xk (ub v f) = xk v := rfl
theorem ub_c (v : S0) (f : Int32) : xc (ub v f) = xc v := rfl
theorem ub_f (v : S0) (f : Int32) : xf (ub v f) = xf v := rfl
theorem xadd_n (v : S0) (j : Nat) (g : Int32) : xn (xadd v j g) = xn v := rfl
theorem xless_n (v : S0) (j : Nat) (g : Int32) : xn (xless v j g) = xn v := rfl
theorem xlump_n (v : S0) (j : Nat) (g : Int32) : xn (xlump v j g) = xn v := rfl
theorem xbegin_n (v : S0) (j : Nat) : xn (xbegin v j) = xn v := rfl
theorem xeat_n (v : S0) (j : Nat) : xn (xeat v j) = xn v := by
  unfold xeat
  split
  · split
    · exact ul_n _ _
    · exact ul_n _ _
  · exact (xless_n _ _ _).trans (ue_n _ _)
theorem xaudN_n (v : S0) (i : Nat) : xn (xaudN v i) = xn v := by
  induction i with
  | zero => rfl
  | succ i ih => unfold xaudN; exact (xadd_n _ _ _).trans ih
theorem xaud_n (v : S0) : xn (xaud v) = xn v := by unfold xaud; exact (uo_n _ _).trans ((uk_n _ _).trans (xaudN_n v (xn v)))
theorem xday1_n (v : S0) : xn (xday1 v) = xn v := by
  unfold xday1
  split
  · rfl
  · exact xaud_n v
theorem xeatN_n (v : S0) (i : Nat) : xn (xeatN v i) = xn v := by
  induction i with
  | zero => rfl
  | succ i ih => unfold xeatN; exact (xeat_n _ _).trans ih
theorem xday_n (v : S0) : xn (xday v) = xn v := by unfold xday; exact (ud_n _ _).trans ((xeatN_n _ _).trans (xday1_n v))
theorem xpass_n (v : S0) (i : Nat) : xn (xpass v i) = xn v := by
  induction i with
  | zero => rfl
  | succ i ih => unfold xpass; exact (xday_n _).trans ih
theorem xtd1_n (v : S0) : xn (xtd1 v) = xn v := by
  unfold xtd1
  split
  · rfl
  · exact (ub_n _ _).trans (xadd_n _ _ _)
theorem xtd_n (v : S0) : xn (xtd v) = xn v := by unfold xtd; exact (uy_n _ _).trans ((xeat_n _ _).trans (xtd1_n v))
theorem xtdN_n (v : S0) (i : Nat) : xn (xtdN v i) = xn v := by
  induction i with
  | zero => rfl
  | succ i ih => unfold xtdN; exact (xtd_n _).trans ih
theorem xbpin_n (v : S0) (j : Nat) (g : Int32) : xn (xbpin v j g) = xn v := by unfold xbpin; exact (xless_n _ _ _).trans ((ub_n _ _).trans (xbegin_n v j))
theorem xbpen_n (v : S0) (j : Nat) (g : Int32) : xn (xbpen v j g) = xn v := by unfold xbpen; exact (xlump_n _ _ _).trans (xbegin_n v j)
theorem pinN_n (v : S0) (j i : Nat) : xn (pinN v j i).2.2 = xn v := pinG_keep (fun s => xn s) (fun s i => by unfold pinZ; exact (xtdN_n _ _).trans (xbpin_n _ _ _)) v i
theorem penN_n (v : S0) (j i : Nat) : xn (penN v j i).2.2 = xn v := pinG_keep (fun s => xn s) (fun s i => by unfold penZ; exact (xtdN_n _ _).trans (xbpen_n _ _ _)) v i
theorem xpin_n (v : S0) (j : Nat) : xn (xpin v j) = xn v := by
  unfold xpin
  split
  · exact pinN_n v j _
  · rfl
theorem xpen_n (v : S0) (j : Nat) : xn (xpen v j) = xn v := by unfold xpen; exact penN_n v j 10
theorem xmem_n (v : S0) (j : Nat) : xn (xmem v j) = xn v := by unfold xmem; exact (xpen_n _ _).trans (xpin_n v j)
theorem xmemN_n (v : S0) (i : Nat) : xn (xmemN v i) = xn v := by
  induction i with
  | zero => rfl
  | succ i ih => unfold xmemN; exact (xmem_n _ _).trans ih
theorem xadd_k (v : S0) (j : Nat) (g : Int32) : xk (xadd v j g) = xk v := rfl
theorem xless_k (v : S0) (j : Nat) (g : Int32) : xk (xless v j g) = xk v := rfl
theorem xlump_k (v : S0) (j : Nat) (g : Int32) : xk (xlump v j g) = xk v := rfl
theorem xbegin_k (v : S0) (j : Nat) : xk (xbegin v j) = xk v := rfl
theorem xeat_k (v : S0) (j : Nat) : xk (xeat v j) = xk v := by
  unfold xeat
  split
  · split
    · exact ul_k _ _
    · exact ul_k _ _
  · exact (xless_k _ _ _).trans (ue_k _ _)
theorem xaudN_k (v : S0) (i : Nat) : xk (xaudN v i) = xk v := by
  induction i with
  | zero => rfl
  | succ i ih => unfold xaudN; exact (xadd_k _ _ _).trans ih
theorem xaud_k (v : S0) : xk (xaud v) = 0 := by unfold xaud; exact (uo_k _ _).trans rfl
theorem xday1_k (v : S0) : xk (xday1 v) ≤ xk v := by
  unfold xday1
  split
  · exact Nat.le_refl _
  · rw [xaud_k]; exact Nat.zero_le _
theorem xeatN_k (v : S0) (i : Nat) : xk (xeatN v i) = xk v := by
  induction i with
  | zero => rfl
  | succ i ih => unfold xeatN; exact (xeat_k _ _).trans ih
theorem xday_k (v : S0) : xk (xday v) ≤ xk v := by unfold xday; rw [ud_k, xeatN_k]; exact xday1_k v
theorem xpass_k (v : S0) (i : Nat) : xk (xpass v i) ≤ xk v := by
  induction i with
  | zero => exact Nat.le_refl _
  | succ i ih => unfold xpass; exact Nat.le_trans (xday_k _) ih
theorem xtd1_k (v : S0) : xk (xtd1 v) = xk v := by
  unfold xtd1
  split
  · rfl
  · exact (ub_k _ _).trans (xadd_k _ _ _)
theorem xtd_k (v : S0) : xk (xtd v) = xk v := by unfold xtd; exact (uy_k _ _).trans ((xeat_k _ _).trans (xtd1_k v))
theorem xtdN_k (v : S0) (i : Nat) : xk (xtdN v i) = xk v := by
  induction i with
  | zero => rfl
  | succ i ih => unfold xtdN; exact (xtd_k _).trans ih
theorem xbpin_k (v : S0) (j : Nat) (g : Int32) : xk (xbpin v j g) = xk v := by unfold xbpin; exact (xless_k _ _ _).trans ((ub_k _ _).trans (xbegin_k v j))
theorem xbpen_k (v : S0) (j : Nat) (g : Int32) : xk (xbpen v j g) = xk v := by unfold xbpen; exact (xlump_k _ _ _).trans (xbegin_k v j)
theorem pinN_k (v : S0) (j i : Nat) : xk (pinN v j i).2.2 = xk v := pinG_keep (fun s => xk s) (fun s i => by unfold pinZ; exact (xtdN_k _ _).trans (xbpin_k _ _ _)) v i
theorem penN_k (v : S0) (j i : Nat) : xk (penN v j i).2.2 = xk v := pinG_keep (fun s => xk s) (fun s i => by unfold penZ; exact (xtdN_k _ _).trans (xbpen_k _ _ _)) v i
theorem xpin_k (v : S0) (j : Nat) : xk (xpin v j) = xk v := by
  unfold xpin
  split
  · exact pinN_k v j _
  · rfl
theorem xpen_k (v : S0) (j : Nat) : xk (xpen v j) = xk v := by unfold xpen; exact penN_k v j 10
theorem xmem_k (v : S0) (j : Nat) : xk (xmem v j) = xk v := by unfold xmem; exact (xpen_k _ _).trans (xpin_k v j)
theorem xmemN_k (v : S0) (i : Nat) : xk (xmemN v i) = xk v := by
  induction i with
  | zero => rfl
  | succ i ih => unfold xmemN; exact (xmem_k _ _).trans ih
theorem xadd_c (v : S0) (j : Nat) (g : Int32) : xc (xadd v j g) = xc v := rfl
theorem xless_c (v : S0) (j : Nat) (g : Int32) : xc (xless v j g) = xc v := rfl
theorem xlump_c (v : S0) (j : Nat) (g : Int32) : xc (xlump v j g) = xc v := rfl
theorem xbegin_c (v : S0) (j : Nat) : xc (xbegin v j) = xc v := rfl
theorem xeat_c (v : S0) (j : Nat) : xc (xeat v j) = xc v := by
  unfold xeat
  split
  · split
    · exact ul_c _ _
    · exact ul_c _ _
  · exact (xless_c _ _ _).trans (ue_c _ _)
theorem xaudN_c (v : S0) (i : Nat) : xc (xaudN v i) = xc v := by
  induction i with
  | zero => rfl
  | succ i ih => unfold xaudN; exact (xadd_c _ _ _).trans ih
theorem xaud_c (v : S0) : xc (xaud v) = xc v := by unfold xaud; exact (uo_c _ _).trans ((uk_c _ _).trans (xaudN_c v (xn v)))
theorem xday1_c (v : S0) : xc (xday1 v) = xc v := by
  unfold xday1
  split
  · rfl
  · exact xaud_c v
theorem xeatN_c (v : S0) (i : Nat) : xc (xeatN v i) = xc v := by
  induction i with
  | zero => rfl
  | succ i ih => unfold xeatN; exact (xeat_c _ _).trans ih
theorem xday_c (v : S0) : xc (xday v) = xc v := by unfold xday; exact (ud_c _ _).trans ((xeatN_c _ _).trans (xday1_c v))
theorem xpass_c (v : S0) (i : Nat) : xc (xpass v i) = xc v := by
  induction i with
  | zero => rfl
  | succ i ih => unfold xpass; exact (xday_c _).trans ih
theorem xtd1_c (v : S0) : xc (xtd1 v) = xc v := by
  unfold xtd1
  split
  · rfl
  · exact (ub_c _ _).trans (xadd_c _ _ _)
theorem xtd_c (v : S0) : xc (xtd v) = xc v := by unfold xtd; exact (uy_c _ _).trans ((xeat_c _ _).trans (xtd1_c v))
theorem xtdN_c (v : S0) (i : Nat) : xc (xtdN v i) = xc v := by
  induction i with
  | zero => rfl
  | succ i ih => unfold xtdN; exact (xtd_c _).trans ih
theorem xbpin_c (v : S0) (j : Nat) (g : Int32) : xc (xbpin v j g) = xc v := by unfold xbpin; exact (xless_c _ _ _).trans ((ub_c _ _).trans (xbegin_c v j))
theorem xbpen_c (v : S0) (j : Nat) (g : Int32) : xc (xbpen v j g) = xc v := by unfold xbpen; exact (xlump_c _ _ _).trans (xbegin_c v j)
theorem pinN_c (v : S0) (j i : Nat) : xc (pinN v j i).2.2 = xc v := pinG_keep (fun s => xc s) (fun s i => by unfold pinZ; exact (xtdN_c _ _).trans (xbpin_c _ _ _)) v i
theorem penN_c (v : S0) (j i : Nat) : xc (penN v j i).2.2 = xc v := pinG_keep (fun s => xc s) (fun s i => by unfold penZ; exact (xtdN_c _ _).trans (xbpen_c _ _ _)) v i
theorem xpin_c (v : S0) (j : Nat) : xc (xpin v j) = xc v := by
  unfold xpin
  split
  · exact pinN_c v j _
  · rfl
theorem xpen_c (v : S0) (j : Nat) : xc (xpen v j) = xc v := by unfold xpen; exact penN_c v j 10
theorem xmem_c (v : S0) (j : Nat) : xc (xmem v j) = xc v := by unfold xmem; exact (xpen_c _ _).trans (xpin_c v j)
theorem xmemN_c (v : S0) (i : Nat) : xc (xmemN v i) = xc v := by
  induction i with
  | zero => rfl
  | succ i ih => unfold xmemN; exact (xmem_c _ _).trans ih
theorem xadd_f (v : S0) (j : Nat) (g : Int32) : xf (xadd v j g) = xf v := rfl
theorem xless_f (v : S0) (j : Nat) (g : Int32) : xf (xless v j g) = xf v := rfl
theorem xlump_f (v : S0) (j : Nat) (g : Int32) : xf (xlump v j g) = xf v := rfl
theorem xbegin_f (v : S0) (j : Nat) : xf (xbegin v j) = xf v := rfl
theorem xeat_f (v : S0) (j : Nat) : xf (xeat v j) = xf v := by
  unfold xeat
  split
  · split
    · exact ul_f _ _
    · exact ul_f _ _
  · exact (xless_f _ _ _).trans (ue_f _ _)
theorem xaudN_f (v : S0) (i : Nat) : xf (xaudN v i) = xf v := by
  induction i with
  | zero => rfl
  | succ i ih => unfold xaudN; exact (xadd_f _ _ _).trans ih
theorem xaud_f (v : S0) : xf (xaud v) = xf v := by unfold xaud; exact (uo_f _ _).trans ((uk_f _ _).trans (xaudN_f v (xn v)))
theorem xday1_f (v : S0) : xf (xday1 v) = xf v := by
  unfold xday1
  split
  · rfl
  · exact xaud_f v
theorem xeatN_f (v : S0) (i : Nat) : xf (xeatN v i) = xf v := by
  induction i with
  | zero => rfl
  | succ i ih => unfold xeatN; exact (xeat_f _ _).trans ih
theorem xday_f (v : S0) : xf (xday v) = xf v := by unfold xday; exact (ud_f _ _).trans ((xeatN_f _ _).trans (xday1_f v))
theorem xpass_f (v : S0) (i : Nat) : xf (xpass v i) = xf v := by
  induction i with
  | zero => rfl
  | succ i ih => unfold xpass; exact (xday_f _).trans ih
theorem xtd1_f (v : S0) : xf (xtd1 v) = xf v := by
  unfold xtd1
  split
  · rfl
  · exact (ub_f _ _).trans (xadd_f _ _ _)
theorem xtd_f (v : S0) : xf (xtd v) = xf v := by unfold xtd; exact (uy_f _ _).trans ((xeat_f _ _).trans (xtd1_f v))
theorem xtdN_f (v : S0) (i : Nat) : xf (xtdN v i) = xf v := by
  induction i with
  | zero => rfl
  | succ i ih => unfold xtdN; exact (xtd_f _).trans ih
theorem xbpin_f (v : S0) (j : Nat) (g : Int32) : xf (xbpin v j g) = xf v := by unfold xbpin; exact (xless_f _ _ _).trans ((ub_f _ _).trans (xbegin_f v j))
theorem xbpen_f (v : S0) (j : Nat) (g : Int32) : xf (xbpen v j g) = xf v := by unfold xbpen; exact (xlump_f _ _ _).trans (xbegin_f v j)
theorem pinN_f (v : S0) (j i : Nat) : xf (pinN v j i).2.2 = xf v := pinG_keep (fun s => xf s) (fun s i => by unfold pinZ; exact (xtdN_f _ _).trans (xbpin_f _ _ _)) v i
theorem penN_f (v : S0) (j i : Nat) : xf (penN v j i).2.2 = xf v := pinG_keep (fun s => xf s) (fun s i => by unfold penZ; exact (xtdN_f _ _).trans (xbpen_f _ _ _)) v i
theorem xpin_f (v : S0) (j : Nat) : xf (xpin v j) = xf v := by
  unfold xpin
  split
  · exact pinN_f v j _
  · rfl
theorem xpen_f (v : S0) (j : Nat) : xf (xpen v j) = xf v := by unfold xpen; exact penN_f v j 10
theorem xmem_f (v : S0) (j : Nat) : xf (xmem v j) = xf v := by unfold xmem; exact (xpen_f _ _).trans (xpin_f v j)
theorem xmemN_f (v : S0) (i : Nat) : xf (xmemN v i) = xf v := by
  induction i with
  | zero => rfl
  | succ i ih => unfold xmemN; exact (xmem_f _ _).trans ih
def za8 (v : S0) : Int32 := xa v 8
def zl8 (v : S0) : Int32 := xl v 8
