/-! what the simulation's methods lean on -/
theorem i_2 (x : Int32) : x + x = 2 * x := by
  rw [show (2 : Int32) = 1 + 1 from rfl, Int32.add_mul, Int32.one_mul]
theorem upd_upd {f : Nat → Int32} {k : Nat} {a b : Int32} : upd (upd f k a) k b = upd f k b := by
  funext j
  by_cases h : j = k
  · rw [h, pk_us, pk_us]
  · rw [pk_un h, pk_un h, pk_un h]
theorem s_eat1 {w : S0} {i a : Nat} (h3 : xa w i = nI a) (h4 : a ≤ 99) (hc : ¬ 3 ≤ xa w i) : imax 0 (xa w i - 3) = 0 := by
  rw [h3] at hc ⊢
  have : a < 3 := Nat.not_le.mp (fun q => hc ((nI_leI (a := 3) (by omega) (by omega)).mpr q))
  show imax 0 (nI a - nI 3) = _
  rw [imax_sub (by omega) (by omega), show a - 3 = 0 by omega]
  rfl
theorem s_eat2 {w : S0} {i a : Nat} (h3 : xa w i = nI a) (h4 : a ≤ 99) (hc : 3 ≤ xa w i) : imax 0 (xa w i - 3) = xa w i - 3 := by
  rw [h3] at hc ⊢
  have : 3 ≤ a := (nI_leI (a := 3) (by omega) (by omega)).mp hc
  show imax 0 (nI a - nI 3) = nI a - nI 3
  rw [imax_sub (by omega) (by omega), pk_sub (by omega)]
theorem s_win1 {w : S0} {i l : Nat} (h1 : xl w i = nI l) (h2 : l ≤ 100) (hc : ¬ 100 ≤ xl w i) : imin 100 (xl w i + 1) = xl w i + 1 := by
  rw [h1] at hc ⊢
  have : ¬ 100 ≤ l := fun q => hc ((nI_leI (a := 100) (by omega) (by omega)).mpr q)
  rw [nI_1]
  show imin (nI 100) _ = _
  rw [imin_nI (by omega) (by omega)]
  congr 1
  omega
theorem s_win2 {w : S0} {i l : Nat} (h1 : xl w i = nI l) (h2 : l ≤ 100) (hc : 100 ≤ xl w i) : imin 100 (xl w i + 1) = xl w i := by
  rw [h1] at hc ⊢
  have : 100 ≤ l := (nI_leI (a := 100) (by omega) (by omega)).mp hc
  rw [nI_1]
  show imin (nI 100) _ = _
  rw [imin_nI (by omega) (by omega)]
  congr 1
  omega
section CAST
variable {u : S0} {j g a : Nat} {b : Int32}
theorem s_ex1 (h3 : xa u j = nI a) (h4 : a ≤ 99) (h9 : g ≤ 9) (hc : nI g ≤ xa u j) : 0 = xlexc u j (nI g) := by
  unfold xlexc
  rw [h3] at hc ⊢
  have : g ≤ a := (nI_leI (by omega) (by omega)).mp hc
  rw [imax_sub (by omega) (by omega), show g - a = 0 by omega]
  rfl
theorem s_ex2 (h3 : xa u j = nI a) (h4 : a ≤ 99) (h9 : g ≤ 9) (hc : ¬ nI g ≤ xa u j) : nI g - xa u j = xlexc u j (nI g) := by
  unfold xlexc
  rw [h3] at hc ⊢
  have : ¬ g ≤ a := fun q => hc ((nI_leI (by omega) (by omega)).mpr q)
  rw [imax_sub (by omega) (by omega), pk_sub (by omega)]
theorem s_le1 (h3 : xa u j = nI a) (h4 : a ≤ 99) (h9 : g ≤ 9) (hc : xa u j ≤ nI g) : 0 = imax 0 (xa u j - nI g) := by
  rw [h3] at hc ⊢
  have : a ≤ g := (nI_leI (by omega) (by omega)).mp hc
  rw [imax_sub (by omega) (by omega), show a - g = 0 by omega]
  rfl
theorem s_le2 (h3 : xa u j = nI a) (h4 : a ≤ 99) (h9 : g ≤ 9) (hc : ¬ xa u j ≤ nI g) : xa u j - nI g = imax 0 (xa u j - nI g) := by
  rw [h3] at hc ⊢
  have : ¬ a ≤ g := fun q => hc ((nI_leI (by omega) (by omega)).mpr q)
  rw [imax_sub (by omega) (by omega), pk_sub (by omega)]
theorem s_th1 (hb : b = 0 ∨ b = 1) (c : ¬ b = 0) : xwrite (uc u (xc u - g)) (nI j) (1 - b) (nI g) (nI g) = xthrow u j b g := by
  have e : b = 1 := hb.resolve_left c
  unfold xthrow
  rw [if_neg c, e]
  rfl
theorem s_th2 (c : ¬ b = 0) : nI g = xthrowR u j b g := (if_neg c).symm
theorem s_th3 (c : b = 0) : xwrite (uc (xless u j (nI g)) (xc (xless u j (nI g)) - g)) (nI j) (1 - b) (nI g) (xlexc u j (nI g)) = xthrow u j b g := by
  unfold xthrow
  rw [if_pos c, c]
  rfl
theorem s_th4 (c : b = 0) : xlexc u j (nI g) = xthrowR u j b g := (if_pos c).symm
end CAST
theorem row4 {u : S0} {t : Nat} {a b c d : Int32} (h0 : xw u t = a) (h1 : xf u t = b) (h2 : xg u t = c) (h3 : xx u t = d) : upd (upd (upd (upd (fun _ => 0) 0 a) 1 b) 2 c) 3 d = lrow u t := by
  funext k
  unfold lrow
  rw [upd_i, upd_i, upd_i, upd_i, h0, h1, h2, h3]
  by_cases k0 : k = 0
  · subst k0; rfl
  · by_cases k1 : k = 1
    · subst k1; rfl
    · by_cases k2 : k = 2
      · subst k2; rfl
      · by_cases k3 : k = 3
        · subst k3; rfl
        · simp only [k0, k1, k2, k3, ↓reduceIte]
theorem wS_clear {cI cP : ClassId} (G : AG) (u : S0) (q : Nat) : (([] : va_W) ++ wSo (gO G, gA G, q, gM G, gL G) u) ++ (wT (gA G) cP cI (xn u) 3 (gM G) (mrow u) ++ [(q, .inl (cP, 0, .inr (.inr (.inr (.inr (fun _ => none))))))]) = ([] : va_W) ++ wS (gO G, gA G, q, gM G, gL G) cI cP (uk u 0) := by
  rw [← refs_0 (g := gL G)]
  exact (List.append_assoc _ _ _).symm
theorem wS_last {cI cP : ClassId} (G : AG) (u : S0) (q c : Nat) (F : Nat → Int32) : (([] : va_W) ++ wS G cI cP u) ++ [(q, .inl (cI, c, .inl F))] = ((wSo G u ++ wT (gA G) cP cI (xn u) 3 (gM G) (mrow u)) ++ (wT (gB G) cP cI (xk u) 4 (gL G) (lrow u) ++ [(q, .inl (cI, c, .inl F))])) ++ [] := by
  rw [List.append_nil]
  show ((wSo G u ++ wT (gA G) cP cI (xn u) 3 (gM G) (mrow u)) ++ wT (gB G) cP cI (xk u) 4 (gL G) (lrow u)) ++ [(q, .inl (cI, c, .inl F))] = _
  exact List.append_assoc _ _ _
theorem wS_push {cI cP : ClassId} {G : AG} {u u2 : S0} {q bb : Nat} {F : Nat → Int32} (hn : xn u = xn u2) (hk : xk u + 1 = xk u2) (hd : xd u = xd u2) (hc : xc u = xc u2) (ho : xo u = xo u2) (hm : ∀ m, m < xn u → mrow u m = mrow u2 m) (hl : ∀ t, t < xk u → lrow u t = lrow u2 t) (hF : F = lrow u2 (xk u)) : (([] : va_W) ++ wSo (gO G, gA G, bb, gM G, gL G) u) ++ (wT (gA G) cP cI (xn u) 3 (gM G) (mrow u) ++ wT bb cP cI (xk u + 1) 4 (snoc (xk u) (gL G) q) (snoc (xk u) (lrow u) F)) = wS (gO G, gA G, bb, gM G, snoc (xk u) (gL G) q) cI cP u2 := by
  have e1 : wT bb cP cI (xk u + 1) 4 (snoc (xk u) (gL G) q) (snoc (xk u) (lrow u) F) = wT bb cP cI (xk u + 1) 4 (snoc (xk u) (gL G) q) (lrow u2) := wT_congr (fun _ _ => rfl) (fun t ht => by
    by_cases h : t < xk u
    · rw [snoc_lt h, hl t h]
    · rw [show t = xk u by omega, snoc_n, hF])
  rw [e1, wT_congr (g' := gM G) (r' := mrow u2) (fun _ _ => rfl) hm]
  unfold wS wSo
  rw [hn, hk, hd, hc, ho]
  exact (List.append_assoc _ _ _).symm
theorem day7a {u : S0} {B : Nat} (hI : Inv B u) (hB : B < 2 ^ 20) : (xd u + 1 - (xd u + 1) / 7 * 7 = 0) ↔ isA (xd u) ≠ 0 := by
  obtain ⟨d, hd, hdB⟩ := hI.day
  rw [hd, nI_1]
  have e1 : nI (d + 1) - nI (d + 1) / 7 * 7 = nI ((d + 1) % 7) := pk_rem (d := 7) (by omega) (by omega) (by omega)
  have e2 : nI d - nI d / 7 * 7 = nI (d % 7) := pk_rem (d := 7) (by omega) (by omega) (by omega)
  have e3 : isA (nI d) ≠ 0 ↔ nI d - nI d / 7 * 7 = 6 := by
    rw [Ne, isA_0]
    exact Decidable.not_not
  rw [e3, e1, e2]
  constructor
  · intro h
    have : (d + 1) % 7 = 0 := (nI_eq (a := (d + 1) % 7) (b := 0) (by omega) (by omega)).mp h
    show _ = nI 6
    congr 1
    omega
  · intro h
    have : d % 7 = 6 := (nI_eq (a := d % 7) (b := 6) (by omega) (by omega)).mp h
    show _ = nI 0
    congr 1
    omega
theorem day7 {u : S0} {B : Nat} (hI : Inv B u) (hB : B < 2 ^ 20) (h : ¬ xd u + 1 - (xd u + 1) / 7 * 7 = 0) : isA (xd u) = 0 := Decidable.not_not.mp (fun q => h ((day7a hI hB).mpr q))
theorem day7b {u : S0} {B : Nat} (hI : Inv B u) (hB : B < 2 ^ 20) (h : xd u + 1 - (xd u + 1) / 7 * 7 = 0) : ¬ isA (xd u) = 0 := (day7a hI hB).mp h
