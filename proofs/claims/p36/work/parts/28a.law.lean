/-! what the law's forty rounds lean on -/
/-- what an audit would add, over the first t throws, for each member -/
def adF (v : S0) (t : Nat) : Nat → Int32 := fun m => if m < xn v then xdebtN (xw v) (xx v) (nI m) t else 0
/-- the first i of a row -/
def fl (f : Nat → Int32) (i : Nat) : Nat → Int32 := fun m => if m < i then f m else 0
theorem adF_0 {v : S0} : adF v 0 = fun _ => 0 := by
  funext m
  unfold adF
  split
  · rfl
  · rfl
theorem fl_0 {f : Nat → Int32} : fl f 0 = fun _ => 0 := funext (fun m => if_neg (Nat.not_lt_zero m))
theorem fl_s {f : Nat → Int32} {i : Nat} : upd (fl f i) i (f i) = fl f (i + 1) := by
  funext m
  rw [upd_i]
  unfold fl
  by_cases h : m = i
  · rw [if_pos h, if_pos (by omega), h]
  · rw [if_neg h]
    by_cases h2 : m < i
    · rw [if_pos h2, if_pos (by omega)]
    · rw [if_neg h2, if_neg (by omega)]
theorem fl_at {f : Nat → Int32} {i n : Nat} (h : i < n) : fl f n i = f i := if_pos h
theorem adF_at {v : S0} {i : Nat} (h : i < xn v) : adF v (xk v) i = xdebt v (nI i) := if_pos h
theorem adF_s {v : S0} {t j : Nat} (hn : xn v ≤ 8) (h1 : xw v t = nI j) (h2 : j < xn v) : upd (adF v t) j (adF v t j + 2 * xx v t) = adF v (t + 1) := by
  funext m
  rw [upd_i]
  unfold adF
  by_cases h : m = j
  · subst h
    rw [if_pos rfl, if_pos h2, if_pos h2]
    show _ = (if xw v t = nI m then _ else _)
    rw [if_pos h1]
  · rw [if_neg h]
    by_cases h3 : m < xn v
    · rw [if_pos h3, if_pos h3]
      show _ = (if xw v t = nI m then xdebtN (xw v) (xx v) (nI m) t + 2 * xx v t else xdebtN (xw v) (xx v) (nI m) t)
      rw [if_neg (fun q => h ((nI_eq (by omega) (by omega)).mp (q.symm.trans h1)))]
    · rw [if_neg h3, if_neg h3]
section LAWF
variable {B i : Nat} {v : S0}
theorem luk_max (h : Inv B v) : ∀ i, i ≤ xn v → ∀ m, m < i → xl v m ≤ (lukN (xl v) i).2 := by
  intro i
  induction i with
  | zero => intro _ m hm; exact absurd hm (Nat.not_lt_zero m)
  | succ i ih =>
    intro hi m hm
    by_cases c : xl v i ≤ (lukN (xl v) i).2
    · have e : lukN (xl v) (i + 1) = lukN (xl v) i := if_pos c
      rw [e]
      by_cases e2 : m = i
      · rw [e2]; exact c
      · exact ih (by omega) m (by omega)
    · have e : lukN (xl v) (i + 1) = (nI i, xl v i) := if_neg c
      rw [e]
      show xl v m ≤ xl v i
      by_cases e2 : m = i
      · rw [e2]; exact Int32.le_refl _
      · exact Int32.le_trans (ih (by omega) m (by omega)) (Int32.le_of_lt (Int32.not_le.mp c))
theorem luk_all (h : Inv B v) (hn : 1 ≤ xn v) : ∃ b, b < xn v ∧ (lukN (xl v) (xn v)).1 = nI b ∧ ∀ m, m < xn v → xl v m ≤ xl v b := by
  rcases luk1 h (xn v) (Nat.le_refl _) with ⟨e, -⟩ | ⟨b, hb, e⟩
  · omega
  · refine ⟨b, hb, by rw [e], fun m hm => ?_⟩
    have := luk_max h (xn v) (Nat.le_refl _) m hm
    rw [e] at this
    exact this
theorem nI_nz1 {n : Nat} (h : 1 ≤ n) (h2 : n < 2 ^ 31) : ¬ nI n = 0 := nI_ne0 (by omega) h2
/-! a day's loss -/
theorem law_l0 {a : Nat} (h3 : xa v i = nI a) (h4 : a ≤ 99) (c : ¬ xe v i ≤ 0) : xloss v i ≤ 0 := by
  rw [s_loss0 c]
  exact Int32.le_refl _
theorem xe_0 (h : bT (tr0 v i)) : xe v i = 0 ↔ xe v i ≤ 0 := by
  obtain ⟨l, a, e, h1, h2, h3, h4, h5, h6⟩ := h
  have h5b : xe v i = nI e := h5
  rw [h5b, nI_le0 (by omega)]
  exact nI_eq (b := 0) (by omega) (by omega)
theorem law_c1 {a : Nat} (h3 : xa v i = nI a) (h4 : a ≤ 99) (c : xloss v i ≤ 0) (ce : xe v i = 0) (ca : ¬ xa v i ≤ 0) : False := by
  have e := xloss_v h3 h4 (by rw [ce]; exact Int32.le_refl _)
  rw [e, nI_le0 (by omega)] at c
  exact ca (by rw [h3, nI_le0 (by omega)]; omega)
theorem law_c2 (hb : bT (tr0 v i)) (c : ¬ xloss v i ≤ 0) (ce : ¬ xe v i = 0) : False := c (by
  rw [s_loss0 (fun q => ce ((xe_0 hb).mpr q))]
  exact Int32.le_refl _)
theorem law_c3 {a : Nat} (h3 : xa v i = nI a) (h4 : a ≤ 99) (c : ¬ xloss v i ≤ 0) (ce : xe v i = 0) (ca : xa v i ≤ 0) : False := by
  have e := xloss_v h3 h4 (by rw [ce]; exact Int32.le_refl _)
  rw [h3, nI_le0 (by omega)] at ca
  exact c (by rw [e, nI_le0 (by omega)]; omega)
theorem law_10 (hb : bT (tr0 v i)) : ¬ 10 < xloss v i := by
  obtain ⟨l, a, e, h1, h2, h3, h4, h5, h6⟩ := hb
  by_cases c : xe v i ≤ 0
  · rw [xloss_v h3 h4 c]
    exact nI_nlt (a := 10) (by omega) (by omega)
  · rw [s_loss0 c]
    decide
theorem law_a {a : Nat} (h3 : xa v i = nI a) (h4 : a ≤ 99) (ce : xe v i = 0) : ¬ 10 * xloss v i < xa v i := by
  rw [xloss_v h3 h4 (by rw [ce]; exact Int32.le_refl _), h3]
  show ¬ nI 10 * _ < _
  rw [pk_mul]
  exact nI_nlt (by omega) (by omega)
theorem law_b {a : Nat} (h3 : xa v i = nI a) (h4 : a ≤ 99) (ce : xe v i = 0) (ca : ¬ xa v i ≤ 0) : 10 * xloss v i - 10 < xa v i := by
  have ha : ¬ a = 0 := fun q => ca (by rw [h3, nI_le0 (by omega)]; exact q)
  rw [xloss_v h3 h4 (by rw [ce]; exact Int32.le_refl _), h3]
  show nI 10 * _ - nI 10 < _
  rw [pk_mul, pk_sub (by omega)]
  exact nI_lt (by omega) (by omega)
/-! the day of an audit, and what a day does -/
theorem audA (h : Inv B v) (hB : B < 2 ^ 20) (c : 6 - (xd v - xd v / 7 * 7) = 0) : ¬ isA (xd v) = 0 := by
  obtain ⟨d, hd, hdB⟩ := h.day
  rw [left_eq hd (by omega)] at c
  have c2 : 6 - d % 7 = 0 := (nI_eq (a := 6 - d % 7) (b := 0) (by omega) (by omega)).mp c
  intro q
  rw [isA_0] at q
  refine q ?_
  rw [hd]
  have e1 : nI d - nI d / 7 * 7 = nI (d % 7) := pk_rem (d := 7) (by omega) (by omega) (by omega)
  rw [e1]
  show _ = nI 6
  congr 1
  omega
theorem audB (h : Inv B v) (hB : B < 2 ^ 20) (c : ¬ 6 - (xd v - xd v / 7 * 7) = 0) : isA (xd v) = 0 := by
  obtain ⟨d, hd, hdB⟩ := h.day
  rw [isA_0]
  intro q
  refine c ?_
  rw [q]
  rfl
theorem xday_kA (h : ¬ isA (xd v) = 0) : xk (xday v) = 0 := by
  rw [xday_k1]
  unfold xday1
  rw [if_neg h]
  exact xaud_k v
theorem xday_kB (h : isA (xd v) = 0) : xk (xday v) = xk v := by
  rw [xday_k1]
  unfold xday1
  rw [if_pos h]
/-- arrears behind a day's audit, where there is one -/
def dT (v : S0) (i : Nat) : Int32 := if isA (xd v) = 0 then xa v i else imin 99 (xa v i + xdebt v (nI i))
theorem xday_T (hi : i < xn v) : tr0 (xday v) i = stE (xl v i) (dT v i) (xe v i) := by
  rw [xday_row v hi]
  unfold dT dy3
  split
  · rfl
  · rfl
theorem dT_v (h : Inv B v) (hi : i < xn v) : ∃ t : Nat, dT v i = nI t ∧ t ≤ 99 := by
  obtain ⟨l, a, e, h1, h2, h3, h4, h5, h6⟩ := h.row hi
  have h3b : xa v i = nI a := h3
  unfold dT
  split
  · exact ⟨a, h3b, h4⟩
  · refine ⟨min 99 (a + dsN v i (xk v)), ?_, by omega⟩
    have := h.ds20 i
    rw [xdebt_val h.led, h3b, nI_add, imin_99 (by omega)]
variable {T : Int32}
theorem E_a1 (hi : i < xn v) (hT : T = dT v i) (c : ¬ xe v i ≤ 0) : xa (xday v) i = imax 0 (T - 3) := by
  have r := xday_T hi
  unfold stE at r
  rw [if_neg c, ← hT] at r
  exact congrArg (fun p : T3 => p.2.1) r
theorem E_l1 (hi : i < xn v) (c : ¬ xe v i ≤ 0) : xl (xday v) i = xl v i := by
  have r := xday_T hi
  unfold stE at r
  rw [if_neg c] at r
  exact congrArg (fun p : T3 => p.1) r
theorem E_e1 (hi : i < xn v) (c : ¬ xe v i ≤ 0) : xe (xday v) i = xe v i - 1 := by
  have r := xday_T hi
  unfold stE at r
  rw [if_neg c] at r
  exact congrArg (fun p : T3 => p.2.2) r
theorem E_a2 (hi : i < xn v) (hT : T = dT v i) (c : xe v i ≤ 0) : xa (xday v) i = T := by
  have r := xday_T hi
  unfold stE at r
  rw [if_pos c, ← hT] at r
  by_cases c2 : T ≤ 0
  · rw [if_pos c2] at r
    exact congrArg (fun p : T3 => p.2.1) r
  · rw [if_neg c2] at r
    exact congrArg (fun p : T3 => p.2.1) r
theorem E_l2 (hi : i < xn v) (hT : T = dT v i) (c : xe v i ≤ 0) (h0 : T = 0) : xl (xday v) i = imin 100 (xl v i + 1) := by
  have r := xday_T hi
  unfold stE at r
  rw [if_pos c, ← hT, if_pos (by rw [h0]; exact Int32.le_refl _)] at r
  exact congrArg (fun p : T3 => p.1) r
theorem E_l3 (h : Inv B v) (hi : i < xn v) (hT : T = dT v i) (c : xe v i ≤ 0) (h0 : ¬ T = 0) : xl (xday v) i = imax 0 (xl v i - (T + 9) / 10) := by
  obtain ⟨t, ht, ht9⟩ := dT_v h hi
  have hn : ¬ T ≤ 0 := by
    rw [hT, ht] at h0 ⊢
    exact fun q => h0 (by rw [(nI_le0 (by omega)).mp q]; rfl)
  have r := xday_T hi
  unfold stE at r
  rw [if_pos c, ← hT, if_neg hn] at r
  exact congrArg (fun p : T3 => p.1) r
theorem E_e2 (h : Inv B v) (hi : i < xn v) (c : xe v i ≤ 0) : xe (xday v) i = 0 := by
  have r := xday_T hi
  unfold stE at r
  rw [if_pos c] at r
  have e0 := (xe_0 (h.row hi)).mpr c
  split at r
  · exact (congrArg (fun p : T3 => p.2.2) r).trans e0
  · exact (congrArg (fun p : T3 => p.2.2) r).trans e0
theorem T_a (c : ¬ isA (xd v) = 0) : imin 99 (xa v i + xdebt v (nI i)) = dT v i := (if_neg c).symm
theorem T_b (c : isA (xd v) = 0) : xa v i = dT v i := (if_pos c).symm
end LAWF
