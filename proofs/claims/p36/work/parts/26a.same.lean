/-! what the comparison at the end leans on -/
theorem nI_nm1 {a : Nat} (h : a < 2 ^ 31) : ¬ nI a ≤ -1 := fun q => nI_pos h (Int32.lt_of_le_of_lt q (by decide))
theorem nI_nz {n : Nat} (h : ¬ nI n = 0) : 0 < n := by
  rcases Nat.eq_zero_or_pos n with q | q
  · subst q; exact absurd rfl h
  · exact q
theorem sumI_val {f : Nat → Int32} : ∀ n, (∀ i, i < n → ∃ b : Nat, f i = nI b ∧ b ≤ 100) → ∃ s : Nat, sumI f n = nI s ∧ s ≤ 100 * n := by
  intro n
  induction n with
  | zero => intro _; exact ⟨0, rfl, Nat.le_refl _⟩
  | succ n ih =>
    intro h
    obtain ⟨s, h1, h2⟩ := ih (fun i hi => h i (by omega))
    obtain ⟨b, h3, h4⟩ := h n (by omega)
    refine ⟨s + b, ?_, by omega⟩
    unfold sumI
    rw [h1, h3, nI_add]
section SAME
variable {B i d : Nat} {v : S0}
theorem Inv.sumV (h : Inv B v) : ∃ s : Nat, sumI (xl v) (xn v) = nI s ∧ s ≤ 800 := by
  have hn := h.n8
  obtain ⟨s, h1, h2⟩ := sumI_val (f := xl v) (xn v) (fun i hi => by
    obtain ⟨l, a, e, h1, h2, -⟩ := h.row hi
    exact ⟨l, h1, h2⟩)
  exact ⟨s, h1, by omega⟩
theorem Inv.nan (h : Inv B v) (h0 : ¬ nI (xn v) = 0) : vf_n64 (FP.ddiv (FP.i2d (sumI (xl v) (xn v))) (FP.i2d (nI (xn v)))) := by
  obtain ⟨s, e, hs⟩ := h.sumV
  rw [e]
  exact (fp_all (nI_nz h0) h.n8 s (by omega)).1
theorem cmp0 {x y : UInt64} (h : FP.dcmp x y = some .eq) : Op.cmpValue (FP.dcmp x y) .l = 0 := by
  rw [h]
  rfl
theorem Inv.cmpA (h : Inv B v) (h0 : ¬ nI (xn v) = 0) : Op.cmpValue (FP.dcmp (xmean v) (FP.ddiv (FP.i2d (sumI (xl v) (xn v))) (FP.i2d (nI (xn v))))) .l = 0 := by
  have e1 : xmean v = FP.ddiv (FP.i2d (sumI (xl v) (xn v))) (FP.i2d (nI (xn v))) := if_neg h0
  refine cmp0 ?_
  rw [e1]
  obtain ⟨s, e, hs⟩ := h.sumV
  rw [e]
  exact (fp_all (nI_nz h0) h.n8 s (by omega)).2
theorem cmpB (h0 : nI (xn v) = 0) : Op.cmpValue (FP.dcmp (xmean v) 0) .l = 0 := by
  have e1 : xmean v = 0 := if_pos h0
  refine cmp0 ?_
  rw [e1]
  exact fp_0
theorem luk1 (h : Inv B v) : ∀ i, i ≤ xn v → (i = 0 ∧ lukN (xl v) i = (-1, -1)) ∨ ∃ b, b < i ∧ lukN (xl v) i = (nI b, xl v b) := by
  have hn := h.n8
  intro i
  induction i with
  | zero => intro _; exact Or.inl ⟨rfl, rfl⟩
  | succ i ih =>
    intro hi
    obtain ⟨l, a, e, h1, h2, -⟩ := h.row (m := i) (by omega)
    have hl : xl v i = nI l := h1
    right
    rcases ih (by omega) with ⟨rfl, e1⟩ | ⟨b, hbi, e1⟩
    · refine ⟨0, by omega, ?_⟩
      unfold lukN
      rw [e1, if_neg (show ¬ xl v 0 ≤ -1 by rw [hl]; exact nI_nm1 (by omega))]
    · by_cases c : xl v i ≤ xl v b
      · refine ⟨b, by omega, ?_⟩
        unfold lukN
        rw [e1, if_pos (show xl v i ≤ xl v b from c)]
      · refine ⟨i, by omega, ?_⟩
        unfold lukN
        rw [e1, if_neg (show ¬ xl v i ≤ xl v b from c)]
theorem luk_lt (h : Inv B v) (hi : i < xn v) (c : (lukN (xl v) i).1 < 0) : lukN (xl v) (i + 1) = (nI i, xl v i) := by
  have hn := h.n8
  obtain ⟨l, a, e, h1, h2, -⟩ := h.row (m := i) hi
  have hl : xl v i = nI l := h1
  rcases luk1 h i (by omega) with ⟨rfl, e1⟩ | ⟨b, hbi, e1⟩
  · unfold lukN
    rw [e1, if_neg (show ¬ xl v 0 ≤ -1 by rw [hl]; exact nI_nm1 (by omega))]
  · rw [e1] at c
    exact absurd c (nI_pos (by omega))
theorem luk_ge (h : Inv B v) (hi : i < xn v) (c : ¬ (lukN (xl v) i).1 < 0) : ∃ b, b < i ∧ lukN (xl v) i = (nI b, xl v b) := by
  rcases luk1 h i (by omega) with ⟨-, e1⟩ | h2
  · rw [e1] at c
    exact absurd (by decide) c
  · exact h2
theorem s_loss0 (c : ¬ xe v i ≤ 0) : xloss v i = 0 := if_neg c
theorem xloss_v {a : Nat} (h3 : xa v i = nI a) (h4 : a ≤ 99) (c : xe v i ≤ 0) : xloss v i = nI ((a + 9) / 10) := by
  unfold xloss
  rw [if_pos c, e_9, h3]
  show (nI a + nI 9) / nI 10 = _
  rw [nI_add, pk_div (by omega) (by omega) (by omega)]
theorem s_loss1 {a : Nat} (h3 : xa v i = nI a) (h4 : a ≤ 99) (c : xe v i ≤ 0) (c2 : xa v i - xa v i / 10 * 10 ≤ 0) : xloss v i = xa v i / 10 + 0 := by
  rw [xloss_v h3 h4 c, Int32.add_zero]
  rw [h3] at c2 ⊢
  have e1 : nI a - nI a / 10 * 10 = nI (a % 10) := pk_rem (d := 10) (by omega) (by omega) (by omega)
  have e2 : nI a / 10 = nI (a / 10) := pk_div (d := 10) (by omega) (by omega) (by omega)
  rw [e1] at c2
  have := (nI_le0 (by omega)).mp c2
  rw [e2]
  congr 1
  omega
theorem s_loss2 {a : Nat} (h3 : xa v i = nI a) (h4 : a ≤ 99) (c : xe v i ≤ 0) (c2 : ¬ xa v i - xa v i / 10 * 10 ≤ 0) : xloss v i = xa v i / 10 + 1 := by
  rw [xloss_v h3 h4 c]
  rw [h3] at c2 ⊢
  have e1 : nI a - nI a / 10 * 10 = nI (a % 10) := pk_rem (d := 10) (by omega) (by omega) (by omega)
  have e2 : nI a / 10 = nI (a / 10) := pk_div (d := 10) (by omega) (by omega) (by omega)
  rw [e1] at c2
  have : ¬ a % 10 = 0 := fun q => c2 ((nI_le0 (by omega)).mpr q)
  rw [e2, nI_1]
  congr 1
  omega
theorem left_T (hd : xd v = nI d) (hB : d < 2 ^ 20) : xd v + nI (6 - d % 7) - (xd v + nI (6 - d % 7)) / 7 * 7 = 6 := by
  rw [hd, nI_add]
  have e1 : nI (d + (6 - d % 7)) - nI (d + (6 - d % 7)) / 7 * 7 = nI ((d + (6 - d % 7)) % 7) := pk_rem (d := 7) (by omega) (by omega) (by omega)
  rw [e1]
  show _ = nI 6
  congr 1
  omega
theorem left_F (hd : xd v = nI d) (hB : d < 2 ^ 20) (hi : i < 6 - d % 7) : ¬ xd v + nI i - (xd v + nI i) / 7 * 7 = 6 := by
  rw [hd, nI_add]
  have e1 : nI (d + i) - nI (d + i) / 7 * 7 = nI ((d + i) % 7) := pk_rem (d := 7) (by omega) (by omega) (by omega)
  rw [e1]
  intro q
  have : (d + i) % 7 = 6 := (nI_eq (a := (d + i) % 7) (b := 6) (by omega) (by omega)).mp q
  omega
theorem left_eq (hd : xd v = nI d) (hB : d < 2 ^ 20) : 6 - (xd v - xd v / 7 * 7) = nI (6 - d % 7) := by
  rw [hd]
  have e1 : nI d - nI d / 7 * 7 = nI (d % 7) := pk_rem (d := 7) (by omega) (by omega) (by omega)
  rw [e1]
  exact pk_sub (a := 6) (by omega)
end SAME
