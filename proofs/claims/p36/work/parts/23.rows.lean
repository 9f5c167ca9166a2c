/-! a member's row, the audit, the day -/
abbrev T3 : Type := Int32 × Int32 × Int32
def stE (l a e : Int32) : T3 := if e ≤ 0 then (if a ≤ 0 then (imin 100 (l + 1), a, e) else (imax 0 (l - (a + 9) / 10), a, e)) else (l, imax 0 (a - 3), e - 1)
def st3 (p : T3) : T3 := stE p.1 p.2.1 p.2.2
def au3 (g : Int32) (p : T3) : T3 := (p.1, imin 99 (p.2.1 + g), p.2.2)
def dy3 (d g : Int32) (p : T3) : T3 := if isA d = 0 then p else au3 g p
def tr0 (v : S0) (j : Nat) : T3 := (xl v j, xa v j, xe v j)
theorem e_9 (a : Int32) : a + 10 - 1 = a + 9 := by
  rw [Int32.sub_eq_add_neg, Int32.add_assoc]; rfl
theorem T3e {a b c a' b' c' : Int32} (h1 : a = a') (h2 : b = b') (h3 : c = c') : ((a, b, c) : T3) = (a', b', c') := by rw [h1, h2, h3]
theorem upd_i {f : Nat → Int32} {k : Nat} {x : Int32} (i : Nat) : upd f k x i = if i = k then x else f i := by
  by_cases h : i = k
  · rw [if_pos h, h]; exact pk_us
  · rw [if_neg h]; exact pk_un h
theorem xeat_row (v : S0) (j i : Nat) : tr0 (xeat v j) i = if i = j then st3 (tr0 v j) else tr0 v i := by
  show tr0 (xeat v j) i = if i = j then stE (xl v j) (xa v j) (xe v j) else tr0 v i
  unfold xeat stE
  by_cases c : xe v j ≤ 0
  · rw [if_pos c, if_pos c]
    by_cases c2 : xa v j ≤ 0
    · rw [if_pos c2, if_pos c2]
      show (upd (xl v) j (imin 100 (xl v j + 1)) i, xa v i, xe v i) = _
      by_cases h : i = j
      · subst h; rw [if_pos rfl, pk_us]
      · rw [if_neg h, pk_un h]; rfl
    · rw [if_neg c2, if_neg c2]
      show (upd (xl v) j (imax 0 (xl v j - xloss v j)) i, xa v i, xe v i) = _
      have e : xloss v j = (xa v j + 9) / 10 := by unfold xloss; rw [if_pos c, e_9]
      rw [e]
      by_cases h : i = j
      · subst h; rw [if_pos rfl, pk_us]
      · rw [if_neg h, pk_un h]; rfl
  · rw [if_neg c, if_neg c]
    show (xl v i, upd (xa v) j (imax 0 (xa v j - 3)) i, upd (xe v) j (xe v j - 1) i) = _
    by_cases h : i = j
    · subst h; rw [if_pos rfl, pk_us, pk_us]
    · rw [if_neg h, pk_un h, pk_un h]; rfl
theorem xeat_r (v : S0) (j : Nat) : (xeat v j).2.2.2 = v.2.2.2 := by
  unfold xeat
  split
  · split
    · rfl
    · rfl
  · rfl
theorem xeatN_row (v : S0) (N i : Nat) : tr0 (xeatN v N) i = if i < N then st3 (tr0 v i) else tr0 v i := by
  induction N generalizing i with
  | zero => rw [if_neg (Nat.not_lt_zero i)]; rfl
  | succ N ih =>
    show tr0 (xeat (xeatN v N) N) i = _
    rw [xeat_row]
    by_cases h : i = N
    · subst h; rw [if_pos rfl, if_pos (Nat.lt_succ_self i), ih, if_neg (Nat.lt_irrefl i)]
    · rw [if_neg h, ih]
      by_cases h2 : i < N
      · rw [if_pos h2, if_pos (by omega)]
      · rw [if_neg h2, if_neg (by omega)]
theorem xeatN_r (v : S0) (N : Nat) : (xeatN v N).2.2.2 = v.2.2.2 := by
  induction N with
  | zero => rfl
  | succ N ih => exact (xeat_r _ _).trans ih
theorem xadd_row (v : S0) (j : Nat) (g : Int32) (i : Nat) : tr0 (xadd v j g) i = if i = j then au3 g (tr0 v j) else tr0 v i := by
  show (xl v i, upd (xa v) j (imin 99 (xa v j + g)) i, xe v i) = _
  by_cases h : i = j
  · subst h; rw [if_pos rfl, pk_us]; rfl
  · rw [if_neg h, pk_un h]; rfl
theorem xless_row (v : S0) (j : Nat) (g : Int32) (i : Nat) : tr0 (xless v j g) i = if i = j then (xl v j, imax 0 (xa v j - g), xe v j) else tr0 v i := by
  show (xl v i, upd (xa v) j (imax 0 (xa v j - g)) i, xe v i) = _
  by_cases h : i = j
  · subst h; rw [if_pos rfl, pk_us]
  · rw [if_neg h, pk_un h]; rfl
theorem xlump_row (v : S0) (j : Nat) (g : Int32) (i : Nat) : tr0 (xlump v j g) i = if i = j then (xl v j, xa v j, imin 9 (xe v j + g)) else tr0 v i := by
  show (xl v i, xa v i, upd (xe v) j (imin 9 (xe v j + g)) i) = _
  by_cases h : i = j
  · subst h; rw [if_pos rfl, pk_us]
  · rw [if_neg h, pk_un h]; rfl
theorem xdebt_r {v v2 : S0} (h : v2.2.2.2 = v.2.2.2) (j : Int32) : xdebt v2 j = xdebt v j := by unfold xdebt xw xx xk; rw [h]
theorem xaudN_r (v : S0) (N : Nat) : (xaudN v N).2.2.2 = v.2.2.2 := by
  induction N with
  | zero => rfl
  | succ N ih => exact ih
theorem xaudN_row (v : S0) (N i : Nat) : tr0 (xaudN v N) i = if i < N then au3 (xdebt v (nI i)) (tr0 v i) else tr0 v i := by
  induction N generalizing i with
  | zero => rw [if_neg (Nat.not_lt_zero i)]; rfl
  | succ N ih =>
    show tr0 (xadd (xaudN v N) N (xdebt (xaudN v N) (nI N))) i = _
    rw [xadd_row, xdebt_r (xaudN_r v N)]
    by_cases h : i = N
    · subst h; rw [if_pos rfl, if_pos (Nat.lt_succ_self i), ih, if_neg (Nat.lt_irrefl i)]
    · rw [if_neg h, ih]
      by_cases h2 : i < N
      · rw [if_pos h2, if_pos (by omega)]
      · rw [if_neg h2, if_neg (by omega)]
theorem xaud_row (v : S0) {i : Nat} (h : i < xn v) : tr0 (xaud v) i = au3 (xdebt v (nI i)) (tr0 v i) := by
  show tr0 (xaudN v (xn v)) i = _
  rw [xaudN_row, if_pos h]
theorem xday1_row (v : S0) {i : Nat} (h : i < xn v) : tr0 (xday1 v) i = dy3 (xd v) (xdebt v (nI i)) (tr0 v i) := by
  unfold xday1 dy3
  split
  · rfl
  · exact xaud_row v h
theorem xday_row (v : S0) {i : Nat} (h : i < xn v) : tr0 (xday v) i = st3 (dy3 (xd v) (xdebt v (nI i)) (tr0 v i)) := by
  show tr0 (xeatN (xday1 v) (xn v)) i = _
  rw [xeatN_row, if_pos h, xday1_row v h]
theorem imin_99 {a : Nat} (h : a < 2 ^ 31) : imin 99 (nI a) = nI (min 99 a) := imin_nI (a := 99) (by omega) h
theorem imax_sub {a b : Nat} (ha : a < 2 ^ 30) (hb : b < 2 ^ 30) : imax 0 (nI a - nI b) = nI (a - b) := by
  unfold imax
  rcases Nat.lt_or_ge b a with h | h
  · rw [pk_sub (Nat.le_of_lt h), if_pos (show (0 : Int32) < nI (a - b) from nI_lt (a := 0) (b := a - b) (by omega) (by omega))]
  · have e : a - b = 0 := by omega
    rw [e]
    rcases Nat.lt_or_ge a b with h2 | h2
    · have h3 := pk_sneg hb h2
      rw [if_neg (fun h4 => Int32.lt_irrefl (Int32.lt_trans h3 h4))]; rfl
    · obtain rfl : a = b := by omega
      rw [pk_sub (Nat.le_refl a), Nat.sub_self]
      split
      · rfl
      · rfl
theorem st3_bd {a b : Nat} (e : Int32) (ha : a ≤ 99) (hb : b ≤ 100) : ∃ a2 b2 : Nat, (st3 (nI b, nI a, e)).2.1 = nI a2 ∧ a2 ≤ 99 ∧ (st3 (nI b, nI a, e)).1 = nI b2 ∧ b2 ≤ 100 := by
  show ∃ a2 b2 : Nat, (stE (nI b) (nI a) e).2.1 = nI a2 ∧ a2 ≤ 99 ∧ (stE (nI b) (nI a) e).1 = nI b2 ∧ b2 ≤ 100
  unfold stE
  by_cases c : e ≤ 0
  · rw [if_pos c]
    by_cases c2 : nI a ≤ 0
    · rw [if_pos c2]
      refine ⟨a, min 100 (b + 1), rfl, ha, ?_, by omega⟩
      show imin (nI 100) (nI b + 1) = _
      rw [nI_1, imin_nI (by omega) (by omega)]
    · rw [if_neg c2]
      refine ⟨a, b - (a + 9) / 10, rfl, ha, ?_, by omega⟩
      show imax 0 (nI b - (nI a + nI 9) / nI 10) = _
      rw [nI_add, pk_div (by omega) (by omega) (by omega), imax_sub (by omega) (by omega)]
  · rw [if_neg c]
    refine ⟨a - 3, b, ?_, by omega, rfl, hb⟩
    show imax 0 (nI a - nI 3) = _
    exact imax_sub (by omega) (by omega)
theorem isA_0 (d : Int32) : isA d = 0 ↔ ¬ (d - d / 7 * 7 = 6) := by
  unfold isA
  split
  · exact ⟨fun h => absurd h (by decide), fun h => absurd ‹_› h⟩
  · exact ⟨fun _ => ‹_›, fun _ => rfl⟩
theorem re_n {v v2 : S0} (h : v2.2.2.2 = v.2.2.2) : xn v2 = xn v := by unfold xn; rw [h]
theorem re_w {v v2 : S0} (h : v2.2.2.2 = v.2.2.2) : xw v2 = xw v := by unfold xw; rw [h]
theorem re_f {v v2 : S0} (h : v2.2.2.2 = v.2.2.2) : xf v2 = xf v := by unfold xf; rw [h]
theorem re_g {v v2 : S0} (h : v2.2.2.2 = v.2.2.2) : xg v2 = xg v := by unfold xg; rw [h]
theorem re_x {v v2 : S0} (h : v2.2.2.2 = v.2.2.2) : xx v2 = xx v := by unfold xx; rw [h]
theorem re_k {v v2 : S0} (h : v2.2.2.2 = v.2.2.2) : xk v2 = xk v := by unfold xk; rw [h]
theorem re_c {v v2 : S0} (h : v2.2.2.2 = v.2.2.2) : xc v2 = xc v := by unfold xc; rw [h]
theorem re_d {v v2 : S0} (h : v2.2.2.2 = v.2.2.2) : xd v2 = xd v := by unfold xd; rw [h]
theorem re_o {v v2 : S0} (h : v2.2.2.2 = v.2.2.2) : xo v2 = xo v := by unfold xo; rw [h]
