/-! class and reference, side by side: a member's row, the audit, the day -/
abbrev T3 : Type := Int32 × Int32 × Int32
def stE (l a e : Int32) : T3 := if e ≤ 0 then (if a ≤ 0 then (imin 100 (l + 1), a, e) else (imax 0 (l - (a + 9) / 10), a, e)) else (l, imax 0 (a - 3), e - 1)
def st3 (p : T3) : T3 := stE p.1 p.2.1 p.2.2
def au3 (g : Int32) (p : T3) : T3 := (p.1, imin 99 (p.2.1 + g), p.2.2)
def dy3 (d g : Int32) (p : T3) : T3 := if isA d = 0 then p else au3 g p
def tr0 (v : S0) (j : Nat) : T3 := (xl v j, xa v j, xe v j)
def tr1 (f : Nat → Int32) (j : Nat) : T3 := (f (mi j 0), f (mi j 1), f (mi j 2))
theorem e_9 (a : Int32) : a + 10 - 1 = a + 9 := by
  rw [Int32.sub_eq_add_neg, Int32.add_assoc]; rfl
theorem T3e {a b c a' b' c' : Int32} (h1 : a = a') (h2 : b = b') (h3 : c = c') : ((a, b, c) : T3) = (a', b', c') := by rw [h1, h2, h3]
theorem upd_i {f : Nat → Int32} {k : Nat} {x : Int32} (i : Nat) : upd f k x i = if i = k then x else f i := by
  by_cases h : i = k
  · rw [if_pos h, h]; exact pk_us
  · rw [if_neg h]; exact pk_un h
/-! the class -/
theorem xeat_row (v : S0) (j i : Nat) : tr0 (xeat v j) i = if i = j then st3 (tr0 v j) else tr0 v i := by
  show tr0 (xeat v j) i = if i = j then stE (xl v j) (xa v j) (xe v j) else tr0 v i
  unfold xeat stE
  by_cases c : xe v j ≤ 0
  · rw [if_pos c, if_pos c]
    by_cases c2 : xa v j ≤ 0
    · rw [if_pos c2, if_pos c2]
      show (upd (xl v) j (imin 100 (xl v j + 1)) i, xa v i, xe v i) = _
      by_cases h : i = j
      · subst h; rw [if_pos rfl, pk_us]
      · rw [if_neg h, pk_un h]; rfl
    · rw [if_neg c2, if_neg c2]
      show (upd (xl v) j (imax 0 (xl v j - xloss v j)) i, xa v i, xe v i) = _
      have e : xloss v j = (xa v j + 9) / 10 := by unfold xloss; rw [if_pos c, e_9]
      rw [e]
      by_cases h : i = j
      · subst h; rw [if_pos rfl, pk_us]
      · rw [if_neg h, pk_un h]; rfl
  · rw [if_neg c, if_neg c]
    show (xl v i, upd (xa v) j (imax 0 (xa v j - 3)) i, upd (xe v) j (xe v j - 1) i) = _
    by_cases h : i = j
    · subst h; rw [if_pos rfl, pk_us, pk_us]
    · rw [if_neg h, pk_un h, pk_un h]; rfl
theorem xeat_r (v : S0) (j : Nat) : (xeat v j).2.2.2 = v.2.2.2 := by
  unfold xeat
  split
  · split
    · rfl
    · rfl
  · rfl
theorem xeatN_row (v : S0) (N i : Nat) : tr0 (xeatN v N) i = if i < N then st3 (tr0 v i) else tr0 v i := by
  induction N generalizing i with
  | zero => rw [if_neg (Nat.not_lt_zero i)]; rfl
  | succ N ih =>
    show tr0 (xeat (xeatN v N) N) i = _
    rw [xeat_row]
    by_cases h : i = N
    · subst h; rw [if_pos rfl, if_pos (Nat.lt_succ_self i), ih, if_neg (Nat.lt_irrefl i)]
    · rw [if_neg h, ih]
      by_cases h2 : i < N
      · rw [if_pos h2, if_pos (by omega)]
      · rw [if_neg h2, if_neg (by omega)]
theorem xeatN_r (v : S0) (N : Nat) : (xeatN v N).2.2.2 = v.2.2.2 := by
  induction N with
  | zero => rfl
  | succ N ih => exact (xeat_r _ _).trans ih
theorem xadd_row (v : S0) (j : Nat) (g : Int32) (i : Nat) : tr0 (xadd v j g) i = if i = j then au3 g (tr0 v j) else tr0 v i := by
  show (xl v i, upd (xa v) j (imin 99 (xa v j + g)) i, xe v i) = _
  by_cases h : i = j
  · subst h; rw [if_pos rfl, pk_us]; rfl
  · rw [if_neg h, pk_un h]; rfl
theorem xless_row (v : S0) (j : Nat) (g : Int32) (i : Nat) : tr0 (xless v j g) i = if i = j then (xl v j, imax 0 (xa v j - g), xe v j) else tr0 v i := by
  show (xl v i, upd (xa v) j (imax 0 (xa v j - g)) i, xe v i) = _
  by_cases h : i = j
  · subst h; rw [if_pos rfl, pk_us]
  · rw [if_neg h, pk_un h]; rfl
theorem xlump_row (v : S0) (j : Nat) (g : Int32) (i : Nat) : tr0 (xlump v j g) i = if i = j then (xl v j, xa v j, imin 9 (xe v j + g)) else tr0 v i := by
  show (xl v i, xa v i, upd (xe v) j (imin 9 (xe v j + g)) i) = _
  by_cases h : i = j
  · subst h; rw [if_pos rfl, pk_us]
  · rw [if_neg h, pk_un h]; rfl
theorem xdebt_r {v v2 : S0} (h : v2.2.2.2 = v.2.2.2) (j : Int32) : xdebt v2 j = xdebt v j := by unfold xdebt xw xx xk; rw [h]
theorem xaudN_r (v : S0) (N : Nat) : (xaudN v N).2.2.2 = v.2.2.2 := by
  induction N with
  | zero => rfl
  | succ N ih => exact ih
theorem xaudN_row (v : S0) (N i : Nat) : tr0 (xaudN v N) i = if i < N then au3 (xdebt v (nI i)) (tr0 v i) else tr0 v i := by
  induction N generalizing i with
  | zero => rw [if_neg (Nat.not_lt_zero i)]; rfl
  | succ N ih =>
    show tr0 (xadd (xaudN v N) N (xdebt (xaudN v N) (nI N))) i = _
    rw [xadd_row, xdebt_r (xaudN_r v N)]
    by_cases h : i = N
    · subst h; rw [if_pos rfl, if_pos (Nat.lt_succ_self i), ih, if_neg (Nat.lt_irrefl i)]
    · rw [if_neg h, ih]
      by_cases h2 : i < N
      · rw [if_pos h2, if_pos (by omega)]
      · rw [if_neg h2, if_neg (by omega)]
theorem xaud_row (v : S0) {i : Nat} (h : i < xn v) : tr0 (xaud v) i = au3 (xdebt v (nI i)) (tr0 v i) := by
  show tr0 (xaudN v (xn v)) i = _
  rw [xaudN_row, if_pos h]
theorem xday1_row (v : S0) {i : Nat} (h : i < xn v) : tr0 (xday1 v) i = dy3 (xd v) (xdebt v (nI i)) (tr0 v i) := by
  unfold xday1 dy3
  split
  · rfl
  · exact xaud_row v h
theorem xday_row (v : S0) {i : Nat} (h : i < xn v) : tr0 (xday v) i = st3 (dy3 (xd v) (xdebt v (nI i)) (tr0 v i)) := by
  show tr0 (xeatN (xday1 v) (xn v)) i = _
  rw [xeatN_row, if_pos h, xday1_row v h]
/-! the reference -/
theorem mi_ne {i j w u : Nat} (h : i ≠ j) (hw : w < 3) (hu : u < 3) : mi i w ≠ mi j u := by unfold mi; omega
theorem mi_nw {i w u : Nat} (h : w ≠ u) : mi i w ≠ mi i u := by unfold mi; omega
theorem tr1_u0 (f : Nat → Int32) (j : Nat) (x : Int32) (i : Nat) : tr1 (upd f (mi j 0) x) i = if i = j then (x, f (mi j 1), f (mi j 2)) else tr1 f i := by
  unfold tr1
  by_cases h : i = j
  · subst h; rw [if_pos rfl, pk_us, upd_ne (mi_nw (by decide)), upd_ne (mi_nw (by decide))]
  · rw [if_neg h, upd_ne (mi_ne h (by omega) (by omega)), upd_ne (mi_ne h (by omega) (by omega)), upd_ne (mi_ne h (by omega) (by omega))]
theorem tr1_u1 (f : Nat → Int32) (j : Nat) (x : Int32) (i : Nat) : tr1 (upd f (mi j 1) x) i = if i = j then (f (mi j 0), x, f (mi j 2)) else tr1 f i := by
  unfold tr1
  by_cases h : i = j
  · subst h; rw [if_pos rfl, pk_us, upd_ne (mi_nw (by decide)), upd_ne (mi_nw (by decide))]
  · rw [if_neg h, upd_ne (mi_ne h (by omega) (by omega)), upd_ne (mi_ne h (by omega) (by omega)), upd_ne (mi_ne h (by omega) (by omega))]
theorem tr1_u2 (f : Nat → Int32) (j : Nat) (x : Int32) (i : Nat) : tr1 (upd f (mi j 2) x) i = if i = j then (f (mi j 0), f (mi j 1), x) else tr1 f i := by
  unfold tr1
  by_cases h : i = j
  · subst h; rw [if_pos rfl, pk_us, upd_ne (mi_nw (by decide)), upd_ne (mi_nw (by decide))]
  · rw [if_neg h, upd_ne (mi_ne h (by omega) (by omega)), upd_ne (mi_ne h (by omega) (by omega)), upd_ne (mi_ne h (by omega) (by omega))]
theorem tr1_lo (f : Nat → Int32) {k : Nat} (x : Int32) (i : Nat) (h : k < 4) : tr1 (upd f k x) i = tr1 f i := by
  unfold tr1
  rw [upd_ne (by unfold mi; omega), upd_ne (by unfold mi; omega), upd_ne (by unfold mi; omega)]
theorem rrow_row (f : Nat → Int32) (j i : Nat) : tr1 (rrow f j) i = if i = j then st3 (tr1 f j) else tr1 f i := by
  show tr1 (rrow f j) i = if i = j then stE (f (mi j 0)) (f (mi j 1)) (f (mi j 2)) else tr1 f i
  unfold rrow stE
  by_cases c : f (mi j 2) ≤ 0
  · rw [if_pos c, if_pos c]
    by_cases c2 : f (mi j 1) ≤ 0
    · rw [if_pos c2, if_pos c2, tr1_u0]
    · rw [if_neg c2, if_neg c2, tr1_u0]
      have e : rloss f j = (f (mi j 1) + 9) / 10 := by unfold rloss; rw [if_pos c]
      rw [e]
  · rw [if_neg c, if_neg c, tr1_u1, upd_ne (mi_nw (by decide)), upd_ne (mi_nw (by decide)), pk_us, tr1_u2]
    by_cases h : i = j
    · rw [if_pos h, if_pos h]
    · rw [if_neg h, if_neg h, if_neg h]
theorem rrowN_row (f : Nat → Int32) (N i : Nat) : tr1 (rrowN f N) i = if i < N then st3 (tr1 f i) else tr1 f i := by
  induction N generalizing i with
  | zero => rw [if_neg (Nat.not_lt_zero i)]; rfl
  | succ N ih =>
    show tr1 (rrow (rrowN f N) N) i = _
    rw [rrow_row]
    by_cases h : i = N
    · subst h; rw [if_pos rfl, if_pos (Nat.lt_succ_self i), ih, if_neg (Nat.lt_irrefl i)]
    · rw [if_neg h, ih]
      by_cases h2 : i < N
      · rw [if_pos h2, if_pos (by omega)]
      · rw [if_neg h2, if_neg (by omega)]
/-- the row of n members, k throws of members W with excesses X; arrears and luck within their bounds -/
def gd (f : Nat → Int32) (n k : Nat) (W X : Nat → Nat) : Prop :=
  n ≤ 8 ∧ rL f k W ∧ (∀ t, t < k → W t < n ∧ f (ti t 3) = nI (X t) ∧ X t ≤ 9) ∧ ∀ j, j < n → ∃ a b : Nat, f (mi j 1) = nI a ∧ a ≤ 99 ∧ f (mi j 0) = nI b ∧ b ≤ 100
def ds (W X : Nat → Nat) (j : Nat) : Nat → Nat
  | 0 => 0
  | t + 1 => ds W X j t + (if W t = j then 2 * X t else 0)
theorem dsum_le {W X : Nat → Nat} {j : Nat} : ∀ t, (∀ u, u < t → X u ≤ 9) → ds W X j t ≤ 18 * t := by
  intro t
  induction t with
  | zero => intro _; exact Nat.le_refl _
  | succ t ih =>
    intro h
    have h1 := ih (fun u hu => h u (by omega))
    have h2 := h t (Nat.lt_succ_self t)
    unfold ds
    split
    · omega
    · omega
theorem gd.ds_le {f : Nat → Int32} {n k : Nat} {W X : Nat → Nat} (h : gd f n k W X) {j t : Nat} (ht : t ≤ k) : ds W X j t ≤ 540 := by
  have h1 := dsum_le (W := W) (X := X) (j := j) t (fun u hu => (h.2.2.1 u (by omega)).2.2)
  have := h.2.1.2.1
  omega
theorem raddN_val {f : Nat → Int32} {n k : Nat} {W X : Nat → Nat} (h : gd f n k W X) {j : Nat} (hj : j < 8) : ∀ t, t ≤ k → raddN f (nI j) t = nI (ds W X j t) := by
  intro t
  induction t with
  | zero => intro _; rfl
  | succ t ih =>
    intro ht
    have h1 := h.2.1.2.2 t (by omega)
    have h2 := h.2.2.1 t (by omega)
    unfold raddN ds
    rw [ih (by omega), h1.1, h2.2.1]
    by_cases c : W t = j
    · rw [if_pos (congrArg nI c), if_pos c]
      show nI _ + nI 2 * nI _ = _
      rw [pk_mul, nI_add]
    · rw [if_neg (fun e => c ((nI_eq (by omega) (by omega)).mp e)), if_neg c]
      show nI _ + nI 0 = _
      rw [nI_add]
theorem raudN_hit {f : Nat → Int32} {n k : Nat} {W X : Nat → Nat} (h : gd f n k W X) {t : Nat} (ht : t ≤ k) {x : Nat} (hx : 28 ≤ x ∨ x < 4) : raudN f W t x = f x := raudN_hi f W t (fun u hu => (h.2.1.2.2 u (by omega)).2) x hx
theorem raudN_02 (f : Nat → Int32) (W : Nat → Nat) (j w : Nat) (hw : w = 0 ∨ w = 2) : ∀ t, raudN f W t (mi j w) = f (mi j w) := by
  intro t
  induction t with
  | zero => rfl
  | succ t ih => exact (upd_ne (by unfold mi; omega)).trans ih
theorem raudN_out {f : Nat → Int32} {n k : Nat} {W X : Nat → Nat} (h : gd f n k W X) {j : Nat} (hj : n ≤ j) : ∀ t, t ≤ k → raudN f W t (mi j 1) = f (mi j 1) := by
  intro t
  induction t with
  | zero => intro _; rfl
  | succ t ih =>
    intro ht
    have h1 := (h.2.2.1 t (by omega)).1
    exact (upd_ne (by unfold mi; omega)).trans (ih (by omega))
theorem imin_99 {a : Nat} (h : a < 2 ^ 31) : imin 99 (nI a) = nI (min 99 a) := imin_nI (a := 99) (by omega) h
theorem raudN_val {f : Nat → Int32} {n k : Nat} {W X : Nat → Nat} (h : gd f n k W X) {j a : Nat} (hj : j < n) (ha : f (mi j 1) = nI a) (ha9 : a ≤ 99) : ∀ t, t ≤ k → raudN f W t (mi j 1) = nI (min 99 (a + ds W X j t)) := by
  intro t
  induction t with
  | zero => intro _; show f (mi j 1) = _; rw [ha]; congr 1; show a = min 99 (a + 0); omega
  | succ t ih =>
    intro ht
    have h2 := h.2.2.1 t (by omega)
    have e3 : raudN f W t (ti t 3) = nI (X t) := (raudN_hit h (by omega) (by unfold ti; omega)).trans h2.2.1
    have hd := h.ds_le (j := j) (t := t) (by omega)
    unfold raudN ds
    by_cases c : W t = j
    · rw [c, pk_us, ih (by omega), e3, if_pos rfl]
      show imin 99 (nI _ + nI 2 * nI _) = _
      rw [pk_mul, nI_add, imin_99 (by omega)]
      congr 1; omega
    · rw [upd_ne (mi_ne (fun e => c e.symm) (by omega) (by omega)), ih (by omega), if_neg c]; rfl
theorem raud_x {f : Nat → Int32} {k : Nat} {W : Nat → Nat} (x : Nat) (h2 : x ≠ 2) (h3 : x ≠ 3) : raud f k W x = raudN f W k x := (upd_ne h2).trans (upd_ne h3)
theorem raud_row {f : Nat → Int32} {n k : Nat} {W X : Nat → Nat} (h : gd f n k W X) {j : Nat} (hj : j < n) : tr1 (raud f k W) j = au3 (raddN f (nI j) k) (tr1 f j) := by
  obtain ⟨a, b, ha, ha9, -, -⟩ := h.2.2.2 j hj
  have hn := h.1
  have hd := h.ds_le (j := j) (Nat.le_refl k)
  unfold tr1 au3
  rw [raud_x _ (by unfold mi; omega) (by unfold mi; omega), raud_x _ (by unfold mi; omega) (by unfold mi; omega), raud_x _ (by unfold mi; omega) (by unfold mi; omega), raudN_02 _ _ _ _ (Or.inl rfl), raudN_02 _ _ _ _ (Or.inr rfl), raudN_val h hj ha ha9 k (Nat.le_refl k), raddN_val h (by omega) k (Nat.le_refl k)]
  show (_, _, _) = (_, imin 99 (f (mi j 1) + _), _)
  rw [ha, nI_add, imin_99 (by omega)]
theorem raud_out {f : Nat → Int32} {n k : Nat} {W X : Nat → Nat} (h : gd f n k W X) {j : Nat} (hj : n ≤ j) : tr1 (raud f k W) j = tr1 f j := by
  unfold tr1
  rw [raud_x _ (by unfold mi; omega) (by unfold mi; omega), raud_x _ (by unfold mi; omega) (by unfold mi; omega), raud_x _ (by unfold mi; omega) (by unfold mi; omega), raudN_02 _ _ _ _ (Or.inl rfl), raudN_02 _ _ _ _ (Or.inr rfl), raudN_out h hj k (Nat.le_refl k)]
theorem raud_hi {f : Nat → Int32} {n k : Nat} {W X : Nat → Nat} (h : gd f n k W X) {x : Nat} (hx : 28 ≤ x ∨ x < 2) : raud f k W x = f x := (raud_x x (by omega) (by omega)).trans (raudN_hit h (Nat.le_refl k) (by omega))
theorem raud_2 {f : Nat → Int32} {n k : Nat} {W X : Nat → Nat} (h : gd f n k W X) : raud f k W 2 = f 2 + rfltN f k := by
  unfold raud
  rw [pk_us, upd_ne (by omega), raudN_hit h (Nat.le_refl k) (by omega)]
theorem raud_gd {f : Nat → Int32} {n k : Nat} {W X : Nat → Nat} (h : gd f n k W X) : gd (raud f k W) n 0 W X := by
  refine ⟨h.1, raud_L, fun t ht => absurd ht (Nat.not_lt_zero t), fun j hj => ?_⟩
  obtain ⟨a, b, ha, ha9, hb, hb1⟩ := h.2.2.2 j hj
  refine ⟨min 99 (a + ds W X j k), b, ?_, by omega, ?_, hb1⟩
  · rw [raud_x _ (by unfold mi; omega) (by unfold mi; omega)]; exact raudN_val h hj ha ha9 k (Nat.le_refl k)
  · rw [raud_x _ (by unfold mi; omega) (by unfold mi; omega), raudN_02 _ _ _ _ (Or.inl rfl)]; exact hb
theorem imax_sub {a b : Nat} (ha : a < 2 ^ 30) (hb : b < 2 ^ 30) : imax 0 (nI a - nI b) = nI (a - b) := by
  unfold imax
  rcases Nat.lt_or_ge b a with h | h
  · rw [pk_sub (Nat.le_of_lt h), if_pos (show (0 : Int32) < nI (a - b) from nI_lt (a := 0) (b := a - b) (by omega) (by omega))]
  · have e : a - b = 0 := by omega
    rw [e]
    rcases Nat.lt_or_ge a b with h2 | h2
    · have h3 := pk_sneg hb h2
      rw [if_neg (fun h4 => Int32.lt_irrefl (Int32.lt_trans h3 h4))]; rfl
    · obtain rfl : a = b := by omega
      rw [pk_sub (Nat.le_refl a), Nat.sub_self]
      split
      · rfl
      · rfl
theorem st3_bd {a b : Nat} (e : Int32) (ha : a ≤ 99) (hb : b ≤ 100) : ∃ a2 b2 : Nat, (st3 (nI b, nI a, e)).2.1 = nI a2 ∧ a2 ≤ 99 ∧ (st3 (nI b, nI a, e)).1 = nI b2 ∧ b2 ≤ 100 := by
  show ∃ a2 b2 : Nat, (stE (nI b) (nI a) e).2.1 = nI a2 ∧ a2 ≤ 99 ∧ (stE (nI b) (nI a) e).1 = nI b2 ∧ b2 ≤ 100
  unfold stE
  by_cases c : e ≤ 0
  · rw [if_pos c]
    by_cases c2 : nI a ≤ 0
    · rw [if_pos c2]
      refine ⟨a, min 100 (b + 1), rfl, ha, ?_, by omega⟩
      show imin (nI 100) (nI b + 1) = _
      rw [nI_1, imin_nI (by omega) (by omega)]
    · rw [if_neg c2]
      refine ⟨a, b - (a + 9) / 10, rfl, ha, ?_, by omega⟩
      show imax 0 (nI b - (nI a + nI 9) / nI 10) = _
      rw [nI_add, pk_div (by omega) (by omega) (by omega), imax_sub (by omega) (by omega)]
  · rw [if_neg c]
    refine ⟨a - 3, b, ?_, by omega, rfl, hb⟩
    show imax 0 (nI a - nI 3) = _
    exact imax_sub (by omega) (by omega)
theorem rrowN_gd {f : Nat → Int32} {n k : Nat} {W X : Nat → Nat} (h : gd f n k W X) : gd (rrowN f n) n k W X := by
  have hn := h.1
  refine ⟨hn, rrowN_L hn h.2.1, fun t ht => ⟨(h.2.2.1 t ht).1, (rrowN_hi (by unfold ti; omega) n hn).trans (h.2.2.1 t ht).2.1, (h.2.2.1 t ht).2.2⟩, fun j hj => ?_⟩
  obtain ⟨a, b, ha, ha9, hb, hb1⟩ := h.2.2.2 j hj
  have e := rrowN_row f n j
  rw [if_pos hj] at e
  obtain ⟨a2, b2, h1, h2, h3, h4⟩ := st3_bd (f (mi j 2)) ha9 hb1
  have e2 : st3 (tr1 f j) = st3 (nI b, nI a, f (mi j 2)) := by unfold tr1; rw [ha, hb]
  rw [e2] at e
  exact ⟨a2, b2, (congrArg (fun z : T3 => z.2.1) e).trans h1, h2, (congrArg (fun z : T3 => z.1) e).trans h3, h4⟩
theorem isA_0 (d : Int32) : isA d = 0 ↔ ¬ (d - d / 7 * 7 = 6) := by
  unfold isA
  split
  · exact ⟨fun h => absurd h (by decide), fun h => absurd ‹_› h⟩
  · exact ⟨fun _ => ‹_›, fun _ => rfl⟩
theorem rday1_gd {f : Nat → Int32} {n k : Nat} {W X : Nat → Nat} (h : gd f n k W X) : gd (rday1 f k W) n (kday f k) W X := by
  unfold rday1 kday
  by_cases c : f 0 - f 0 / 7 * 7 = 6
  · rw [if_pos c, if_pos c]; exact raud_gd h
  · rw [if_neg c, if_neg c]; exact h
theorem gd.lo {f : Nat → Int32} {n k : Nat} {W X : Nat → Nat} (h : gd f n k W X) {i : Nat} (x : Int32) (hi : i < 3) : gd (upd f i x) n k W X :=
  ⟨h.1, h.2.1.hi (fun z hz => upd_ne (by omega)), fun t ht => ⟨(h.2.2.1 t ht).1, (upd_ne (by unfold ti; omega)).trans (h.2.2.1 t ht).2.1, (h.2.2.1 t ht).2.2⟩, fun j hj => by
    rw [upd_ne (by unfold mi; omega), upd_ne (by unfold mi; omega)]; exact h.2.2.2 j hj⟩
theorem rday_gd {f : Nat → Int32} {n k : Nat} {W X : Nat → Nat} (h : gd f n k W X) : gd (rday f n k W) n (kday f k) W X := (rrowN_gd (rday1_gd h)).lo _ (by omega)
theorem rdp_gd {f : Nat → Int32} {n k : Nat} {W X : Nat → Nat} (h : gd f n k W X) (i : Nat) : gd (rdp f n k W i).1 n (rdp f n k W i).2 W X := by
  induction i with
  | zero => exact h
  | succ i ih => exact rday_gd ih
theorem rday1_row {f : Nat → Int32} {n k : Nat} {W X : Nat → Nat} (h : gd f n k W X) {j : Nat} (hj : j < n) : tr1 (rday1 f k W) j = dy3 (f 0) (raddN f (nI j) k) (tr1 f j) := by
  unfold rday1 dy3
  by_cases c : f 0 - f 0 / 7 * 7 = 6
  · rw [if_pos c, if_neg (fun e => (isA_0 _).mp e c)]; exact raud_row h hj
  · rw [if_neg c, if_pos ((isA_0 _).mpr c)]
theorem rday_row {f : Nat → Int32} {n k : Nat} {W X : Nat → Nat} (h : gd f n k W X) {j : Nat} (hj : j < n) : tr1 (rday f n k W) j = st3 (dy3 (f 0) (raddN f (nI j) k) (tr1 f j)) := by
  unfold rday
  rw [tr1_lo _ _ _ (by omega), rrowN_row, if_pos hj, rday1_row h hj]
theorem rday1_out {f : Nat → Int32} {n k : Nat} {W X : Nat → Nat} (h : gd f n k W X) {j : Nat} (hj : n ≤ j) : tr1 (rday1 f k W) j = tr1 f j := by
  unfold rday1
  split
  · exact raud_out h hj
  · rfl
theorem rday_out {f : Nat → Int32} {n k : Nat} {W X : Nat → Nat} (h : gd f n k W X) {j : Nat} (hj : n ≤ j) : tr1 (rday f n k W) j = tr1 f j := by
  unfold rday
  rw [tr1_lo _ _ _ (by omega), rrowN_row, if_neg (by omega), rday1_out h hj]
theorem rday1_hi {f : Nat → Int32} {n k : Nat} {W X : Nat → Nat} (h : gd f n k W X) {x : Nat} (hx : 28 ≤ x ∨ x < 2) : rday1 f k W x = f x := by
  unfold rday1
  split
  · exact raud_hi h hx
  · rfl
theorem rday_hi {f : Nat → Int32} {n k : Nat} {W X : Nat → Nat} (h : gd f n k W X) {x : Nat} (hx : 28 ≤ x ∨ x = 1) : rday f n k W x = f x := (upd_ne (by omega)).trans ((rrowN_hi (by omega) n h.1).trans (rday1_hi h (by omega)))
theorem rday_0 {f : Nat → Int32} {n k : Nat} {W X : Nat → Nat} (h : gd f n k W X) : rday f n k W 0 = f 0 + 1 := by
  unfold rday
  rw [pk_us, rrowN_hi (by omega) n h.1, rday1_hi h (by omega)]
theorem rday_2 {f : Nat → Int32} {n k : Nat} {W X : Nat → Nat} (h : gd f n k W X) : rday f n k W 2 = f 2 + rdayF f k := by
  unfold rday
  rw [upd_ne (by omega), rrowN_hi (by omega) n h.1]
  unfold rday1 rdayF
  split
  · exact raud_2 h
  · exact (Int32.add_zero _).symm
