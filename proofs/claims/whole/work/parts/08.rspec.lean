/-! the reference, as functions of its row of numbers -/
/-- places: of a member's number w, of a throw's number w -/
def mi (j w : Nat) : Nat := 4 + 3 * j + w
def ti (t w : Nat) : Nat := 28 + 4 * t + w
theorem z_mi (j w : Nat) : (4 + 3 * nI j) + nI w = nI (mi j w) := by
  show (nI 4 + nI 3 * nI j) + nI w = _
  rw [pk_mul, nI_add, nI_add]; rfl
theorem z_ti (t w : Nat) : (28 + 4 * nI t) + nI w = nI (ti t w) := by
  show (nI 28 + nI 4 * nI t) + nI w = _
  rw [pk_mul, nI_add, nI_add]; rfl
theorem z_ti2 {x : Int32} {k : Nat} (h : x = nI k) (w : Nat) : (28 + 4 * x) + nI w = nI (ti k w) := by rw [h]; exact z_ti k w
theorem mi_lt {j w : Nat} (h : j < 8) (hw : w < 3) : mi j w < 148 := by unfold mi; omega
theorem ti_lt {t w : Nat} (h : t < 30) (hw : w < 4) : ti t w < 148 := by unfold ti; omega
theorem upd_ne {f : Nat → Int32} {a b : Nat} {x : Int32} (h : b ≠ a) : upd f a x b = f b := pk_un h
theorem upd3m (f : Nat → Int32) (j w : Nat) (x : Int32) : upd f (mi j w) x 3 = f 3 := upd_ne (by unfold mi; omega)
theorem upd3t (f : Nat → Int32) (t w : Nat) (x : Int32) : upd f (ti t w) x 3 = f 3 := upd_ne (by unfold ti; omega)
theorem updtm (f : Nat → Int32) {j w : Nat} (x : Int32) (t u : Nat) (hj : j < 8) (hw : w < 3) : upd f (mi j w) x (ti t u) = f (ti t u) := upd_ne (by unfold mi ti; omega)
def isin (x lo hi : Int32) : Int32 := if x < lo then 0 else if hi < x then 0 else 1
theorem isin_01 (x lo hi : Int32) : isin x lo hi = 0 ∨ isin x lo hi = 1 := by unfold isin; split; exact Or.inl rfl; split; exact Or.inl rfl; exact Or.inr rfl
def rfltN (f : Nat → Int32) : Nat → Int32
  | 0 => 0
  | t + 1 => rfltN f t + (if f (ti t 3) ≤ 0 then 0 else 1)
def raudN (f : Nat → Int32) (W : Nat → Nat) : Nat → Nat → Int32
  | 0 => f
  | t + 1 => upd (raudN f W t) (mi (W t) 1) (imin 99 (raudN f W t (mi (W t) 1) + 2 * raudN f W t (ti t 3)))
def raud (f : Nat → Int32) (k : Nat) (W : Nat → Nat) : Nat → Int32 := upd (upd (raudN f W k) 3 0) 2 (upd (raudN f W k) 3 0 2 + rfltN f k)
def rloss (f : Nat → Int32) (j : Nat) : Int32 := if f (mi j 2) ≤ 0 then (f (mi j 1) + 9) / 10 else 0
def rrow (f : Nat → Int32) (j : Nat) : Nat → Int32 :=
  if f (mi j 2) ≤ 0 then (if f (mi j 1) ≤ 0 then upd f (mi j 0) (imin 100 (f (mi j 0) + 1)) else upd f (mi j 0) (imax 0 (f (mi j 0) - rloss f j)))
  else upd (upd f (mi j 2) (f (mi j 2) - 1)) (mi j 1) (imax 0 (upd f (mi j 2) (f (mi j 2) - 1) (mi j 1) - 3))
def rrowN (f : Nat → Int32) : Nat → Nat → Int32
  | 0 => f
  | i + 1 => rrow (rrowN f i) i
def rday1 (f : Nat → Int32) (k : Nat) (W : Nat → Nat) : Nat → Int32 := if f 0 - f 0 / 7 * 7 = 6 then raud f k W else f
def rdayF (f : Nat → Int32) (k : Nat) : Int32 := if f 0 - f 0 / 7 * 7 = 6 then rfltN f k else 0
def rday (f : Nat → Int32) (n k : Nat) (W : Nat → Nat) : Nat → Int32 := upd (rrowN (rday1 f k W) n) 0 (rrowN (rday1 f k W) n 0 + 1)
def kday (f : Nat → Int32) (k : Nat) : Nat := if f 0 - f 0 / 7 * 7 = 6 then 0 else k
def rdp (f : Nat → Int32) (n k : Nat) (W : Nat → Nat) : Nat → (Nat → Int32) × Nat
  | 0 => (f, k)
  | i + 1 => (rday (rdp f n k W i).1 n (rdp f n k W i).2 W, kday (rdp f n k W i).1 (rdp f n k W i).2)
def rdpF (f : Nat → Int32) (n k : Nat) (W : Nat → Nat) : Nat → Int32
  | 0 => 0
  | i + 1 => rdpF f n k W i + rdayF (rdp f n k W i).1 (rdp f n k W i).2
/-- the ledger of the row: k throws, each of a member that there is -/
def rL (f : Nat → Int32) (k : Nat) (W : Nat → Nat) : Prop := f 3 = nI k ∧ k ≤ 30 ∧ ∀ t, t < k → f (ti t 0) = nI (W t) ∧ W t < 8
theorem raudN_hi (f : Nat → Int32) (W : Nat → Nat) : ∀ t, (∀ u, u < t → W u < 8) → ∀ x, (28 ≤ x ∨ x < 4) → raudN f W t x = f x := by
  intro t
  induction t with
  | zero => intro _ x _; rfl
  | succ t ih =>
    intro h x hx
    have h8 := h t (Nat.lt_succ_self t)
    exact (upd_ne (by unfold mi; omega)).trans (ih (fun u hu => h u (by omega)) x hx)
theorem raudN_3 {f : Nat → Int32} {k : Nat} {W : Nat → Nat} (h : rL f k W) {i : Nat} (hi : i ≤ k) : rL (raudN f W i) k W := by
  have e : ∀ x, (28 ≤ x ∨ x < 4) → raudN f W i x = f x := raudN_hi f W i (fun u hu => (h.2.2 u (by omega)).2)
  exact ⟨(e 3 (by omega)).trans h.1, h.2.1, fun t ht => ⟨(e _ (by unfold ti; omega)).trans (h.2.2 t ht).1, (h.2.2 t ht).2⟩⟩
theorem raud_L {f : Nat → Int32} {k : Nat} {W : Nat → Nat} : rL (raud f k W) 0 W := ⟨rfl, by omega, fun t ht => by omega⟩
theorem rrow_hi {f : Nat → Int32} {j x : Nat} (hj : j < 8) (hx : 28 ≤ x ∨ x < 4) : rrow f j x = f x := by
  unfold rrow
  split
  · split
    · exact upd_ne (by unfold mi; omega)
    · exact upd_ne (by unfold mi; omega)
  · exact (upd_ne (by unfold mi; omega)).trans (upd_ne (by unfold mi; omega))
theorem rrowN_hi {f : Nat → Int32} {x : Nat} (hx : 28 ≤ x ∨ x < 4) : ∀ i, i ≤ 8 → rrowN f i x = f x := by
  intro i
  induction i with
  | zero => intro _; rfl
  | succ i ih => intro h; exact (rrow_hi (by omega) hx).trans (ih (by omega))
theorem rL.hi {f g : Nat → Int32} {k : Nat} {W : Nat → Nat} (h : rL f k W) (e : ∀ x, (28 ≤ x ∨ x = 3) → g x = f x) : rL g k W := ⟨(e 3 (by omega)).trans h.1, h.2.1, fun t ht => ⟨(e _ (by unfold ti; omega)).trans (h.2.2 t ht).1, (h.2.2 t ht).2⟩⟩
theorem rday1_L {f : Nat → Int32} {k : Nat} {W : Nat → Nat} (h : rL f k W) : rL (rday1 f k W) (kday f k) W := by
  unfold rday1 kday
  by_cases c : f 0 - f 0 / 7 * 7 = 6
  · rw [if_pos c, if_pos c]; exact raud_L
  · rw [if_neg c, if_neg c]; exact h
theorem rrowN_L {f : Nat → Int32} {k : Nat} {W : Nat → Nat} {i : Nat} (hi : i ≤ 8) (h : rL f k W) : rL (rrowN f i) k W := h.hi (fun _ hx => rrowN_hi (by omega) i hi)
theorem rday_L {f : Nat → Int32} {n k : Nat} {W : Nat → Nat} (hn : n ≤ 8) (h : rL f k W) : rL (rday f n k W) (kday f k) W := (rrowN_L hn (rday1_L h)).hi (fun x hx => upd_ne (by omega))
theorem rdp_L {f : Nat → Int32} {n k : Nat} {W : Nat → Nat} (hn : n ≤ 8) (h : rL f k W) (i : Nat) : rL (rdp f n k W i).1 (rdp f n k W i).2 W := by
  induction i with
  | zero => exact h
  | succ i ih => exact rday_L hn ih
theorem kday_le (f : Nat → Int32) (k : Nat) : kday f k ≤ k := by unfold kday; split; exact Nat.zero_le _; exact Nat.le_refl _
def rcE (f : Nat → Int32) (j : Nat) (b g : Int32) : Int32 := if b = 0 then g else imax 0 (g - f (mi j 1))
def rc1 (f : Nat → Int32) (j : Nat) (b g : Int32) : Nat → Int32 := if b = 0 then f else upd f (mi j 1) (imax 0 (f (mi j 1) - g))
def rc2 (f : Nat → Int32) (j : Nat) (b g : Int32) : Nat → Int32 := upd (rc1 f j b g) 1 (rc1 f j b g 1 - g)
def rcast (f : Nat → Int32) (k j : Nat) (b g : Int32) : Nat → Int32 :=
  upd (upd (upd (upd (upd (rc2 f j b g) (ti k 0) (nI j)) (ti k 1) (if b = 0 then 0 else 1)) (ti k 2) g) (ti k 3) (rcE f j b g)) 3 (nI (k + 1))
theorem rc1_3 (f : Nat → Int32) (j : Nat) (b g : Int32) : rc1 f j b g 3 = f 3 := by unfold rc1; split; rfl; exact upd3m _ _ _ _
/-- the members' best, as the reference has it -/
def rbN (f : Nat → Int32) : Nat → Int32
  | 0 => -1
  | i + 1 => if rbN f i = -1 then nI i else if f (mi i 0) ≤ f (mi (rbN f i).toNatClampNeg 0) then rbN f i else nI i
theorem rbN_or (f : Nat → Int32) : ∀ i, i < 2 ^ 31 → rbN f i = -1 ∨ ∃ b, b < i ∧ rbN f i = nI b := by
  intro i
  induction i with
  | zero => intro _; exact Or.inl rfl
  | succ i ih =>
    intro h
    right
    unfold rbN
    by_cases c : rbN f i = -1
    · rw [if_pos c]; exact ⟨i, Nat.lt_succ_self i, rfl⟩
    · rw [if_neg c]
      obtain ⟨b, hb, e⟩ := (ih (by omega)).resolve_left c
      split
      · exact ⟨b, by omega, e⟩
      · exact ⟨i, Nat.lt_succ_self i, rfl⟩
def raddN (f : Nat → Int32) (j : Int32) : Nat → Int32
  | 0 => 0
  | t + 1 => raddN f j t + (if f (ti t 0) = j then 2 * f (ti t 3) else 0)
def rowS (f : Nat → Int32) (w : Nat) : Nat → Int32
  | 0 => 0
  | i + 1 => rowS f w i + f (mi i w)
def rclr (f : Nat → Int32) : Nat → Int32
  | 0 => 0
  | i + 1 => rclr f i + (if f (mi i 1) = 0 then 1 else 0)
/-- by fuel: the first day, from day i on, on which number w of member j is not above 0; 61 at the most -/
def runN (f : Nat → Int32) (n k : Nat) (W : Nat → Nat) (j w i : Nat) : Nat → Nat
  | 0 => i
  | d + 1 => if (rdp f n k W i).1 (mi j w) ≤ 0 then i else runN f n k W j w (i + 1) d
def rback (v : S1) : S1 := vf v (va_cpy (rk v) (rf v) 0 0 148)
def rkeep (v : S1) : S1 := vk v (va_cpy (rf v) (rk v) 0 0 148)
def runS (v : S1) (k : Nat) (W : Nat → Nat) (j w : Nat) : S1 := rback (vf (rkeep v) (rdp (rf v) (rn v) k W (runN (rf v) (rn v) k W j w 0 61)).1)
def runR (v : S1) (k : Nat) (W : Nat → Nat) (j w : Nat) : Int32 := if nI (runN (rf v) (rn v) k W j w 0 61) ≤ 60 then nI (runN (rf v) (rn v) k W j w 0 61) else -1
theorem cpy_in {f g : Nat → Int32} {x : Nat} (h : x < 148) : va_cpy f g 0 0 148 x = f x := by
  rw [pk_cpy_in (by omega) (by omega)]; congr 1; omega
theorem rL.cpy {f g : Nat → Int32} {k : Nat} {W : Nat → Nat} (h : rL f k W) : rL (va_cpy f g 0 0 148) k W := ⟨(cpy_in (by omega)).trans h.1, h.2.1, fun t ht => ⟨(cpy_in (ti_lt (by have := h.2.1; omega) (by omega))).trans (h.2.2 t ht).1, (h.2.2 t ht).2⟩⟩
/-- one look ahead of the pinch: a throw of i grains (none of 0), then 14 days; the row then -/
def rpf (n k : Nat) (W : Nat → Nat) (j : Nat) (f : Nat → Int32) (i : Nat) : Nat → Int32 :=
  if nI i ≤ 0 then (rdp f n k W 14).1 else (rdp (rcast f k j 1 (nI i)) n (k + 1) (fun t => if t = k then j else W t) 14).1
def rpe (n k : Nat) (W : Nat → Nat) (j : Nat) (f : Nat → Int32) (i : Nat) : Nat → Int32 :=
  (rdp (upd f (mi j 2) (imin 9 (f (mi j 2) + nI i))) n k W 20).1
/-- the loop of pinch or penance: best, its luck, the state; z the look ahead of a row -/
def rlo (z : (Nat → Int32) → Nat → Nat → Int32) (v : S1) (j : Nat) : Nat → Int32 × Int32 × S1
  | 0 => (0, -1, v)
  | i + 1 => if (rlo z v j i).2.1 < z (rf (rlo z v j i).2.2) i (mi j 0) then (nI i, z (rf (rlo z v j i).2.2) i (mi j 0), rback (vf (rlo z v j i).2.2 (z (rf (rlo z v j i).2.2) i)))
    else ((rlo z v j i).1, (rlo z v j i).2.1, rback (vf (rlo z v j i).2.2 (z (rf (rlo z v j i).2.2) i)))
theorem rlo_pos {z : (Nat → Int32) → Nat → Nat → Int32} {v : S1} {j i : Nat} {g : Nat → Int32} (e : z (rf (rlo z v j i).2.2) i = g) (c : (rlo z v j i).2.1 < g (mi j 0)) : rlo z v j (i + 1) = (nI i, g (mi j 0), rback (vf (rlo z v j i).2.2 g)) := by subst e; exact if_pos c
theorem rlo_neg {z : (Nat → Int32) → Nat → Nat → Int32} {v : S1} {j i : Nat} {g : Nat → Int32} (e : z (rf (rlo z v j i).2.2) i = g) (c : ¬ (rlo z v j i).2.1 < g (mi j 0)) : rlo z v j (i + 1) = ((rlo z v j i).1, (rlo z v j i).2.1, rback (vf (rlo z v j i).2.2 g)) := by subst e; exact if_neg c
theorem rlo_S (z : (Nat → Int32) → Nat → Nat → Int32) (v : S1) (j i : Nat) : (rlo z v j (i + 1)).2.2 = rback (vf (rlo z v j i).2.2 (z (rf (rlo z v j i).2.2) i)) := by
  by_cases c : (rlo z v j i).2.1 < z (rf (rlo z v j i).2.2) i (mi j 0)
  · rw [rlo_pos rfl c]
  · rw [rlo_neg rfl c]
theorem rlo_n (z : (Nat → Int32) → Nat → Nat → Int32) (v : S1) (j i : Nat) : rn (rlo z v j i).2.2 = rn v := by
  induction i with
  | zero => rfl
  | succ i ih => rw [rlo_S]; exact ih
theorem rlo_k (z : (Nat → Int32) → Nat → Nat → Int32) (v : S1) (j i : Nat) : rk (rlo z v j i).2.2 = rk v := by
  induction i with
  | zero => rfl
  | succ i ih => rw [rlo_S]; exact ih
theorem rlo_t (z : (Nat → Int32) → Nat → Nat → Int32) (v : S1) (j i : Nat) : rt (rlo z v j i).2.2 = rt v := by
  induction i with
  | zero => rfl
  | succ i ih => rw [rlo_S]; exact ih
theorem rlo_f (z : (Nat → Int32) → Nat → Nat → Int32) (v : S1) (j i : Nat) {x : Nat} (hx : x < 148) : rf (rlo z (rkeep v) j i).2.2 x = rf v x := by
  cases i with
  | zero => rfl
  | succ i =>
    rw [rlo_S]
    show va_cpy (rk (rlo z (rkeep v) j i).2.2) _ 0 0 148 x = _
    rw [cpy_in hx, rlo_k]
    exact cpy_in hx
theorem rlo_L {z : (Nat → Int32) → Nat → Nat → Int32} {v : S1} {k : Nat} {W : Nat → Nat} (h : rL (rf v) k W) (j i : Nat) : rL (rf (rlo z (rkeep v) j i).2.2) k W :=
  ⟨(rlo_f z v j i (by omega)).trans h.1, h.2.1, fun t ht => ⟨(rlo_f z v j i (ti_lt (by have := h.2.1; omega) (by omega))).trans (h.2.2 t ht).1, (h.2.2 t ht).2⟩⟩
def rpl (v : S1) (k : Nat) (W : Nat → Nat) (j i : Nat) : Int32 × Int32 × S1 := rlo (rpf (rn v) k W j) (rkeep v) j i
def rpm (v : S1) (k : Nat) (W : Nat → Nat) (j i : Nat) : Int32 × Int32 × S1 := rlo (rpe (rn v) k W j) (rkeep v) j i
theorem rpl_pos {v : S1} {k : Nat} {W : Nat → Nat} {j i : Nat} {g : Nat → Int32} (e : rpf (rn v) k W j (rf (rpl v k W j i).2.2) i = g) (c : (rpl v k W j i).2.1 < g (mi j 0)) : rpl v k W j (i + 1) = (nI i, g (mi j 0), rback (vf (rpl v k W j i).2.2 g)) := by unfold rpl at e c ⊢; exact rlo_pos e c
theorem rpl_neg {v : S1} {k : Nat} {W : Nat → Nat} {j i : Nat} {g : Nat → Int32} (e : rpf (rn v) k W j (rf (rpl v k W j i).2.2) i = g) (c : ¬ (rpl v k W j i).2.1 < g (mi j 0)) : rpl v k W j (i + 1) = ((rpl v k W j i).1, (rpl v k W j i).2.1, rback (vf (rpl v k W j i).2.2 g)) := by unfold rpl at e c ⊢; exact rlo_neg e c
theorem rpm_pos {v : S1} {k : Nat} {W : Nat → Nat} {j i : Nat} {g : Nat → Int32} (e : rpe (rn v) k W j (rf (rpm v k W j i).2.2) i = g) (c : (rpm v k W j i).2.1 < g (mi j 0)) : rpm v k W j (i + 1) = (nI i, g (mi j 0), rback (vf (rpm v k W j i).2.2 g)) := by unfold rpm at e c ⊢; exact rlo_pos e c
theorem rpm_neg {v : S1} {k : Nat} {W : Nat → Nat} {j i : Nat} {g : Nat → Int32} (e : rpe (rn v) k W j (rf (rpm v k W j i).2.2) i = g) (c : ¬ (rpm v k W j i).2.1 < g (mi j 0)) : rpm v k W j (i + 1) = ((rpm v k W j i).1, (rpm v k W j i).2.1, rback (vf (rpm v k W j i).2.2 g)) := by unfold rpm at e c ⊢; exact rlo_neg e c
theorem rpl_n (v : S1) (k : Nat) (W : Nat → Nat) (j i : Nat) : rn (rpl v k W j i).2.2 = rn v := rlo_n _ _ _ _
theorem rpm_n (v : S1) (k : Nat) (W : Nat → Nat) (j i : Nat) : rn (rpm v k W j i).2.2 = rn v := rlo_n _ _ _ _
def rpin (v : S1) (k : Nat) (W : Nat → Nat) (j c : Nat) : S1 := if nI k = 30 then v else (rpl v k W j (min 9 c + 1)).2.2
def rpinR (v : S1) (k : Nat) (W : Nat → Nat) (j c : Nat) : Int32 := if nI k = 30 then 0 else (rpl v k W j (min 9 c + 1)).1
def rpen (v : S1) (k : Nat) (W : Nat → Nat) (j : Nat) : S1 := (rpm v k W j 10).2.2
def rpenR (v : S1) (k : Nat) (W : Nat → Nat) (j : Nat) : Int32 := (rpm v k W j 10).1
theorem rpin_L {v : S1} {k : Nat} {W : Nat → Nat} (h : rL (rf v) k W) (j c : Nat) : rL (rf (rpin v k W j c)) k W := by
  unfold rpin
  split
  · exact h
  · exact rlo_L h j _
theorem rpen_L {v : S1} {k : Nat} {W : Nat → Nat} (h : rL (rf v) k W) (j : Nat) : rL (rf (rpen v k W j)) k W := rlo_L h j _
theorem rpin_n (v : S1) (k : Nat) (W : Nat → Nat) (j c : Nat) : rn (rpin v k W j c) = rn v := by
  unfold rpin
  split
  · rfl
  · exact rpl_n _ _ _ _ _
theorem rpen_n (v : S1) (k : Nat) (W : Nat → Nat) (j : Nat) : rn (rpen v k W j) = rn v := rpm_n _ _ _ _ _
theorem rpin_f (v : S1) (k : Nat) (W : Nat → Nat) (j c : Nat) {x : Nat} (hx : x < 148) : rf (rpin v k W j c) x = rf v x := by
  unfold rpin
  split
  · rfl
  · exact rlo_f _ _ _ _ hx
theorem rpen_f (v : S1) (k : Nat) (W : Nat → Nat) (j : Nat) {x : Nat} (hx : x < 148) : rf (rpen v k W j) x = rf v x := rlo_f _ _ _ _ hx
def rmemD (v : S1) (k : Nat) (W : Nat → Nat) (c : Nat) (d : Int64) (j : Nat) : Int64 := mixd (mixd (mixd (mixd (mixd (mixd (mixd d (rf v (mi j 0))) (rf v (mi j 1))) (rf v (mi j 2))) (rloss (rf v) j)) (raddN (rf v) (nI j) k)) (rpinR v k W j c)) (rpenR (rpin v k W j c) k W j)
def rmem (v : S1) (k : Nat) (W : Nat → Nat) (c : Nat) (j : Nat) : S1 := rpen (rpin v k W j c) k W j
def rmemN (v : S1) (k : Nat) (W : Nat → Nat) (c : Nat) : Nat → S1
  | 0 => v
  | i + 1 => rmem (rmemN v k W c i) k W c i
def rmemDN (v : S1) (k : Nat) (W : Nat → Nat) (c : Nat) (d : Int64) : Nat → Int64
  | 0 => d
  | i + 1 => rmemD (rmemN v k W c i) k W c (rmemDN v k W c d i) i
theorem rmemN_n (v : S1) (k : Nat) (W : Nat → Nat) (c i : Nat) : rn (rmemN v k W c i) = rn v := by
  induction i with
  | zero => rfl
  | succ i ih => unfold rmemN rmem; rw [rpen_n, rpin_n]; exact ih
theorem rmemN_f (v : S1) (k : Nat) (W : Nat → Nat) (c i : Nat) {x : Nat} (hx : x < 148) : rf (rmemN v k W c i) x = rf v x := by
  induction i with
  | zero => rfl
  | succ i ih => unfold rmemN rmem; rw [rpen_f _ _ _ _ hx, rpin_f _ _ _ _ _ hx]; exact ih
theorem rmemN_L {v : S1} {k : Nat} {W : Nat → Nat} (h : rL (rf v) k W) (c i : Nat) : rL (rf (rmemN v k W c i)) k W := by
  induction i with
  | zero => exact h
  | succ i ih => unfold rmemN rmem; exact rpen_L (rpin_L ih _ _) _
def rthD4 (f : Nat → Int32) (t : Nat) (d : Int64) : Nat → Int64
  | 0 => d
  | w + 1 => mixd (rthD4 f t d w) (f (ti t w))
def rthDN (f : Nat → Int32) (d : Int64) : Nat → Int64
  | 0 => d
  | i + 1 => rthD4 f i (rthDN f d i) 4
def rdig8 (v : S1) (k : Nat) : Int64 := mixd (mixd (mixd (mixd (mixd (mixd (mixd (mixd 2011 (rf v 0)) (nI (rn v))) (rf v 1)) (rf v 3)) (rfltN (rf v) k)) (rf v 2)) (rbN (rf v) (rn v))) (rowS (rf v) 1 (rn v))
def rdig (v : S1) (k : Nat) (W : Nat → Nat) (c : Nat) : S1 := rmemN (vt v 0) k W c (rn v)
def rdigR (v : S1) (k : Nat) (W : Nat → Nat) (c : Nat) : Int64 := rthDN (rf (rdig v k W c)) (rmemDN (vt v 0) k W c (rdig8 v k) (rn v)) k
def rmean (v : S1) : UInt64 := if nI (rn v) = 0 then 0 else FP.ddiv (FP.i2d (rowS (rf v) 0 (rn v))) (FP.i2d (nI (rn v)))
theorem isin_r {a lo hi : Nat} (h1 : lo ≤ a) (h2 : a ≤ hi) (h : hi < 2 ^ 31) : isin (nI a) (nI lo) (nI hi) = 1 := by
  unfold isin
  rw [if_neg (nI_nlt h1 (by omega)), if_neg (nI_nlt h2 h)]
theorem isin_m {j n : Nat} (h : j < n) (hn : n ≤ 30) : isin (nI j) 0 (nI n - 1) = 1 := by
  have e : nI n - nI 1 = nI (n - 1) := pk_sub (a := n) (b := 1) (by omega)
  rw [show nI n - 1 = nI n - nI 1 from rfl, e]
  exact isin_r (lo := 0) (by omega) (by omega) (by omega)
theorem rcast_L {f : Nat → Int32} {k : Nat} {W : Nat → Nat} {j : Nat} {b g : Int32} (h : rL f k W) (hj : j < 8) (hk : k < 30) : rL (rcast f k j b g) (k + 1) (fun t => if t = k then j else W t) := by
  have e1 : ∀ x, 28 ≤ x → rc2 f j b g x = f x := by
    intro x hx
    unfold rc2 rc1
    split
    · exact upd_ne (by omega)
    · exact (upd_ne (by omega)).trans (upd_ne (by unfold mi; omega))
  refine ⟨pk_us, by omega, fun t ht => ?_⟩
  by_cases c : t = k
  · subst c
    show rcast f t j b g (ti t 0) = nI (if t = t then j else W t) ∧ (if t = t then j else W t) < 8
    rw [if_pos rfl]
    refine ⟨?_, hj⟩
    unfold rcast
    rw [upd_ne (by unfold ti; omega), upd_ne (by unfold ti; omega), upd_ne (by unfold ti; omega), upd_ne (by unfold ti; omega)]
    exact pk_us
  · show rcast f k j b g (ti t 0) = nI (if t = k then j else W t) ∧ (if t = k then j else W t) < 8
    rw [if_neg c]
    refine ⟨?_, (h.2.2 t (by omega)).2⟩
    unfold rcast
    rw [upd_ne (by unfold ti; omega), upd_ne (by unfold ti; omega), upd_ne (by unfold ti; omega), upd_ne (by unfold ti; omega), upd_ne (by unfold ti; omega), e1 _ (by unfold ti; omega)]
    exact (h.2.2 t (by omega)).1
def rjoin (v : S1) : S1 := (0, rn v + 1, upd (rf v) (mi (rn v) 0) 50, rk v)
def rspF (f : Nat → Int32) (j c g : Nat) : Nat → Int32 := upd (upd f 1 (nI (c - g))) (mi j 1) (imin 99 (upd f 1 (nI (c - g)) (mi j 1) + nI g))
def rspill (v : S1) (j c g : Nat) : S1 := (0, rn v, rspF (rf v) j c g, rk v)
theorem runN_dn {f : Nat → Int32} {n k : Nat} {W : Nat → Nat} {j w i : Nat} : ∀ d, i ≤ runN f n k W j w i d ∧ runN f n k W j w i d ≤ i + d := by
  intro d
  induction d generalizing i with
  | zero => exact ⟨Nat.le_refl _, Nat.le_refl _⟩
  | succ d ih =>
    unfold runN
    split
    · exact ⟨Nat.le_refl _, by omega⟩
    · have := ih (i := i + 1); omega
