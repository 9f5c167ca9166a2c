/-! the simulation's constructor; a table with one row more -/
theorem refs_0 {g : Nat → Nat} : refs 0 g = fun _ => none := funext (fun i => if_neg (Nat.not_lt_zero i))
theorem refs_up {i : Nat} {g : Nat → Nat} : va_up (refs i g) i (some (g i)) = refs (i + 1) g := by
  funext k
  unfold va_up refs
  by_cases h : k = i
  · rw [if_pos h, if_pos (by omega), h]
  · rw [if_neg h]
    by_cases h2 : k < i
    · rw [if_pos h2, if_pos (by omega)]
    · rw [if_neg h2, if_neg (by omega)]
theorem refs_snoc {n q : Nat} {g : Nat → Nat} : va_up (refs n g) n (some q) = refs (n + 1) (snoc n g q) := by
  funext k
  unfold va_up refs
  by_cases h : k = n
  · rw [if_pos h, if_pos (by omega), h, snoc_n]
  · rw [if_neg h]
    by_cases h2 : k < n
    · rw [if_pos h2, if_pos (by omega), snoc_lt h2]
    · rw [if_neg h2, if_neg (by omega)]
set_option maxHeartbeats 4000000 in
set_option maxRecDepth 100000 in
theorem c_X1_init (l : Launch) (D : va_G) (cI cP : ClassId) (b : Nat) : zMX l yX1_init wsX1_init 1 13 2 0 [.ref b] [(cI, .int), (cP, .array .int)] D [(b, .inr (1, [.int 0, .int 0, .int 0, .null, .null]))] zAA (fun G : AG => gO G = b) (fun _ => none) (fun G => wS G cI cP x00) := by
  refine z_metX (cc := cX1_init) (maxL := 1) (ret := none) (by decide) rfl (Nat.le_of_ble_eq_true rfl) ?_
  intro p e s m args below meth c A hAw hAA C hr hlocks
  have ins : ∀ w ∈ u_ws RX1 TX1 5, w ∈ wsX1_init := by decide +kernel
  have wa : Cond.classLink RX1 13 "[I" ∈ wsX1_init := by decide +kernel
  refine z_sub (L' := [(0, .ref b)]) [0] rfl ?_
  refine z_aload_n C 0 dX1_init_0 rfl rfl ?_
  refine z_objInit C (by decide +kernel : Cond.methodLink RX1 1 Lib.objectInit ∈ wsX1_init) (by decide +kernel) (by decide +kernel) (Nat.le_of_ble_eq_true rfl) (Nat.le_of_ble_eq_true rfl) dX1_init_1 ?_
  refine z_aload_n C 0 dX1_init_4 rfl rfl ?_
  refine z_bipush (v := nI 100) C dX1_init_5 (by decide) ?_
  refine z_put1 (ws' := ([(b, .inr (1, [.int 0, .int (nI 100), .int 0, .null, .null]))] : va_W)) C ins 0 1 (by decide) rfl rfl (by decide) rfl (by decide +kernel : Cond.fieldLink RX1 7 "SaltOrderLaw$Sim" "salt" "I" ∈ wsX1_init) dX1_init_7 ?_
  refine z_aload_n C 0 dX1_init_10 rfl rfl ?_
  refine z_iconst (v := nI 0) C dX1_init_11 (by decide) ?_
  refine z_anew (N := 0) C hAA 1 rfl wa (by decide) (by decide) (by decide) (Nat.le_of_ble_eq_true rfl) (Nat.le_of_ble_eq_true rfl) dX1_init_12 (fun q1 => ?_)
  refine z_putr1 (ws' := ([(b, .inr (1, [.int 0, .int (nI 100), .int 0, .ref q1, .null]))] ++ [(q1, .inl (cP, 0, .inr (.inr (.inr (.inr (fun _ => none))))))] : va_W)) C ins 0 3 (by decide) rfl rfl (by decide) rfl (by decide +kernel : Cond.fieldLink RX1 15 "SaltOrderLaw$Sim" "members" "[[I" ∈ wsX1_init) dX1_init_15 ?_
  refine z_aload_n C 0 dX1_init_18 rfl rfl ?_
  refine z_iconst (v := nI 0) C dX1_init_19 (by decide) ?_
  refine z_anew (N := 0) C hAA 1 rfl wa (by decide) (by decide) (by decide) (Nat.le_of_ble_eq_true rfl) (Nat.le_of_ble_eq_true rfl) dX1_init_20 (fun q2 => ?_)
  refine z_putr1 (ws' := ([(b, .inr (1, [.int 0, .int (nI 100), .int 0, .ref q1, .ref q2]))] ++ [(q1, .inl (cP, 0, .inr (.inr (.inr (.inr (fun _ => none))))))] ++ [(q2, .inl (cP, 0, .inr (.inr (.inr (.inr (fun _ => none))))))] : va_W)) C ins 0 4 (by decide) rfl rfl (by decide) rfl (by decide +kernel : Cond.fieldLink RX1 19 "SaltOrderLaw$Sim" "ledger" "[[I" ∈ wsX1_init) dX1_init_23 ?_
  rw [← refs_0 (g := fun _ => 0)]
  exact z_vretX C ((b, q1, q2, fun _ => 0, fun _ => 0) : AG) (by rfl) hr hlocks (Nat.le_of_ble_eq_true rfl) (Nat.le_of_ble_eq_true rfl) dX1_init_26 (by rfl) (by rfl)
set_option maxHeartbeats 4000000 in
set_option maxRecDepth 100000 in
theorem c_X1_with (l : Launch) (D : va_G) (cI cP : ClassId) {n c0 a q : Nat} {g : Nat → Nat} {r : Nat → Nat → Int32} {x : Nat → Int32} (hn : n ≤ 40) : zMX l yX1_with wsX1_with 0 0 1 41 [.ref a, .ref q] [(cI, .int), (cP, .array .int)] D (wT a cP cI n c0 g r ++ [(q, .inl (cI, c0, .inl x))]) zAA (fun _ : Nat => True) (fun b => some (.ref b)) (fun b => wT b cP cI (n + 1) c0 (snoc n g q) (snoc n r x)) := by
  refine z_metX (cc := cX1_with) (maxL := 4) (ret := (some (.array (.array .int)))) (by decide) rfl (Nat.le_of_ble_eq_true rfl) ?_
  intro p e s m args below meth c A hAw hAA C hr hlocks
  have wa : Cond.classLink RX1 13 "[I" ∈ wsX1_with := by decide +kernel
  refine z_sub (L' := [(0, .ref a), (1, .ref q)]) [0, 1] rfl ?_
  refine z_aload_n C 0 dX1_with_0 rfl rfl ?_
  refine z_alen (v := nI n) C 0 1 rfl rfl rfl dX1_with_1 ?_
  refine z_iconst (v := 1) C dX1_with_2 (by decide) ?_
  refine z_iadd C dX1_with_3 ?_
  refine z_top (y := nI (n + 1)) (z_1 _) ?_
  refine z_anew (N := n + 1) C hAA 1 rfl wa (nI_pos (by omega)) (nI_clamp (by omega)) (by omega) (by show _ ≤ 1; omega) (by show _ ≤ 41; omega) dX1_with_4 (fun b => ?_)
  rw [← refs_0 (g := g)]
  refine z_astore_n (L' := [(2, .ref b), (0, .ref a), (1, .ref q)]) C dX1_with_7 rfl (by decide) rfl ?_
  refine z_iconst (v := nI 0) C dX1_with_8 (by decide) ?_
  refine z_istore_n (L' := [(3, .int (nI 0)), (2, .ref b), (0, .ref a), (1, .ref q)]) C dX1_with_9 rfl (by decide) rfl ?_
  have lp : ∀ dd i : Nat, i + dd = n → zG p l e ({ frames := 0, cells := 1, slots := 41, locals := 0 } : Room) s m args below meth c D 4 A (0 + 1) (0 + (n + 1)) (MQ below (zQX (fun _ : Nat => True) (fun b => some (.ref b)) (fun b => wT b cP cI (n + 1) c0 (snoc n g q) (snoc n r x)) D A) args s 1 41 A) 10 [(3, .int (nI i)), (2, .ref b), (0, .ref a), (1, .ref q)] [] ((wT a cP cI n c0 g r ++ [(q, .inl (cI, c0, .inl x))] : va_W) ++ [(b, .inl (cP, n + 1, .inr (.inr (.inr (.inr (refs i g))))))]) := by
    intro dd
    induction dd with
    | zero =>
      intro i hi
      obtain rfl : n = i := by omega
      refine z_iload_n C 0 dX1_with_10 rfl rfl ?_
      refine z_aload_n C 2 dX1_with_11 rfl rfl ?_
      refine z_alen (v := nI n) C 0 1 rfl rfl rfl dX1_with_12 ?_
      refine z_icmp_ge (tgt := 28) C dX1_with_13 (by decide) (fun _ => ?_) (fun h9 => absurd (nI_le (by omega) (by omega)) h9)
      refine z_aload_n C 1 dX1_with_28 rfl rfl ?_
      refine z_aload_n C 2 dX1_with_29 rfl rfl ?_
      refine z_alen (v := nI n) C 0 1 rfl rfl rfl dX1_with_30 ?_
      refine z_aload_n C 3 dX1_with_31 rfl rfl ?_
      refine z_aast (n := n + 1) (ws' := ((wT a cP cI n c0 g r ++ [(q, .inl (cI, c0, .inl x))] : va_W) ++ [(b, .inl (cP, n + 1, .inr (.inr (.inr (.inr (refs (n + 1) (snoc n g q)))))))])) C hAA ((wT a cP cI n c0 g r ++ [(q, .inl (cI, c0, .inl x))] : va_W).length + 0) ((wT a cP cI n c0 g r).length + 0) 0 1 (by exact z_apr rfl) rfl rfl (by exact z_apl (z_apr rfl)) n rfl (by omega) (by omega) (by rw [z_str, refs_snoc]; rfl) dX1_with_32 ?_
      refine z_aload_n C 1 dX1_with_33 rfl rfl ?_
      refine z_swap (a := []) (b := wT a cP cI n c0 g r ++ [(q, .inl (cI, c0, .inl x))]) (d := [(b, .inl (cP, n + 1, .inr (.inr (.inr (.inr (refs (n + 1) (snoc n g q)))))))]) ?_
      refine z_dropM (a := [(b, .inl (cP, n + 1, .inr (.inr (.inr (.inr (refs (n + 1) (snoc n g q)))))))]) (b := [(a, .inl (cP, n, .inr (.inr (.inr (.inr (refs n g))))))]) (d := wR cI n c0 g r ++ [(q, .inl (cI, c0, .inl x))]) ?_
      exact z_aretX C b trivial hr (Or.inr ⟨_, rfl⟩) hlocks (by show _ ≤ 1; omega) (by show _ ≤ 41; omega) dX1_with_34 rfl (by rw [wR_snoc]; rfl)
    | succ dd ih =>
      intro i hi
      refine z_iload_n C 0 dX1_with_10 rfl rfl ?_
      refine z_aload_n C 2 dX1_with_11 rfl rfl ?_
      refine z_alen (v := nI n) C 0 1 rfl rfl rfl dX1_with_12 ?_
      refine z_icmp_ge (tgt := 28) C dX1_with_13 (by decide) (fun h9 => absurd h9 (nI_ge (by omega) (by omega))) (fun _ => ?_)
      refine z_aload_n C 1 dX1_with_16 rfl rfl ?_
      refine z_iload_n C 0 dX1_with_17 rfl rfl ?_
      refine z_aload_n C 2 dX1_with_18 rfl rfl ?_
      refine z_iload_n C 0 dX1_with_19 rfl rfl ?_
      refine z_aald (b := g i) C 0 1 rfl rfl i rfl (by omega) (by omega) (if_pos (by omega)) dX1_with_20 ?_
      refine z_aast (n := n + 1) (ws' := ((wT a cP cI n c0 g r ++ [(q, .inl (cI, c0, .inl x))] : va_W) ++ [(b, .inl (cP, n + 1, .inr (.inr (.inr (.inr (refs (i + 1) g))))))])) C hAA ((wT a cP cI n c0 g r ++ [(q, .inl (cI, c0, .inl x))] : va_W).length + 0) (1 + i) 0 1 (by exact z_apr rfl) rfl rfl (by exact z_apl (z_apl (wT_get (by omega)))) i rfl (by omega) (by omega) (by rw [z_str, refs_up]; rfl) dX1_with_21 ?_
      refine z_iinc (v := nI (i + 1)) (L' := [(3, .int (nI (i + 1))), (2, .ref b), (0, .ref a), (1, .ref q)]) C 0 dX1_with_22 rfl (z_inc _) (by decide) rfl ?_
      refine z_goto (tgt := 10) C dX1_with_25 (by decide) ?_
      exact ih (i + 1) (by omega)
  exact lp n 0 (by omega)
