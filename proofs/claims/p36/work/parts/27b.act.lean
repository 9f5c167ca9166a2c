set_option maxHeartbeats 4000000 in
set_option maxRecDepth 100000 in
theorem c_L_below (l : Launch) (D : va_G) (x n : Int32) (hn : ¬ n = 0) : zM l yL_below wsL_below 0 0 0 0 [.int x, .int n] [] D ([] : va_W) ([] : va_W) (some (.int (bel x n))) := by
  refine z_met (cc := cL_below) (maxL := 2) (ret := (some .int)) (by decide) rfl (Nat.le_of_ble_eq_true rfl) ?_
  intro p e s m args below meth c A C hr hlocks
  have wd0 : Cond.constant RL 7 (2147483647) ∈ wsL_below := by decide +kernel
  refine z_sub (L' := [(0, .int x), (1, .int n)]) [0, 1] rfl ?_
  refine z_iload_n C 0 dL_below_0 rfl rfl ?_
  refine z_ldc C wd0 dL_below_1 ?_
  refine z_iand C dL_below_3 ?_
  refine z_iload_n C 1 dL_below_4 rfl rfl ?_
  refine z_irem C dL_below_5 hn ?_
  exact z_iret C hr hlocks (Nat.le_of_ble_eq_true rfl) (Nat.le_of_ble_eq_true rfl) dL_below_6 (by first | rfl | (simp only [bel, ↓reduceIte]; done) | (simp only [bel, ↓reduceIte]; rfl)) rfl
set_option maxHeartbeats 8000000 in
set_option maxRecDepth 100000 in
theorem c_L_act (l : Launch) (D : va_G) (hh : Nat → Nat) (cI cZ cP : ClassId) (G : AG) (B : Nat) (v : S0) (x : Int32) (hI : Inv B v) (hB : B + 60 < 2 ^ 20) : zMX l yL_act wsL_act 5 104 60 45 [.ref (hh 0), .ref (gO G), .int x] [(cI, .int), (cZ, .boolean), (cP, .array .int)] D (wX0 hh cI cZ v ++ wS G cI cP v) zAA (fun z : S0 × AG => Inv (B + 60) z.1 ∧ gO z.2 = gO G ∧ 1 ≤ xn z.1) (fun _ => some (.int 1)) (fun z => wX0 hh cI cZ z.1 ++ wS z.2 cI cP z.1) := by
  refine z_metX (cc := cL_act) (maxL := 12) (ret := (some .boolean)) (by decide) rfl (Nat.le_of_ble_eq_true rfl) ?_
  intro p e s m args below meth c A hAw hAA C hr hlocks
  have hn8 := hI.n8
  have hk30 := hI.k30
  have hc5 := hI.c5
  have ins : ∀ w ∈ u_ws RX1 TX1 5, w ∈ wsL_act := by decide +kernel
  have wd0 : Cond.fieldLink RL 31 "SaltOrderLaw$Sim" "salt" "I" ∈ wsL_act := by decide +kernel
  have wd1 : Cond.fieldLink RL 9 "SaltOrderLaw$Sim" "members" "[[I" ∈ wsL_act := by decide +kernel
  have wd2 : Cond.methodLink RL 35 Lib.Math.min.name ∈ wsL_act := by decide +kernel
  have wd3 : Cond.static Lib.Math.min.name ∈ wsL_act := by decide +kernel
  have wd4 : Cond.initialized "java/lang/Math" ∈ wsL_act := by decide +kernel
  have wd5 : Cond.code Lib.Math.min.name Lib.Math.min.code 2 (some .int) ∈ wsL_act := by decide +kernel
  have wd6 : Cond.fieldLink RL 43 "SaltOrderLaw$Sim" "ledger" "[[I" ∈ wsL_act := by decide +kernel
  have wd7 : Cond.arrayClass .int ∈ wsL_act := by decide +kernel
  refine z_sub (L' := [(0, .ref (hh 0)), (1, .ref (gO G)), (2, .int x)]) [0, 1, 2] rfl ?_
  have k156 : ∀ (so j : Nat), j < xn v → zG p l e ({ frames := 5, cells := 60, slots := 45, locals := 104 } : Room) s m args below meth c D 12 A 0 0 (MQ below (zQX (fun z : S0 × AG => Inv (B + 60) z.1 ∧ gO z.2 = gO G ∧ 1 ≤ xn z.1) (fun _ => some (.int 1)) (fun z => wX0 hh cI cZ z.1 ++ wS z.2 cI cP z.1) D A) args s 60 45 A) 156 [(0, .ref (hh 0)), (1, .ref (gO G)), (2, .int x), (3, .int (nI (xn v))), (4, .int (nI so)), (5, .int (nI j))] [] ((wX0 hh cI cZ v) ++ (wS G cI cP v)) := by
    intro so j hj
    refine z_iconst (v := 1) C dL_act_156 (by decide) ?_
    refine z_iload_n C 2 dL_act_157 rfl rfl ?_
    refine z_iconst (v := 3) C dL_act_158 (by decide) ?_
    refine z_ishr C dL_act_159 ?_
    refine z_bipush (v := 30) C dL_act_160 (by decide) ?_
    obtain ⟨g0, hg0, eg0⟩ := bel_ex (x >>> (3 &&& 31)) (m := 30) (by omega) (by omega)
    refine z_callS (w := ([] : va_W)) (w' := ([] : va_W)) (w1 := ([] : va_W)) (w2 := ((wX0 hh cI cZ v) ++ (wS G cI cP v))) (ws' := ((wX0 hh cI cZ v) ++ (wS G cI cP v))) (As := [.int (x >>> (3 &&& 31)), .int 30]) (rest := [.int 1]) (st' := [.int (bel (x >>> (3 &&& 31)) 30), .int 1]) (rv := some (.int (bel (x >>> (3 &&& 31)) 30))) C (c_L_below l D (x >>> (3 &&& 31)) 30 (by decide)) (va_cwS 2 C.words gL_act_L_below rfl rfl rfl (by decide +kernel) ⟨(Nat.le_of_ble_eq_true rfl), (Nat.le_of_ble_eq_true rfl)⟩) [] rfl rfl (Nat.le_of_ble_eq_true rfl) ⟨(Nat.le_of_ble_eq_true rfl), (Nat.le_of_ble_eq_true rfl)⟩ rfl rfl rfl rfl rfl dL_act_162 ?_
    refine z_top (y := nI g0) eg0 ?_
    refine z_iadd C dL_act_165 ?_
    refine z_top (y := nI (1 + g0)) (nI_add 1 g0) ?_
    refine z_istore (L' := [(6, .int (nI (1 + g0))), (0, .ref (hh 0)), (1, .ref (gO G)), (2, .int x), (3, .int (nI (xn v))), (4, .int (nI so)), (5, .int (nI j))]) C dL_act_166 (by decide) rfl ?_
    refine z_iload C 0 dL_act_168 rfl ?_
    refine z_aload_n C 2 dL_act_170 rfl rfl ?_
    refine z_sget (v := .int (nI (xc v))) C ins 1 (by decide) rfl wd0 dL_act_171 ?_
    refine z_icmp_le (tgt := 179) C dL_act_174 (by decide) (fun c174 => ?_) (fun c174 => ?_)
    · skip
      have hg : 1 + g0 ≤ xc v := (nI_leI (by omega) (by omega)).mp c174
      refine z_aload_n C 2 dL_act_179 rfl rfl ?_
      refine z_dup C dL_act_180 rfl ?_
      refine z_sget (v := .int (nI (xc v))) C ins 1 (by decide) rfl wd0 dL_act_181 ?_
      refine z_iload C 0 dL_act_184 rfl ?_
      refine z_isub C dL_act_186 ?_
      refine z_top (y := nI (xc v - (1 + g0))) (pk_sub hg) ?_
      refine z_sputC (n := (xc v - (1 + g0))) C ins rfl wd0 dL_act_187 ?_
      refine z_aload_n C 2 dL_act_190 rfl rfl ?_
      refine z_sget (v := .ref (gA G)) C ins 3 (by decide) rfl wd1 dL_act_191 ?_
      refine z_iload C 6 dL_act_194 rfl ?_
      refine z_mrow C 2 rfl j rfl (show j < xn v from by omega) hn8 dL_act_196 ?_
      refine z_iconst (v := 1) C dL_act_197 (by decide) ?_
      refine z_bipush (v := 99) C dL_act_198 (by decide) ?_
      refine z_aload_n C 2 dL_act_200 rfl rfl ?_
      refine z_sget (v := .ref (gA G)) C ins 3 (by decide) rfl wd1 dL_act_201 ?_
      refine z_iload C 6 dL_act_204 rfl ?_
      refine z_mrow C 2 rfl j rfl (show j < xn v from by omega) hn8 dL_act_206 ?_
      refine z_iconst (v := 1) C dL_act_207 (by decide) ?_
      refine z_mget (x := (xa v) j) C 0 rfl 1 rfl (by decide) (show j < xn v from by omega) rfl dL_act_208 ?_
      refine z_iload C 0 dL_act_209 rfl ?_
      refine z_iadd C dL_act_211 ?_
      refine z_mmin C wd2 wd3 wd4 wd5 (Nat.le_of_ble_eq_true rfl) (Nat.le_of_ble_eq_true rfl) (by show _ ≤ 60; omega) (by show _ ≤ 45; omega) dL_act_212 ?_
      refine z_mset1 C 0 rfl rfl (show j < xn v from by omega) dL_act_215 ?_
      refine z_aload_n C 1 dL_act_216 rfl rfl ?_
      refine z_iload C 6 dL_act_217 rfl ?_
      refine z_iload C 0 dL_act_219 rfl ?_
      obtain ⟨v1, hv1⟩ : ∃ z, z = xspill v j (1 + g0) := ⟨_, rfl⟩
      refine z_callV (w := (wX0 hh cI cZ v)) (w' := (wX0 hh cI cZ v1)) (w1 := ([] : va_W)) (w2 := (([] : va_W) ++ (wS G cI cP (xl v, upd (xa v) j (imin 99 (((xa v) j) + (nI (1 + g0)))), xe v, xn v, xw v, xf v, xg v, xx v, xk v, (xc v - (1 + g0)), xd v, xo v, xy v, xb v)))) (ws' := ((wX0 hh cI cZ v1) ++ (wS G cI cP (xl v, upd (xa v) j (imin 99 (((xa v) j) + (nI (1 + g0)))), xe v, xn v, xw v, xf v, xg v, xx v, xk v, (xc v - (1 + g0)), xd v, xo v, xy v, xb v)))) (As := [.int (nI j), .int (nI (1 + g0))]) (rest := []) (st' := [.int (xa (xspill v j (1 + g0)) j)]) (rv := some (.int (xa (xspill v j (1 + g0)) j))) C (by rw [hv1]; exact c_X0_spill l D hh cI cZ v j (1 + g0) (by omega) (by omega) (by omega) (by omega) (by omega) (by omega)) (cwV 2 C.words gL_act_X0_spill rfl rfl rfl (by decide +kernel) ⟨(Nat.le_of_ble_eq_true rfl), (Nat.le_of_ble_eq_true rfl)⟩) (q0 := 0) (ci := 0) rfl rfl rfl [0, 1] rfl rfl (Nat.le_of_ble_eq_true rfl) ⟨(by show _ ≤ 60; omega), (by show _ ≤ 45; omega)⟩ rfl rfl rfl rfl rfl dL_act_221 ?_
      refine z_aload_n C 2 dL_act_224 rfl rfl ?_
      refine z_sget (v := .ref (gA G)) C ins 3 (by decide) rfl wd1 dL_act_225 ?_
      refine z_iload C 6 dL_act_228 rfl ?_
      refine z_mrow C 2 rfl j rfl (show j < xn v from by omega) hn8 dL_act_230 ?_
      refine z_iconst (v := 1) C dL_act_231 (by decide) ?_
      refine z_mget (x := (upd (xa v) j (imin 99 (((xa v) j) + (nI (1 + g0))))) j) C 0 rfl 1 rfl (by decide) (show j < xn v from by omega) rfl dL_act_232 ?_
      refine z_icmp_ne (tgt := 240) C dL_act_233 (by decide) (fun h9 => absurd h9 ((fun q => q rfl))) (fun _ => ?_)
      refine z_iconst (v := 1) C dL_act_236 (by decide) ?_
      refine z_goto (tgt := 241) C dL_act_237 (by decide) ?_
      exact z_zretX C ((xspill v j (1 + g0), G) : S0 × AG) (by exact ⟨(hI.spill j (by omega)).le (by omega), rfl, by show 1 ≤ xn v; omega⟩) hr hlocks (by show _ ≤ 60; omega) (by show _ ≤ 45; omega) (by first | exact Or.inl rfl | exact Or.inr rfl) dL_act_241 (by rfl) (by subst hv1; rfl)
    · skip
      refine z_iconst (v := 1) C dL_act_177 (by decide) ?_
      exact z_zretX C ((v, G) : S0 × AG) (by exact ⟨hI.le (by omega), rfl, by show 1 ≤ xn v; omega⟩) hr hlocks (by show _ ≤ 60; omega) (by show _ ≤ 45; omega) (by first | exact Or.inl rfl | exact Or.inr rfl) dL_act_178 (by rfl) (by rfl)
  have k242 : ∀ (so j : Nat), j < xn v → zG p l e ({ frames := 5, cells := 60, slots := 45, locals := 104 } : Room) s m args below meth c D 12 A 0 0 (MQ below (zQX (fun z : S0 × AG => Inv (B + 60) z.1 ∧ gO z.2 = gO G ∧ 1 ≤ xn z.1) (fun _ => some (.int 1)) (fun z => wX0 hh cI cZ z.1 ++ wS z.2 cI cP z.1) D A) args s 60 45 A) 242 [(0, .ref (hh 0)), (1, .ref (gO G)), (2, .int x), (3, .int (nI (xn v))), (4, .int (nI so)), (5, .int (nI j))] [] ((wX0 hh cI cZ v) ++ (wS G cI cP v)) := by
    intro so j hj
    refine z_iconst (v := 1) C dL_act_242 (by decide) ?_
    refine z_iload_n C 2 dL_act_243 rfl rfl ?_
    refine z_iconst (v := 3) C dL_act_244 (by decide) ?_
    refine z_ishr C dL_act_245 ?_
    refine z_bipush (v := 9) C dL_act_246 (by decide) ?_
    obtain ⟨g0, hg0, eg0⟩ := bel_ex (x >>> (3 &&& 31)) (m := 9) (by omega) (by omega)
    refine z_callS (w := ([] : va_W)) (w' := ([] : va_W)) (w1 := ([] : va_W)) (w2 := ((wX0 hh cI cZ v) ++ (wS G cI cP v))) (ws' := ((wX0 hh cI cZ v) ++ (wS G cI cP v))) (As := [.int (x >>> (3 &&& 31)), .int 9]) (rest := [.int 1]) (st' := [.int (bel (x >>> (3 &&& 31)) 9), .int 1]) (rv := some (.int (bel (x >>> (3 &&& 31)) 9))) C (c_L_below l D (x >>> (3 &&& 31)) 9 (by decide)) (va_cwS 2 C.words gL_act_L_below rfl rfl rfl (by decide +kernel) ⟨(Nat.le_of_ble_eq_true rfl), (Nat.le_of_ble_eq_true rfl)⟩) [] rfl rfl (Nat.le_of_ble_eq_true rfl) ⟨(Nat.le_of_ble_eq_true rfl), (Nat.le_of_ble_eq_true rfl)⟩ rfl rfl rfl rfl rfl dL_act_248 ?_
    refine z_top (y := nI g0) eg0 ?_
    refine z_iadd C dL_act_251 ?_
    refine z_top (y := nI (1 + g0)) (nI_add 1 g0) ?_
    refine z_istore (L' := [(7, .int (nI (1 + g0))), (0, .ref (hh 0)), (1, .ref (gO G)), (2, .int x), (3, .int (nI (xn v))), (4, .int (nI so)), (5, .int (nI j))]) C dL_act_252 (by decide) rfl ?_
    refine z_iload_n C 3 dL_act_254 rfl rfl ?_
    refine z_iconst (v := 4) C dL_act_255 (by decide) ?_
    obtain ⟨r0, hr0, er0⟩ := bel_ex (x) (m := 4) (by omega) (by omega)
    refine z_callS (w := ([] : va_W)) (w' := ([] : va_W)) (w1 := ([] : va_W)) (w2 := ((wX0 hh cI cZ v) ++ (wS G cI cP v))) (ws' := ((wX0 hh cI cZ v) ++ (wS G cI cP v))) (As := [.int x, .int 4]) (rest := []) (st' := [.int (bel x 4)]) (rv := some (.int (bel x 4))) C (c_L_below l D x 4 (by decide)) (va_cwS 2 C.words gL_act_L_below rfl rfl rfl (by decide +kernel) ⟨(Nat.le_of_ble_eq_true rfl), (Nat.le_of_ble_eq_true rfl)⟩) [] rfl rfl (Nat.le_of_ble_eq_true rfl) ⟨(Nat.le_of_ble_eq_true rfl), (Nat.le_of_ble_eq_true rfl)⟩ rfl rfl rfl rfl rfl dL_act_256 ?_
    refine z_top (y := nI r0) er0 ?_
    refine z_if_ne (tgt := 266) C dL_act_259 (by decide) (fun c259 => ?_) (fun c259 => ?_)
    · skip
      refine z_iconst (v := 0) C dL_act_266 (by decide) ?_
      refine z_istore (L' := [(8, .int 0), (7, .int (nI (1 + g0))), (0, .ref (hh 0)), (1, .ref (gO G)), (2, .int x), (3, .int (nI (xn v))), (4, .int (nI so)), (5, .int (nI j))]) C dL_act_267 (by decide) rfl ?_
      refine z_iload C 1 dL_act_269 rfl ?_
      refine z_aload_n C 3 dL_act_271 rfl rfl ?_
      refine z_sget (v := .int (nI (xc v))) C ins 1 (by decide) rfl wd0 dL_act_272 ?_
      refine z_icmp_gt (tgt := 288) C dL_act_275 (by decide) (fun c275 => ?_) (fun c275 => ?_)
      · skip
        refine z_iconst (v := 1) C dL_act_288 (by decide) ?_
        exact z_zretX C ((v, G) : S0 × AG) (by exact ⟨hI.le (by omega), rfl, by show 1 ≤ xn v; omega⟩) hr hlocks (by show _ ≤ 60; omega) (by show _ ≤ 45; omega) (by first | exact Or.inl rfl | exact Or.inr rfl) dL_act_289 (by rfl) (by rfl)
      · skip
        have hg : 1 + g0 ≤ xc v := by have q : ¬ xc v < 1 + g0 := fun q => c275 ((nI_ltI (by omega) (by omega)).mpr q); omega
        refine z_aload_n C 3 dL_act_278 rfl rfl ?_
        refine z_sget (v := .ref (gB G)) C ins 4 (by decide) rfl wd6 dL_act_279 ?_
        refine z_alenB C 2 rfl dL_act_282 ?_
        refine z_bipush (v := 30) C dL_act_283 (by decide) ?_
        refine z_icmp_ne (tgt := 290) C dL_act_285 (by decide) (fun c285 => ?_) (fun c285 => ?_)
        · skip
          have hk3 : xk v < 30 := by have q : xk v ≠ 30 := fun q => c285 (by rw [q]; rfl); omega
          refine z_aload_n C 2 dL_act_290 rfl rfl ?_
          refine z_iload C 7 dL_act_291 rfl ?_
          refine z_iload C 0 dL_act_293 rfl ?_
          refine z_iload C 1 dL_act_295 rfl ?_
          obtain ⟨v2, hv2⟩ : ∃ z, z = xthrow v j 0 (1 + g0) := ⟨_, rfl⟩
          refine z_callV (w := (wX0 hh cI cZ v)) (w' := (wX0 hh cI cZ v2)) (w1 := ([] : va_W)) (w2 := (([] : va_W) ++ (wS G cI cP v))) (ws' := ((wX0 hh cI cZ v2) ++ (wS G cI cP v))) (As := [.int (nI j), .int 0, .int (nI (1 + g0))]) (rest := []) (st' := [.int (xthrowR v j 0 (1 + g0))]) (rv := some (.int (xthrowR v j 0 (1 + g0)))) C (by rw [hv2]; exact c_X0_throwSalt l D hh cI cZ v j 0 (1 + g0) (by omega) (by omega) (by first | exact Or.inl rfl | exact Or.inr rfl) (by omega) (by omega) (by omega) (by omega) (by omega)) (cwV 3 C.words gL_act_X0_throwSalt rfl rfl rfl (by decide +kernel) ⟨(Nat.le_of_ble_eq_true rfl), (Nat.le_of_ble_eq_true rfl)⟩) (q0 := 0) (ci := 0) rfl rfl rfl [0, 1] rfl rfl (Nat.le_of_ble_eq_true rfl) ⟨(by show _ ≤ 60; omega), (by show _ ≤ 45; omega)⟩ rfl rfl rfl rfl rfl dL_act_297 ?_
          refine z_aload_n C 3 dL_act_300 rfl rfl ?_
          refine z_iload C 7 dL_act_301 rfl ?_
          refine z_iload C 0 dL_act_303 rfl ?_
          refine z_iload C 1 dL_act_305 rfl ?_
          refine z_callVX (w := (wS G cI cP v)) (w1 := (wX0 hh cI cZ v2)) (w2 := ([] : va_W)) (As := [.int (nI j), .int 0, .int (nI (1 + g0))]) (rest := [.int (xthrowR v j 0 (1 + g0))]) C (c_X1_cast l D cI cP G B v j (1 + g0) 0 hI hj (by first | exact Or.inl rfl | exact Or.inr rfl) (by omega) hg hk3) (hAA.call _) zAA.blind (cwV 3 C.words gL_act_X1_cast rfl rfl rfl (by decide +kernel) ⟨(Nat.le_of_ble_eq_true rfl), (Nat.le_of_ble_eq_true rfl)⟩) (q0 := 0) (ci := 1) rfl rfl rfl [0, 2] rfl rfl (Nat.le_of_ble_eq_true rfl) ⟨(by show _ ≤ 60; omega), (by show _ ≤ 45; omega)⟩ (List.append_nil _).symm rfl dL_act_307 (fun G2 hG2 => ?_)
          refine z_ws (List.append_nil _) ?_
          refine z_st (st' := [.int (xthrowR v j 0 (1 + g0)), .int (xthrowR v j 0 (1 + g0))]) rfl ?_
          refine z_icmp_ne (tgt := 317) C dL_act_310 (by decide) (fun h9 => absurd h9 ((fun q => q rfl))) (fun _ => ?_)
          refine z_iconst (v := 1) C dL_act_313 (by decide) ?_
          refine z_goto (tgt := 318) C dL_act_314 (by decide) ?_
          exact z_zretX C ((xthrow v j 0 (1 + g0), G2) : S0 × AG) (by exact ⟨(hI.throw hj hk3 (by omega) (by omega)).le (by omega), hG2, by show 1 ≤ xn (xthrow v j 0 (1 + g0)); rw [xthrow_n]; omega⟩) hr hlocks (by show _ ≤ 60; omega) (by show _ ≤ 45; omega) (by first | exact Or.inl rfl | exact Or.inr rfl) dL_act_318 (by rfl) (by subst hv2; rfl)
        · skip
          refine z_iconst (v := 1) C dL_act_288 (by decide) ?_
          exact z_zretX C ((v, G) : S0 × AG) (by exact ⟨hI.le (by omega), rfl, by show 1 ≤ xn v; omega⟩) hr hlocks (by show _ ≤ 60; omega) (by show _ ≤ 45; omega) (by first | exact Or.inl rfl | exact Or.inr rfl) dL_act_289 (by rfl) (by rfl)
    · skip
      refine z_iconst (v := 1) C dL_act_262 (by decide) ?_
      refine z_goto (tgt := 267) C dL_act_263 (by decide) ?_
      refine z_istore (L' := [(8, .int 1), (7, .int (nI (1 + g0))), (0, .ref (hh 0)), (1, .ref (gO G)), (2, .int x), (3, .int (nI (xn v))), (4, .int (nI so)), (5, .int (nI j))]) C dL_act_267 (by decide) rfl ?_
      refine z_iload C 1 dL_act_269 rfl ?_
      refine z_aload_n C 3 dL_act_271 rfl rfl ?_
      refine z_sget (v := .int (nI (xc v))) C ins 1 (by decide) rfl wd0 dL_act_272 ?_
      refine z_icmp_gt (tgt := 288) C dL_act_275 (by decide) (fun c275 => ?_) (fun c275 => ?_)
      · skip
        refine z_iconst (v := 1) C dL_act_288 (by decide) ?_
        exact z_zretX C ((v, G) : S0 × AG) (by exact ⟨hI.le (by omega), rfl, by show 1 ≤ xn v; omega⟩) hr hlocks (by show _ ≤ 60; omega) (by show _ ≤ 45; omega) (by first | exact Or.inl rfl | exact Or.inr rfl) dL_act_289 (by rfl) (by rfl)
      · skip
        have hg : 1 + g0 ≤ xc v := by have q : ¬ xc v < 1 + g0 := fun q => c275 ((nI_ltI (by omega) (by omega)).mpr q); omega
        refine z_aload_n C 3 dL_act_278 rfl rfl ?_
        refine z_sget (v := .ref (gB G)) C ins 4 (by decide) rfl wd6 dL_act_279 ?_
        refine z_alenB C 2 rfl dL_act_282 ?_
        refine z_bipush (v := 30) C dL_act_283 (by decide) ?_
        refine z_icmp_ne (tgt := 290) C dL_act_285 (by decide) (fun c285 => ?_) (fun c285 => ?_)
        · skip
          have hk3 : xk v < 30 := by have q : xk v ≠ 30 := fun q => c285 (by rw [q]; rfl); omega
          refine z_aload_n C 2 dL_act_290 rfl rfl ?_
          refine z_iload C 7 dL_act_291 rfl ?_
          refine z_iload C 0 dL_act_293 rfl ?_
          refine z_iload C 1 dL_act_295 rfl ?_
          obtain ⟨v3, hv3⟩ : ∃ z, z = xthrow v j 1 (1 + g0) := ⟨_, rfl⟩
          refine z_callV (w := (wX0 hh cI cZ v)) (w' := (wX0 hh cI cZ v3)) (w1 := ([] : va_W)) (w2 := (([] : va_W) ++ (wS G cI cP v))) (ws' := ((wX0 hh cI cZ v3) ++ (wS G cI cP v))) (As := [.int (nI j), .int 1, .int (nI (1 + g0))]) (rest := []) (st' := [.int (xthrowR v j 1 (1 + g0))]) (rv := some (.int (xthrowR v j 1 (1 + g0)))) C (by rw [hv3]; exact c_X0_throwSalt l D hh cI cZ v j 1 (1 + g0) (by omega) (by omega) (by first | exact Or.inl rfl | exact Or.inr rfl) (by omega) (by omega) (by omega) (by omega) (by omega)) (cwV 3 C.words gL_act_X0_throwSalt rfl rfl rfl (by decide +kernel) ⟨(Nat.le_of_ble_eq_true rfl), (Nat.le_of_ble_eq_true rfl)⟩) (q0 := 0) (ci := 0) rfl rfl rfl [0, 1] rfl rfl (Nat.le_of_ble_eq_true rfl) ⟨(by show _ ≤ 60; omega), (by show _ ≤ 45; omega)⟩ rfl rfl rfl rfl rfl dL_act_297 ?_
          refine z_aload_n C 3 dL_act_300 rfl rfl ?_
          refine z_iload C 7 dL_act_301 rfl ?_
          refine z_iload C 0 dL_act_303 rfl ?_
          refine z_iload C 1 dL_act_305 rfl ?_
          refine z_callVX (w := (wS G cI cP v)) (w1 := (wX0 hh cI cZ v3)) (w2 := ([] : va_W)) (As := [.int (nI j), .int 1, .int (nI (1 + g0))]) (rest := [.int (xthrowR v j 1 (1 + g0))]) C (c_X1_cast l D cI cP G B v j (1 + g0) 1 hI hj (by first | exact Or.inl rfl | exact Or.inr rfl) (by omega) hg hk3) (hAA.call _) zAA.blind (cwV 3 C.words gL_act_X1_cast rfl rfl rfl (by decide +kernel) ⟨(Nat.le_of_ble_eq_true rfl), (Nat.le_of_ble_eq_true rfl)⟩) (q0 := 0) (ci := 1) rfl rfl rfl [0, 2] rfl rfl (Nat.le_of_ble_eq_true rfl) ⟨(by show _ ≤ 60; omega), (by show _ ≤ 45; omega)⟩ (List.append_nil _).symm rfl dL_act_307 (fun G2 hG2 => ?_)
          refine z_ws (List.append_nil _) ?_
          refine z_st (st' := [.int (xthrowR v j 1 (1 + g0)), .int (xthrowR v j 1 (1 + g0))]) rfl ?_
          refine z_icmp_ne (tgt := 317) C dL_act_310 (by decide) (fun h9 => absurd h9 ((fun q => q rfl))) (fun _ => ?_)
          refine z_iconst (v := 1) C dL_act_313 (by decide) ?_
          refine z_goto (tgt := 318) C dL_act_314 (by decide) ?_
          exact z_zretX C ((xthrow v j 1 (1 + g0), G2) : S0 × AG) (by exact ⟨(hI.throw hj hk3 (by omega) (by omega)).le (by omega), hG2, by show 1 ≤ xn (xthrow v j 1 (1 + g0)); rw [xthrow_n]; omega⟩) hr hlocks (by show _ ≤ 60; omega) (by show _ ≤ 45; omega) (by first | exact Or.inl rfl | exact Or.inr rfl) dL_act_318 (by rfl) (by subst hv3; rfl)
        · skip
          refine z_iconst (v := 1) C dL_act_288 (by decide) ?_
          exact z_zretX C ((v, G) : S0 × AG) (by exact ⟨hI.le (by omega), rfl, by show 1 ≤ xn v; omega⟩) hr hlocks (by show _ ≤ 60; omega) (by show _ ≤ 45; omega) (by first | exact Or.inl rfl | exact Or.inr rfl) dL_act_289 (by rfl) (by rfl)
  have k319 : ∀ (so j : Nat), j < xn v → zG p l e ({ frames := 5, cells := 60, slots := 45, locals := 104 } : Room) s m args below meth c D 12 A 0 0 (MQ below (zQX (fun z : S0 × AG => Inv (B + 60) z.1 ∧ gO z.2 = gO G ∧ 1 ≤ xn z.1) (fun _ => some (.int 1)) (fun z => wX0 hh cI cZ z.1 ++ wS z.2 cI cP z.1) D A) args s 60 45 A) 319 [(0, .ref (hh 0)), (1, .ref (gO G)), (2, .int x), (3, .int (nI (xn v))), (4, .int (nI so)), (5, .int (nI j))] [] ((wX0 hh cI cZ v) ++ (wS G cI cP v)) := by
    intro so j hj
    refine z_iconst (v := 1) C dL_act_319 (by decide) ?_
    refine z_iload_n C 2 dL_act_320 rfl rfl ?_
    refine z_iconst (v := 3) C dL_act_321 (by decide) ?_
    refine z_ishr C dL_act_322 ?_
    refine z_bipush (v := 9) C dL_act_323 (by decide) ?_
    obtain ⟨g0, hg0, eg0⟩ := bel_ex (x >>> (3 &&& 31)) (m := 9) (by omega) (by omega)
    refine z_callS (w := ([] : va_W)) (w' := ([] : va_W)) (w1 := ([] : va_W)) (w2 := ((wX0 hh cI cZ v) ++ (wS G cI cP v))) (ws' := ((wX0 hh cI cZ v) ++ (wS G cI cP v))) (As := [.int (x >>> (3 &&& 31)), .int 9]) (rest := [.int 1]) (st' := [.int (bel (x >>> (3 &&& 31)) 9), .int 1]) (rv := some (.int (bel (x >>> (3 &&& 31)) 9))) C (c_L_below l D (x >>> (3 &&& 31)) 9 (by decide)) (va_cwS 2 C.words gL_act_L_below rfl rfl rfl (by decide +kernel) ⟨(Nat.le_of_ble_eq_true rfl), (Nat.le_of_ble_eq_true rfl)⟩) [] rfl rfl (Nat.le_of_ble_eq_true rfl) ⟨(Nat.le_of_ble_eq_true rfl), (Nat.le_of_ble_eq_true rfl)⟩ rfl rfl rfl rfl rfl dL_act_325 ?_
    refine z_top (y := nI g0) eg0 ?_
    refine z_iadd C dL_act_328 ?_
    refine z_top (y := nI (1 + g0)) (nI_add 1 g0) ?_
    refine z_istore (L' := [(9, .int (nI (1 + g0))), (0, .ref (hh 0)), (1, .ref (gO G)), (2, .int x), (3, .int (nI (xn v))), (4, .int (nI so)), (5, .int (nI j))]) C dL_act_329 (by decide) rfl ?_
    refine z_aload_n C 2 dL_act_331 rfl rfl ?_
    refine z_sget (v := .ref (gA G)) C ins 3 (by decide) rfl wd1 dL_act_332 ?_
    refine z_iload C 6 dL_act_335 rfl ?_
    refine z_mrow C 2 rfl j rfl (show j < xn v from by omega) hn8 dL_act_337 ?_
    refine z_iconst (v := 2) C dL_act_338 (by decide) ?_
    refine z_bipush (v := 9) C dL_act_339 (by decide) ?_
    refine z_aload_n C 2 dL_act_341 rfl rfl ?_
    refine z_sget (v := .ref (gA G)) C ins 3 (by decide) rfl wd1 dL_act_342 ?_
    refine z_iload C 6 dL_act_345 rfl ?_
    refine z_mrow C 2 rfl j rfl (show j < xn v from by omega) hn8 dL_act_347 ?_
    refine z_iconst (v := 2) C dL_act_348 (by decide) ?_
    refine z_mget (x := (xe v) j) C 0 rfl 2 rfl (by decide) (show j < xn v from by omega) rfl dL_act_349 ?_
    refine z_iload C 0 dL_act_350 rfl ?_
    refine z_iadd C dL_act_352 ?_
    refine z_mmin C wd2 wd3 wd4 wd5 (Nat.le_of_ble_eq_true rfl) (Nat.le_of_ble_eq_true rfl) (by show _ ≤ 60; omega) (by show _ ≤ 45; omega) dL_act_353 ?_
    refine z_mset2 C 0 rfl rfl (show j < xn v from by omega) dL_act_356 ?_
    refine z_aload_n C 1 dL_act_357 rfl rfl ?_
    refine z_iload C 6 dL_act_358 rfl ?_
    refine z_iload C 0 dL_act_360 rfl ?_
    obtain ⟨v4, hv4⟩ : ∃ z, z = xlump v j (nI (1 + g0)) := ⟨_, rfl⟩
    refine z_callV (w := (wX0 hh cI cZ v)) (w' := (wX0 hh cI cZ v4)) (w1 := ([] : va_W)) (w2 := (([] : va_W) ++ (wS G cI cP (xl v, xa v, upd (xe v) j (imin 9 (((xe v) j) + (nI (1 + g0)))), xn v, xw v, xf v, xg v, xx v, xk v, xc v, xd v, xo v, xy v, xb v)))) (ws' := ((wX0 hh cI cZ v4) ++ (wS G cI cP (xl v, xa v, upd (xe v) j (imin 9 (((xe v) j) + (nI (1 + g0)))), xn v, xw v, xf v, xg v, xx v, xk v, xc v, xd v, xo v, xy v, xb v)))) (As := [.int (nI j), .int (nI (1 + g0))]) (rest := []) (st' := [.int (xe (xlump v j (nI (1 + g0))) j)]) (rv := some (.int (xe (xlump v j (nI (1 + g0))) j))) C (by rw [hv4]; exact c_X0_doPenance l D hh cI cZ v j (1 + g0) (by omega) (by omega) (by omega) (by omega)) (cwV 2 C.words gL_act_X0_doPenance rfl rfl rfl (by decide +kernel) ⟨(Nat.le_of_ble_eq_true rfl), (Nat.le_of_ble_eq_true rfl)⟩) (q0 := 0) (ci := 0) rfl rfl rfl [0, 1] rfl rfl (Nat.le_of_ble_eq_true rfl) ⟨(by show _ ≤ 60; omega), (by show _ ≤ 45; omega)⟩ rfl rfl rfl rfl rfl dL_act_362 ?_
    refine z_aload_n C 2 dL_act_365 rfl rfl ?_
    refine z_sget (v := .ref (gA G)) C ins 3 (by decide) rfl wd1 dL_act_366 ?_
    refine z_iload C 6 dL_act_369 rfl ?_
    refine z_mrow C 2 rfl j rfl (show j < xn v from by omega) hn8 dL_act_371 ?_
    refine z_iconst (v := 2) C dL_act_372 (by decide) ?_
    refine z_mget (x := (upd (xe v) j (imin 9 (((xe v) j) + (nI (1 + g0))))) j) C 0 rfl 2 rfl (by decide) (show j < xn v from by omega) rfl dL_act_373 ?_
    refine z_icmp_ne (tgt := 381) C dL_act_374 (by decide) (fun h9 => absurd h9 ((fun q => q rfl))) (fun _ => ?_)
    refine z_iconst (v := 1) C dL_act_377 (by decide) ?_
    refine z_goto (tgt := 382) C dL_act_378 (by decide) ?_
    exact z_zretX C ((xlump v j (nI (1 + g0)), G) : S0 × AG) (by exact ⟨(hI.lump j (by omega)).le (by omega), rfl, by show 1 ≤ xn v; omega⟩) hr hlocks (by show _ ≤ 60; omega) (by show _ ≤ 45; omega) (by first | exact Or.inl rfl | exact Or.inr rfl) dL_act_382 (by rfl) (by subst hv4; rfl)
  have k383 : ∀ (so j : Nat), j < xn v → zG p l e ({ frames := 5, cells := 60, slots := 45, locals := 104 } : Room) s m args below meth c D 12 A 0 0 (MQ below (zQX (fun z : S0 × AG => Inv (B + 60) z.1 ∧ gO z.2 = gO G ∧ 1 ≤ xn z.1) (fun _ => some (.int 1)) (fun z => wX0 hh cI cZ z.1 ++ wS z.2 cI cP z.1) D A) args s 60 45 A) 383 [(0, .ref (hh 0)), (1, .ref (gO G)), (2, .int x), (3, .int (nI (xn v))), (4, .int (nI so)), (5, .int (nI j))] [] ((wX0 hh cI cZ v) ++ (wS G cI cP v)) := by
    intro so j hj
    refine z_iconst (v := 1) C dL_act_383 (by decide) ?_
    refine z_iload_n C 2 dL_act_384 rfl rfl ?_
    refine z_iconst (v := 3) C dL_act_385 (by decide) ?_
    refine z_ishr C dL_act_386 ?_
    refine z_iload_n C 2 dL_act_387 rfl rfl ?_
    refine z_iconst (v := 2) C dL_act_388 (by decide) ?_
    obtain ⟨r0, hr0, er0⟩ := bel_ex (x) (m := 2) (by omega) (by omega)
    refine z_callS (w := ([] : va_W)) (w' := ([] : va_W)) (w1 := ([] : va_W)) (w2 := ((wX0 hh cI cZ v) ++ (wS G cI cP v))) (ws' := ((wX0 hh cI cZ v) ++ (wS G cI cP v))) (As := [.int x, .int 2]) (rest := [.int (x >>> (3 &&& 31)), .int 1]) (st' := [.int (bel x 2), .int (x >>> (3 &&& 31)), .int 1]) (rv := some (.int (bel x 2))) C (c_L_below l D x 2 (by decide)) (va_cwS 2 C.words gL_act_L_below rfl rfl rfl (by decide +kernel) ⟨(Nat.le_of_ble_eq_true rfl), (Nat.le_of_ble_eq_true rfl)⟩) [] rfl rfl (Nat.le_of_ble_eq_true rfl) ⟨(Nat.le_of_ble_eq_true rfl), (Nat.le_of_ble_eq_true rfl)⟩ rfl rfl rfl rfl rfl dL_act_389 ?_
    refine z_top (y := nI r0) er0 ?_
    refine z_if_ne (tgt := 401) C dL_act_392 (by decide) (fun c392 => ?_) (fun c392 => ?_)
    · skip
      refine z_bipush (v := 60) C dL_act_401 (by decide) ?_
      obtain ⟨g0, hg0, eg0⟩ := bel_ex (x >>> (3 &&& 31)) (m := 60) (by omega) (by omega)
      refine z_callS (w := ([] : va_W)) (w' := ([] : va_W)) (w1 := ([] : va_W)) (w2 := ((wX0 hh cI cZ v) ++ (wS G cI cP v))) (ws' := ((wX0 hh cI cZ v) ++ (wS G cI cP v))) (As := [.int (x >>> (3 &&& 31)), .int 60]) (rest := [.int 1]) (st' := [.int (bel (x >>> (3 &&& 31)) 60), .int 1]) (rv := some (.int (bel (x >>> (3 &&& 31)) 60))) C (c_L_below l D (x >>> (3 &&& 31)) 60 (by decide)) (va_cwS 2 C.words gL_act_L_below rfl rfl rfl (by decide +kernel) ⟨(Nat.le_of_ble_eq_true rfl), (Nat.le_of_ble_eq_true rfl)⟩) [] rfl rfl (Nat.le_of_ble_eq_true rfl) ⟨(Nat.le_of_ble_eq_true rfl), (Nat.le_of_ble_eq_true rfl)⟩ rfl rfl rfl rfl rfl dL_act_403 ?_
      refine z_top (y := nI g0) eg0 ?_
      refine z_iadd C dL_act_406 ?_
      refine z_top (y := nI (1 + g0)) (nI_add 1 g0) ?_
      refine z_istore (L' := [(10, .int (nI (1 + g0))), (0, .ref (hh 0)), (1, .ref (gO G)), (2, .int x), (3, .int (nI (xn v))), (4, .int (nI so)), (5, .int (nI j))]) C dL_act_407 (by decide) rfl ?_
      refine z_aload_n C 2 dL_act_409 rfl rfl ?_
      refine z_sipush (v := 500) C dL_act_410 (by decide) ?_
      refine z_aload_n C 2 dL_act_413 rfl rfl ?_
      refine z_sget (v := .int (nI (xc v))) C ins 1 (by decide) rfl wd0 dL_act_414 ?_
      refine z_iload C 0 dL_act_417 rfl ?_
      refine z_iadd C dL_act_419 ?_
      refine z_top (y := nI (xc v + (1 + g0))) (nI_add _ _) ?_
      refine z_mmin C wd2 wd3 wd4 wd5 (Nat.le_of_ble_eq_true rfl) (Nat.le_of_ble_eq_true rfl) (by show _ ≤ 60; omega) (by show _ ≤ 45; omega) dL_act_420 ?_
      refine z_top (y := nI (min 500 (xc v + (1 + g0)))) (imin_nI (a := 500) (by omega) (by omega)) ?_
      refine z_sputC (n := (min 500 (xc v + (1 + g0)))) C ins rfl wd0 dL_act_423 ?_
      refine z_aload_n C 1 dL_act_426 rfl rfl ?_
      refine z_iload C 0 dL_act_427 rfl ?_
      obtain ⟨v5, hv5⟩ : ∃ z, z = uc v (min 500 (xc v + (1 + g0))) := ⟨_, rfl⟩
      refine z_callV (w := (wX0 hh cI cZ v)) (w' := (wX0 hh cI cZ v5)) (w1 := ([] : va_W)) (w2 := (([] : va_W) ++ (wS G cI cP (xl v, xa v, xe v, xn v, xw v, xf v, xg v, xx v, xk v, (min 500 (xc v + (1 + g0))), xd v, xo v, xy v, xb v)))) (ws' := ((wX0 hh cI cZ v5) ++ (wS G cI cP (xl v, xa v, xe v, xn v, xw v, xf v, xg v, xx v, xk v, (min 500 (xc v + (1 + g0))), xd v, xo v, xy v, xb v)))) (As := [.int (nI (1 + g0))]) (rest := []) (st' := [.int (nI (min 500 (xc v + (1 + g0))))]) (rv := some (.int (nI (min 500 (xc v + (1 + g0)))))) C (by rw [hv5]; exact c_X0_bringSalt l D hh cI cZ v (1 + g0) (by omega) (by omega) (by omega)) (cwV 1 C.words gL_act_X0_bringSalt rfl rfl rfl (by decide +kernel) ⟨(Nat.le_of_ble_eq_true rfl), (Nat.le_of_ble_eq_true rfl)⟩) (q0 := 0) (ci := 0) rfl rfl rfl [0, 1] rfl rfl (Nat.le_of_ble_eq_true rfl) ⟨(by show _ ≤ 60; omega), (by show _ ≤ 45; omega)⟩ rfl rfl rfl rfl rfl dL_act_429 ?_
      refine z_aload_n C 2 dL_act_432 rfl rfl ?_
      refine z_sget (v := .int (nI (min 500 (xc v + (1 + g0))))) C ins 1 (by decide) rfl wd0 dL_act_433 ?_
      refine z_icmp_ne (tgt := 443) C dL_act_436 (by decide) (fun h9 => absurd h9 ((fun q => q rfl))) (fun _ => ?_)
      refine z_iconst (v := 1) C dL_act_439 (by decide) ?_
      refine z_goto (tgt := 444) C dL_act_440 (by decide) ?_
      exact z_zretX C ((uc v (min 500 (xc v + (1 + g0))), G) : S0 × AG) (by exact ⟨(hI.cell (by omega)).le (by omega), rfl, by show 1 ≤ xn v; omega⟩) hr hlocks (by show _ ≤ 60; omega) (by show _ ≤ 45; omega) (by first | exact Or.inl rfl | exact Or.inr rfl) dL_act_444 (by rfl) (by subst hv5; rfl)
    · skip
      refine z_sipush (v := 500) C dL_act_395 (by decide) ?_
      refine z_goto (tgt := 403) C dL_act_398 (by decide) ?_
      obtain ⟨g0, hg0, eg0⟩ := bel_ex (x >>> (3 &&& 31)) (m := 500) (by omega) (by omega)
      refine z_callS (w := ([] : va_W)) (w' := ([] : va_W)) (w1 := ([] : va_W)) (w2 := ((wX0 hh cI cZ v) ++ (wS G cI cP v))) (ws' := ((wX0 hh cI cZ v) ++ (wS G cI cP v))) (As := [.int (x >>> (3 &&& 31)), .int 500]) (rest := [.int 1]) (st' := [.int (bel (x >>> (3 &&& 31)) 500), .int 1]) (rv := some (.int (bel (x >>> (3 &&& 31)) 500))) C (c_L_below l D (x >>> (3 &&& 31)) 500 (by decide)) (va_cwS 2 C.words gL_act_L_below rfl rfl rfl (by decide +kernel) ⟨(Nat.le_of_ble_eq_true rfl), (Nat.le_of_ble_eq_true rfl)⟩) [] rfl rfl (Nat.le_of_ble_eq_true rfl) ⟨(Nat.le_of_ble_eq_true rfl), (Nat.le_of_ble_eq_true rfl)⟩ rfl rfl rfl rfl rfl dL_act_403 ?_
      refine z_top (y := nI g0) eg0 ?_
      refine z_iadd C dL_act_406 ?_
      refine z_top (y := nI (1 + g0)) (nI_add 1 g0) ?_
      refine z_istore (L' := [(10, .int (nI (1 + g0))), (0, .ref (hh 0)), (1, .ref (gO G)), (2, .int x), (3, .int (nI (xn v))), (4, .int (nI so)), (5, .int (nI j))]) C dL_act_407 (by decide) rfl ?_
      refine z_aload_n C 2 dL_act_409 rfl rfl ?_
      refine z_sipush (v := 500) C dL_act_410 (by decide) ?_
      refine z_aload_n C 2 dL_act_413 rfl rfl ?_
      refine z_sget (v := .int (nI (xc v))) C ins 1 (by decide) rfl wd0 dL_act_414 ?_
      refine z_iload C 0 dL_act_417 rfl ?_
      refine z_iadd C dL_act_419 ?_
      refine z_top (y := nI (xc v + (1 + g0))) (nI_add _ _) ?_
      refine z_mmin C wd2 wd3 wd4 wd5 (Nat.le_of_ble_eq_true rfl) (Nat.le_of_ble_eq_true rfl) (by show _ ≤ 60; omega) (by show _ ≤ 45; omega) dL_act_420 ?_
      refine z_top (y := nI (min 500 (xc v + (1 + g0)))) (imin_nI (a := 500) (by omega) (by omega)) ?_
      refine z_sputC (n := (min 500 (xc v + (1 + g0)))) C ins rfl wd0 dL_act_423 ?_
      refine z_aload_n C 1 dL_act_426 rfl rfl ?_
      refine z_iload C 0 dL_act_427 rfl ?_
      obtain ⟨v6, hv6⟩ : ∃ z, z = uc v (min 500 (xc v + (1 + g0))) := ⟨_, rfl⟩
      refine z_callV (w := (wX0 hh cI cZ v)) (w' := (wX0 hh cI cZ v6)) (w1 := ([] : va_W)) (w2 := (([] : va_W) ++ (wS G cI cP (xl v, xa v, xe v, xn v, xw v, xf v, xg v, xx v, xk v, (min 500 (xc v + (1 + g0))), xd v, xo v, xy v, xb v)))) (ws' := ((wX0 hh cI cZ v6) ++ (wS G cI cP (xl v, xa v, xe v, xn v, xw v, xf v, xg v, xx v, xk v, (min 500 (xc v + (1 + g0))), xd v, xo v, xy v, xb v)))) (As := [.int (nI (1 + g0))]) (rest := []) (st' := [.int (nI (min 500 (xc v + (1 + g0))))]) (rv := some (.int (nI (min 500 (xc v + (1 + g0)))))) C (by rw [hv6]; exact c_X0_bringSalt l D hh cI cZ v (1 + g0) (by omega) (by omega) (by omega)) (cwV 1 C.words gL_act_X0_bringSalt rfl rfl rfl (by decide +kernel) ⟨(Nat.le_of_ble_eq_true rfl), (Nat.le_of_ble_eq_true rfl)⟩) (q0 := 0) (ci := 0) rfl rfl rfl [0, 1] rfl rfl (Nat.le_of_ble_eq_true rfl) ⟨(by show _ ≤ 60; omega), (by show _ ≤ 45; omega)⟩ rfl rfl rfl rfl rfl dL_act_429 ?_
      refine z_aload_n C 2 dL_act_432 rfl rfl ?_
      refine z_sget (v := .int (nI (min 500 (xc v + (1 + g0))))) C ins 1 (by decide) rfl wd0 dL_act_433 ?_
      refine z_icmp_ne (tgt := 443) C dL_act_436 (by decide) (fun h9 => absurd h9 ((fun q => q rfl))) (fun _ => ?_)
      refine z_iconst (v := 1) C dL_act_439 (by decide) ?_
      refine z_goto (tgt := 444) C dL_act_440 (by decide) ?_
      exact z_zretX C ((uc v (min 500 (xc v + (1 + g0))), G) : S0 × AG) (by exact ⟨(hI.cell (by omega)).le (by omega), rfl, by show 1 ≤ xn v; omega⟩) hr hlocks (by show _ ≤ 60; omega) (by show _ ≤ 45; omega) (by first | exact Or.inl rfl | exact Or.inr rfl) dL_act_444 (by rfl) (by subst hv6; rfl)
  have k445 : ∀ (so j : Nat), j < xn v → zG p l e ({ frames := 5, cells := 60, slots := 45, locals := 104 } : Room) s m args below meth c D 12 A 0 0 (MQ below (zQX (fun z : S0 × AG => Inv (B + 60) z.1 ∧ gO z.2 = gO G ∧ 1 ≤ xn z.1) (fun _ => some (.int 1)) (fun z => wX0 hh cI cZ z.1 ++ wS z.2 cI cP z.1) D A) args s 60 45 A) 445 [(0, .ref (hh 0)), (1, .ref (gO G)), (2, .int x), (3, .int (nI (xn v))), (4, .int (nI so)), (5, .int (nI j))] [] ((wX0 hh cI cZ v) ++ (wS G cI cP v)) := by
    intro so j hj
    refine z_iload_n C 2 dL_act_445 rfl rfl ?_
    refine z_iconst (v := 3) C dL_act_446 (by decide) ?_
    obtain ⟨r0, hr0, er0⟩ := bel_ex (x) (m := 3) (by omega) (by omega)
    refine z_callS (w := ([] : va_W)) (w' := ([] : va_W)) (w1 := ([] : va_W)) (w2 := ((wX0 hh cI cZ v) ++ (wS G cI cP v))) (ws' := ((wX0 hh cI cZ v) ++ (wS G cI cP v))) (As := [.int x, .int 3]) (rest := []) (st' := [.int (bel x 3)]) (rv := some (.int (bel x 3))) C (c_L_below l D x 3 (by decide)) (va_cwS 2 C.words gL_act_L_below rfl rfl rfl (by decide +kernel) ⟨(Nat.le_of_ble_eq_true rfl), (Nat.le_of_ble_eq_true rfl)⟩) [] rfl rfl (Nat.le_of_ble_eq_true rfl) ⟨(Nat.le_of_ble_eq_true rfl), (Nat.le_of_ble_eq_true rfl)⟩ rfl rfl rfl rfl rfl dL_act_447 ?_
    refine z_top (y := nI r0) er0 ?_
    refine z_if_le (tgt := 455) C dL_act_450 (by decide) (fun c450 => ?_) (fun c450 => ?_)
    · skip
      refine z_aload_n C 0 dL_act_455 rfl rfl ?_
      obtain ⟨v7, hv7⟩ : ∃ z, z = xaud v := ⟨_, rfl⟩
      refine z_callV (w := (wX0 hh cI cZ v)) (w' := (wX0 hh cI cZ v7)) (w1 := ([] : va_W)) (w2 := (([] : va_W) ++ (wS G cI cP v))) (ws' := ((wX0 hh cI cZ v7) ++ (wS G cI cP v))) (As := []) (rest := []) (st' := [.int (xflt v)]) (rv := some (.int (xflt v))) C (by rw [hv7]; exact c_X0_audit l D hh cI cZ v (by omega) (by omega)) (cwV 0 C.words gL_act_X0_audit rfl rfl rfl (by decide +kernel) ⟨(Nat.le_of_ble_eq_true rfl), (Nat.le_of_ble_eq_true rfl)⟩) (q0 := 0) (ci := 0) rfl rfl rfl [0, 1] rfl rfl (Nat.le_of_ble_eq_true rfl) ⟨(by show _ ≤ 60; omega), (by show _ ≤ 45; omega)⟩ rfl rfl rfl rfl rfl dL_act_456 ?_
      have hv7k0 : xn v7 = xn v := by rw [hv7]; exact xaud_n v
      refine z_aload_n C 1 dL_act_459 rfl rfl ?_
      refine z_callVX (w := (wS G cI cP v)) (w1 := (wX0 hh cI cZ v7)) (w2 := ([] : va_W)) (As := []) (rest := [.int (xflt v)]) C (c_X1_audit l D cI cP G B v hI) (hAA.call _) zAA.blind (cwV 0 C.words gL_act_X1_audit rfl rfl rfl (by decide +kernel) ⟨(Nat.le_of_ble_eq_true rfl), (Nat.le_of_ble_eq_true rfl)⟩) (q0 := 0) (ci := 1) rfl rfl rfl [0, 2] rfl rfl (Nat.le_of_ble_eq_true rfl) ⟨(by show _ ≤ 60; omega), (by show _ ≤ 45; omega)⟩ (List.append_nil _).symm rfl dL_act_460 (fun G2 hG2 => ?_)
      refine z_ws (List.append_nil _) ?_
      refine z_st (st' := [.int (xflt v), .int (xflt v)]) rfl ?_
      refine z_icmp_ne (tgt := 470) C dL_act_463 (by decide) (fun h9 => absurd h9 ((fun q => q rfl))) (fun _ => ?_)
      refine z_iconst (v := 1) C dL_act_466 (by decide) ?_
      refine z_goto (tgt := 471) C dL_act_467 (by decide) ?_
      exact z_zretX C ((xaud v, G2) : S0 × AG) (by exact ⟨hI.aud.le (by omega), hG2, by show 1 ≤ xn (xaud v); rw [xaud_n]; omega⟩) hr hlocks (by show _ ≤ 60; omega) (by show _ ≤ 45; omega) (by first | exact Or.inl rfl | exact Or.inr rfl) dL_act_471 (by rfl) (by subst hv7; rfl)
    · skip
      refine z_iconst (v := 1) C dL_act_453 (by decide) ?_
      exact z_zretX C ((v, G) : S0 × AG) (by exact ⟨hI.le (by omega), rfl, by show 1 ≤ xn v; omega⟩) hr hlocks (by show _ ≤ 60; omega) (by show _ ≤ 45; omega) (by first | exact Or.inl rfl | exact Or.inr rfl) dL_act_454 (by rfl) (by rfl)
  have k472 : ∀ (so j : Nat), j < xn v → zG p l e ({ frames := 5, cells := 60, slots := 45, locals := 104 } : Room) s m args below meth c D 12 A 0 0 (MQ below (zQX (fun z : S0 × AG => Inv (B + 60) z.1 ∧ gO z.2 = gO G ∧ 1 ≤ xn z.1) (fun _ => some (.int 1)) (fun z => wX0 hh cI cZ z.1 ++ wS z.2 cI cP z.1) D A) args s 60 45 A) 472 [(0, .ref (hh 0)), (1, .ref (gO G)), (2, .int x), (3, .int (nI (xn v))), (4, .int (nI so)), (5, .int (nI j))] [] ((wX0 hh cI cZ v) ++ (wS G cI cP v)) := by
    intro so j hj
    refine z_iconst (v := 1) C dL_act_472 (by decide) ?_
    refine z_iload_n C 2 dL_act_473 rfl rfl ?_
    refine z_iconst (v := 2) C dL_act_474 (by decide) ?_
    refine z_ishr C dL_act_475 ?_
    refine z_iload_n C 2 dL_act_476 rfl rfl ?_
    refine z_bipush (v := 6) C dL_act_477 (by decide) ?_
    obtain ⟨r0, hr0, er0⟩ := bel_ex (x) (m := 6) (by omega) (by omega)
    refine z_callS (w := ([] : va_W)) (w' := ([] : va_W)) (w1 := ([] : va_W)) (w2 := ((wX0 hh cI cZ v) ++ (wS G cI cP v))) (ws' := ((wX0 hh cI cZ v) ++ (wS G cI cP v))) (As := [.int x, .int 6]) (rest := [.int (x >>> (2 &&& 31)), .int 1]) (st' := [.int (bel x 6), .int (x >>> (2 &&& 31)), .int 1]) (rv := some (.int (bel x 6))) C (c_L_below l D x 6 (by decide)) (va_cwS 2 C.words gL_act_L_below rfl rfl rfl (by decide +kernel) ⟨(Nat.le_of_ble_eq_true rfl), (Nat.le_of_ble_eq_true rfl)⟩) [] rfl rfl (Nat.le_of_ble_eq_true rfl) ⟨(Nat.le_of_ble_eq_true rfl), (Nat.le_of_ble_eq_true rfl)⟩ rfl rfl rfl rfl rfl dL_act_479 ?_
    refine z_top (y := nI r0) er0 ?_
    refine z_if_ne (tgt := 490) C dL_act_482 (by decide) (fun c482 => ?_) (fun c482 => ?_)
    · skip
      refine z_iconst (v := 4) C dL_act_490 (by decide) ?_
      obtain ⟨g0, hg0, eg0⟩ := bel_ex (x >>> (2 &&& 31)) (m := 4) (by omega) (by omega)
      refine z_callS (w := ([] : va_W)) (w' := ([] : va_W)) (w1 := ([] : va_W)) (w2 := ((wX0 hh cI cZ v) ++ (wS G cI cP v))) (ws' := ((wX0 hh cI cZ v) ++ (wS G cI cP v))) (As := [.int (x >>> (2 &&& 31)), .int 4]) (rest := [.int 1]) (st' := [.int (bel (x >>> (2 &&& 31)) 4), .int 1]) (rv := some (.int (bel (x >>> (2 &&& 31)) 4))) C (c_L_below l D (x >>> (2 &&& 31)) 4 (by decide)) (va_cwS 2 C.words gL_act_L_below rfl rfl rfl (by decide +kernel) ⟨(Nat.le_of_ble_eq_true rfl), (Nat.le_of_ble_eq_true rfl)⟩) [] rfl rfl (Nat.le_of_ble_eq_true rfl) ⟨(Nat.le_of_ble_eq_true rfl), (Nat.le_of_ble_eq_true rfl)⟩ rfl rfl rfl rfl rfl dL_act_491 ?_
      refine z_top (y := nI g0) eg0 ?_
      refine z_iadd C dL_act_494 ?_
      refine z_top (y := nI (1 + g0)) (nI_add 1 g0) ?_
      refine z_istore (L' := [(11, .int (nI (1 + g0))), (0, .ref (hh 0)), (1, .ref (gO G)), (2, .int x), (3, .int (nI (xn v))), (4, .int (nI so)), (5, .int (nI j))]) C dL_act_495 (by decide) rfl ?_
      refine z_aload_n C 1 dL_act_497 rfl rfl ?_
      refine z_iload C 0 dL_act_498 rfl ?_
      obtain ⟨v8, hv8⟩ : ∃ z, z = xpass v (1 + g0) := ⟨_, rfl⟩
      refine z_callV (w := (wX0 hh cI cZ v)) (w' := (wX0 hh cI cZ v8)) (w1 := ([] : va_W)) (w2 := (([] : va_W) ++ (wS G cI cP v))) (ws' := ((wX0 hh cI cZ v8) ++ (wS G cI cP v))) (As := [.int (nI (1 + g0))]) (rest := []) (st' := [.int (xpassF v (1 + g0))]) (rv := some (.int (xpassF v (1 + g0)))) C (by rw [hv8]; exact c_X0_pass l D hh cI cZ v (1 + g0) (by omega) (by omega) (by omega) (by omega)) (cwV 1 C.words gL_act_X0_pass rfl rfl rfl (by decide +kernel) ⟨(Nat.le_of_ble_eq_true rfl), (Nat.le_of_ble_eq_true rfl)⟩) (q0 := 0) (ci := 0) rfl rfl rfl [0, 1] rfl rfl (Nat.le_of_ble_eq_true rfl) ⟨(by show _ ≤ 60; omega), (by show _ ≤ 45; omega)⟩ rfl rfl rfl rfl rfl dL_act_500 ?_
      refine z_aload_n C 2 dL_act_503 rfl rfl ?_
      refine z_iload C 0 dL_act_504 rfl ?_
      refine z_callVX (w := (wS G cI cP v)) (w1 := (wX0 hh cI cZ v8)) (w2 := ([] : va_W)) (As := [.int (nI (1 + g0))]) (rest := [.int (xpassF v (1 + g0))]) C (c_X1_behind l D cI cP G B v (1 + g0) hI (by omega) hB) (hAA.call _) zAA.blind (cwV 1 C.words gL_act_X1_behind rfl rfl rfl (by decide +kernel) ⟨(Nat.le_of_ble_eq_true rfl), (Nat.le_of_ble_eq_true rfl)⟩) (q0 := 0) (ci := 1) rfl rfl rfl [0, 2] rfl rfl (Nat.le_of_ble_eq_true rfl) ⟨(by show _ ≤ 60; omega), (by show _ ≤ 45; omega)⟩ (List.append_nil _).symm rfl dL_act_506 (fun G2 hG2 => ?_)
      refine z_ws (List.append_nil _) ?_
      refine z_st (st' := [.int (xpassF v (1 + g0)), .int (xpassF v (1 + g0))]) rfl ?_
      refine z_icmp_ne (tgt := 516) C dL_act_509 (by decide) (fun h9 => absurd h9 ((fun q => q rfl))) (fun _ => ?_)
      refine z_iconst (v := 1) C dL_act_512 (by decide) ?_
      refine z_goto (tgt := 517) C dL_act_513 (by decide) ?_
      exact z_zretX C ((xpass v (1 + g0), G2) : S0 × AG) (by exact ⟨(hI.pass (1 + g0)).le (by omega), hG2, by show 1 ≤ xn (xpass v (1 + g0)); rw [xpass_n]; omega⟩) hr hlocks (by show _ ≤ 60; omega) (by show _ ≤ 45; omega) (by first | exact Or.inl rfl | exact Or.inr rfl) dL_act_517 (by rfl) (by subst hv8; rfl)
    · skip
      refine z_bipush (v := 60) C dL_act_485 (by decide) ?_
      refine z_goto (tgt := 491) C dL_act_487 (by decide) ?_
      obtain ⟨g0, hg0, eg0⟩ := bel_ex (x >>> (2 &&& 31)) (m := 60) (by omega) (by omega)
      refine z_callS (w := ([] : va_W)) (w' := ([] : va_W)) (w1 := ([] : va_W)) (w2 := ((wX0 hh cI cZ v) ++ (wS G cI cP v))) (ws' := ((wX0 hh cI cZ v) ++ (wS G cI cP v))) (As := [.int (x >>> (2 &&& 31)), .int 60]) (rest := [.int 1]) (st' := [.int (bel (x >>> (2 &&& 31)) 60), .int 1]) (rv := some (.int (bel (x >>> (2 &&& 31)) 60))) C (c_L_below l D (x >>> (2 &&& 31)) 60 (by decide)) (va_cwS 2 C.words gL_act_L_below rfl rfl rfl (by decide +kernel) ⟨(Nat.le_of_ble_eq_true rfl), (Nat.le_of_ble_eq_true rfl)⟩) [] rfl rfl (Nat.le_of_ble_eq_true rfl) ⟨(Nat.le_of_ble_eq_true rfl), (Nat.le_of_ble_eq_true rfl)⟩ rfl rfl rfl rfl rfl dL_act_491 ?_
      refine z_top (y := nI g0) eg0 ?_
      refine z_iadd C dL_act_494 ?_
      refine z_top (y := nI (1 + g0)) (nI_add 1 g0) ?_
      refine z_istore (L' := [(11, .int (nI (1 + g0))), (0, .ref (hh 0)), (1, .ref (gO G)), (2, .int x), (3, .int (nI (xn v))), (4, .int (nI so)), (5, .int (nI j))]) C dL_act_495 (by decide) rfl ?_
      refine z_aload_n C 1 dL_act_497 rfl rfl ?_
      refine z_iload C 0 dL_act_498 rfl ?_
      obtain ⟨v9, hv9⟩ : ∃ z, z = xpass v (1 + g0) := ⟨_, rfl⟩
      refine z_callV (w := (wX0 hh cI cZ v)) (w' := (wX0 hh cI cZ v9)) (w1 := ([] : va_W)) (w2 := (([] : va_W) ++ (wS G cI cP v))) (ws' := ((wX0 hh cI cZ v9) ++ (wS G cI cP v))) (As := [.int (nI (1 + g0))]) (rest := []) (st' := [.int (xpassF v (1 + g0))]) (rv := some (.int (xpassF v (1 + g0)))) C (by rw [hv9]; exact c_X0_pass l D hh cI cZ v (1 + g0) (by omega) (by omega) (by omega) (by omega)) (cwV 1 C.words gL_act_X0_pass rfl rfl rfl (by decide +kernel) ⟨(Nat.le_of_ble_eq_true rfl), (Nat.le_of_ble_eq_true rfl)⟩) (q0 := 0) (ci := 0) rfl rfl rfl [0, 1] rfl rfl (Nat.le_of_ble_eq_true rfl) ⟨(by show _ ≤ 60; omega), (by show _ ≤ 45; omega)⟩ rfl rfl rfl rfl rfl dL_act_500 ?_
      refine z_aload_n C 2 dL_act_503 rfl rfl ?_
      refine z_iload C 0 dL_act_504 rfl ?_
      refine z_callVX (w := (wS G cI cP v)) (w1 := (wX0 hh cI cZ v9)) (w2 := ([] : va_W)) (As := [.int (nI (1 + g0))]) (rest := [.int (xpassF v (1 + g0))]) C (c_X1_behind l D cI cP G B v (1 + g0) hI (by omega) hB) (hAA.call _) zAA.blind (cwV 1 C.words gL_act_X1_behind rfl rfl rfl (by decide +kernel) ⟨(Nat.le_of_ble_eq_true rfl), (Nat.le_of_ble_eq_true rfl)⟩) (q0 := 0) (ci := 1) rfl rfl rfl [0, 2] rfl rfl (Nat.le_of_ble_eq_true rfl) ⟨(by show _ ≤ 60; omega), (by show _ ≤ 45; omega)⟩ (List.append_nil _).symm rfl dL_act_506 (fun G2 hG2 => ?_)
      refine z_ws (List.append_nil _) ?_
      refine z_st (st' := [.int (xpassF v (1 + g0)), .int (xpassF v (1 + g0))]) rfl ?_
      refine z_icmp_ne (tgt := 516) C dL_act_509 (by decide) (fun h9 => absurd h9 ((fun q => q rfl))) (fun _ => ?_)
      refine z_iconst (v := 1) C dL_act_512 (by decide) ?_
      refine z_goto (tgt := 517) C dL_act_513 (by decide) ?_
      exact z_zretX C ((xpass v (1 + g0), G2) : S0 × AG) (by exact ⟨(hI.pass (1 + g0)).le (by omega), hG2, by show 1 ≤ xn (xpass v (1 + g0)); rw [xpass_n]; omega⟩) hr hlocks (by show _ ≤ 60; omega) (by show _ ≤ 45; omega) (by first | exact Or.inl rfl | exact Or.inr rfl) dL_act_517 (by rfl) (by subst hv9; rfl)
  have k26 : ∀ (so : Nat), zG p l e ({ frames := 5, cells := 60, slots := 45, locals := 104 } : Room) s m args below meth c D 12 A 0 0 (MQ below (zQX (fun z : S0 × AG => Inv (B + 60) z.1 ∧ gO z.2 = gO G ∧ 1 ≤ xn z.1) (fun _ => some (.int 1)) (fun z => wX0 hh cI cZ z.1 ++ wS z.2 cI cP z.1) D A) args s 60 45 A) 26 [(0, .ref (hh 0)), (1, .ref (gO G)), (2, .int x), (3, .int (nI (xn v))), (4, .int (nI so))] [] ((wX0 hh cI cZ v) ++ (wS G cI cP v)) := by
    intro so
    refine z_iload_n C 3 dL_act_26 rfl rfl ?_
    refine z_bipush (v := 8) C dL_act_27 (by decide) ?_
    refine z_icmp_ne (tgt := 34) C dL_act_29 (by decide) (fun c29 => ?_) (fun c29 => ?_)
    · skip
      have hn87 : xn v < 8 := by have q : xn v ≠ 8 := fun q => c29 (by rw [q]; rfl); omega
      refine z_aload_n C 1 dL_act_34 rfl rfl ?_
      refine z_aload_n C 1 dL_act_35 rfl rfl ?_
      refine z_sget (v := .ref (gA G)) C ins 3 (by decide) rfl wd1 dL_act_36 ?_
      refine z_iconst (v := 3) C dL_act_39 (by decide) ?_
      refine z_newi (N := 3) C 0 rfl wd7 (by decide) (by decide) (by decide) (by show _ ≤ 60; omega) (by show _ ≤ 45; omega) dL_act_40 (fun q => ?_)
      refine z_dup C dL_act_42 rfl ?_
      refine z_iconst (v := 0) C dL_act_43 (by decide) ?_
      refine z_bipush (v := 50) C dL_act_44 (by decide) ?_
      refine z_qset C 0 rfl 0 rfl (by decide) (by decide) dL_act_46 ?_
      refine z_dup C dL_act_47 rfl ?_
      refine z_iconst (v := 1) C dL_act_48 (by decide) ?_
      refine z_iconst (v := 0) C dL_act_49 (by decide) ?_
      refine z_qset C 0 rfl 1 rfl (by decide) (by decide) dL_act_50 ?_
      refine z_dup C dL_act_51 rfl ?_
      refine z_iconst (v := 2) C dL_act_52 (by decide) ?_
      refine z_iconst (v := 0) C dL_act_53 (by decide) ?_
      refine z_qset C 0 rfl 2 rfl (by decide) (by decide) dL_act_54 ?_
      refine z_ws (ws' := (((wX0 hh cI cZ v ++ wSo G v) ++ wT (gA G) cP cI (xn v) 3 (gM G) (mrow v)) ++ wT (gB G) cP cI (xk v) 4 (gL G) (lrow v)) ++ [(q, .inl (cI, 3, .inl (upd (upd (upd (fun _ => 0) 0 50) 1 0) 2 0)))]) (by unfold wS; simp only [List.append_assoc]) ?_
      refine z_swap ?_
      refine z_callSX (w := wT (gA G) cP cI (xn v) 3 (gM G) (mrow v) ++ [(q, .inl (cI, 3, .inl (upd (upd (upd (fun _ => 0) 0 50) 1 0) 2 0)))]) (w1 := wX0 hh cI cZ v ++ wSo G v) (w2 := wT (gB G) cP cI (xk v) 4 (gL G) (lrow v)) (As := [.ref (gA G), .ref q]) (rest := [.ref (gO G)]) C (c_X1_with l D cI cP (g := gM G) (r := mrow v) (by omega)) (hAA.call _) zAA.blind (va_cwS 2 C.words gL_act_X1_with rfl rfl rfl (by decide +kernel) ⟨(Nat.le_of_ble_eq_true rfl), (Nat.le_of_ble_eq_true rfl)⟩) [0, 2] rfl rfl (Nat.le_of_ble_eq_true rfl) ⟨(by show _ ≤ 60; omega), (by show _ ≤ 45; omega)⟩ (congrArg (· ++ wT (gB G) cP cI (xk v) 4 (gL G) (lrow v)) (List.append_assoc _ _ _)) rfl dL_act_55 (fun bb _ => ?_)
      refine z_ws (ws' := (wX0 hh cI cZ v ++ wSo G v) ++ (wT bb cP cI (xn v + 1) 3 (snoc (xn v) (gM G) q) (snoc (xn v) (mrow v) (upd (upd (upd (fun _ => 0) 0 50) 1 0) 2 0)) ++ wT (gB G) cP cI (xk v) 4 (gL G) (lrow v))) (List.append_assoc _ _ _) ?_
      refine z_st (st' := [.ref bb, .ref (gO G)]) rfl ?_
      refine z_sputA (pre := wX0 hh cI cZ v) (G := G) (u := v) (b := bb) C ins wd1 dL_act_58 ?_
      refine z_ws (ws' := wX0 hh cI cZ v ++ wS (gO G, bb, gB G, snoc (xn v) (gM G) q, gL G) cI cP (xjoin v)) (wS_pushM (u2 := xjoin v) rfl rfl rfl rfl rfl (fun m hm => mrow_eq (pk_un (Nat.ne_of_lt hm)).symm (pk_un (Nat.ne_of_lt hm)).symm (pk_un (Nat.ne_of_lt hm)).symm) (fun _ _ => rfl) (row3 pk_us pk_us pk_us)) ?_
      refine z_aload_n C 0 dL_act_61 rfl rfl ?_
      obtain ⟨v10, hv10⟩ : ∃ z, z = xjoin v := ⟨_, rfl⟩
      refine z_callV (w := (wX0 hh cI cZ v)) (w' := (wX0 hh cI cZ v10)) (w1 := ([] : va_W)) (w2 := (([] : va_W) ++ (wS (gO G, bb, gB G, snoc (xn v) (gM G) q, gL G) cI cP (xjoin v)))) (ws' := ((wX0 hh cI cZ v10) ++ (wS (gO G, bb, gB G, snoc (xn v) (gM G) q, gL G) cI cP (xjoin v)))) (As := []) (rest := []) (st' := [.int (nI (xn v))]) (rv := some (.int (nI (xn v)))) C (by rw [hv10]; exact c_X0_join l D hh cI cZ v (by omega)) (cwV 0 C.words gL_act_X0_join rfl rfl rfl (by decide +kernel) ⟨(Nat.le_of_ble_eq_true rfl), (Nat.le_of_ble_eq_true rfl)⟩) (q0 := 0) (ci := 0) rfl rfl rfl [0, 1] rfl rfl (Nat.le_of_ble_eq_true rfl) ⟨(by show _ ≤ 60; omega), (by show _ ≤ 45; omega)⟩ rfl rfl rfl rfl rfl dL_act_62 ?_
      refine z_iload_n C 3 dL_act_65 rfl rfl ?_
      refine z_icmp_ne (tgt := 73) C dL_act_66 (by decide) (fun h9 => absurd h9 ((fun q => q rfl))) (fun _ => ?_)
      refine z_iconst (v := 1) C dL_act_69 (by decide) ?_
      refine z_goto (tgt := 74) C dL_act_70 (by decide) ?_
      exact z_zretX C ((xjoin v, (gO G, bb, gB G, snoc (xn v) (gM G) q, gL G)) : S0 × AG) (by exact ⟨(hI.join hn87).le (by omega), rfl, by show 1 ≤ xn v + 1; omega⟩) hr hlocks (by show _ ≤ 60; omega) (by show _ ≤ 45; omega) (by first | exact Or.inl rfl | exact Or.inr rfl) dL_act_74 (by rfl) (by subst hv10; rfl)
    · skip
      have hn88 : xn v = 8 := (nI_eq (b := 8) (by omega) (by omega)).mp c29
      refine z_iconst (v := 1) C dL_act_32 (by decide) ?_
      exact z_zretX C ((v, G) : S0 × AG) (by exact ⟨hI.le (by omega), rfl, by show 1 ≤ xn v; omega⟩) hr hlocks (by show _ ≤ 60; omega) (by show _ ≤ 45; omega) (by first | exact Or.inl rfl | exact Or.inr rfl) dL_act_33 (by rfl) (by rfl)
  refine z_aload_n C 1 dL_act_0 rfl rfl ?_
  refine z_sget (v := .ref (gA G)) C ins 3 (by decide) rfl wd1 dL_act_1 ?_
  refine z_alenA C 2 rfl dL_act_4 ?_
  refine z_istore_n (L' := [(3, .int (nI (xn v))), (0, .ref (hh 0)), (1, .ref (gO G)), (2, .int x)]) C dL_act_5 rfl (by decide) rfl ?_
  refine z_iload_n C 3 dL_act_6 rfl rfl ?_
  refine z_bipush (v := 9) C dL_act_7 (by decide) ?_
  refine z_ishr C dL_act_9 ?_
  refine z_bipush (v := 20) C dL_act_10 (by decide) ?_
  obtain ⟨so, hso, eso⟩ := bel_ex (x >>> (9 &&& 31)) (m := 20) (by omega) (by omega)
  refine z_callS (w := ([] : va_W)) (w' := ([] : va_W)) (w1 := ([] : va_W)) (w2 := ((wX0 hh cI cZ v) ++ (wS G cI cP v))) (ws' := ((wX0 hh cI cZ v) ++ (wS G cI cP v))) (As := [.int (x >>> (9 &&& 31)), .int 20]) (rest := []) (st' := [.int (bel (x >>> (9 &&& 31)) 20)]) (rv := some (.int (bel (x >>> (9 &&& 31)) 20))) C (c_L_below l D (x >>> (9 &&& 31)) 20 (by decide)) (va_cwS 2 C.words gL_act_L_below rfl rfl rfl (by decide +kernel) ⟨(Nat.le_of_ble_eq_true rfl), (Nat.le_of_ble_eq_true rfl)⟩) [] rfl rfl (Nat.le_of_ble_eq_true rfl) ⟨(Nat.le_of_ble_eq_true rfl), (Nat.le_of_ble_eq_true rfl)⟩ rfl rfl rfl rfl rfl dL_act_12 ?_
  refine z_top (y := nI so) eso ?_
  refine z_istore (L' := [(4, .int (nI so)), (3, .int (nI (xn v))), (0, .ref (hh 0)), (1, .ref (gO G)), (2, .int x)]) C dL_act_15 (by decide) rfl ?_
  refine z_iload_n C 1 dL_act_17 rfl rfl ?_
  refine z_if_eq (tgt := 26) C dL_act_18 (by decide) (fun c18 => ?_) (fun c18 => ?_)
  · skip
    refine z_sub (L' := [(0, .ref (hh 0)), (1, .ref (gO G)), (2, .int x), (3, .int (nI (xn v))), (4, .int (nI so))]) [2, 3, 4, 1, 0] rfl ?_
    exact k26 so
  · skip
    refine z_iload C 0 dL_act_21 rfl ?_
    refine z_if_ne (tgt := 75) C dL_act_23 (by decide) (fun c23 => ?_) (fun c23 => ?_)
    · skip
      refine z_iload_n C 4 dL_act_75 rfl rfl ?_
      refine z_iconst (v := 1) C dL_act_76 (by decide) ?_
      refine z_ishr C dL_act_77 ?_
      refine z_iload_n C 1 dL_act_78 rfl rfl ?_
      have hn1 := nI_nz c18
      obtain ⟨j, hj, ej⟩ := bel_ex (x >>> (1 &&& 31)) (m := xn v) hn1 (by omega)
      refine z_callS (w := ([] : va_W)) (w' := ([] : va_W)) (w1 := ([] : va_W)) (w2 := ((wX0 hh cI cZ v) ++ (wS G cI cP v))) (ws' := ((wX0 hh cI cZ v) ++ (wS G cI cP v))) (As := [.int (x >>> (1 &&& 31)), .int (nI (xn v))]) (rest := []) (st' := [.int (bel (x >>> (1 &&& 31)) (nI (xn v)))]) (rv := some (.int (bel (x >>> (1 &&& 31)) (nI (xn v))))) C (c_L_below l D (x >>> (1 &&& 31)) (nI (xn v)) c18) (va_cwS 2 C.words gL_act_L_below rfl rfl rfl (by decide +kernel) ⟨(Nat.le_of_ble_eq_true rfl), (Nat.le_of_ble_eq_true rfl)⟩) [] rfl rfl (Nat.le_of_ble_eq_true rfl) ⟨(Nat.le_of_ble_eq_true rfl), (Nat.le_of_ble_eq_true rfl)⟩ rfl rfl rfl rfl rfl dL_act_79 ?_
      refine z_top (y := nI j) ej ?_
      refine z_istore (L' := [(5, .int (nI j)), (4, .int (nI so)), (3, .int (nI (xn v))), (0, .ref (hh 0)), (1, .ref (gO G)), (2, .int x)]) C dL_act_82 (by decide) rfl ?_
      refine z_iload C 1 dL_act_84 rfl ?_
      have hso14 : so = 0 ∨ so = 1 ∨ so = 2 ∨ so = 3 ∨ so = 4 ∨ so = 5 ∨ so = 6 ∨ so = 7 ∨ so = 8 ∨ so = 9 ∨ so = 10 ∨ so = 11 ∨ so = 12 ∨ so = 13 ∨ so = 14 ∨ 15 ≤ so := by omega
      refine z_sub (L' := [(0, .ref (hh 0)), (1, .ref (gO G)), (2, .int x), (3, .int (nI (xn v))), (4, .int (nI so)), (5, .int (nI j))]) [3, 4, 5, 2, 1, 0] rfl ?_
      rcases hso14 with rfl | rfl | rfl | rfl | rfl | rfl | rfl | rfl | rfl | rfl | rfl | rfl | rfl | rfl | rfl | h15
      · exact absurd rfl c23
      · exact z_tabIn (off := 70) (tgt := 156) C dL_act_86 (by decide +kernel) (by decide +kernel) (by decide +kernel) (by decide) (k156 _ j hj)
      · exact z_tabIn (off := 70) (tgt := 156) C dL_act_86 (by decide +kernel) (by decide +kernel) (by decide +kernel) (by decide) (k156 _ j hj)
      · exact z_tabIn (off := 70) (tgt := 156) C dL_act_86 (by decide +kernel) (by decide +kernel) (by decide +kernel) (by decide) (k156 _ j hj)
      · exact z_tabIn (off := 70) (tgt := 156) C dL_act_86 (by decide +kernel) (by decide +kernel) (by decide +kernel) (by decide) (k156 _ j hj)
      · exact z_tabIn (off := 156) (tgt := 242) C dL_act_86 (by decide +kernel) (by decide +kernel) (by decide +kernel) (by decide) (k242 _ j hj)
      · exact z_tabIn (off := 156) (tgt := 242) C dL_act_86 (by decide +kernel) (by decide +kernel) (by decide +kernel) (by decide) (k242 _ j hj)
      · exact z_tabIn (off := 156) (tgt := 242) C dL_act_86 (by decide +kernel) (by decide +kernel) (by decide +kernel) (by decide) (k242 _ j hj)
      · exact z_tabIn (off := 156) (tgt := 242) C dL_act_86 (by decide +kernel) (by decide +kernel) (by decide +kernel) (by decide) (k242 _ j hj)
      · exact z_tabIn (off := 156) (tgt := 242) C dL_act_86 (by decide +kernel) (by decide +kernel) (by decide +kernel) (by decide) (k242 _ j hj)
      · exact z_tabIn (off := 233) (tgt := 319) C dL_act_86 (by decide +kernel) (by decide +kernel) (by decide +kernel) (by decide) (k319 _ j hj)
      · exact z_tabIn (off := 233) (tgt := 319) C dL_act_86 (by decide +kernel) (by decide +kernel) (by decide +kernel) (by decide) (k319 _ j hj)
      · exact z_tabIn (off := 297) (tgt := 383) C dL_act_86 (by decide +kernel) (by decide +kernel) (by decide +kernel) (by decide) (k383 _ j hj)
      · exact z_tabIn (off := 297) (tgt := 383) C dL_act_86 (by decide +kernel) (by decide +kernel) (by decide +kernel) (by decide) (k383 _ j hj)
      · exact z_tabIn (off := 359) (tgt := 445) C dL_act_86 (by decide +kernel) (by decide +kernel) (by decide +kernel) (by decide) (k445 _ j hj)
      · exact z_tabOut (tgt := 472) C dL_act_86 (Or.inr (by rw [nI_toInt (by omega)]; omega)) (by decide) (k472 _ j hj)
    · skip
      refine z_sub (L' := [(0, .ref (hh 0)), (1, .ref (gO G)), (2, .int x), (3, .int (nI (xn v))), (4, .int (nI so))]) [2, 3, 4, 1, 0] rfl ?_
      exact k26 so
