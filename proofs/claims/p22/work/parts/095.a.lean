set_option maxHeartbeats 8000000 in
set_option maxRecDepth 100000 in
theorem law_1 {p : Program} {e : Env} {s : State} {m : MethodId} {below : List Frame} {meth : Method} {c : Code} (l : Launch) {b : Nat} {D : va_G} {ty : Nat → ClassId} {t0 : Nat → Nat} (C : fj_C p s m #[Value.ref b] c cL_law 16 RL wsL_law (fun q => s.heap.size ≤ q) D ty t0) (hr : meth.sig.returnType = ret) (hlk : meth.locks = false) (hL : t0 2 ≤ 260) (ad : Nat → Nat) (q1 q2 : Nat) {F G : Nat} (hF4 : F < 4000) {gg : Nat → Nat → Int64} (K : ∀ (M V : Nat) (f g : Nat → Int32) (acr : Int32) (a : Nat → Nat → Int32) (n : Nat → Int32), BK F G M M a n → LI F G M V f g acr a → a 23 1 = 0 → fj p l e room_1 s m #[Value.ref b] below meth c (lw_Z below #[Value.ref b] s) (fun q => s.heap.size ≤ q) D 16 46 2555 (pw q1 q2 ty f g ++ fx_w ad ty a gg n) [(10, .int (nI M)), (9, .int (nI M)), (8, .int acr), (7, .int (nI V)), (6, .ref q2), (5, .ref q1), (4, .int 1), (3, .int (nI G)), (2, .int (nI F)), (1, .ref (ad 0)), (0, .ref (t0 1))] 419 []) : ∀ (k M V : Nat) (f g : Nat → Int32) (acr : Int32) (a : Nat → Nat → Int32) (n : Nat → Int32), 300 - M < k → BK F G M M a n → LI F G M V f g acr a → a 23 1 = 0 → fj p l e room_1 s m #[Value.ref b] below meth c (lw_Z below #[Value.ref b] s) (fun q => s.heap.size ≤ q) D 16 46 2555 (pw q1 q2 ty f g ++ fx_w ad ty a gg n) [(10, .int (nI M)), (9, .int (nI M)), (8, .int acr), (7, .int (nI V)), (6, .ref q2), (5, .ref q1), (4, .int 1), (3, .int (nI G)), (2, .int (nI F)), (1, .ref (ad 0)), (0, .ref (t0 1))] 113 [] := by
  intro k
  induction k with
  | zero => intro M V f g acr a n hk; exact absurd hk (Nat.not_lt_zero _)
  | succ k ih =>
    intro M V f g acr a n hk hb hl hs
    have hM2 := bk_M hb
    have hFG := bk_F hb
    have kC13 : Cond.constant RL 13 (2147483647) ∈ wsL_law := ptL_law_woL_law _ (by decide +kernel)
    refine fj_iload C 0 dL_law_113 rfl ?_
    refine fj_aload_n C 10 dL_law_115 rfl rfl ?_
    refine fj_slenX C dL_law_116 ?_
    refine fj_icmp_ge (tgt := 419) C dL_law_117 (by decide) (fun h117 => ?_) (fun h117 => ?_)
    · refine fj_lv (lv' := [(10, .int (nI M)), (9, .int (nI M)), (8, .int acr), (7, .int (nI V)), (6, .ref q2), (5, .ref q1), (4, .int 1), (3, .int (nI G)), (2, .int (nI F)), (1, .ref (ad 0)), (0, .ref (t0 1))]) [0, 1, 2, 3, 4, 5, 6, 7, 8, 9, 10] rfl ?_
      exact K M V f g acr a n hb hl hs
    · have hlt : M < t0 2 := Nat.not_le.mp fun w => h117 ((nI_leI (by omega) (by omega)).mpr w)
      refine fj_iload C 1 dL_law_120 rfl ?_
      refine fj_bipush (v := 60) C dL_law_122 (by decide) ?_
      refine fj_icmp_ge (tgt := 419) C dL_law_124 (by decide) (fun h124 => ?_) (fun h124 => ?_)
      · refine fj_lv (lv' := [(10, .int (nI M)), (9, .int (nI M)), (8, .int acr), (7, .int (nI V)), (6, .ref q2), (5, .ref q1), (4, .int 1), (3, .int (nI G)), (2, .int (nI F)), (1, .ref (ad 0)), (0, .ref (t0 1))]) [0, 1, 2, 3, 4, 5, 6, 7, 8, 9, 10] rfl ?_
        exact K M V f g acr a n hb hl hs
      · have hM60 : M < 60 := Nat.not_le.mp fun w => h124 ((nI_leI (a := 60) (by decide) (by omega)).mpr w)
        have hmu : 300 - (M + 1) < k := by omega
        refine fj_iload C 6 dL_law_127 rfl ?_
        refine fj_if_eq (tgt := 419) C dL_law_129 (by decide) (fun h => absurd h (by decide)) (fun _ => ?_)
        refine fj_aload_n C 10 dL_law_132 rfl rfl ?_
        refine fj_iload C 0 dL_law_133 rfl ?_
        refine fj_sldX C (vp_in_nI hlt (by omega)) dL_law_135 ?_
        refine fj_ldcI (v := 2147483647) C kC13 dL_law_136 ?_
        refine fj_iand C dL_law_138 ?_
        obtain ⟨X9, hX9, eX9⟩ := pk_andE (sx_f t0 (nI M).toNatClampNeg) (m := 2147483647) 31 (by decide)
        refine fj_at (y := nI X9) eX9 ?_
        refine fj_istore (lv' := [(11, .int (nI X9)), (10, .int (nI M)), (9, .int (nI M)), (8, .int acr), (7, .int (nI V)), (6, .ref q2), (5, .ref q1), (4, .int 1), (3, .int (nI G)), (2, .int (nI F)), (1, .ref (ad 0)), (0, .ref (t0 1))]) C dL_law_139 (by decide) rfl ?_
        refine fj_iload_n C 9 dL_law_141 rfl rfl ?_
        refine fj_iload C 0 dL_law_142 rfl ?_
        refine fj_sipush (v := 3000) C dL_law_144 (by decide) ?_
        refine fj_irem C dL_law_147 (by decide) ?_
        refine fj_at (y := nI (X9 % 3000)) (pk_rem (d := 3000) hX9 (by decide) (by decide)) ?_
        refine fj_iadd C dL_law_148 ?_
        refine fj_at (y := nI (F + X9 % 3000)) (nI_add F _) ?_
        refine fj_bipush (v := 50) C dL_law_149 (by decide) ?_
        refine fj_isub C dL_law_151 ?_
        obtain ⟨D9, eD9⟩ : ∃ D9, D9 = F + X9 % 3000 - 50 := ⟨_, rfl⟩
        have hD9 : D9 ≤ 7200 := by have := Nat.mod_lt X9 (show 0 < 3000 by decide); omega
        refine fj_at (y := nI D9) (by rw [eD9]; exact pk_sub (b := 50) (by omega)) ?_
        refine fj_istore (lv' := [(12, .int (nI D9)), (11, .int (nI X9)), (10, .int (nI M)), (9, .int (nI M)), (8, .int acr), (7, .int (nI V)), (6, .ref q2), (5, .ref q1), (4, .int 1), (3, .int (nI G)), (2, .int (nI F)), (1, .ref (ad 0)), (0, .ref (t0 1))]) C dL_law_152 (by decide) rfl ?_
        refine fj_iload C 1 dL_law_154 rfl ?_
        refine fj_bipush (v := 14) C dL_law_156 (by decide) ?_
        refine fj_iushr C rfl dL_law_158 ?_
        refine fj_topi (fun z158 _ => ?_)
        refine fj_bipush (v := 15) C dL_law_159 (by decide) ?_
        refine fj_iand C dL_law_161 ?_
        refine fj_topi (fun z161 _ => ?_)
        refine fj_if_le (tgt := 169) C dL_law_162 (by decide) (fun h162 => ?_) (fun h162 => ?_)
        · refine fj_iconst (v := 0) C dL_law_169 (by decide) ?_
          refine fj_istore (lv' := [(13, .int 0), (12, .int (nI D9)), (11, .int (nI X9)), (10, .int (nI M)), (9, .int (nI M)), (8, .int acr), (7, .int (nI V)), (6, .ref q2), (5, .ref q1), (4, .int 1), (3, .int (nI G)), (2, .int (nI F)), (1, .ref (ad 0)), (0, .ref (t0 1))]) C dL_law_170 (by decide) rfl ?_
          refine fj_iload C 2 dL_law_172 rfl ?_
          refine fj_bipush (v := 18) C dL_law_174 (by decide) ?_
          refine fj_iushr C rfl dL_law_176 ?_
          refine fj_topi (fun z176 _ => ?_)
          refine fj_bipush (v := 7) C dL_law_177 (by decide) ?_
          refine fj_iand C dL_law_179 ?_
          refine fj_topi (fun z179 _ => ?_)
          refine fj_if_le (tgt := 187) C dL_law_180 (by decide) (fun h180 => ?_) (fun h180 => ?_)
          · refine fj_iconst (v := 0) C dL_law_187 (by decide) ?_
            refine fj_istore (lv' := [(14, .int 0), (13, .int 0), (12, .int (nI D9)), (11, .int (nI X9)), (10, .int (nI M)), (9, .int (nI M)), (8, .int acr), (7, .int (nI V)), (6, .ref q2), (5, .ref q1), (4, .int 1), (3, .int (nI G)), (2, .int (nI F)), (1, .ref (ad 0)), (0, .ref (t0 1))]) C dL_law_188 (by decide) rfl ?_
            refine fj_iload C 3 dL_law_190 rfl ?_
            refine fj_bipush (v := 12) C dL_law_192 (by decide) ?_
            refine fj_iushr C rfl dL_law_194 ?_
            refine fj_topi (fun z194 _ => ?_)
            refine fj_iconst (v := 3) C dL_law_195 (by decide) ?_
            refine fj_iand C dL_law_196 ?_
            refine fj_topi (fun z196 _ => ?_)
            refine fj_if_ne (tgt := 318) C dL_law_197 (by decide) (fun h197 => ?_) (fun h197 => ?_)
            · refine fj_iconst (v := 1) C dL_law_318 (by decide) ?_
              refine fj_iload C 3 dL_law_319 rfl ?_
              refine fj_bipush (v := 21) C dL_law_321 (by decide) ?_
              refine fj_iushr (v := nI (X9 / 2 ^ 21)) C (pk_ushrN (by omega) 21 21 (by decide)) dL_law_323 ?_
              refine fj_sipush (v := 400) C dL_law_324 (by decide) ?_
              refine fj_irem C dL_law_327 (by decide) ?_
              refine fj_at (y := nI (X9 / 2 ^ 21 % 400)) (pk_rem (d := 400) (by omega) (by decide) (by decide)) ?_
              refine fj_iadd C dL_law_328 ?_
              obtain ⟨N9, eN9⟩ : ∃ N9, N9 = 1 + X9 / 2 ^ 21 % 400 := ⟨_, rfl⟩
              have hN8 : 1 ≤ N9 ∧ N9 ≤ 400 := by have := Nat.mod_lt (X9 / 2 ^ 21) (show 0 < 400 by decide); omega
              have hN9 : N9 ≤ 400 := by omega
              refine fj_at (y := nI N9) (by rw [eN9]; exact nI_add 1 _) ?_
              refine fj_istore (lv' := [(15, .int (nI N9)), (14, .int 0), (13, .int 0), (12, .int (nI D9)), (11, .int (nI X9)), (10, .int (nI M)), (9, .int (nI M)), (8, .int acr), (7, .int (nI V)), (6, .ref q2), (5, .ref q1), (4, .int 1), (3, .int (nI G)), (2, .int (nI F)), (1, .ref (ad 0)), (0, .ref (t0 1))]) C dL_law_329 (by decide) rfl ?_
              refine fj_aload_n C 14 dL_law_331 rfl rfl ?_
              refine fj_iload C 3 dL_law_332 rfl ?_
              refine fj_iconst (v := 1) C dL_law_334 (by decide) ?_
              refine fj_iload C 2 dL_law_335 rfl ?_
              refine fj_if_eq (tgt := 344) C dL_law_337 (by decide) (fun _ => ?_) (fun h => absurd (by decide) h)
              refine fj_iconst (v := 1) C dL_law_344 (by decide) ?_
              refine fj_iload C 1 dL_law_345 rfl ?_
              refine fj_if_eq (tgt := 355) C dL_law_347 (by decide) (fun _ => ?_) (fun h => absurd (by decide) h)
              refine fj_bipush (v := 10) C dL_law_355 (by decide) ?_
              refine fj_iload C 0 dL_law_357 rfl ?_
              refine fj_callV (As := [.int (nI D9), .int 1, .int 1, .int 10, .int (nI N9)]) (rest := []) (wr := pw q1 q2 ty f g) C (d_X5_line l D ty t0 ad a gg n 2 0 0 M hb.1 (nI D9) 1 1 10 (nI N9)) (cwV 5 C.2.2.2.2.1 gL_law_X5_line rfl rfl rfl (by decide +kernel) ⟨Nat.le_of_ble_eq_true rfl, Nat.le_of_ble_eq_true rfl⟩) ⟨0, 5, _, _, fx_at0 _ _ _ _ _, rfl, rfl⟩ rfl (Nat.le_of_ble_eq_true rfl) dL_law_359 ⟨Nat.le_of_ble_eq_true rfl, Nat.le_of_ble_eq_true rfl⟩ [2, 3, 4, 5, 6, 7, 8, 9, 10, 11, 12, 13, 14, 15, 16, 17, 18, 19, 20, 21, 22, 23, 24, 25, 26, 27, 28, 29, 30, 31, 32, 33, 34, 35, 36, 37, 38, 39, 40, 41, 42, 43, 44, 45] [0, 1] rfl rfl rfl rfl (by decide) (fun v9 w9 hp9 => ?_)
              obtain ⟨rfl, a1, n1, rfl, hlf⟩ := q_line hb.1 (bk_ord hb) (lok_of (P := 2) (by omega) (by omega) hN8 (by omega) (Or.inr ⟨rfl, by omega⟩) (Or.inr rfl) (Or.inr rfl)) hp9
              refine fj_st (st' := .int (nI M) :: []) rfl ?_
              refine fj_iload C 6 dL_law_362 rfl ?_
              refine fj_icmp_ne (tgt := 371) C dL_law_364 (by decide) (fun h364 => absurd (rfl : nI M = nI M) h364) (fun h364 => ?_)
              refine fj_iconst (v := 1) C dL_law_367 (by decide) ?_
              refine fj_goto (tgt := 372) C dL_law_368 (by decide) ?_
              refine fj_istore (lv' := [(4, .int 1), (15, .int (nI N9)), (14, .int 0), (13, .int 0), (12, .int (nI D9)), (11, .int (nI X9)), (10, .int (nI M)), (9, .int (nI M)), (8, .int acr), (7, .int (nI V)), (6, .ref q2), (5, .ref q1), (3, .int (nI G)), (2, .int (nI F)), (1, .ref (ad 0)), (0, .ref (t0 1))]) C dL_law_372 (by decide) rfl ?_
              refine fj_iload C 3 dL_law_374 rfl ?_
              refine fj_if_eq (tgt := 410) C dL_law_376 (by decide) (fun _ => ?_) (fun h => absurd (by decide) h)
              refine fj_iinc (v := nI (M + 1)) (lv' := [(9, .int (nI (M + 1))), (4, .int 1), (15, .int (nI N9)), (14, .int 0), (13, .int 0), (12, .int (nI D9)), (11, .int (nI X9)), (10, .int (nI M)), (8, .int acr), (7, .int (nI V)), (6, .ref q2), (5, .ref q1), (3, .int (nI G)), (2, .int (nI F)), (1, .ref (ad 0)), (0, .ref (t0 1))]) C 7 dL_law_410 rfl (nI_add M 1) (by decide) rfl ?_
              refine fj_iinc (v := nI (M + 1)) (lv' := [(10, .int (nI (M + 1))), (9, .int (nI (M + 1))), (4, .int 1), (15, .int (nI N9)), (14, .int 0), (13, .int 0), (12, .int (nI D9)), (11, .int (nI X9)), (8, .int acr), (7, .int (nI V)), (6, .ref q2), (5, .ref q1), (3, .int (nI G)), (2, .int (nI F)), (1, .ref (ad 0)), (0, .ref (t0 1))]) C 7 dL_law_413 rfl (nI_add M 1) (by decide) rfl ?_
              refine fj_goto (tgt := 113) C dL_law_416 (by decide) ?_
              refine fj_lv (lv' := [(10, .int (nI (M + 1))), (9, .int (nI (M + 1))), (8, .int acr), (7, .int (nI V)), (6, .ref q2), (5, .ref q1), (4, .int 1), (3, .int (nI G)), (2, .int (nI F)), (1, .ref (ad 0)), (0, .ref (t0 1))]) [0, 1, 8, 9, 10, 11, 2, 12, 13, 14, 15] rfl ?_
              exact ih (M + 1) V f g acr a1 n1 hmu (bk_step hb hM60 hlf (Or.inl rfl) rfl hD9 rfl hN9 (Or.inr rfl) (Or.inr rfl)) (li_1n hl hlf (fun w => absurd w.1 (by decide))) ((congrFun (hlf.2.2.2.2.2.2.2.1 23 (Or.inr rfl)) 1).trans hs)
            · refine fj_iconst (v := 1) C dL_law_200 (by decide) ?_
              refine fj_iload C 3 dL_law_201 rfl ?_
              refine fj_bipush (v := 21) C dL_law_203 (by decide) ?_
              refine fj_iushr (v := nI (X9 / 2 ^ 21)) C (pk_ushrN (by omega) 21 21 (by decide)) dL_law_205 ?_
              refine fj_bipush (v := 8) C dL_law_206 (by decide) ?_
              refine fj_irem C dL_law_208 (by decide) ?_
              refine fj_at (y := nI (X9 / 2 ^ 21 % 8)) (pk_rem (d := 8) (by omega) (by decide) (by decide)) ?_
              refine fj_iadd C dL_law_209 ?_
              obtain ⟨N9, eN9⟩ : ∃ N9, N9 = 1 + X9 / 2 ^ 21 % 8 := ⟨_, rfl⟩
              have hN8 : 1 ≤ N9 ∧ N9 ≤ 8 := by have := Nat.mod_lt (X9 / 2 ^ 21) (show 0 < 8 by decide); omega
              have hN9 : N9 ≤ 400 := by omega
              refine fj_at (y := nI N9) (by rw [eN9]; exact nI_add 1 _) ?_
              refine fj_istore (lv' := [(15, .int (nI N9)), (14, .int 0), (13, .int 0), (12, .int (nI D9)), (11, .int (nI X9)), (10, .int (nI M)), (9, .int (nI M)), (8, .int acr), (7, .int (nI V)), (6, .ref q2), (5, .ref q1), (4, .int 1), (3, .int (nI G)), (2, .int (nI F)), (1, .ref (ad 0)), (0, .ref (t0 1))]) C dL_law_210 (by decide) rfl ?_
              refine fj_aload_n C 14 dL_law_212 rfl rfl ?_
              refine fj_iload C 3 dL_law_213 rfl ?_
              refine fj_iconst (v := 2) C dL_law_215 (by decide) ?_
              refine fj_iload C 2 dL_law_216 rfl ?_
              refine fj_if_eq (tgt := 225) C dL_law_218 (by decide) (fun _ => ?_) (fun h => absurd (by decide) h)
              refine fj_iconst (v := 1) C dL_law_225 (by decide) ?_
              refine fj_iload C 1 dL_law_226 rfl ?_
              refine fj_if_eq (tgt := 236) C dL_law_228 (by decide) (fun _ => ?_) (fun h => absurd (by decide) h)
              refine fj_bipush (v := 10) C dL_law_236 (by decide) ?_
              refine fj_iload C 0 dL_law_238 rfl ?_
              refine fj_callV (As := [.int (nI D9), .int 2, .int 1, .int 10, .int (nI N9)]) (rest := []) (wr := pw q1 q2 ty f g) C (d_X5_line l D ty t0 ad a gg n 2 0 0 M hb.1 (nI D9) 2 1 10 (nI N9)) (cwV 5 C.2.2.2.2.1 gL_law_X5_line rfl rfl rfl (by decide +kernel) ⟨Nat.le_of_ble_eq_true rfl, Nat.le_of_ble_eq_true rfl⟩) ⟨0, 5, _, _, fx_at0 _ _ _ _ _, rfl, rfl⟩ rfl (Nat.le_of_ble_eq_true rfl) dL_law_240 ⟨Nat.le_of_ble_eq_true rfl, Nat.le_of_ble_eq_true rfl⟩ [2, 3, 4, 5, 6, 7, 8, 9, 10, 11, 12, 13, 14, 15, 16, 17, 18, 19, 20, 21, 22, 23, 24, 25, 26, 27, 28, 29, 30, 31, 32, 33, 34, 35, 36, 37, 38, 39, 40, 41, 42, 43, 44, 45] [0, 1] rfl rfl rfl rfl (by decide) (fun v9 w9 hp9 => ?_)
              obtain ⟨rfl, a1, n1, rfl, hlf⟩ := q_line hb.1 (bk_ord hb) (lok_of (P := 2) (by omega) (by omega) hN8 (by omega) (Or.inl ⟨rfl, by omega⟩) (Or.inr rfl) (Or.inr rfl)) hp9
              refine fj_st (st' := .int (nI M) :: []) rfl ?_
              refine fj_iload C 6 dL_law_243 rfl ?_
              refine fj_icmp_ne (tgt := 252) C dL_law_245 (by decide) (fun h245 => absurd (rfl : nI M = nI M) h245) (fun h245 => ?_)
              refine fj_iconst (v := 1) C dL_law_248 (by decide) ?_
              refine fj_goto (tgt := 253) C dL_law_249 (by decide) ?_
              refine fj_istore (lv' := [(4, .int 1), (15, .int (nI N9)), (14, .int 0), (13, .int 0), (12, .int (nI D9)), (11, .int (nI X9)), (10, .int (nI M)), (9, .int (nI M)), (8, .int acr), (7, .int (nI V)), (6, .ref q2), (5, .ref q1), (3, .int (nI G)), (2, .int (nI F)), (1, .ref (ad 0)), (0, .ref (t0 1))]) C dL_law_253 (by decide) rfl ?_
              refine fj_iload C 8 dL_law_255 rfl ?_
              refine fj_iload C 3 dL_law_257 rfl ?_
              refine fj_if_eq (tgt := 284) C dL_law_259 (by decide) (fun _ => ?_) (fun h => absurd (by decide) h)
              refine fj_iconst (v := 0) C dL_law_284 (by decide) ?_
              refine fj_iadd C dL_law_285 ?_
              refine fj_istore (lv' := [(8, .int (acr + 0)), (4, .int 1), (15, .int (nI N9)), (14, .int 0), (13, .int 0), (12, .int (nI D9)), (11, .int (nI X9)), (10, .int (nI M)), (9, .int (nI M)), (7, .int (nI V)), (6, .ref q2), (5, .ref q1), (3, .int (nI G)), (2, .int (nI F)), (1, .ref (ad 0)), (0, .ref (t0 1))]) C dL_law_286 (by decide) rfl ?_
              refine fj_iload C 0 dL_law_288 rfl ?_
              refine fj_iload C 4 dL_law_290 rfl ?_
              refine fj_if_eq (tgt := 311) C dL_law_292 (by decide) (fun _ => ?_) (fun h => absurd (by decide) h)
              refine fj_iconst (v := 0) C dL_law_311 (by decide) ?_
              refine fj_iadd C dL_law_312 ?_
              refine fj_istore (lv' := [(8, .int ((acr + 0) + 0)), (4, .int 1), (15, .int (nI N9)), (14, .int 0), (13, .int 0), (12, .int (nI D9)), (11, .int (nI X9)), (10, .int (nI M)), (9, .int (nI M)), (7, .int (nI V)), (6, .ref q2), (5, .ref q1), (3, .int (nI G)), (2, .int (nI F)), (1, .ref (ad 0)), (0, .ref (t0 1))]) C dL_law_313 (by decide) rfl ?_
              refine fj_goto (tgt := 410) C dL_law_315 (by decide) ?_
              refine fj_iinc (v := nI (M + 1)) (lv' := [(9, .int (nI (M + 1))), (8, .int ((acr + 0) + 0)), (4, .int 1), (15, .int (nI N9)), (14, .int 0), (13, .int 0), (12, .int (nI D9)), (11, .int (nI X9)), (10, .int (nI M)), (7, .int (nI V)), (6, .ref q2), (5, .ref q1), (3, .int (nI G)), (2, .int (nI F)), (1, .ref (ad 0)), (0, .ref (t0 1))]) C 8 dL_law_410 rfl (nI_add M 1) (by decide) rfl ?_
              refine fj_iinc (v := nI (M + 1)) (lv' := [(10, .int (nI (M + 1))), (9, .int (nI (M + 1))), (8, .int ((acr + 0) + 0)), (4, .int 1), (15, .int (nI N9)), (14, .int 0), (13, .int 0), (12, .int (nI D9)), (11, .int (nI X9)), (7, .int (nI V)), (6, .ref q2), (5, .ref q1), (3, .int (nI G)), (2, .int (nI F)), (1, .ref (ad 0)), (0, .ref (t0 1))]) C 8 dL_law_413 rfl (nI_add M 1) (by decide) rfl ?_
              refine fj_goto (tgt := 113) C dL_law_416 (by decide) ?_
              refine fj_lv (lv' := [(10, .int (nI (M + 1))), (9, .int (nI (M + 1))), (8, .int ((acr + 0) + 0)), (7, .int (nI V)), (6, .ref q2), (5, .ref q1), (4, .int 1), (3, .int (nI G)), (2, .int (nI F)), (1, .ref (ad 0)), (0, .ref (t0 1))]) [0, 1, 2, 9, 10, 11, 3, 12, 13, 14, 15] rfl ?_
              exact ih (M + 1) V f g ((acr + 0) + 0) a1 n1 hmu (bk_step hb hM60 hlf (Or.inr rfl) rfl hD9 rfl hN9 (Or.inr rfl) (Or.inr rfl)) (li_2 hl hlf ((if_neg (fun w => absurd w.1 (by decide))).symm) ((if_neg (fun w => absurd w.1 (by decide))).symm)) ((congrFun (hlf.2.2.2.2.2.2.2.1 23 (Or.inr rfl)) 1).trans hs)
          · refine fj_iconst (v := 1) C dL_law_183 (by decide) ?_
            refine fj_goto (tgt := 188) C dL_law_184 (by decide) ?_
            refine fj_istore (lv' := [(14, .int 1), (13, .int 0), (12, .int (nI D9)), (11, .int (nI X9)), (10, .int (nI M)), (9, .int (nI M)), (8, .int acr), (7, .int (nI V)), (6, .ref q2), (5, .ref q1), (4, .int 1), (3, .int (nI G)), (2, .int (nI F)), (1, .ref (ad 0)), (0, .ref (t0 1))]) C dL_law_188 (by decide) rfl ?_
            refine fj_iload C 3 dL_law_190 rfl ?_
            refine fj_bipush (v := 12) C dL_law_192 (by decide) ?_
            refine fj_iushr C rfl dL_law_194 ?_
            refine fj_topi (fun z194 _ => ?_)
            refine fj_iconst (v := 3) C dL_law_195 (by decide) ?_
            refine fj_iand C dL_law_196 ?_
            refine fj_topi (fun z196 _ => ?_)
            refine fj_if_ne (tgt := 318) C dL_law_197 (by decide) (fun h197 => ?_) (fun h197 => ?_)
            · refine fj_iconst (v := 1) C dL_law_318 (by decide) ?_
              refine fj_iload C 3 dL_law_319 rfl ?_
              refine fj_bipush (v := 21) C dL_law_321 (by decide) ?_
              refine fj_iushr (v := nI (X9 / 2 ^ 21)) C (pk_ushrN (by omega) 21 21 (by decide)) dL_law_323 ?_
              refine fj_sipush (v := 400) C dL_law_324 (by decide) ?_
              refine fj_irem C dL_law_327 (by decide) ?_
              refine fj_at (y := nI (X9 / 2 ^ 21 % 400)) (pk_rem (d := 400) (by omega) (by decide) (by decide)) ?_
              refine fj_iadd C dL_law_328 ?_
              obtain ⟨N9, eN9⟩ : ∃ N9, N9 = 1 + X9 / 2 ^ 21 % 400 := ⟨_, rfl⟩
              have hN8 : 1 ≤ N9 ∧ N9 ≤ 400 := by have := Nat.mod_lt (X9 / 2 ^ 21) (show 0 < 400 by decide); omega
              have hN9 : N9 ≤ 400 := by omega
              refine fj_at (y := nI N9) (by rw [eN9]; exact nI_add 1 _) ?_
              refine fj_istore (lv' := [(15, .int (nI N9)), (14, .int 1), (13, .int 0), (12, .int (nI D9)), (11, .int (nI X9)), (10, .int (nI M)), (9, .int (nI M)), (8, .int acr), (7, .int (nI V)), (6, .ref q2), (5, .ref q1), (4, .int 1), (3, .int (nI G)), (2, .int (nI F)), (1, .ref (ad 0)), (0, .ref (t0 1))]) C dL_law_329 (by decide) rfl ?_
              refine fj_aload_n C 14 dL_law_331 rfl rfl ?_
              refine fj_iload C 3 dL_law_332 rfl ?_
              refine fj_iconst (v := 1) C dL_law_334 (by decide) ?_
              refine fj_iload C 2 dL_law_335 rfl ?_
              refine fj_if_eq (tgt := 344) C dL_law_337 (by decide) (fun _ => ?_) (fun h => absurd (by decide) h)
              refine fj_iconst (v := 1) C dL_law_344 (by decide) ?_
              refine fj_iload C 1 dL_law_345 rfl ?_
              refine fj_if_eq (tgt := 355) C dL_law_347 (by decide) (fun h => absurd h (by decide)) (fun _ => ?_)
              refine fj_bipush (v := 9) C dL_law_350 (by decide) ?_
              refine fj_goto (tgt := 357) C dL_law_352 (by decide) ?_
              refine fj_iload C 0 dL_law_357 rfl ?_
              refine fj_callV (As := [.int (nI D9), .int 1, .int 1, .int 9, .int (nI N9)]) (rest := []) (wr := pw q1 q2 ty f g) C (d_X5_line l D ty t0 ad a gg n 2 0 0 M hb.1 (nI D9) 1 1 9 (nI N9)) (cwV 5 C.2.2.2.2.1 gL_law_X5_line rfl rfl rfl (by decide +kernel) ⟨Nat.le_of_ble_eq_true rfl, Nat.le_of_ble_eq_true rfl⟩) ⟨0, 5, _, _, fx_at0 _ _ _ _ _, rfl, rfl⟩ rfl (Nat.le_of_ble_eq_true rfl) dL_law_359 ⟨Nat.le_of_ble_eq_true rfl, Nat.le_of_ble_eq_true rfl⟩ [2, 3, 4, 5, 6, 7, 8, 9, 10, 11, 12, 13, 14, 15, 16, 17, 18, 19, 20, 21, 22, 23, 24, 25, 26, 27, 28, 29, 30, 31, 32, 33, 34, 35, 36, 37, 38, 39, 40, 41, 42, 43, 44, 45] [0, 1] rfl rfl rfl rfl (by decide) (fun v9 w9 hp9 => ?_)
              obtain ⟨rfl, a1, n1, rfl, hlf⟩ := q_line hb.1 (bk_ord hb) (lok_of (P := 2) (by omega) (by omega) hN8 (by omega) (Or.inr ⟨rfl, by omega⟩) (Or.inr rfl) (Or.inl rfl)) hp9
              refine fj_st (st' := .int (nI M) :: []) rfl ?_
              refine fj_iload C 6 dL_law_362 rfl ?_
              refine fj_icmp_ne (tgt := 371) C dL_law_364 (by decide) (fun h364 => absurd (rfl : nI M = nI M) h364) (fun h364 => ?_)
              refine fj_iconst (v := 1) C dL_law_367 (by decide) ?_
              refine fj_goto (tgt := 372) C dL_law_368 (by decide) ?_
              refine fj_istore (lv' := [(4, .int 1), (15, .int (nI N9)), (14, .int 1), (13, .int 0), (12, .int (nI D9)), (11, .int (nI X9)), (10, .int (nI M)), (9, .int (nI M)), (8, .int acr), (7, .int (nI V)), (6, .ref q2), (5, .ref q1), (3, .int (nI G)), (2, .int (nI F)), (1, .ref (ad 0)), (0, .ref (t0 1))]) C dL_law_372 (by decide) rfl ?_
              refine fj_iload C 3 dL_law_374 rfl ?_
              refine fj_if_eq (tgt := 410) C dL_law_376 (by decide) (fun _ => ?_) (fun h => absurd (by decide) h)
              refine fj_iinc (v := nI (M + 1)) (lv' := [(9, .int (nI (M + 1))), (4, .int 1), (15, .int (nI N9)), (14, .int 1), (13, .int 0), (12, .int (nI D9)), (11, .int (nI X9)), (10, .int (nI M)), (8, .int acr), (7, .int (nI V)), (6, .ref q2), (5, .ref q1), (3, .int (nI G)), (2, .int (nI F)), (1, .ref (ad 0)), (0, .ref (t0 1))]) C 7 dL_law_410 rfl (nI_add M 1) (by decide) rfl ?_
              refine fj_iinc (v := nI (M + 1)) (lv' := [(10, .int (nI (M + 1))), (9, .int (nI (M + 1))), (4, .int 1), (15, .int (nI N9)), (14, .int 1), (13, .int 0), (12, .int (nI D9)), (11, .int (nI X9)), (8, .int acr), (7, .int (nI V)), (6, .ref q2), (5, .ref q1), (3, .int (nI G)), (2, .int (nI F)), (1, .ref (ad 0)), (0, .ref (t0 1))]) C 7 dL_law_413 rfl (nI_add M 1) (by decide) rfl ?_
              refine fj_goto (tgt := 113) C dL_law_416 (by decide) ?_
              refine fj_lv (lv' := [(10, .int (nI (M + 1))), (9, .int (nI (M + 1))), (8, .int acr), (7, .int (nI V)), (6, .ref q2), (5, .ref q1), (4, .int 1), (3, .int (nI G)), (2, .int (nI F)), (1, .ref (ad 0)), (0, .ref (t0 1))]) [0, 1, 8, 9, 10, 11, 2, 12, 13, 14, 15] rfl ?_
              exact ih (M + 1) V f g acr a1 n1 hmu (bk_step hb hM60 hlf (Or.inl rfl) rfl hD9 rfl hN9 (Or.inr rfl) (Or.inl rfl)) (li_1n hl hlf (fun w => absurd w.1 (by decide))) ((congrFun (hlf.2.2.2.2.2.2.2.1 23 (Or.inr rfl)) 1).trans hs)
            · refine fj_iconst (v := 1) C dL_law_200 (by decide) ?_
              refine fj_iload C 3 dL_law_201 rfl ?_
              refine fj_bipush (v := 21) C dL_law_203 (by decide) ?_
              refine fj_iushr (v := nI (X9 / 2 ^ 21)) C (pk_ushrN (by omega) 21 21 (by decide)) dL_law_205 ?_
              refine fj_bipush (v := 8) C dL_law_206 (by decide) ?_
              refine fj_irem C dL_law_208 (by decide) ?_
              refine fj_at (y := nI (X9 / 2 ^ 21 % 8)) (pk_rem (d := 8) (by omega) (by decide) (by decide)) ?_
              refine fj_iadd C dL_law_209 ?_
              obtain ⟨N9, eN9⟩ : ∃ N9, N9 = 1 + X9 / 2 ^ 21 % 8 := ⟨_, rfl⟩
              have hN8 : 1 ≤ N9 ∧ N9 ≤ 8 := by have := Nat.mod_lt (X9 / 2 ^ 21) (show 0 < 8 by decide); omega
              have hN9 : N9 ≤ 400 := by omega
              refine fj_at (y := nI N9) (by rw [eN9]; exact nI_add 1 _) ?_
              refine fj_istore (lv' := [(15, .int (nI N9)), (14, .int 1), (13, .int 0), (12, .int (nI D9)), (11, .int (nI X9)), (10, .int (nI M)), (9, .int (nI M)), (8, .int acr), (7, .int (nI V)), (6, .ref q2), (5, .ref q1), (4, .int 1), (3, .int (nI G)), (2, .int (nI F)), (1, .ref (ad 0)), (0, .ref (t0 1))]) C dL_law_210 (by decide) rfl ?_
              refine fj_aload_n C 14 dL_law_212 rfl rfl ?_
              refine fj_iload C 3 dL_law_213 rfl ?_
              refine fj_iconst (v := 2) C dL_law_215 (by decide) ?_
              refine fj_iload C 2 dL_law_216 rfl ?_
              refine fj_if_eq (tgt := 225) C dL_law_218 (by decide) (fun _ => ?_) (fun h => absurd (by decide) h)
              refine fj_iconst (v := 1) C dL_law_225 (by decide) ?_
              refine fj_iload C 1 dL_law_226 rfl ?_
              refine fj_if_eq (tgt := 236) C dL_law_228 (by decide) (fun h => absurd h (by decide)) (fun _ => ?_)
              refine fj_bipush (v := 9) C dL_law_231 (by decide) ?_
              refine fj_goto (tgt := 238) C dL_law_233 (by decide) ?_
              refine fj_iload C 0 dL_law_238 rfl ?_
              refine fj_callV (As := [.int (nI D9), .int 2, .int 1, .int 9, .int (nI N9)]) (rest := []) (wr := pw q1 q2 ty f g) C (d_X5_line l D ty t0 ad a gg n 2 0 0 M hb.1 (nI D9) 2 1 9 (nI N9)) (cwV 5 C.2.2.2.2.1 gL_law_X5_line rfl rfl rfl (by decide +kernel) ⟨Nat.le_of_ble_eq_true rfl, Nat.le_of_ble_eq_true rfl⟩) ⟨0, 5, _, _, fx_at0 _ _ _ _ _, rfl, rfl⟩ rfl (Nat.le_of_ble_eq_true rfl) dL_law_240 ⟨Nat.le_of_ble_eq_true rfl, Nat.le_of_ble_eq_true rfl⟩ [2, 3, 4, 5, 6, 7, 8, 9, 10, 11, 12, 13, 14, 15, 16, 17, 18, 19, 20, 21, 22, 23, 24, 25, 26, 27, 28, 29, 30, 31, 32, 33, 34, 35, 36, 37, 38, 39, 40, 41, 42, 43, 44, 45] [0, 1] rfl rfl rfl rfl (by decide) (fun v9 w9 hp9 => ?_)
              obtain ⟨rfl, a1, n1, rfl, hlf⟩ := q_line hb.1 (bk_ord hb) (lok_of (P := 2) (by omega) (by omega) hN8 (by omega) (Or.inl ⟨rfl, by omega⟩) (Or.inr rfl) (Or.inl rfl)) hp9
              refine fj_st (st' := .int (nI M) :: []) rfl ?_
              refine fj_iload C 6 dL_law_243 rfl ?_
              refine fj_icmp_ne (tgt := 252) C dL_law_245 (by decide) (fun h245 => absurd (rfl : nI M = nI M) h245) (fun h245 => ?_)
              refine fj_iconst (v := 1) C dL_law_248 (by decide) ?_
              refine fj_goto (tgt := 253) C dL_law_249 (by decide) ?_
              refine fj_istore (lv' := [(4, .int 1), (15, .int (nI N9)), (14, .int 1), (13, .int 0), (12, .int (nI D9)), (11, .int (nI X9)), (10, .int (nI M)), (9, .int (nI M)), (8, .int acr), (7, .int (nI V)), (6, .ref q2), (5, .ref q1), (3, .int (nI G)), (2, .int (nI F)), (1, .ref (ad 0)), (0, .ref (t0 1))]) C dL_law_253 (by decide) rfl ?_
              refine fj_iload C 8 dL_law_255 rfl ?_
              refine fj_iload C 3 dL_law_257 rfl ?_
              refine fj_if_eq (tgt := 284) C dL_law_259 (by decide) (fun _ => ?_) (fun h => absurd (by decide) h)
              refine fj_iconst (v := 0) C dL_law_284 (by decide) ?_
              refine fj_iadd C dL_law_285 ?_
              refine fj_istore (lv' := [(8, .int (acr + 0)), (4, .int 1), (15, .int (nI N9)), (14, .int 1), (13, .int 0), (12, .int (nI D9)), (11, .int (nI X9)), (10, .int (nI M)), (9, .int (nI M)), (7, .int (nI V)), (6, .ref q2), (5, .ref q1), (3, .int (nI G)), (2, .int (nI F)), (1, .ref (ad 0)), (0, .ref (t0 1))]) C dL_law_286 (by decide) rfl ?_
              refine fj_iload C 0 dL_law_288 rfl ?_
              refine fj_iload C 4 dL_law_290 rfl ?_
              refine fj_if_eq (tgt := 311) C dL_law_292 (by decide) (fun _ => ?_) (fun h => absurd (by decide) h)
              refine fj_iconst (v := 0) C dL_law_311 (by decide) ?_
              refine fj_iadd C dL_law_312 ?_
              refine fj_istore (lv' := [(8, .int ((acr + 0) + 0)), (4, .int 1), (15, .int (nI N9)), (14, .int 1), (13, .int 0), (12, .int (nI D9)), (11, .int (nI X9)), (10, .int (nI M)), (9, .int (nI M)), (7, .int (nI V)), (6, .ref q2), (5, .ref q1), (3, .int (nI G)), (2, .int (nI F)), (1, .ref (ad 0)), (0, .ref (t0 1))]) C dL_law_313 (by decide) rfl ?_
              refine fj_goto (tgt := 410) C dL_law_315 (by decide) ?_
              refine fj_iinc (v := nI (M + 1)) (lv' := [(9, .int (nI (M + 1))), (8, .int ((acr + 0) + 0)), (4, .int 1), (15, .int (nI N9)), (14, .int 1), (13, .int 0), (12, .int (nI D9)), (11, .int (nI X9)), (10, .int (nI M)), (7, .int (nI V)), (6, .ref q2), (5, .ref q1), (3, .int (nI G)), (2, .int (nI F)), (1, .ref (ad 0)), (0, .ref (t0 1))]) C 8 dL_law_410 rfl (nI_add M 1) (by decide) rfl ?_
              refine fj_iinc (v := nI (M + 1)) (lv' := [(10, .int (nI (M + 1))), (9, .int (nI (M + 1))), (8, .int ((acr + 0) + 0)), (4, .int 1), (15, .int (nI N9)), (14, .int 1), (13, .int 0), (12, .int (nI D9)), (11, .int (nI X9)), (7, .int (nI V)), (6, .ref q2), (5, .ref q1), (3, .int (nI G)), (2, .int (nI F)), (1, .ref (ad 0)), (0, .ref (t0 1))]) C 8 dL_law_413 rfl (nI_add M 1) (by decide) rfl ?_
              refine fj_goto (tgt := 113) C dL_law_416 (by decide) ?_
              refine fj_lv (lv' := [(10, .int (nI (M + 1))), (9, .int (nI (M + 1))), (8, .int ((acr + 0) + 0)), (7, .int (nI V)), (6, .ref q2), (5, .ref q1), (4, .int 1), (3, .int (nI G)), (2, .int (nI F)), (1, .ref (ad 0)), (0, .ref (t0 1))]) [0, 1, 2, 9, 10, 11, 3, 12, 13, 14, 15] rfl ?_
              exact ih (M + 1) V f g ((acr + 0) + 0) a1 n1 hmu (bk_step hb hM60 hlf (Or.inr rfl) rfl hD9 rfl hN9 (Or.inr rfl) (Or.inl rfl)) (li_2 hl hlf ((if_neg (fun w => absurd w.1 (by decide))).symm) ((if_neg (fun w => absurd w.1 (by decide))).symm)) ((congrFun (hlf.2.2.2.2.2.2.2.1 23 (Or.inr rfl)) 1).trans hs)
        · refine fj_iconst (v := 1) C dL_law_165 (by decide) ?_
          refine fj_goto (tgt := 170) C dL_law_166 (by decide) ?_
          refine fj_istore (lv' := [(13, .int 1), (12, .int (nI D9)), (11, .int (nI X9)), (10, .int (nI M)), (9, .int (nI M)), (8, .int acr), (7, .int (nI V)), (6, .ref q2), (5, .ref q1), (4, .int 1), (3, .int (nI G)), (2, .int (nI F)), (1, .ref (ad 0)), (0, .ref (t0 1))]) C dL_law_170 (by decide) rfl ?_
          refine fj_iload C 2 dL_law_172 rfl ?_
          refine fj_bipush (v := 18) C dL_law_174 (by decide) ?_
          refine fj_iushr C rfl dL_law_176 ?_
          refine fj_topi (fun z176 _ => ?_)
          refine fj_bipush (v := 7) C dL_law_177 (by decide) ?_
          refine fj_iand C dL_law_179 ?_
          refine fj_topi (fun z179 _ => ?_)
          refine fj_if_le (tgt := 187) C dL_law_180 (by decide) (fun h180 => ?_) (fun h180 => ?_)
          · refine fj_iconst (v := 0) C dL_law_187 (by decide) ?_
            refine fj_istore (lv' := [(14, .int 0), (13, .int 1), (12, .int (nI D9)), (11, .int (nI X9)), (10, .int (nI M)), (9, .int (nI M)), (8, .int acr), (7, .int (nI V)), (6, .ref q2), (5, .ref q1), (4, .int 1), (3, .int (nI G)), (2, .int (nI F)), (1, .ref (ad 0)), (0, .ref (t0 1))]) C dL_law_188 (by decide) rfl ?_
            refine fj_iload C 3 dL_law_190 rfl ?_
            refine fj_bipush (v := 12) C dL_law_192 (by decide) ?_
            refine fj_iushr C rfl dL_law_194 ?_
            refine fj_topi (fun z194 _ => ?_)
            refine fj_iconst (v := 3) C dL_law_195 (by decide) ?_
            refine fj_iand C dL_law_196 ?_
            refine fj_topi (fun z196 _ => ?_)
            refine fj_if_ne (tgt := 318) C dL_law_197 (by decide) (fun h197 => ?_) (fun h197 => ?_)
            · refine fj_iconst (v := 1) C dL_law_318 (by decide) ?_
              refine fj_iload C 3 dL_law_319 rfl ?_
              refine fj_bipush (v := 21) C dL_law_321 (by decide) ?_
              refine fj_iushr (v := nI (X9 / 2 ^ 21)) C (pk_ushrN (by omega) 21 21 (by decide)) dL_law_323 ?_
              refine fj_sipush (v := 400) C dL_law_324 (by decide) ?_
              refine fj_irem C dL_law_327 (by decide) ?_
              refine fj_at (y := nI (X9 / 2 ^ 21 % 400)) (pk_rem (d := 400) (by omega) (by decide) (by decide)) ?_
              refine fj_iadd C dL_law_328 ?_
              obtain ⟨N9, eN9⟩ : ∃ N9, N9 = 1 + X9 / 2 ^ 21 % 400 := ⟨_, rfl⟩
              have hN8 : 1 ≤ N9 ∧ N9 ≤ 400 := by have := Nat.mod_lt (X9 / 2 ^ 21) (show 0 < 400 by decide); omega
              have hN9 : N9 ≤ 400 := by omega
              refine fj_at (y := nI N9) (by rw [eN9]; exact nI_add 1 _) ?_
              refine fj_istore (lv' := [(15, .int (nI N9)), (14, .int 0), (13, .int 1), (12, .int (nI D9)), (11, .int (nI X9)), (10, .int (nI M)), (9, .int (nI M)), (8, .int acr), (7, .int (nI V)), (6, .ref q2), (5, .ref q1), (4, .int 1), (3, .int (nI G)), (2, .int (nI F)), (1, .ref (ad 0)), (0, .ref (t0 1))]) C dL_law_329 (by decide) rfl ?_
              refine fj_aload_n C 14 dL_law_331 rfl rfl ?_
              refine fj_iload C 3 dL_law_332 rfl ?_
              refine fj_iconst (v := 1) C dL_law_334 (by decide) ?_
              refine fj_iload C 2 dL_law_335 rfl ?_
              refine fj_if_eq (tgt := 344) C dL_law_337 (by decide) (fun h => absurd h (by decide)) (fun _ => ?_)
              refine fj_iconst (v := 0) C dL_law_340 (by decide) ?_
              refine fj_goto (tgt := 345) C dL_law_341 (by decide) ?_
              refine fj_iload C 1 dL_law_345 rfl ?_
              refine fj_if_eq (tgt := 355) C dL_law_347 (by decide) (fun _ => ?_) (fun h => absurd (by decide) h)
              refine fj_bipush (v := 10) C dL_law_355 (by decide) ?_
              refine fj_iload C 0 dL_law_357 rfl ?_
              refine fj_callV (As := [.int (nI D9), .int 1, .int 0, .int 10, .int (nI N9)]) (rest := []) (wr := pw q1 q2 ty f g) C (d_X5_line l D ty t0 ad a gg n 2 0 0 M hb.1 (nI D9) 1 0 10 (nI N9)) (cwV 5 C.2.2.2.2.1 gL_law_X5_line rfl rfl rfl (by decide +kernel) ⟨Nat.le_of_ble_eq_true rfl, Nat.le_of_ble_eq_true rfl⟩) ⟨0, 5, _, _, fx_at0 _ _ _ _ _, rfl, rfl⟩ rfl (Nat.le_of_ble_eq_true rfl) dL_law_359 ⟨Nat.le_of_ble_eq_true rfl, Nat.le_of_ble_eq_true rfl⟩ [2, 3, 4, 5, 6, 7, 8, 9, 10, 11, 12, 13, 14, 15, 16, 17, 18, 19, 20, 21, 22, 23, 24, 25, 26, 27, 28, 29, 30, 31, 32, 33, 34, 35, 36, 37, 38, 39, 40, 41, 42, 43, 44, 45] [0, 1] rfl rfl rfl rfl (by decide) (fun v9 w9 hp9 => ?_)
              obtain ⟨rfl, a1, n1, rfl, hlf⟩ := q_line hb.1 (bk_ord hb) (lok_of (P := 2) (by omega) (by omega) hN8 (by omega) (Or.inr ⟨rfl, by omega⟩) (Or.inl rfl) (Or.inr rfl)) hp9
              refine fj_st (st' := .int (nI M) :: []) rfl ?_
              refine fj_iload C 6 dL_law_362 rfl ?_
              refine fj_icmp_ne (tgt := 371) C dL_law_364 (by decide) (fun h364 => absurd (rfl : nI M = nI M) h364) (fun h364 => ?_)
              refine fj_iconst (v := 1) C dL_law_367 (by decide) ?_
              refine fj_goto (tgt := 372) C dL_law_368 (by decide) ?_
              refine fj_istore (lv' := [(4, .int 1), (15, .int (nI N9)), (14, .int 0), (13, .int 1), (12, .int (nI D9)), (11, .int (nI X9)), (10, .int (nI M)), (9, .int (nI M)), (8, .int acr), (7, .int (nI V)), (6, .ref q2), (5, .ref q1), (3, .int (nI G)), (2, .int (nI F)), (1, .ref (ad 0)), (0, .ref (t0 1))]) C dL_law_372 (by decide) rfl ?_
              refine fj_iload C 3 dL_law_374 rfl ?_
              refine fj_if_eq (tgt := 410) C dL_law_376 (by decide) (fun h => absurd h (by decide)) (fun _ => ?_)
              refine fj_iload C 2 dL_law_379 rfl ?_
              refine fj_if_eq (tgt := 410) C dL_law_381 (by decide) (fun _ => ?_) (fun h => absurd (by decide) h)
              refine fj_iinc (v := nI (M + 1)) (lv' := [(9, .int (nI (M + 1))), (4, .int 1), (15, .int (nI N9)), (14, .int 0), (13, .int 1), (12, .int (nI D9)), (11, .int (nI X9)), (10, .int (nI M)), (8, .int acr), (7, .int (nI V)), (6, .ref q2), (5, .ref q1), (3, .int (nI G)), (2, .int (nI F)), (1, .ref (ad 0)), (0, .ref (t0 1))]) C 7 dL_law_410 rfl (nI_add M 1) (by decide) rfl ?_
              refine fj_iinc (v := nI (M + 1)) (lv' := [(10, .int (nI (M + 1))), (9, .int (nI (M + 1))), (4, .int 1), (15, .int (nI N9)), (14, .int 0), (13, .int 1), (12, .int (nI D9)), (11, .int (nI X9)), (8, .int acr), (7, .int (nI V)), (6, .ref q2), (5, .ref q1), (3, .int (nI G)), (2, .int (nI F)), (1, .ref (ad 0)), (0, .ref (t0 1))]) C 7 dL_law_413 rfl (nI_add M 1) (by decide) rfl ?_
              refine fj_goto (tgt := 113) C dL_law_416 (by decide) ?_
              refine fj_lv (lv' := [(10, .int (nI (M + 1))), (9, .int (nI (M + 1))), (8, .int acr), (7, .int (nI V)), (6, .ref q2), (5, .ref q1), (4, .int 1), (3, .int (nI G)), (2, .int (nI F)), (1, .ref (ad 0)), (0, .ref (t0 1))]) [0, 1, 8, 9, 10, 11, 2, 12, 13, 14, 15] rfl ?_
              exact ih (M + 1) V f g acr a1 n1 hmu (bk_step hb hM60 hlf (Or.inl rfl) rfl hD9 rfl hN9 (Or.inl rfl) (Or.inr rfl)) (li_1n hl hlf (fun w => absurd w.2.1 (by decide))) ((congrFun (hlf.2.2.2.2.2.2.2.1 23 (Or.inr rfl)) 1).trans hs)
            · refine fj_iconst (v := 1) C dL_law_200 (by decide) ?_
              refine fj_iload C 3 dL_law_201 rfl ?_
              refine fj_bipush (v := 21) C dL_law_203 (by decide) ?_
              refine fj_iushr (v := nI (X9 / 2 ^ 21)) C (pk_ushrN (by omega) 21 21 (by decide)) dL_law_205 ?_
              refine fj_bipush (v := 8) C dL_law_206 (by decide) ?_
              refine fj_irem C dL_law_208 (by decide) ?_
              refine fj_at (y := nI (X9 / 2 ^ 21 % 8)) (pk_rem (d := 8) (by omega) (by decide) (by decide)) ?_
              refine fj_iadd C dL_law_209 ?_
              obtain ⟨N9, eN9⟩ : ∃ N9, N9 = 1 + X9 / 2 ^ 21 % 8 := ⟨_, rfl⟩
              have hN8 : 1 ≤ N9 ∧ N9 ≤ 8 := by have := Nat.mod_lt (X9 / 2 ^ 21) (show 0 < 8 by decide); omega
              have hN9 : N9 ≤ 400 := by omega
              refine fj_at (y := nI N9) (by rw [eN9]; exact nI_add 1 _) ?_
              refine fj_istore (lv' := [(15, .int (nI N9)), (14, .int 0), (13, .int 1), (12, .int (nI D9)), (11, .int (nI X9)), (10, .int (nI M)), (9, .int (nI M)), (8, .int acr), (7, .int (nI V)), (6, .ref q2), (5, .ref q1), (4, .int 1), (3, .int (nI G)), (2, .int (nI F)), (1, .ref (ad 0)), (0, .ref (t0 1))]) C dL_law_210 (by decide) rfl ?_
              refine fj_aload_n C 14 dL_law_212 rfl rfl ?_
              refine fj_iload C 3 dL_law_213 rfl ?_
              refine fj_iconst (v := 2) C dL_law_215 (by decide) ?_
              refine fj_iload C 2 dL_law_216 rfl ?_
              refine fj_if_eq (tgt := 225) C dL_law_218 (by decide) (fun h => absurd h (by decide)) (fun _ => ?_)
              refine fj_iconst (v := 0) C dL_law_221 (by decide) ?_
              refine fj_goto (tgt := 226) C dL_law_222 (by decide) ?_
              refine fj_iload C 1 dL_law_226 rfl ?_
              refine fj_if_eq (tgt := 236) C dL_law_228 (by decide) (fun _ => ?_) (fun h => absurd (by decide) h)
              refine fj_bipush (v := 10) C dL_law_236 (by decide) ?_
              refine fj_iload C 0 dL_law_238 rfl ?_
              refine fj_callV (As := [.int (nI D9), .int 2, .int 0, .int 10, .int (nI N9)]) (rest := []) (wr := pw q1 q2 ty f g) C (d_X5_line l D ty t0 ad a gg n 2 0 0 M hb.1 (nI D9) 2 0 10 (nI N9)) (cwV 5 C.2.2.2.2.1 gL_law_X5_line rfl rfl rfl (by decide +kernel) ⟨Nat.le_of_ble_eq_true rfl, Nat.le_of_ble_eq_true rfl⟩) ⟨0, 5, _, _, fx_at0 _ _ _ _ _, rfl, rfl⟩ rfl (Nat.le_of_ble_eq_true rfl) dL_law_240 ⟨Nat.le_of_ble_eq_true rfl, Nat.le_of_ble_eq_true rfl⟩ [2, 3, 4, 5, 6, 7, 8, 9, 10, 11, 12, 13, 14, 15, 16, 17, 18, 19, 20, 21, 22, 23, 24, 25, 26, 27, 28, 29, 30, 31, 32, 33, 34, 35, 36, 37, 38, 39, 40, 41, 42, 43, 44, 45] [0, 1] rfl rfl rfl rfl (by decide) (fun v9 w9 hp9 => ?_)
              obtain ⟨rfl, a1, n1, rfl, hlf⟩ := q_line hb.1 (bk_ord hb) (lok_of (P := 2) (by omega) (by omega) hN8 (by omega) (Or.inl ⟨rfl, by omega⟩) (Or.inl rfl) (Or.inr rfl)) hp9
              refine fj_st (st' := .int (nI M) :: []) rfl ?_
              refine fj_iload C 6 dL_law_243 rfl ?_
              refine fj_icmp_ne (tgt := 252) C dL_law_245 (by decide) (fun h245 => absurd (rfl : nI M = nI M) h245) (fun h245 => ?_)
              refine fj_iconst (v := 1) C dL_law_248 (by decide) ?_
              refine fj_goto (tgt := 253) C dL_law_249 (by decide) ?_
              refine fj_istore (lv' := [(4, .int 1), (15, .int (nI N9)), (14, .int 0), (13, .int 1), (12, .int (nI D9)), (11, .int (nI X9)), (10, .int (nI M)), (9, .int (nI M)), (8, .int acr), (7, .int (nI V)), (6, .ref q2), (5, .ref q1), (3, .int (nI G)), (2, .int (nI F)), (1, .ref (ad 0)), (0, .ref (t0 1))]) C dL_law_253 (by decide) rfl ?_
              refine fj_iload C 8 dL_law_255 rfl ?_
              refine fj_iload C 3 dL_law_257 rfl ?_
              refine fj_if_eq (tgt := 284) C dL_law_259 (by decide) (fun h => absurd h (by decide)) (fun _ => ?_)
              refine fj_iload C 2 dL_law_262 rfl ?_
              refine fj_if_eq (tgt := 284) C dL_law_264 (by decide) (fun _ => ?_) (fun h => absurd (by decide) h)
              refine fj_iconst (v := 0) C dL_law_284 (by decide) ?_
              refine fj_iadd C dL_law_285 ?_
              refine fj_istore (lv' := [(8, .int (acr + 0)), (4, .int 1), (15, .int (nI N9)), (14, .int 0), (13, .int 1), (12, .int (nI D9)), (11, .int (nI X9)), (10, .int (nI M)), (9, .int (nI M)), (7, .int (nI V)), (6, .ref q2), (5, .ref q1), (3, .int (nI G)), (2, .int (nI F)), (1, .ref (ad 0)), (0, .ref (t0 1))]) C dL_law_286 (by decide) rfl ?_
              refine fj_iload C 0 dL_law_288 rfl ?_
              refine fj_iload C 4 dL_law_290 rfl ?_
              refine fj_if_eq (tgt := 311) C dL_law_292 (by decide) (fun h => absurd h (by decide)) (fun _ => ?_)
              refine fj_iload C 3 dL_law_295 rfl ?_
              refine fj_if_eq (tgt := 311) C dL_law_297 (by decide) (fun _ => ?_) (fun h => absurd (by decide) h)
              refine fj_iconst (v := 0) C dL_law_311 (by decide) ?_
              refine fj_iadd C dL_law_312 ?_
              refine fj_istore (lv' := [(8, .int ((acr + 0) + 0)), (4, .int 1), (15, .int (nI N9)), (14, .int 0), (13, .int 1), (12, .int (nI D9)), (11, .int (nI X9)), (10, .int (nI M)), (9, .int (nI M)), (7, .int (nI V)), (6, .ref q2), (5, .ref q1), (3, .int (nI G)), (2, .int (nI F)), (1, .ref (ad 0)), (0, .ref (t0 1))]) C dL_law_313 (by decide) rfl ?_
              refine fj_goto (tgt := 410) C dL_law_315 (by decide) ?_
              refine fj_iinc (v := nI (M + 1)) (lv' := [(9, .int (nI (M + 1))), (8, .int ((acr + 0) + 0)), (4, .int 1), (15, .int (nI N9)), (14, .int 0), (13, .int 1), (12, .int (nI D9)), (11, .int (nI X9)), (10, .int (nI M)), (7, .int (nI V)), (6, .ref q2), (5, .ref q1), (3, .int (nI G)), (2, .int (nI F)), (1, .ref (ad 0)), (0, .ref (t0 1))]) C 8 dL_law_410 rfl (nI_add M 1) (by decide) rfl ?_
              refine fj_iinc (v := nI (M + 1)) (lv' := [(10, .int (nI (M + 1))), (9, .int (nI (M + 1))), (8, .int ((acr + 0) + 0)), (4, .int 1), (15, .int (nI N9)), (14, .int 0), (13, .int 1), (12, .int (nI D9)), (11, .int (nI X9)), (7, .int (nI V)), (6, .ref q2), (5, .ref q1), (3, .int (nI G)), (2, .int (nI F)), (1, .ref (ad 0)), (0, .ref (t0 1))]) C 8 dL_law_413 rfl (nI_add M 1) (by decide) rfl ?_
              refine fj_goto (tgt := 113) C dL_law_416 (by decide) ?_
              refine fj_lv (lv' := [(10, .int (nI (M + 1))), (9, .int (nI (M + 1))), (8, .int ((acr + 0) + 0)), (7, .int (nI V)), (6, .ref q2), (5, .ref q1), (4, .int 1), (3, .int (nI G)), (2, .int (nI F)), (1, .ref (ad 0)), (0, .ref (t0 1))]) [0, 1, 2, 9, 10, 11, 3, 12, 13, 14, 15] rfl ?_
              exact ih (M + 1) V f g ((acr + 0) + 0) a1 n1 hmu (bk_step hb hM60 hlf (Or.inr rfl) rfl hD9 rfl hN9 (Or.inl rfl) (Or.inr rfl)) (li_2 hl hlf ((if_neg (fun w => absurd w.2.1 (by decide))).symm) ((if_neg (fun w => absurd w.2.1 (by decide))).symm)) ((congrFun (hlf.2.2.2.2.2.2.2.1 23 (Or.inr rfl)) 1).trans hs)
          · refine fj_iconst (v := 1) C dL_law_183 (by decide) ?_
            refine fj_goto (tgt := 188) C dL_law_184 (by decide) ?_
            refine fj_istore (lv' := [(14, .int 1), (13, .int 1), (12, .int (nI D9)), (11, .int (nI X9)), (10, .int (nI M)), (9, .int (nI M)), (8, .int acr), (7, .int (nI V)), (6, .ref q2), (5, .ref q1), (4, .int 1), (3, .int (nI G)), (2, .int (nI F)), (1, .ref (ad 0)), (0, .ref (t0 1))]) C dL_law_188 (by decide) rfl ?_
            refine fj_iload C 3 dL_law_190 rfl ?_
            refine fj_bipush (v := 12) C dL_law_192 (by decide) ?_
            refine fj_iushr C rfl dL_law_194 ?_
            refine fj_topi (fun z194 _ => ?_)
            refine fj_iconst (v := 3) C dL_law_195 (by decide) ?_
            refine fj_iand C dL_law_196 ?_
            refine fj_topi (fun z196 _ => ?_)
            refine fj_if_ne (tgt := 318) C dL_law_197 (by decide) (fun h197 => ?_) (fun h197 => ?_)
            · refine fj_iconst (v := 1) C dL_law_318 (by decide) ?_
              refine fj_iload C 3 dL_law_319 rfl ?_
              refine fj_bipush (v := 21) C dL_law_321 (by decide) ?_
              refine fj_iushr (v := nI (X9 / 2 ^ 21)) C (pk_ushrN (by omega) 21 21 (by decide)) dL_law_323 ?_
              refine fj_sipush (v := 400) C dL_law_324 (by decide) ?_
              refine fj_irem C dL_law_327 (by decide) ?_
              refine fj_at (y := nI (X9 / 2 ^ 21 % 400)) (pk_rem (d := 400) (by omega) (by decide) (by decide)) ?_
              refine fj_iadd C dL_law_328 ?_
              obtain ⟨N9, eN9⟩ : ∃ N9, N9 = 1 + X9 / 2 ^ 21 % 400 := ⟨_, rfl⟩
              have hN8 : 1 ≤ N9 ∧ N9 ≤ 400 := by have := Nat.mod_lt (X9 / 2 ^ 21) (show 0 < 400 by decide); omega
              have hN9 : N9 ≤ 400 := by omega
              refine fj_at (y := nI N9) (by rw [eN9]; exact nI_add 1 _) ?_
              refine fj_istore (lv' := [(15, .int (nI N9)), (14, .int 1), (13, .int 1), (12, .int (nI D9)), (11, .int (nI X9)), (10, .int (nI M)), (9, .int (nI M)), (8, .int acr), (7, .int (nI V)), (6, .ref q2), (5, .ref q1), (4, .int 1), (3, .int (nI G)), (2, .int (nI F)), (1, .ref (ad 0)), (0, .ref (t0 1))]) C dL_law_329 (by decide) rfl ?_
              refine fj_aload_n C 14 dL_law_331 rfl rfl ?_
              refine fj_iload C 3 dL_law_332 rfl ?_
              refine fj_iconst (v := 1) C dL_law_334 (by decide) ?_
              refine fj_iload C 2 dL_law_335 rfl ?_
              refine fj_if_eq (tgt := 344) C dL_law_337 (by decide) (fun h => absurd h (by decide)) (fun _ => ?_)
              refine fj_iconst (v := 0) C dL_law_340 (by decide) ?_
              refine fj_goto (tgt := 345) C dL_law_341 (by decide) ?_
              refine fj_iload C 1 dL_law_345 rfl ?_
              refine fj_if_eq (tgt := 355) C dL_law_347 (by decide) (fun h => absurd h (by decide)) (fun _ => ?_)
              refine fj_bipush (v := 9) C dL_law_350 (by decide) ?_
              refine fj_goto (tgt := 357) C dL_law_352 (by decide) ?_
              refine fj_iload C 0 dL_law_357 rfl ?_
              refine fj_callV (As := [.int (nI D9), .int 1, .int 0, .int 9, .int (nI N9)]) (rest := []) (wr := pw q1 q2 ty f g) C (d_X5_line l D ty t0 ad a gg n 2 0 0 M hb.1 (nI D9) 1 0 9 (nI N9)) (cwV 5 C.2.2.2.2.1 gL_law_X5_line rfl rfl rfl (by decide +kernel) ⟨Nat.le_of_ble_eq_true rfl, Nat.le_of_ble_eq_true rfl⟩) ⟨0, 5, _, _, fx_at0 _ _ _ _ _, rfl, rfl⟩ rfl (Nat.le_of_ble_eq_true rfl) dL_law_359 ⟨Nat.le_of_ble_eq_true rfl, Nat.le_of_ble_eq_true rfl⟩ [2, 3, 4, 5, 6, 7, 8, 9, 10, 11, 12, 13, 14, 15, 16, 17, 18, 19, 20, 21, 22, 23, 24, 25, 26, 27, 28, 29, 30, 31, 32, 33, 34, 35, 36, 37, 38, 39, 40, 41, 42, 43, 44, 45] [0, 1] rfl rfl rfl rfl (by decide) (fun v9 w9 hp9 => ?_)
              obtain ⟨rfl, a1, n1, rfl, hlf⟩ := q_line hb.1 (bk_ord hb) (lok_of (P := 2) (by omega) (by omega) hN8 (by omega) (Or.inr ⟨rfl, by omega⟩) (Or.inl rfl) (Or.inl rfl)) hp9
              refine fj_st (st' := .int (nI M) :: []) rfl ?_
              refine fj_iload C 6 dL_law_362 rfl ?_
              refine fj_icmp_ne (tgt := 371) C dL_law_364 (by decide) (fun h364 => absurd (rfl : nI M = nI M) h364) (fun h364 => ?_)
              refine fj_iconst (v := 1) C dL_law_367 (by decide) ?_
              refine fj_goto (tgt := 372) C dL_law_368 (by decide) ?_
              refine fj_istore (lv' := [(4, .int 1), (15, .int (nI N9)), (14, .int 1), (13, .int 1), (12, .int (nI D9)), (11, .int (nI X9)), (10, .int (nI M)), (9, .int (nI M)), (8, .int acr), (7, .int (nI V)), (6, .ref q2), (5, .ref q1), (3, .int (nI G)), (2, .int (nI F)), (1, .ref (ad 0)), (0, .ref (t0 1))]) C dL_law_372 (by decide) rfl ?_
              refine fj_iload C 3 dL_law_374 rfl ?_
              refine fj_if_eq (tgt := 410) C dL_law_376 (by decide) (fun h => absurd h (by decide)) (fun _ => ?_)
              refine fj_iload C 2 dL_law_379 rfl ?_
              refine fj_if_eq (tgt := 410) C dL_law_381 (by decide) (fun h => absurd h (by decide)) (fun _ => ?_)
              refine fj_iload C 4 dL_law_384 rfl ?_
              refine fj_iload_n C 12 dL_law_386 rfl rfl ?_
              refine fj_icmp_gt (tgt := 410) C dL_law_387 (by decide) (fun h387 => ?_) (fun h387 => ?_)
              · refine fj_iinc (v := nI (M + 1)) (lv' := [(9, .int (nI (M + 1))), (4, .int 1), (15, .int (nI N9)), (14, .int 1), (13, .int 1), (12, .int (nI D9)), (11, .int (nI X9)), (10, .int (nI M)), (8, .int acr), (7, .int (nI V)), (6, .ref q2), (5, .ref q1), (3, .int (nI G)), (2, .int (nI F)), (1, .ref (ad 0)), (0, .ref (t0 1))]) C 7 dL_law_410 rfl (nI_add M 1) (by decide) rfl ?_
                refine fj_iinc (v := nI (M + 1)) (lv' := [(10, .int (nI (M + 1))), (9, .int (nI (M + 1))), (4, .int 1), (15, .int (nI N9)), (14, .int 1), (13, .int 1), (12, .int (nI D9)), (11, .int (nI X9)), (8, .int acr), (7, .int (nI V)), (6, .ref q2), (5, .ref q1), (3, .int (nI G)), (2, .int (nI F)), (1, .ref (ad 0)), (0, .ref (t0 1))]) C 7 dL_law_413 rfl (nI_add M 1) (by decide) rfl ?_
                refine fj_goto (tgt := 113) C dL_law_416 (by decide) ?_
                refine fj_lv (lv' := [(10, .int (nI (M + 1))), (9, .int (nI (M + 1))), (8, .int acr), (7, .int (nI V)), (6, .ref q2), (5, .ref q1), (4, .int 1), (3, .int (nI G)), (2, .int (nI F)), (1, .ref (ad 0)), (0, .ref (t0 1))]) [0, 1, 8, 9, 10, 11, 2, 12, 13, 14, 15] rfl ?_
                exact ih (M + 1) V f g acr a1 n1 hmu (bk_step hb hM60 hlf (Or.inl rfl) rfl hD9 rfl hN9 (Or.inl rfl) (Or.inl rfl)) (li_1n hl hlf (fun w => Int32.not_lt.mpr w.2.2 h387)) ((congrFun (hlf.2.2.2.2.2.2.2.1 23 (Or.inr rfl)) 1).trans hs)
              · have hDG : D9 ≤ G := Nat.not_lt.mp fun w => h387 ((nI_ltI (by omega) (by omega)).mpr w)
                refine fj_aload C 11 dL_law_390 rfl ?_
                refine fj_iload C 9 dL_law_392 rfl ?_
                refine fj_iload C 4 dL_law_394 rfl ?_
                refine fj_iast (f := f) C 0 rfl (vp_in_nI (by have := hl.1; omega) (by decide)) dL_law_396 rfl ?_
                refine fj_ws (ws' := (pw q1 q2 ty (upd f V (nI D9)) g ++ fx_w ad ty a1 gg n1)) (by rw [nI_clamp (by have := hl.1; omega)]; rfl) ?_
                refine fj_aload C 10 dL_law_397 rfl ?_
                refine fj_iload C 9 dL_law_399 rfl ?_
                refine fj_iload C 4 dL_law_401 rfl ?_
                refine fj_iload C 1 dL_law_403 rfl ?_
                refine fj_iadd C dL_law_405 ?_
                refine fj_at (y := nI (D9 + N9)) (nI_add D9 N9) ?_
                refine fj_iast (f := g) C 1 rfl (vp_in_nI (by have := hl.1; omega) (by decide)) dL_law_406 rfl ?_
                refine fj_ws (ws' := (pw q1 q2 ty (upd f V (nI D9)) (upd g V (nI (D9 + N9))) ++ fx_w ad ty a1 gg n1)) (by rw [nI_clamp (by have := hl.1; omega)]; rfl) ?_
                refine fj_iinc (v := nI (V + 1)) (lv' := [(7, .int (nI (V + 1))), (4, .int 1), (15, .int (nI N9)), (14, .int 1), (13, .int 1), (12, .int (nI D9)), (11, .int (nI X9)), (10, .int (nI M)), (9, .int (nI M)), (8, .int acr), (6, .ref q2), (5, .ref q1), (3, .int (nI G)), (2, .int (nI F)), (1, .ref (ad 0)), (0, .ref (t0 1))]) C 9 dL_law_407 rfl (nI_add V 1) (by decide) rfl ?_
                refine fj_iinc (v := nI (M + 1)) (lv' := [(9, .int (nI (M + 1))), (7, .int (nI (V + 1))), (4, .int 1), (15, .int (nI N9)), (14, .int 1), (13, .int 1), (12, .int (nI D9)), (11, .int (nI X9)), (10, .int (nI M)), (8, .int acr), (6, .ref q2), (5, .ref q1), (3, .int (nI G)), (2, .int (nI F)), (1, .ref (ad 0)), (0, .ref (t0 1))]) C 8 dL_law_410 rfl (nI_add M 1) (by decide) rfl ?_
                refine fj_iinc (v := nI (M + 1)) (lv' := [(10, .int (nI (M + 1))), (9, .int (nI (M + 1))), (7, .int (nI (V + 1))), (4, .int 1), (15, .int (nI N9)), (14, .int 1), (13, .int 1), (12, .int (nI D9)), (11, .int (nI X9)), (8, .int acr), (6, .ref q2), (5, .ref q1), (3, .int (nI G)), (2, .int (nI F)), (1, .ref (ad 0)), (0, .ref (t0 1))]) C 8 dL_law_413 rfl (nI_add M 1) (by decide) rfl ?_
                refine fj_goto (tgt := 113) C dL_law_416 (by decide) ?_
                refine fj_lv (lv' := [(10, .int (nI (M + 1))), (9, .int (nI (M + 1))), (8, .int acr), (7, .int (nI (V + 1))), (6, .ref q2), (5, .ref q1), (4, .int 1), (3, .int (nI G)), (2, .int (nI F)), (1, .ref (ad 0)), (0, .ref (t0 1))]) [0, 1, 9, 2, 10, 11, 3, 12, 13, 14, 15] rfl ?_
                exact ih (M + 1) (V + 1) (upd f V (nI D9)) (upd g V (nI (D9 + N9))) acr a1 n1 hmu (bk_step hb hM60 hlf (Or.inl rfl) rfl hD9 rfl hN9 (Or.inl rfl) (Or.inl rfl)) (li_1y hl hlf hDG hN9) ((congrFun (hlf.2.2.2.2.2.2.2.1 23 (Or.inr rfl)) 1).trans hs)
            · refine fj_iconst (v := 1) C dL_law_200 (by decide) ?_
              refine fj_iload C 3 dL_law_201 rfl ?_
              refine fj_bipush (v := 21) C dL_law_203 (by decide) ?_
              refine fj_iushr (v := nI (X9 / 2 ^ 21)) C (pk_ushrN (by omega) 21 21 (by decide)) dL_law_205 ?_
              refine fj_bipush (v := 8) C dL_law_206 (by decide) ?_
              refine fj_irem C dL_law_208 (by decide) ?_
              refine fj_at (y := nI (X9 / 2 ^ 21 % 8)) (pk_rem (d := 8) (by omega) (by decide) (by decide)) ?_
              refine fj_iadd C dL_law_209 ?_
              obtain ⟨N9, eN9⟩ : ∃ N9, N9 = 1 + X9 / 2 ^ 21 % 8 := ⟨_, rfl⟩
              have hN8 : 1 ≤ N9 ∧ N9 ≤ 8 := by have := Nat.mod_lt (X9 / 2 ^ 21) (show 0 < 8 by decide); omega
              have hN9 : N9 ≤ 400 := by omega
              refine fj_at (y := nI N9) (by rw [eN9]; exact nI_add 1 _) ?_
              refine fj_istore (lv' := [(15, .int (nI N9)), (14, .int 1), (13, .int 1), (12, .int (nI D9)), (11, .int (nI X9)), (10, .int (nI M)), (9, .int (nI M)), (8, .int acr), (7, .int (nI V)), (6, .ref q2), (5, .ref q1), (4, .int 1), (3, .int (nI G)), (2, .int (nI F)), (1, .ref (ad 0)), (0, .ref (t0 1))]) C dL_law_210 (by decide) rfl ?_
              refine fj_aload_n C 14 dL_law_212 rfl rfl ?_
              refine fj_iload C 3 dL_law_213 rfl ?_
              refine fj_iconst (v := 2) C dL_law_215 (by decide) ?_
              refine fj_iload C 2 dL_law_216 rfl ?_
              refine fj_if_eq (tgt := 225) C dL_law_218 (by decide) (fun h => absurd h (by decide)) (fun _ => ?_)
              refine fj_iconst (v := 0) C dL_law_221 (by decide) ?_
              refine fj_goto (tgt := 226) C dL_law_222 (by decide) ?_
              refine fj_iload C 1 dL_law_226 rfl ?_
              refine fj_if_eq (tgt := 236) C dL_law_228 (by decide) (fun h => absurd h (by decide)) (fun _ => ?_)
              refine fj_bipush (v := 9) C dL_law_231 (by decide) ?_
              refine fj_goto (tgt := 238) C dL_law_233 (by decide) ?_
              refine fj_iload C 0 dL_law_238 rfl ?_
              refine fj_callV (As := [.int (nI D9), .int 2, .int 0, .int 9, .int (nI N9)]) (rest := []) (wr := pw q1 q2 ty f g) C (d_X5_line l D ty t0 ad a gg n 2 0 0 M hb.1 (nI D9) 2 0 9 (nI N9)) (cwV 5 C.2.2.2.2.1 gL_law_X5_line rfl rfl rfl (by decide +kernel) ⟨Nat.le_of_ble_eq_true rfl, Nat.le_of_ble_eq_true rfl⟩) ⟨0, 5, _, _, fx_at0 _ _ _ _ _, rfl, rfl⟩ rfl (Nat.le_of_ble_eq_true rfl) dL_law_240 ⟨Nat.le_of_ble_eq_true rfl, Nat.le_of_ble_eq_true rfl⟩ [2, 3, 4, 5, 6, 7, 8, 9, 10, 11, 12, 13, 14, 15, 16, 17, 18, 19, 20, 21, 22, 23, 24, 25, 26, 27, 28, 29, 30, 31, 32, 33, 34, 35, 36, 37, 38, 39, 40, 41, 42, 43, 44, 45] [0, 1] rfl rfl rfl rfl (by decide) (fun v9 w9 hp9 => ?_)
              obtain ⟨rfl, a1, n1, rfl, hlf⟩ := q_line hb.1 (bk_ord hb) (lok_of (P := 2) (by omega) (by omega) hN8 (by omega) (Or.inl ⟨rfl, by omega⟩) (Or.inl rfl) (Or.inl rfl)) hp9
              refine fj_st (st' := .int (nI M) :: []) rfl ?_
              refine fj_iload C 6 dL_law_243 rfl ?_
              refine fj_icmp_ne (tgt := 252) C dL_law_245 (by decide) (fun h245 => absurd (rfl : nI M = nI M) h245) (fun h245 => ?_)
              refine fj_iconst (v := 1) C dL_law_248 (by decide) ?_
              refine fj_goto (tgt := 253) C dL_law_249 (by decide) ?_
              refine fj_istore (lv' := [(4, .int 1), (15, .int (nI N9)), (14, .int 1), (13, .int 1), (12, .int (nI D9)), (11, .int (nI X9)), (10, .int (nI M)), (9, .int (nI M)), (8, .int acr), (7, .int (nI V)), (6, .ref q2), (5, .ref q1), (3, .int (nI G)), (2, .int (nI F)), (1, .ref (ad 0)), (0, .ref (t0 1))]) C dL_law_253 (by decide) rfl ?_
              refine fj_iload C 8 dL_law_255 rfl ?_
              refine fj_iload C 3 dL_law_257 rfl ?_
              refine fj_if_eq (tgt := 284) C dL_law_259 (by decide) (fun h => absurd h (by decide)) (fun _ => ?_)
              refine fj_iload C 2 dL_law_262 rfl ?_
              refine fj_if_eq (tgt := 284) C dL_law_264 (by decide) (fun h => absurd h (by decide)) (fun _ => ?_)
              refine fj_iload C 4 dL_law_267 rfl ?_
              refine fj_iload_n C 13 dL_law_269 rfl rfl ?_
              refine fj_icmp_le (tgt := 284) C dL_law_270 (by decide) (fun h270 => ?_) (fun h270 => ?_)
              · refine fj_iconst (v := 0) C dL_law_284 (by decide) ?_
                refine fj_iadd C dL_law_285 ?_
                refine fj_istore (lv' := [(8, .int (acr + 0)), (4, .int 1), (15, .int (nI N9)), (14, .int 1), (13, .int 1), (12, .int (nI D9)), (11, .int (nI X9)), (10, .int (nI M)), (9, .int (nI M)), (7, .int (nI V)), (6, .ref q2), (5, .ref q1), (3, .int (nI G)), (2, .int (nI F)), (1, .ref (ad 0)), (0, .ref (t0 1))]) C dL_law_286 (by decide) rfl ?_
                refine fj_iload C 0 dL_law_288 rfl ?_
                refine fj_iload C 4 dL_law_290 rfl ?_
                refine fj_if_eq (tgt := 311) C dL_law_292 (by decide) (fun h => absurd h (by decide)) (fun _ => ?_)
                refine fj_iload C 3 dL_law_295 rfl ?_
                refine fj_if_eq (tgt := 311) C dL_law_297 (by decide) (fun h => absurd h (by decide)) (fun _ => ?_)
                refine fj_iload C 5 dL_law_300 rfl ?_
                refine fj_iload_n C 13 dL_law_302 rfl rfl ?_
                refine fj_icmp_ne (tgt := 311) C dL_law_303 (by decide) (fun h303 => ?_) (fun h303 => ?_)
                · refine fj_iconst (v := 0) C dL_law_311 (by decide) ?_
                  refine fj_iadd C dL_law_312 ?_
                  refine fj_istore (lv' := [(8, .int ((acr + 0) + 0)), (4, .int 1), (15, .int (nI N9)), (14, .int 1), (13, .int 1), (12, .int (nI D9)), (11, .int (nI X9)), (10, .int (nI M)), (9, .int (nI M)), (7, .int (nI V)), (6, .ref q2), (5, .ref q1), (3, .int (nI G)), (2, .int (nI F)), (1, .ref (ad 0)), (0, .ref (t0 1))]) C dL_law_313 (by decide) rfl ?_
                  refine fj_goto (tgt := 410) C dL_law_315 (by decide) ?_
                  refine fj_iinc (v := nI (M + 1)) (lv' := [(9, .int (nI (M + 1))), (8, .int ((acr + 0) + 0)), (4, .int 1), (15, .int (nI N9)), (14, .int 1), (13, .int 1), (12, .int (nI D9)), (11, .int (nI X9)), (10, .int (nI M)), (7, .int (nI V)), (6, .ref q2), (5, .ref q1), (3, .int (nI G)), (2, .int (nI F)), (1, .ref (ad 0)), (0, .ref (t0 1))]) C 8 dL_law_410 rfl (nI_add M 1) (by decide) rfl ?_
                  refine fj_iinc (v := nI (M + 1)) (lv' := [(10, .int (nI (M + 1))), (9, .int (nI (M + 1))), (8, .int ((acr + 0) + 0)), (4, .int 1), (15, .int (nI N9)), (14, .int 1), (13, .int 1), (12, .int (nI D9)), (11, .int (nI X9)), (7, .int (nI V)), (6, .ref q2), (5, .ref q1), (3, .int (nI G)), (2, .int (nI F)), (1, .ref (ad 0)), (0, .ref (t0 1))]) C 8 dL_law_413 rfl (nI_add M 1) (by decide) rfl ?_
                  refine fj_goto (tgt := 113) C dL_law_416 (by decide) ?_
                  refine fj_lv (lv' := [(10, .int (nI (M + 1))), (9, .int (nI (M + 1))), (8, .int ((acr + 0) + 0)), (7, .int (nI V)), (6, .ref q2), (5, .ref q1), (4, .int 1), (3, .int (nI G)), (2, .int (nI F)), (1, .ref (ad 0)), (0, .ref (t0 1))]) [0, 1, 2, 9, 10, 11, 3, 12, 13, 14, 15] rfl ?_
                  exact ih (M + 1) V f g ((acr + 0) + 0) a1 n1 hmu (bk_step hb hM60 hlf (Or.inr rfl) rfl hD9 rfl hN9 (Or.inl rfl) (Or.inl rfl)) (li_2 hl hlf ((if_neg (fun w => Int32.not_lt.mpr h270 w.2.2.1)).symm) ((if_neg (fun w => h303 w.2.2)).symm)) ((congrFun (hlf.2.2.2.2.2.2.2.1 23 (Or.inr rfl)) 1).trans hs)
                · refine fj_iload C 2 dL_law_306 rfl ?_
                  refine fj_goto (tgt := 312) C dL_law_308 (by decide) ?_
                  refine fj_iadd C dL_law_312 ?_
                  refine fj_istore (lv' := [(8, .int ((acr + 0) + (nI N9))), (4, .int 1), (15, .int (nI N9)), (14, .int 1), (13, .int 1), (12, .int (nI D9)), (11, .int (nI X9)), (10, .int (nI M)), (9, .int (nI M)), (7, .int (nI V)), (6, .ref q2), (5, .ref q1), (3, .int (nI G)), (2, .int (nI F)), (1, .ref (ad 0)), (0, .ref (t0 1))]) C dL_law_313 (by decide) rfl ?_
                  refine fj_goto (tgt := 410) C dL_law_315 (by decide) ?_
                  refine fj_iinc (v := nI (M + 1)) (lv' := [(9, .int (nI (M + 1))), (8, .int ((acr + 0) + (nI N9))), (4, .int 1), (15, .int (nI N9)), (14, .int 1), (13, .int 1), (12, .int (nI D9)), (11, .int (nI X9)), (10, .int (nI M)), (7, .int (nI V)), (6, .ref q2), (5, .ref q1), (3, .int (nI G)), (2, .int (nI F)), (1, .ref (ad 0)), (0, .ref (t0 1))]) C 8 dL_law_410 rfl (nI_add M 1) (by decide) rfl ?_
                  refine fj_iinc (v := nI (M + 1)) (lv' := [(10, .int (nI (M + 1))), (9, .int (nI (M + 1))), (8, .int ((acr + 0) + (nI N9))), (4, .int 1), (15, .int (nI N9)), (14, .int 1), (13, .int 1), (12, .int (nI D9)), (11, .int (nI X9)), (7, .int (nI V)), (6, .ref q2), (5, .ref q1), (3, .int (nI G)), (2, .int (nI F)), (1, .ref (ad 0)), (0, .ref (t0 1))]) C 8 dL_law_413 rfl (nI_add M 1) (by decide) rfl ?_
                  refine fj_goto (tgt := 113) C dL_law_416 (by decide) ?_
                  refine fj_lv (lv' := [(10, .int (nI (M + 1))), (9, .int (nI (M + 1))), (8, .int ((acr + 0) + (nI N9))), (7, .int (nI V)), (6, .ref q2), (5, .ref q1), (4, .int 1), (3, .int (nI G)), (2, .int (nI F)), (1, .ref (ad 0)), (0, .ref (t0 1))]) [0, 1, 2, 9, 10, 11, 3, 12, 13, 14, 15] rfl ?_
                  exact ih (M + 1) V f g ((acr + 0) + (nI N9)) a1 n1 hmu (bk_step hb hM60 hlf (Or.inr rfl) rfl hD9 rfl hN9 (Or.inl rfl) (Or.inl rfl)) (li_2 hl hlf ((if_neg (fun w => Int32.not_lt.mpr h270 w.2.2.1)).symm) ((if_pos ⟨rfl, rfl, h303⟩).symm)) ((congrFun (hlf.2.2.2.2.2.2.2.1 23 (Or.inr rfl)) 1).trans hs)
              · refine fj_iload C 4 dL_law_273 rfl ?_
                refine fj_iload_n C 12 dL_law_275 rfl rfl ?_
                refine fj_icmp_ge (tgt := 284) C dL_law_276 (by decide) (fun h276 => ?_) (fun h276 => ?_)
                · refine fj_iconst (v := 0) C dL_law_284 (by decide) ?_
                  refine fj_iadd C dL_law_285 ?_
                  refine fj_istore (lv' := [(8, .int (acr + 0)), (4, .int 1), (15, .int (nI N9)), (14, .int 1), (13, .int 1), (12, .int (nI D9)), (11, .int (nI X9)), (10, .int (nI M)), (9, .int (nI M)), (7, .int (nI V)), (6, .ref q2), (5, .ref q1), (3, .int (nI G)), (2, .int (nI F)), (1, .ref (ad 0)), (0, .ref (t0 1))]) C dL_law_286 (by decide) rfl ?_
                  refine fj_iload C 0 dL_law_288 rfl ?_
                  refine fj_iload C 4 dL_law_290 rfl ?_
                  refine fj_if_eq (tgt := 311) C dL_law_292 (by decide) (fun h => absurd h (by decide)) (fun _ => ?_)
                  refine fj_iload C 3 dL_law_295 rfl ?_
                  refine fj_if_eq (tgt := 311) C dL_law_297 (by decide) (fun h => absurd h (by decide)) (fun _ => ?_)
                  refine fj_iload C 5 dL_law_300 rfl ?_
                  refine fj_iload_n C 13 dL_law_302 rfl rfl ?_
                  refine fj_icmp_ne (tgt := 311) C dL_law_303 (by decide) (fun h303 => ?_) (fun h303 => ?_)
                  · refine fj_iconst (v := 0) C dL_law_311 (by decide) ?_
                    refine fj_iadd C dL_law_312 ?_
                    refine fj_istore (lv' := [(8, .int ((acr + 0) + 0)), (4, .int 1), (15, .int (nI N9)), (14, .int 1), (13, .int 1), (12, .int (nI D9)), (11, .int (nI X9)), (10, .int (nI M)), (9, .int (nI M)), (7, .int (nI V)), (6, .ref q2), (5, .ref q1), (3, .int (nI G)), (2, .int (nI F)), (1, .ref (ad 0)), (0, .ref (t0 1))]) C dL_law_313 (by decide) rfl ?_
                    refine fj_goto (tgt := 410) C dL_law_315 (by decide) ?_
                    refine fj_iinc (v := nI (M + 1)) (lv' := [(9, .int (nI (M + 1))), (8, .int ((acr + 0) + 0)), (4, .int 1), (15, .int (nI N9)), (14, .int 1), (13, .int 1), (12, .int (nI D9)), (11, .int (nI X9)), (10, .int (nI M)), (7, .int (nI V)), (6, .ref q2), (5, .ref q1), (3, .int (nI G)), (2, .int (nI F)), (1, .ref (ad 0)), (0, .ref (t0 1))]) C 8 dL_law_410 rfl (nI_add M 1) (by decide) rfl ?_
                    refine fj_iinc (v := nI (M + 1)) (lv' := [(10, .int (nI (M + 1))), (9, .int (nI (M + 1))), (8, .int ((acr + 0) + 0)), (4, .int 1), (15, .int (nI N9)), (14, .int 1), (13, .int 1), (12, .int (nI D9)), (11, .int (nI X9)), (7, .int (nI V)), (6, .ref q2), (5, .ref q1), (3, .int (nI G)), (2, .int (nI F)), (1, .ref (ad 0)), (0, .ref (t0 1))]) C 8 dL_law_413 rfl (nI_add M 1) (by decide) rfl ?_
                    refine fj_goto (tgt := 113) C dL_law_416 (by decide) ?_
                    refine fj_lv (lv' := [(10, .int (nI (M + 1))), (9, .int (nI (M + 1))), (8, .int ((acr + 0) + 0)), (7, .int (nI V)), (6, .ref q2), (5, .ref q1), (4, .int 1), (3, .int (nI G)), (2, .int (nI F)), (1, .ref (ad 0)), (0, .ref (t0 1))]) [0, 1, 2, 9, 10, 11, 3, 12, 13, 14, 15] rfl ?_
                    exact ih (M + 1) V f g ((acr + 0) + 0) a1 n1 hmu (bk_step hb hM60 hlf (Or.inr rfl) rfl hD9 rfl hN9 (Or.inl rfl) (Or.inl rfl)) (li_2 hl hlf ((if_neg (fun w => Int32.not_lt.mpr h276 w.2.2.2)).symm) ((if_neg (fun w => h303 w.2.2)).symm)) ((congrFun (hlf.2.2.2.2.2.2.2.1 23 (Or.inr rfl)) 1).trans hs)
                  · refine fj_iload C 2 dL_law_306 rfl ?_
                    refine fj_goto (tgt := 312) C dL_law_308 (by decide) ?_
                    refine fj_iadd C dL_law_312 ?_
                    refine fj_istore (lv' := [(8, .int ((acr + 0) + (nI N9))), (4, .int 1), (15, .int (nI N9)), (14, .int 1), (13, .int 1), (12, .int (nI D9)), (11, .int (nI X9)), (10, .int (nI M)), (9, .int (nI M)), (7, .int (nI V)), (6, .ref q2), (5, .ref q1), (3, .int (nI G)), (2, .int (nI F)), (1, .ref (ad 0)), (0, .ref (t0 1))]) C dL_law_313 (by decide) rfl ?_
                    refine fj_goto (tgt := 410) C dL_law_315 (by decide) ?_
                    refine fj_iinc (v := nI (M + 1)) (lv' := [(9, .int (nI (M + 1))), (8, .int ((acr + 0) + (nI N9))), (4, .int 1), (15, .int (nI N9)), (14, .int 1), (13, .int 1), (12, .int (nI D9)), (11, .int (nI X9)), (10, .int (nI M)), (7, .int (nI V)), (6, .ref q2), (5, .ref q1), (3, .int (nI G)), (2, .int (nI F)), (1, .ref (ad 0)), (0, .ref (t0 1))]) C 8 dL_law_410 rfl (nI_add M 1) (by decide) rfl ?_
                    refine fj_iinc (v := nI (M + 1)) (lv' := [(10, .int (nI (M + 1))), (9, .int (nI (M + 1))), (8, .int ((acr + 0) + (nI N9))), (4, .int 1), (15, .int (nI N9)), (14, .int 1), (13, .int 1), (12, .int (nI D9)), (11, .int (nI X9)), (7, .int (nI V)), (6, .ref q2), (5, .ref q1), (3, .int (nI G)), (2, .int (nI F)), (1, .ref (ad 0)), (0, .ref (t0 1))]) C 8 dL_law_413 rfl (nI_add M 1) (by decide) rfl ?_
                    refine fj_goto (tgt := 113) C dL_law_416 (by decide) ?_
                    refine fj_lv (lv' := [(10, .int (nI (M + 1))), (9, .int (nI (M + 1))), (8, .int ((acr + 0) + (nI N9))), (7, .int (nI V)), (6, .ref q2), (5, .ref q1), (4, .int 1), (3, .int (nI G)), (2, .int (nI F)), (1, .ref (ad 0)), (0, .ref (t0 1))]) [0, 1, 2, 9, 10, 11, 3, 12, 13, 14, 15] rfl ?_
                    exact ih (M + 1) V f g ((acr + 0) + (nI N9)) a1 n1 hmu (bk_step hb hM60 hlf (Or.inr rfl) rfl hD9 rfl hN9 (Or.inl rfl) (Or.inl rfl)) (li_2 hl hlf ((if_neg (fun w => Int32.not_lt.mpr h276 w.2.2.2)).symm) ((if_pos ⟨rfl, rfl, h303⟩).symm)) ((congrFun (hlf.2.2.2.2.2.2.2.1 23 (Or.inr rfl)) 1).trans hs)
                · refine fj_iload C 1 dL_law_279 rfl ?_
                  refine fj_goto (tgt := 285) C dL_law_281 (by decide) ?_
                  refine fj_iadd C dL_law_285 ?_
                  refine fj_istore (lv' := [(8, .int (acr + (nI N9))), (4, .int 1), (15, .int (nI N9)), (14, .int 1), (13, .int 1), (12, .int (nI D9)), (11, .int (nI X9)), (10, .int (nI M)), (9, .int (nI M)), (7, .int (nI V)), (6, .ref q2), (5, .ref q1), (3, .int (nI G)), (2, .int (nI F)), (1, .ref (ad 0)), (0, .ref (t0 1))]) C dL_law_286 (by decide) rfl ?_
                  refine fj_iload C 0 dL_law_288 rfl ?_
                  refine fj_iload C 4 dL_law_290 rfl ?_
                  refine fj_if_eq (tgt := 311) C dL_law_292 (by decide) (fun h => absurd h (by decide)) (fun _ => ?_)
                  refine fj_iload C 3 dL_law_295 rfl ?_
                  refine fj_if_eq (tgt := 311) C dL_law_297 (by decide) (fun h => absurd h (by decide)) (fun _ => ?_)
                  refine fj_iload C 5 dL_law_300 rfl ?_
                  refine fj_iload_n C 13 dL_law_302 rfl rfl ?_
                  refine fj_icmp_ne (tgt := 311) C dL_law_303 (by decide) (fun h303 => ?_) (fun h303 => ?_)
                  · refine fj_iconst (v := 0) C dL_law_311 (by decide) ?_
                    refine fj_iadd C dL_law_312 ?_
                    refine fj_istore (lv' := [(8, .int ((acr + (nI N9)) + 0)), (4, .int 1), (15, .int (nI N9)), (14, .int 1), (13, .int 1), (12, .int (nI D9)), (11, .int (nI X9)), (10, .int (nI M)), (9, .int (nI M)), (7, .int (nI V)), (6, .ref q2), (5, .ref q1), (3, .int (nI G)), (2, .int (nI F)), (1, .ref (ad 0)), (0, .ref (t0 1))]) C dL_law_313 (by decide) rfl ?_
                    refine fj_goto (tgt := 410) C dL_law_315 (by decide) ?_
                    refine fj_iinc (v := nI (M + 1)) (lv' := [(9, .int (nI (M + 1))), (8, .int ((acr + (nI N9)) + 0)), (4, .int 1), (15, .int (nI N9)), (14, .int 1), (13, .int 1), (12, .int (nI D9)), (11, .int (nI X9)), (10, .int (nI M)), (7, .int (nI V)), (6, .ref q2), (5, .ref q1), (3, .int (nI G)), (2, .int (nI F)), (1, .ref (ad 0)), (0, .ref (t0 1))]) C 8 dL_law_410 rfl (nI_add M 1) (by decide) rfl ?_
                    refine fj_iinc (v := nI (M + 1)) (lv' := [(10, .int (nI (M + 1))), (9, .int (nI (M + 1))), (8, .int ((acr + (nI N9)) + 0)), (4, .int 1), (15, .int (nI N9)), (14, .int 1), (13, .int 1), (12, .int (nI D9)), (11, .int (nI X9)), (7, .int (nI V)), (6, .ref q2), (5, .ref q1), (3, .int (nI G)), (2, .int (nI F)), (1, .ref (ad 0)), (0, .ref (t0 1))]) C 8 dL_law_413 rfl (nI_add M 1) (by decide) rfl ?_
                    refine fj_goto (tgt := 113) C dL_law_416 (by decide) ?_
                    refine fj_lv (lv' := [(10, .int (nI (M + 1))), (9, .int (nI (M + 1))), (8, .int ((acr + (nI N9)) + 0)), (7, .int (nI V)), (6, .ref q2), (5, .ref q1), (4, .int 1), (3, .int (nI G)), (2, .int (nI F)), (1, .ref (ad 0)), (0, .ref (t0 1))]) [0, 1, 2, 9, 10, 11, 3, 12, 13, 14, 15] rfl ?_
                    exact ih (M + 1) V f g ((acr + (nI N9)) + 0) a1 n1 hmu (bk_step hb hM60 hlf (Or.inr rfl) rfl hD9 rfl hN9 (Or.inl rfl) (Or.inl rfl)) (li_2 hl hlf ((if_pos ⟨rfl, rfl, Int32.not_le.mp h270, Int32.not_le.mp h276⟩).symm) ((if_neg (fun w => h303 w.2.2)).symm)) ((congrFun (hlf.2.2.2.2.2.2.2.1 23 (Or.inr rfl)) 1).trans hs)
                  · refine fj_iload C 2 dL_law_306 rfl ?_
                    refine fj_goto (tgt := 312) C dL_law_308 (by decide) ?_
                    refine fj_iadd C dL_law_312 ?_
                    refine fj_istore (lv' := [(8, .int ((acr + (nI N9)) + (nI N9))), (4, .int 1), (15, .int (nI N9)), (14, .int 1), (13, .int 1), (12, .int (nI D9)), (11, .int (nI X9)), (10, .int (nI M)), (9, .int (nI M)), (7, .int (nI V)), (6, .ref q2), (5, .ref q1), (3, .int (nI G)), (2, .int (nI F)), (1, .ref (ad 0)), (0, .ref (t0 1))]) C dL_law_313 (by decide) rfl ?_
                    refine fj_goto (tgt := 410) C dL_law_315 (by decide) ?_
                    refine fj_iinc (v := nI (M + 1)) (lv' := [(9, .int (nI (M + 1))), (8, .int ((acr + (nI N9)) + (nI N9))), (4, .int 1), (15, .int (nI N9)), (14, .int 1), (13, .int 1), (12, .int (nI D9)), (11, .int (nI X9)), (10, .int (nI M)), (7, .int (nI V)), (6, .ref q2), (5, .ref q1), (3, .int (nI G)), (2, .int (nI F)), (1, .ref (ad 0)), (0, .ref (t0 1))]) C 8 dL_law_410 rfl (nI_add M 1) (by decide) rfl ?_
                    refine fj_iinc (v := nI (M + 1)) (lv' := [(10, .int (nI (M + 1))), (9, .int (nI (M + 1))), (8, .int ((acr + (nI N9)) + (nI N9))), (4, .int 1), (15, .int (nI N9)), (14, .int 1), (13, .int 1), (12, .int (nI D9)), (11, .int (nI X9)), (7, .int (nI V)), (6, .ref q2), (5, .ref q1), (3, .int (nI G)), (2, .int (nI F)), (1, .ref (ad 0)), (0, .ref (t0 1))]) C 8 dL_law_413 rfl (nI_add M 1) (by decide) rfl ?_
                    refine fj_goto (tgt := 113) C dL_law_416 (by decide) ?_
                    refine fj_lv (lv' := [(10, .int (nI (M + 1))), (9, .int (nI (M + 1))), (8, .int ((acr + (nI N9)) + (nI N9))), (7, .int (nI V)), (6, .ref q2), (5, .ref q1), (4, .int 1), (3, .int (nI G)), (2, .int (nI F)), (1, .ref (ad 0)), (0, .ref (t0 1))]) [0, 1, 2, 9, 10, 11, 3, 12, 13, 14, 15] rfl ?_
                    exact ih (M + 1) V f g ((acr + (nI N9)) + (nI N9)) a1 n1 hmu (bk_step hb hM60 hlf (Or.inr rfl) rfl hD9 rfl hN9 (Or.inl rfl) (Or.inl rfl)) (li_2 hl hlf ((if_pos ⟨rfl, rfl, Int32.not_le.mp h270, Int32.not_le.mp h276⟩).symm) ((if_pos ⟨rfl, rfl, h303⟩).symm)) ((congrFun (hlf.2.2.2.2.2.2.2.1 23 (Or.inr rfl)) 1).trans hs)
