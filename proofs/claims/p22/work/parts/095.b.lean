section CN22
variable {Fm : Nat → Int32} {F i : Nat}
theorem cN_p (h : ¬ Fm (F + i) = 0) : nI (cL Fm F i) + 1 = nI (cL Fm F (i + 1)) := by
  show _ = nI (cL Fm F i + if Fm (F + i) = 0 then 0 else 1)
  rw [if_neg h]; exact nI_1 _
theorem cN_z (h : Fm (F + i) = 0) : nI (cL Fm F i) + 0 = nI (cL Fm F (i + 1)) := by
  show _ = nI (cL Fm F i + if Fm (F + i) = 0 then 0 else 1)
  rw [if_pos h, Int32.add_zero]; rfl
theorem gN_p (h : ¬ Fm (F + i) = 0) : (0 : Int32) = nI (gpN Fm F (i + 1)) := by
  show _ = nI (if Fm (F + i) = 0 then gpN Fm F i + 1 else 0)
  rw [if_neg h]; rfl
theorem gN_z (h : Fm (F + i) = 0) : nI (gpN Fm F i) + 1 = nI (gpN Fm F (i + 1)) := by
  show _ = nI (if Fm (F + i) = 0 then gpN Fm F i + 1 else 0)
  rw [if_pos h]; exact nI_1 _
theorem gp_gN : ∀ d, gpN Fm F d ≤ d := by
  intro d
  induction d with
  | zero => exact Nat.le_refl _
  | succ d ih =>
    show (if Fm (F + d) = 0 then gpN Fm F d + 1 else 0) ≤ d + 1
    by_cases c : Fm (F + d) = 0
    · rw [if_pos c]; omega
    · rw [if_neg c]; omega
theorem lg_lN : ∀ d, lgN Fm F d ≤ d := by
  intro d
  induction d with
  | zero => exact Nat.le_refl _
  | succ d ih =>
    show (if lgN Fm F d < gpN Fm F (d + 1) then gpN Fm F (d + 1) else lgN Fm F d) ≤ d + 1
    by_cases c : lgN Fm F d < gpN Fm F (d + 1)
    · rw [if_pos c]; exact gp_gN _
    · rw [if_neg c]; omega
theorem lg_lS (hi : i < 100000) : (if nI (gpN Fm F (i + 1)) < nI (lgN Fm F i) then nI (lgN Fm F i) else nI (gpN Fm F (i + 1))) = nI (lgN Fm F (i + 1)) := by
  have h1 := gp_gN (Fm := Fm) (F := F) (i + 1)
  have h2 := lg_lN (Fm := Fm) (F := F) i
  show _ = nI (if lgN Fm F i < gpN Fm F (i + 1) then gpN Fm F (i + 1) else lgN Fm F i)
  by_cases c : nI (gpN Fm F (i + 1)) < nI (lgN Fm F i)
  · rw [if_pos c]
    have := (nI_ltI (by omega) (by omega)).mp c
    rw [if_neg (by omega)]
  · rw [if_neg c]
    have : ¬ gpN Fm F (i + 1) < lgN Fm F i := fun w => c ((nI_ltI (by omega) (by omega)).mpr w)
    by_cases d : lgN Fm F i < gpN Fm F (i + 1)
    · rw [if_pos d]
    · rw [if_neg d, show gpN Fm F (i + 1) = lgN Fm F i by omega]
end CN22
set_option maxHeartbeats 8000000 in
set_option maxRecDepth 100000 in
theorem law_2i {p : Program} {e : Env} {s : State} {m : MethodId} {below : List Frame} {meth : Method} {c : Code} (l : Launch) {b : Nat} {D : va_G} {ty : Nat → ClassId} {t0 : Nat → Nat} (C : fj_C p s m #[Value.ref b] c cL_law 16 RL wsL_law (fun q => s.heap.size ≤ q) D ty t0) (hr : meth.sig.returnType = ret) (hlk : meth.locks = false) (hL : t0 2 ≤ 260) (ad : Nat → Nat) (q1 q2 : Nat) {F G : Nat} (hF4 : F < 4000) {gg : Nat → Nat → Int64} {M V : Nat} {f g : Nat → Int32} {acr x10 x11 x12 : Int32} {a : Nat → Nat → Int32} {n : Nat → Int32} (d9 : Nat) (hV : V ≤ 58) (K : fj p l e room_1 s m #[Value.ref b] below meth c (lw_Z below #[Value.ref b] s) (fun q => s.heap.size ≤ q) D 16 46 2555 (pw q1 q2 ty f g ++ fx_w ad ty a gg n) [(14, .int (LV f g (nI d9) V)), (13, .int (nI d9)), (12, .int x12), (11, .int x11), (10, .int x10), (9, .int (nI M)), (8, .int acr), (7, .int (nI V)), (6, .ref q2), (5, .ref q1), (4, .int 1), (3, .int (nI G)), (2, .int (nI F)), (1, .ref (ad 0)), (0, .ref (t0 1))] 488 []) : ∀ (k j : Nat), V - j < k → j ≤ V → fj p l e room_1 s m #[Value.ref b] below meth c (lw_Z below #[Value.ref b] s) (fun q => s.heap.size ≤ q) D 16 46 2555 (pw q1 q2 ty f g ++ fx_w ad ty a gg n) [(15, .int (nI j)), (14, .int (LV f g (nI d9) j)), (13, .int (nI d9)), (12, .int x12), (11, .int x11), (10, .int x10), (9, .int (nI M)), (8, .int acr), (7, .int (nI V)), (6, .ref q2), (5, .ref q1), (4, .int 1), (3, .int (nI G)), (2, .int (nI F)), (1, .ref (ad 0)), (0, .ref (t0 1))] 443 [] := by
  intro k
  induction k with
  | zero => intro j hk; exact absurd hk (Nat.not_lt_zero _)
  | succ k ih =>
    intro j hk hj
    refine fj_iload C 0 dL_law_443 rfl ?_
    refine fj_iload C 8 dL_law_445 rfl ?_
    refine fj_icmp_ge (tgt := 488) C dL_law_447 (by decide) (fun h447 => ?_) (fun h447 => ?_)
    · have ej : j = V := Nat.le_antisymm hj ((nI_leI (by omega) (by omega)).mp h447)
      refine fj_lv (lv' := [(14, .int (LV f g (nI d9) j)), (13, .int (nI d9)), (12, .int x12), (11, .int x11), (10, .int x10), (9, .int (nI M)), (8, .int acr), (7, .int (nI V)), (6, .ref q2), (5, .ref q1), (4, .int 1), (3, .int (nI G)), (2, .int (nI F)), (1, .ref (ad 0)), (0, .ref (t0 1))]) [1, 2, 3, 4, 5, 6, 7, 8, 9, 10, 11, 12, 13, 14, 15] rfl ?_
      rw [ej]
      exact K
    · have hjV : j < V := Nat.not_le.mp fun w => h447 ((nI_leI (by omega) (by omega)).mpr w)
      refine fj_iload C 1 dL_law_450 rfl ?_
      refine fj_if_ne (tgt := 475) C dL_law_452 (by decide) (fun h452 => ?_) (fun h452 => ?_)
      · refine fj_iconst (v := 1) C dL_law_475 (by decide) ?_
        refine fj_at (y := LV f g (nI d9) (j + 1)) (LV_on h452) ?_
        refine fj_goto (tgt := 480) C dL_law_476 (by decide) ?_
        refine fj_istore (lv' := [(14, .int (LV f g (nI d9) (j + 1))), (15, .int (nI j)), (13, .int (nI d9)), (12, .int x12), (11, .int x11), (10, .int x10), (9, .int (nI M)), (8, .int acr), (7, .int (nI V)), (6, .ref q2), (5, .ref q1), (4, .int 1), (3, .int (nI G)), (2, .int (nI F)), (1, .ref (ad 0)), (0, .ref (t0 1))]) C dL_law_480 (by decide) rfl ?_
        refine fj_iinc (v := nI (j + 1)) (lv' := [(15, .int (nI (j + 1))), (14, .int (LV f g (nI d9) (j + 1))), (13, .int (nI d9)), (12, .int x12), (11, .int x11), (10, .int x10), (9, .int (nI M)), (8, .int acr), (7, .int (nI V)), (6, .ref q2), (5, .ref q1), (4, .int 1), (3, .int (nI G)), (2, .int (nI F)), (1, .ref (ad 0)), (0, .ref (t0 1))]) C 1 dL_law_482 rfl (nI_add j 1) (by decide) rfl ?_
        refine fj_goto (tgt := 443) C dL_law_485 (by decide) ?_
        refine fj_lv (lv' := [(15, .int (nI (j + 1))), (14, .int (LV f g (nI d9) (j + 1))), (13, .int (nI d9)), (12, .int x12), (11, .int x11), (10, .int x10), (9, .int (nI M)), (8, .int acr), (7, .int (nI V)), (6, .ref q2), (5, .ref q1), (4, .int 1), (3, .int (nI G)), (2, .int (nI F)), (1, .ref (ad 0)), (0, .ref (t0 1))]) [0, 1, 2, 3, 4, 5, 6, 7, 8, 9, 10, 11, 12, 13, 14, 15] rfl ?_
        exact ih (j + 1) (by omega) hjV
      · refine fj_aload C 10 dL_law_455 rfl ?_
        refine fj_iload C 0 dL_law_457 rfl ?_
        refine fj_iald (f := f) C 0 rfl (vp_in_nI (by omega) (by decide)) dL_law_459 ?_
        refine fj_at (y := f j) (by rw [nI_clamp (by omega)]) ?_
        refine fj_iload C 2 dL_law_460 rfl ?_
        refine fj_icmp_gt (tgt := 479) C dL_law_462 (by decide) (fun h462 => ?_) (fun h462 => ?_)
        · refine fj_iconst (v := 0) C dL_law_479 (by decide) ?_
          refine fj_at (y := LV f g (nI d9) (j + 1)) (LV_ou h452 (fun w => Int32.not_lt.mpr w.1 h462)) ?_
          refine fj_istore (lv' := [(14, .int (LV f g (nI d9) (j + 1))), (15, .int (nI j)), (13, .int (nI d9)), (12, .int x12), (11, .int x11), (10, .int x10), (9, .int (nI M)), (8, .int acr), (7, .int (nI V)), (6, .ref q2), (5, .ref q1), (4, .int 1), (3, .int (nI G)), (2, .int (nI F)), (1, .ref (ad 0)), (0, .ref (t0 1))]) C dL_law_480 (by decide) rfl ?_
          refine fj_iinc (v := nI (j + 1)) (lv' := [(15, .int (nI (j + 1))), (14, .int (LV f g (nI d9) (j + 1))), (13, .int (nI d9)), (12, .int x12), (11, .int x11), (10, .int x10), (9, .int (nI M)), (8, .int acr), (7, .int (nI V)), (6, .ref q2), (5, .ref q1), (4, .int 1), (3, .int (nI G)), (2, .int (nI F)), (1, .ref (ad 0)), (0, .ref (t0 1))]) C 1 dL_law_482 rfl (nI_add j 1) (by decide) rfl ?_
          refine fj_goto (tgt := 443) C dL_law_485 (by decide) ?_
          refine fj_lv (lv' := [(15, .int (nI (j + 1))), (14, .int (LV f g (nI d9) (j + 1))), (13, .int (nI d9)), (12, .int x12), (11, .int x11), (10, .int x10), (9, .int (nI M)), (8, .int acr), (7, .int (nI V)), (6, .ref q2), (5, .ref q1), (4, .int 1), (3, .int (nI G)), (2, .int (nI F)), (1, .ref (ad 0)), (0, .ref (t0 1))]) [0, 1, 2, 3, 4, 5, 6, 7, 8, 9, 10, 11, 12, 13, 14, 15] rfl ?_
          exact ih (j + 1) (by omega) hjV
        · refine fj_iload C 2 dL_law_465 rfl ?_
          refine fj_aload C 9 dL_law_467 rfl ?_
          refine fj_iload C 0 dL_law_469 rfl ?_
          refine fj_iald (f := g) C 1 rfl (vp_in_nI (by omega) (by decide)) dL_law_471 ?_
          refine fj_at (y := g j) (by rw [nI_clamp (by omega)]) ?_
          refine fj_icmp_ge (tgt := 479) C dL_law_472 (by decide) (fun h472 => ?_) (fun h472 => ?_)
          · refine fj_iconst (v := 0) C dL_law_479 (by decide) ?_
            refine fj_at (y := LV f g (nI d9) (j + 1)) (LV_ou h452 (fun w => Int32.not_lt.mpr h472 w.2)) ?_
            refine fj_istore (lv' := [(14, .int (LV f g (nI d9) (j + 1))), (15, .int (nI j)), (13, .int (nI d9)), (12, .int x12), (11, .int x11), (10, .int x10), (9, .int (nI M)), (8, .int acr), (7, .int (nI V)), (6, .ref q2), (5, .ref q1), (4, .int 1), (3, .int (nI G)), (2, .int (nI F)), (1, .ref (ad 0)), (0, .ref (t0 1))]) C dL_law_480 (by decide) rfl ?_
            refine fj_iinc (v := nI (j + 1)) (lv' := [(15, .int (nI (j + 1))), (14, .int (LV f g (nI d9) (j + 1))), (13, .int (nI d9)), (12, .int x12), (11, .int x11), (10, .int x10), (9, .int (nI M)), (8, .int acr), (7, .int (nI V)), (6, .ref q2), (5, .ref q1), (4, .int 1), (3, .int (nI G)), (2, .int (nI F)), (1, .ref (ad 0)), (0, .ref (t0 1))]) C 1 dL_law_482 rfl (nI_add j 1) (by decide) rfl ?_
            refine fj_goto (tgt := 443) C dL_law_485 (by decide) ?_
            refine fj_lv (lv' := [(15, .int (nI (j + 1))), (14, .int (LV f g (nI d9) (j + 1))), (13, .int (nI d9)), (12, .int x12), (11, .int x11), (10, .int x10), (9, .int (nI M)), (8, .int acr), (7, .int (nI V)), (6, .ref q2), (5, .ref q1), (4, .int 1), (3, .int (nI G)), (2, .int (nI F)), (1, .ref (ad 0)), (0, .ref (t0 1))]) [0, 1, 2, 3, 4, 5, 6, 7, 8, 9, 10, 11, 12, 13, 14, 15] rfl ?_
            exact ih (j + 1) (by omega) hjV
          · refine fj_iconst (v := 1) C dL_law_475 (by decide) ?_
            refine fj_at (y := LV f g (nI d9) (j + 1)) (LV_in h452 (Int32.not_lt.mp h462) (Int32.not_le.mp h472)) ?_
            refine fj_goto (tgt := 480) C dL_law_476 (by decide) ?_
            refine fj_istore (lv' := [(14, .int (LV f g (nI d9) (j + 1))), (15, .int (nI j)), (13, .int (nI d9)), (12, .int x12), (11, .int x11), (10, .int x10), (9, .int (nI M)), (8, .int acr), (7, .int (nI V)), (6, .ref q2), (5, .ref q1), (4, .int 1), (3, .int (nI G)), (2, .int (nI F)), (1, .ref (ad 0)), (0, .ref (t0 1))]) C dL_law_480 (by decide) rfl ?_
            refine fj_iinc (v := nI (j + 1)) (lv' := [(15, .int (nI (j + 1))), (14, .int (LV f g (nI d9) (j + 1))), (13, .int (nI d9)), (12, .int x12), (11, .int x11), (10, .int x10), (9, .int (nI M)), (8, .int acr), (7, .int (nI V)), (6, .ref q2), (5, .ref q1), (4, .int 1), (3, .int (nI G)), (2, .int (nI F)), (1, .ref (ad 0)), (0, .ref (t0 1))]) C 1 dL_law_482 rfl (nI_add j 1) (by decide) rfl ?_
            refine fj_goto (tgt := 443) C dL_law_485 (by decide) ?_
            refine fj_lv (lv' := [(15, .int (nI (j + 1))), (14, .int (LV f g (nI d9) (j + 1))), (13, .int (nI d9)), (12, .int x12), (11, .int x11), (10, .int x10), (9, .int (nI M)), (8, .int acr), (7, .int (nI V)), (6, .ref q2), (5, .ref q1), (4, .int 1), (3, .int (nI G)), (2, .int (nI F)), (1, .ref (ad 0)), (0, .ref (t0 1))]) [0, 1, 2, 3, 4, 5, 6, 7, 8, 9, 10, 11, 12, 13, 14, 15] rfl ?_
            exact ih (j + 1) (by omega) hjV
set_option maxHeartbeats 8000000 in
set_option maxRecDepth 100000 in
theorem law_2 {p : Program} {e : Env} {s : State} {m : MethodId} {below : List Frame} {meth : Method} {c : Code} (l : Launch) {b : Nat} {D : va_G} {ty : Nat → ClassId} {t0 : Nat → Nat} (C : fj_C p s m #[Value.ref b] c cL_law 16 RL wsL_law (fun q => s.heap.size ≤ q) D ty t0) (hr : meth.sig.returnType = ret) (hlk : meth.locks = false) (hL : t0 2 ≤ 260) (ad : Nat → Nat) (q1 q2 : Nat) {F G : Nat} (hF4 : F < 4000) {gg : Nat → Nat → Int64} {M V : Nat} {f g : Nat → Int32} {acr : Int32} {a : Nat → Nat → Int32} {n : Nat → Int32} (hV : V ≤ 58) (hFG : 1000 ≤ F ∧ F ≤ G ∧ G ≤ 7200) (K : fj p l e room_1 s m #[Value.ref b] below meth c (lw_Z below #[Value.ref b] s) (fun q => s.heap.size ≤ q) D 16 46 2555 (pw q1 q2 ty f g ++ fx_w ad ty a gg n) [(12, .int (nI (lgN (fun d => LV f g (nI d) V) F (G - F)))), (10, .int (nI (cL (fun d => LV f g (nI d) V) F (G - F)))), (9, .int (nI M)), (8, .int acr), (7, .int (nI V)), (6, .ref q2), (5, .ref q1), (4, .int 1), (3, .int (nI G)), (2, .int (nI F)), (1, .ref (ad 0)), (0, .ref (t0 1))] 533 []) : ∀ (k i : Nat), G - F - i < k → F + i ≤ G → fj p l e room_1 s m #[Value.ref b] below meth c (lw_Z below #[Value.ref b] s) (fun q => s.heap.size ≤ q) D 16 46 2555 (pw q1 q2 ty f g ++ fx_w ad ty a gg n) [(13, .int (nI (F + i))), (12, .int (nI (lgN (fun d => LV f g (nI d) V) F i))), (11, .int (nI (gpN (fun d => LV f g (nI d) V) F i))), (10, .int (nI (cL (fun d => LV f g (nI d) V) F i))), (9, .int (nI M)), (8, .int acr), (7, .int (nI V)), (6, .ref q2), (5, .ref q1), (4, .int 1), (3, .int (nI G)), (2, .int (nI F)), (1, .ref (ad 0)), (0, .ref (t0 1))] 431 [] := by
  intro k
  induction k with
  | zero => intro i hk; exact absurd hk (Nat.not_lt_zero _)
  | succ k ih =>
    intro i hk hi
    refine fj_iload C 0 dL_law_431 rfl ?_
    refine fj_iload_n C 10 dL_law_433 rfl rfl ?_
    refine fj_icmp_ge (tgt := 533) C dL_law_434 (by decide) (fun h434 => ?_) (fun h434 => ?_)
    · have ei : i = G - F := by have := (nI_leI (a := G) (b := F + i) (by omega) (by omega)).mp h434; omega
      refine fj_lv (lv' := [(12, .int (nI (lgN (fun d => LV f g (nI d) V) F i))), (10, .int (nI (cL (fun d => LV f g (nI d) V) F i))), (9, .int (nI M)), (8, .int acr), (7, .int (nI V)), (6, .ref q2), (5, .ref q1), (4, .int 1), (3, .int (nI G)), (2, .int (nI F)), (1, .ref (ad 0)), (0, .ref (t0 1))]) [1, 3, 4, 5, 6, 7, 8, 9, 10, 11, 12, 13] rfl ?_
      rw [ei]
      exact K
    · have hiG : F + i < G := Nat.not_le.mp fun w => h434 ((nI_leI (a := G) (b := F + i) (by omega) (by omega)).mpr w)
      refine fj_iconst (v := 0) C dL_law_437 (by decide) ?_
      refine fj_istore (lv' := [(14, .int 0), (13, .int (nI (F + i))), (12, .int (nI (lgN (fun d => LV f g (nI d) V) F i))), (11, .int (nI (gpN (fun d => LV f g (nI d) V) F i))), (10, .int (nI (cL (fun d => LV f g (nI d) V) F i))), (9, .int (nI M)), (8, .int acr), (7, .int (nI V)), (6, .ref q2), (5, .ref q1), (4, .int 1), (3, .int (nI G)), (2, .int (nI F)), (1, .ref (ad 0)), (0, .ref (t0 1))]) C dL_law_438 (by decide) rfl ?_
      refine fj_iconst (v := 0) C dL_law_440 (by decide) ?_
      refine fj_istore (lv' := [(15, .int 0), (14, .int 0), (13, .int (nI (F + i))), (12, .int (nI (lgN (fun d => LV f g (nI d) V) F i))), (11, .int (nI (gpN (fun d => LV f g (nI d) V) F i))), (10, .int (nI (cL (fun d => LV f g (nI d) V) F i))), (9, .int (nI M)), (8, .int acr), (7, .int (nI V)), (6, .ref q2), (5, .ref q1), (4, .int 1), (3, .int (nI G)), (2, .int (nI F)), (1, .ref (ad 0)), (0, .ref (t0 1))]) C dL_law_441 (by decide) rfl ?_
      refine fj_lv (lv' := [(15, .int (nI 0)), (14, .int (LV f g (nI (F + i)) 0)), (13, .int (nI (F + i))), (12, .int (nI (lgN (fun d => LV f g (nI d) V) F i))), (11, .int (nI (gpN (fun d => LV f g (nI d) V) F i))), (10, .int (nI (cL (fun d => LV f g (nI d) V) F i))), (9, .int (nI M)), (8, .int acr), (7, .int (nI V)), (6, .ref q2), (5, .ref q1), (4, .int 1), (3, .int (nI G)), (2, .int (nI F)), (1, .ref (ad 0)), (0, .ref (t0 1))]) [0, 1, 2, 3, 4, 5, 6, 7, 8, 9, 10, 11, 12, 13, 14, 15] rfl ?_
      refine law_2i l C hr hlk hL ad q1 q2 hF4 (F + i) hV ?_ (V + 1) 0 (by omega) (Nat.zero_le _)
      refine fj_iload C 4 dL_law_488 rfl ?_
      refine fj_iload C 0 dL_law_490 rfl ?_
      refine fj_if_eq (tgt := 499) C dL_law_492 (by decide) (fun h492 => ?_) (fun h492 => ?_)
      · refine fj_iconst (v := 0) C dL_law_499 (by decide) ?_
        refine fj_iadd C dL_law_500 ?_
        refine fj_at (y := nI (cL (fun d => LV f g (nI d) V) F (i + 1))) (cN_z (Fm := (fun d => LV f g (nI d) V)) h492) ?_
        refine fj_istore (lv' := [(10, .int (nI (cL (fun d => LV f g (nI d) V) F (i + 1)))), (14, .int (LV f g (nI (F + i)) V)), (13, .int (nI (F + i))), (12, .int (nI (lgN (fun d => LV f g (nI d) V) F i))), (11, .int (nI (gpN (fun d => LV f g (nI d) V) F i))), (9, .int (nI M)), (8, .int acr), (7, .int (nI V)), (6, .ref q2), (5, .ref q1), (4, .int 1), (3, .int (nI G)), (2, .int (nI F)), (1, .ref (ad 0)), (0, .ref (t0 1))]) C dL_law_501 (by decide) rfl ?_
        refine fj_iload C 1 dL_law_503 rfl ?_
        refine fj_if_eq (tgt := 512) C dL_law_505 (by decide) (fun h505 => ?_) (fun h505 => absurd h492 h505)
        refine fj_iload C 4 dL_law_512 rfl ?_
        refine fj_iconst (v := 1) C dL_law_514 (by decide) ?_
        refine fj_iadd C dL_law_515 ?_
        refine fj_at (y := nI (gpN (fun d => LV f g (nI d) V) F (i + 1))) (gN_z (Fm := (fun d => LV f g (nI d) V)) h492) ?_
        refine fj_istore (lv' := [(11, .int (nI (gpN (fun d => LV f g (nI d) V) F (i + 1)))), (10, .int (nI (cL (fun d => LV f g (nI d) V) F (i + 1)))), (14, .int (LV f g (nI (F + i)) V)), (13, .int (nI (F + i))), (12, .int (nI (lgN (fun d => LV f g (nI d) V) F i))), (9, .int (nI M)), (8, .int acr), (7, .int (nI V)), (6, .ref q2), (5, .ref q1), (4, .int 1), (3, .int (nI G)), (2, .int (nI F)), (1, .ref (ad 0)), (0, .ref (t0 1))]) C dL_law_516 (by decide) rfl ?_
        refine fj_iload C 4 dL_law_518 rfl ?_
        refine fj_iload C 0 dL_law_520 rfl ?_
        refine fj_callSw (As := [.int (nI (lgN (fun d => LV f g (nI d) V) F i)), .int (nI (gpN (fun d => LV f g (nI d) V) F (i + 1)))]) (rest := []) C (d_L_most l D ty t0 (pw q1 q2 ty f g ++ fx_w ad ty a gg n) (nI (lgN (fun d => LV f g (nI d) V) F i)) (nI (gpN (fun d => LV f g (nI d) V) F (i + 1)))) (va_cwS 2 C.2.2.2.2.1 gL_law_L_most rfl rfl rfl (by decide +kernel) ⟨Nat.le_of_ble_eq_true rfl, Nat.le_of_ble_eq_true rfl⟩) rfl (Nat.le_of_ble_eq_true rfl) dL_law_522 ⟨Nat.le_of_ble_eq_true rfl, Nat.le_of_ble_eq_true rfl⟩ (fun v9 w9 hp9 => ?_)
        obtain ⟨rfl, hw9⟩ := hp9
        rw [hw9]
        refine fj_st (st' := .int (if nI (gpN (fun d => LV f g (nI d) V) F (i + 1)) < nI (lgN (fun d => LV f g (nI d) V) F i) then nI (lgN (fun d => LV f g (nI d) V) F i) else nI (gpN (fun d => LV f g (nI d) V) F (i + 1))) :: []) rfl ?_
        refine fj_at (y := nI (lgN (fun d => LV f g (nI d) V) F (i + 1))) (lg_lS (Fm := (fun d => LV f g (nI d) V)) (by omega)) ?_
        refine fj_istore (lv' := [(12, .int (nI (lgN (fun d => LV f g (nI d) V) F (i + 1)))), (11, .int (nI (gpN (fun d => LV f g (nI d) V) F (i + 1)))), (10, .int (nI (cL (fun d => LV f g (nI d) V) F (i + 1)))), (14, .int (LV f g (nI (F + i)) V)), (13, .int (nI (F + i))), (9, .int (nI M)), (8, .int acr), (7, .int (nI V)), (6, .ref q2), (5, .ref q1), (4, .int 1), (3, .int (nI G)), (2, .int (nI F)), (1, .ref (ad 0)), (0, .ref (t0 1))]) C dL_law_525 (by decide) rfl ?_
        refine fj_iinc (v := nI (F + (i + 1))) (lv' := [(13, .int (nI (F + (i + 1)))), (12, .int (nI (lgN (fun d => LV f g (nI d) V) F (i + 1)))), (11, .int (nI (gpN (fun d => LV f g (nI d) V) F (i + 1)))), (10, .int (nI (cL (fun d => LV f g (nI d) V) F (i + 1)))), (14, .int (LV f g (nI (F + i)) V)), (9, .int (nI M)), (8, .int acr), (7, .int (nI V)), (6, .ref q2), (5, .ref q1), (4, .int 1), (3, .int (nI G)), (2, .int (nI F)), (1, .ref (ad 0)), (0, .ref (t0 1))]) C 4 dL_law_527 rfl (nI_add (F + i) 1) (by decide) rfl ?_
        refine fj_goto (tgt := 431) C dL_law_530 (by decide) ?_
        refine fj_lv (lv' := [(13, .int (nI (F + (i + 1)))), (12, .int (nI (lgN (fun d => LV f g (nI d) V) F (i + 1)))), (11, .int (nI (gpN (fun d => LV f g (nI d) V) F (i + 1)))), (10, .int (nI (cL (fun d => LV f g (nI d) V) F (i + 1)))), (9, .int (nI M)), (8, .int acr), (7, .int (nI V)), (6, .ref q2), (5, .ref q1), (4, .int 1), (3, .int (nI G)), (2, .int (nI F)), (1, .ref (ad 0)), (0, .ref (t0 1))]) [0, 1, 2, 3, 5, 6, 7, 8, 9, 10, 11, 12, 13, 14] rfl ?_
        exact ih (i + 1) (by omega) (by omega)
      · refine fj_iconst (v := 1) C dL_law_495 (by decide) ?_
        refine fj_goto (tgt := 500) C dL_law_496 (by decide) ?_
        refine fj_iadd C dL_law_500 ?_
        refine fj_at (y := nI (cL (fun d => LV f g (nI d) V) F (i + 1))) (cN_p (Fm := (fun d => LV f g (nI d) V)) h492) ?_
        refine fj_istore (lv' := [(10, .int (nI (cL (fun d => LV f g (nI d) V) F (i + 1)))), (14, .int (LV f g (nI (F + i)) V)), (13, .int (nI (F + i))), (12, .int (nI (lgN (fun d => LV f g (nI d) V) F i))), (11, .int (nI (gpN (fun d => LV f g (nI d) V) F i))), (9, .int (nI M)), (8, .int acr), (7, .int (nI V)), (6, .ref q2), (5, .ref q1), (4, .int 1), (3, .int (nI G)), (2, .int (nI F)), (1, .ref (ad 0)), (0, .ref (t0 1))]) C dL_law_501 (by decide) rfl ?_
        refine fj_iload C 1 dL_law_503 rfl ?_
        refine fj_if_eq (tgt := 512) C dL_law_505 (by decide) (fun h505 => absurd h505 h492) (fun h505 => ?_)
        refine fj_iconst (v := 0) C dL_law_508 (by decide) ?_
        refine fj_at (y := nI (gpN (fun d => LV f g (nI d) V) F (i + 1))) (gN_p (Fm := (fun d => LV f g (nI d) V)) h492) ?_
        refine fj_goto (tgt := 516) C dL_law_509 (by decide) ?_
        refine fj_istore (lv' := [(11, .int (nI (gpN (fun d => LV f g (nI d) V) F (i + 1)))), (10, .int (nI (cL (fun d => LV f g (nI d) V) F (i + 1)))), (14, .int (LV f g (nI (F + i)) V)), (13, .int (nI (F + i))), (12, .int (nI (lgN (fun d => LV f g (nI d) V) F i))), (9, .int (nI M)), (8, .int acr), (7, .int (nI V)), (6, .ref q2), (5, .ref q1), (4, .int 1), (3, .int (nI G)), (2, .int (nI F)), (1, .ref (ad 0)), (0, .ref (t0 1))]) C dL_law_516 (by decide) rfl ?_
        refine fj_iload C 4 dL_law_518 rfl ?_
        refine fj_iload C 0 dL_law_520 rfl ?_
        refine fj_callSw (As := [.int (nI (lgN (fun d => LV f g (nI d) V) F i)), .int (nI (gpN (fun d => LV f g (nI d) V) F (i + 1)))]) (rest := []) C (d_L_most l D ty t0 (pw q1 q2 ty f g ++ fx_w ad ty a gg n) (nI (lgN (fun d => LV f g (nI d) V) F i)) (nI (gpN (fun d => LV f g (nI d) V) F (i + 1)))) (va_cwS 2 C.2.2.2.2.1 gL_law_L_most rfl rfl rfl (by decide +kernel) ⟨Nat.le_of_ble_eq_true rfl, Nat.le_of_ble_eq_true rfl⟩) rfl (Nat.le_of_ble_eq_true rfl) dL_law_522 ⟨Nat.le_of_ble_eq_true rfl, Nat.le_of_ble_eq_true rfl⟩ (fun v9 w9 hp9 => ?_)
        obtain ⟨rfl, hw9⟩ := hp9
        rw [hw9]
        refine fj_st (st' := .int (if nI (gpN (fun d => LV f g (nI d) V) F (i + 1)) < nI (lgN (fun d => LV f g (nI d) V) F i) then nI (lgN (fun d => LV f g (nI d) V) F i) else nI (gpN (fun d => LV f g (nI d) V) F (i + 1))) :: []) rfl ?_
        refine fj_at (y := nI (lgN (fun d => LV f g (nI d) V) F (i + 1))) (lg_lS (Fm := (fun d => LV f g (nI d) V)) (by omega)) ?_
        refine fj_istore (lv' := [(12, .int (nI (lgN (fun d => LV f g (nI d) V) F (i + 1)))), (11, .int (nI (gpN (fun d => LV f g (nI d) V) F (i + 1)))), (10, .int (nI (cL (fun d => LV f g (nI d) V) F (i + 1)))), (14, .int (LV f g (nI (F + i)) V)), (13, .int (nI (F + i))), (9, .int (nI M)), (8, .int acr), (7, .int (nI V)), (6, .ref q2), (5, .ref q1), (4, .int 1), (3, .int (nI G)), (2, .int (nI F)), (1, .ref (ad 0)), (0, .ref (t0 1))]) C dL_law_525 (by decide) rfl ?_
        refine fj_iinc (v := nI (F + (i + 1))) (lv' := [(13, .int (nI (F + (i + 1)))), (12, .int (nI (lgN (fun d => LV f g (nI d) V) F (i + 1)))), (11, .int (nI (gpN (fun d => LV f g (nI d) V) F (i + 1)))), (10, .int (nI (cL (fun d => LV f g (nI d) V) F (i + 1)))), (14, .int (LV f g (nI (F + i)) V)), (9, .int (nI M)), (8, .int acr), (7, .int (nI V)), (6, .ref q2), (5, .ref q1), (4, .int 1), (3, .int (nI G)), (2, .int (nI F)), (1, .ref (ad 0)), (0, .ref (t0 1))]) C 4 dL_law_527 rfl (nI_add (F + i) 1) (by decide) rfl ?_
        refine fj_goto (tgt := 431) C dL_law_530 (by decide) ?_
        refine fj_lv (lv' := [(13, .int (nI (F + (i + 1)))), (12, .int (nI (lgN (fun d => LV f g (nI d) V) F (i + 1)))), (11, .int (nI (gpN (fun d => LV f g (nI d) V) F (i + 1)))), (10, .int (nI (cL (fun d => LV f g (nI d) V) F (i + 1)))), (9, .int (nI M)), (8, .int acr), (7, .int (nI V)), (6, .ref q2), (5, .ref q1), (4, .int 1), (3, .int (nI G)), (2, .int (nI F)), (1, .ref (ad 0)), (0, .ref (t0 1))]) [0, 1, 2, 3, 5, 6, 7, 8, 9, 10, 11, 12, 13, 14] rfl ?_
        exact ih (i + 1) (by omega) (by omega)
set_option maxHeartbeats 8000000 in
set_option maxRecDepth 100000 in
theorem law_2s {p : Program} {e : Env} {s : State} {m : MethodId} {below : List Frame} {meth : Method} {c : Code} (l : Launch) {b : Nat} {D : va_G} {ty : Nat → ClassId} {t0 : Nat → Nat} (C : fj_C p s m #[Value.ref b] c cL_law 16 RL wsL_law (fun q => s.heap.size ≤ q) D ty t0) (hr : meth.sig.returnType = ret) (hlk : meth.locks = false) (hL : t0 2 ≤ 260) (ad : Nat → Nat) (q1 q2 : Nat) {F G : Nat} (hF4 : F < 4000) {gg : Nat → Nat → Int64} {M V : Nat} {f g : Nat → Int32} {acr : Int32} {a : Nat → Nat → Int32} {n : Nat → Int32} (hV : V ≤ 58) (hFG : 1000 ≤ F ∧ F ≤ G ∧ G ≤ 7200) (K : fj p l e room_1 s m #[Value.ref b] below meth c (lw_Z below #[Value.ref b] s) (fun q => s.heap.size ≤ q) D 16 46 2555 (pw q1 q2 ty f g ++ fx_w ad ty a gg n) [(12, .int (nI (lgN (fun d => LV f g (nI d) V) F (G - F)))), (10, .int (nI (cL (fun d => LV f g (nI d) V) F (G - F)))), (9, .int (nI M)), (8, .int acr), (7, .int (nI V)), (6, .ref q2), (5, .ref q1), (4, .int 1), (3, .int (nI G)), (2, .int (nI F)), (1, .ref (ad 0)), (0, .ref (t0 1))] 533 []) : fj p l e room_1 s m #[Value.ref b] below meth c (lw_Z below #[Value.ref b] s) (fun q => s.heap.size ≤ q) D 16 46 2555 (pw q1 q2 ty f g ++ fx_w ad ty a gg n) [(10, .int (nI M)), (9, .int (nI M)), (8, .int acr), (7, .int (nI V)), (6, .ref q2), (5, .ref q1), (4, .int 1), (3, .int (nI G)), (2, .int (nI F)), (1, .ref (ad 0)), (0, .ref (t0 1))] 419 [] := by
  refine fj_iconst (v := 0) C dL_law_419 (by decide) ?_
  refine fj_istore (lv' := [(10, .int 0), (9, .int (nI M)), (8, .int acr), (7, .int (nI V)), (6, .ref q2), (5, .ref q1), (4, .int 1), (3, .int (nI G)), (2, .int (nI F)), (1, .ref (ad 0)), (0, .ref (t0 1))]) C dL_law_420 (by decide) rfl ?_
  refine fj_iconst (v := 0) C dL_law_422 (by decide) ?_
  refine fj_istore (lv' := [(11, .int 0), (10, .int 0), (9, .int (nI M)), (8, .int acr), (7, .int (nI V)), (6, .ref q2), (5, .ref q1), (4, .int 1), (3, .int (nI G)), (2, .int (nI F)), (1, .ref (ad 0)), (0, .ref (t0 1))]) C dL_law_423 (by decide) rfl ?_
  refine fj_iconst (v := 0) C dL_law_425 (by decide) ?_
  refine fj_istore (lv' := [(12, .int 0), (11, .int 0), (10, .int 0), (9, .int (nI M)), (8, .int acr), (7, .int (nI V)), (6, .ref q2), (5, .ref q1), (4, .int 1), (3, .int (nI G)), (2, .int (nI F)), (1, .ref (ad 0)), (0, .ref (t0 1))]) C dL_law_426 (by decide) rfl ?_
  refine fj_iload_n C 10 dL_law_428 rfl rfl ?_
  refine fj_istore (lv' := [(13, .int (nI F)), (12, .int 0), (11, .int 0), (10, .int 0), (9, .int (nI M)), (8, .int acr), (7, .int (nI V)), (6, .ref q2), (5, .ref q1), (4, .int 1), (3, .int (nI G)), (2, .int (nI F)), (1, .ref (ad 0)), (0, .ref (t0 1))]) C dL_law_429 (by decide) rfl ?_
  refine fj_lv (lv' := [(13, .int (nI (F + 0))), (12, .int (nI (lgN (fun d => LV f g (nI d) V) F 0))), (11, .int (nI (gpN (fun d => LV f g (nI d) V) F 0))), (10, .int (nI (cL (fun d => LV f g (nI d) V) F 0))), (9, .int (nI M)), (8, .int acr), (7, .int (nI V)), (6, .ref q2), (5, .ref q1), (4, .int 1), (3, .int (nI G)), (2, .int (nI F)), (1, .ref (ad 0)), (0, .ref (t0 1))]) [0, 1, 2, 3, 4, 5, 6, 7, 8, 9, 10, 11, 12, 13] rfl ?_
  exact law_2 l C hr hlk hL ad q1 q2 hF4 hV hFG K (G - F + 1) 0 (by omega) (by omega)
