section DU22
variable {F G M B : Nat} {Fm : Nat → Int32} {acr : Int32} {a : Nat → Nat → Int32} {n : Nat → Int32}
theorem due_12 (h : ¬ nI G - nI F ≤ 2600) : 12 = DUE F G Fm acr := by
  unfold DUE; rw [if_pos (Int32.not_le.mp h)]
theorem due_13 (h : nI G - nI F ≤ 2600) (h1 : ¬ 1800 ≤ nI (cL Fm F (G - F))) : 13 = DUE F G Fm acr := by
  unfold DUE; rw [if_neg (Int32.not_lt.mpr h), if_pos (Int32.not_le.mp h1)]
theorem due_14 (h : nI G - nI F ≤ 2600) (h1 : 1800 ≤ nI (cL Fm F (G - F))) (h2 : ¬ nI (lgN Fm F (G - F)) ≤ 180) : 14 = DUE F G Fm acr := by
  unfold DUE; rw [if_neg (Int32.not_lt.mpr h), if_neg (Int32.not_lt.mpr h1), if_pos (Int32.not_le.mp h2)]
theorem due_15 (h : nI G - nI F ≤ 2600) (h1 : 1800 ≤ nI (cL Fm F (G - F))) (h2 : nI (lgN Fm F (G - F)) ≤ 180) (h3 : ¬ 10 ≤ acr) : 15 = DUE F G Fm acr := by
  unfold DUE; rw [if_neg (Int32.not_lt.mpr h), if_neg (Int32.not_lt.mpr h1), if_neg (Int32.not_lt.mpr h2), if_pos (Int32.not_le.mp h3)]
theorem due_0 (h : nI G - nI F ≤ 2600) (h1 : 1800 ≤ nI (cL Fm F (G - F))) (h2 : nI (lgN Fm F (G - F)) ≤ 180) (h3 : 10 ≤ acr) : 0 = DUE F G Fm acr := by
  unfold DUE; rw [if_neg (Int32.not_lt.mpr h), if_neg (Int32.not_lt.mpr h1), if_neg (Int32.not_lt.mpr h2), if_neg (Int32.not_lt.mpr h3)]
theorem t_20 : (20000 : Int32).toInt = 20000 := by decide
theorem le_20 (hk : BKF F G M B a n Fm acr) : (F : Int) ≤ (20000 : Int32).toInt ∧ (G : Int) ≤ (20000 : Int32).toInt := by
  have := bk_F hk.1
  rw [t_20]; omega
theorem day_ok {D : Nat} (h : D ≤ 20000) : 0 ≤ nI D ∧ nI D ≤ 20000 := by
  rw [le_i, le_i, t_20, nI_toInt (by omega), show (0 : Int32).toInt = 0 by decide]; omega
theorem hl_F (hk : BKF F G M B a n Fm acr) : (nI F).toInt < G ∨ ¬ a 23 1 = 0 ∨ ¬ DUE F G Fm acr = 0 := by
  have := bk_F hk.1
  by_cases e : F < G
  · exact Or.inl (by rw [nI_toInt (by omega)]; omega)
  · exact Or.inr (Or.inr (due_eqG e))
theorem lok_last (hM : M ≤ 60) : LOKp 2 M 20000 0 1 9 0 := ⟨⟨by decide, by decide⟩, ⟨⟨by decide, by decide⟩, fun w => absurd w (by decide), fun _ => ⟨by decide, by decide⟩⟩, ⟨by decide, by decide⟩, ⟨fun w => absurd w (by decide), fun w => absurd w (by decide)⟩, by omega⟩
theorem lok_two {D B : Nat} {z : Int32} (hD : D ≤ 20000) (hB : B < 2) (hz : z = 0 ∨ z = 5) : LOKp 2 B (nI D) z 0 9 0 := by
  have z0 : (0 ≤ z ∧ z ≤ 6) ∧ ¬ z = 6 ∧ ¬ z = 1 ∧ ¬ z = 2 := by rcases hz with rfl | rfl <;> exact ⟨⟨by decide, by decide⟩, by decide, by decide, by decide⟩
  exact ⟨z0.1, ⟨⟨by decide, by decide⟩, fun w => absurd w z0.2.1, fun _ => ⟨by decide, by decide⟩⟩, day_ok hD, ⟨fun w => absurd w z0.2.2.1, fun w => absurd w z0.2.2.2⟩, by omega⟩
theorem cl_n1 {x : Int32} (hx : x = 1) : ¬ x = 0 := by rw [hx]; decide
end DU22
set_option maxHeartbeats 8000000 in
set_option maxRecDepth 100000 in
theorem law_3a {p : Program} {e : Env} {s : State} {m : MethodId} {below : List Frame} {meth : Method} {c : Code} (l : Launch) {b : Nat} {D : va_G} {ty : Nat → ClassId} {t0 : Nat → Nat} (C : fj_C p s m #[Value.ref b] c cL_law 16 RL wsL_law (fun q => s.heap.size ≤ q) D ty t0) (hr : meth.sig.returnType = ret) (hlk : meth.locks = false) (hL : t0 2 ≤ 260) (ad : Nat → Nat) (q1 q2 : Nat) {F G : Nat} (hF4 : F < 4000) {gg : Nat → Nat → Int64} {M V : Nat} {f g Fm : Nat → Int32} {acr : Int32} {a : Nat → Nat → Int32} {n : Nat → Int32} (K : fj p l e room_1 s m #[Value.ref b] below meth c (lw_Z below #[Value.ref b] s) (fun q => s.heap.size ≤ q) D 16 46 2555 (pw q1 q2 ty f g ++ fx_w ad ty a gg n) [(10, .int (nI (cL Fm F (G - F)))), (9, .int (nI M)), (8, .int acr), (7, .int (nI V)), (6, .ref q2), (5, .ref q1), (4, .int 1), (3, .int (nI G)), (2, .int (nI F)), (1, .ref (ad 0)), (0, .ref (t0 1))] 586 [.int (DUE F G Fm acr)]) : fj p l e room_1 s m #[Value.ref b] below meth c (lw_Z below #[Value.ref b] s) (fun q => s.heap.size ≤ q) D 16 46 2555 (pw q1 q2 ty f g ++ fx_w ad ty a gg n) [(12, .int (nI (lgN Fm F (G - F)))), (10, .int (nI (cL Fm F (G - F)))), (9, .int (nI M)), (8, .int acr), (7, .int (nI V)), (6, .ref q2), (5, .ref q1), (4, .int 1), (3, .int (nI G)), (2, .int (nI F)), (1, .ref (ad 0)), (0, .ref (t0 1))] 533 [] := by
  refine fj_iload_n C 8 dL_law_533 rfl rfl ?_
  refine fj_iload_n C 9 dL_law_534 rfl rfl ?_
  refine fj_isub C dL_law_535 ?_
  refine fj_sipush (v := 2600) C dL_law_536 (by decide) ?_
  refine fj_icmp_le (tgt := 547) C dL_law_539 (by decide) (fun h539 => ?_) (fun h539 => ?_)
  · refine fj_iload C 1 dL_law_547 rfl ?_
    refine fj_sipush (v := 1800) C dL_law_549 (by decide) ?_
    refine fj_icmp_ge (tgt := 560) C dL_law_552 (by decide) (fun h552 => ?_) (fun h552 => ?_)
    · refine fj_iload C 0 dL_law_560 rfl ?_
      refine fj_sipush (v := 180) C dL_law_562 (by decide) ?_
      refine fj_icmp_le (tgt := 573) C dL_law_565 (by decide) (fun h565 => ?_) (fun h565 => ?_)
      · refine fj_iload C 3 dL_law_573 rfl ?_
        refine fj_bipush (v := 10) C dL_law_575 (by decide) ?_
        refine fj_icmp_ge (tgt := 585) C dL_law_577 (by decide) (fun h577 => ?_) (fun h577 => ?_)
        · refine fj_iconst (v := 0) C dL_law_585 (by decide) ?_
          refine fj_at (y := DUE F G Fm acr) (due_0 h539 h552 h565 h577) ?_
          refine fj_lv (lv' := [(10, .int (nI (cL Fm F (G - F)))), (9, .int (nI M)), (8, .int acr), (7, .int (nI V)), (6, .ref q2), (5, .ref q1), (4, .int 1), (3, .int (nI G)), (2, .int (nI F)), (1, .ref (ad 0)), (0, .ref (t0 1))]) [1, 2, 3, 4, 5, 6, 7, 8, 9, 10, 11] rfl ?_
          exact K
        · refine fj_bipush (v := 15) C dL_law_580 (by decide) ?_
          refine fj_goto (tgt := 586) C dL_law_582 (by decide) ?_
          refine fj_at (y := DUE F G Fm acr) (due_15 h539 h552 h565 h577) ?_
          refine fj_lv (lv' := [(10, .int (nI (cL Fm F (G - F)))), (9, .int (nI M)), (8, .int acr), (7, .int (nI V)), (6, .ref q2), (5, .ref q1), (4, .int 1), (3, .int (nI G)), (2, .int (nI F)), (1, .ref (ad 0)), (0, .ref (t0 1))]) [1, 2, 3, 4, 5, 6, 7, 8, 9, 10, 11] rfl ?_
          exact K
      · refine fj_bipush (v := 14) C dL_law_568 (by decide) ?_
        refine fj_goto (tgt := 586) C dL_law_570 (by decide) ?_
        refine fj_at (y := DUE F G Fm acr) (due_14 h539 h552 h565) ?_
        refine fj_lv (lv' := [(10, .int (nI (cL Fm F (G - F)))), (9, .int (nI M)), (8, .int acr), (7, .int (nI V)), (6, .ref q2), (5, .ref q1), (4, .int 1), (3, .int (nI G)), (2, .int (nI F)), (1, .ref (ad 0)), (0, .ref (t0 1))]) [1, 2, 3, 4, 5, 6, 7, 8, 9, 10, 11] rfl ?_
        exact K
    · refine fj_bipush (v := 13) C dL_law_555 (by decide) ?_
      refine fj_goto (tgt := 586) C dL_law_557 (by decide) ?_
      refine fj_at (y := DUE F G Fm acr) (due_13 h539 h552) ?_
      refine fj_lv (lv' := [(10, .int (nI (cL Fm F (G - F)))), (9, .int (nI M)), (8, .int acr), (7, .int (nI V)), (6, .ref q2), (5, .ref q1), (4, .int 1), (3, .int (nI G)), (2, .int (nI F)), (1, .ref (ad 0)), (0, .ref (t0 1))]) [1, 2, 3, 4, 5, 6, 7, 8, 9, 10, 11] rfl ?_
      exact K
  · refine fj_bipush (v := 12) C dL_law_542 (by decide) ?_
    refine fj_goto (tgt := 586) C dL_law_544 (by decide) ?_
    refine fj_at (y := DUE F G Fm acr) (due_12 h539) ?_
    refine fj_lv (lv' := [(10, .int (nI (cL Fm F (G - F)))), (9, .int (nI M)), (8, .int acr), (7, .int (nI V)), (6, .ref q2), (5, .ref q1), (4, .int 1), (3, .int (nI G)), (2, .int (nI F)), (1, .ref (ad 0)), (0, .ref (t0 1))]) [1, 2, 3, 4, 5, 6, 7, 8, 9, 10, 11] rfl ?_
    exact K
set_option maxHeartbeats 8000000 in
set_option maxRecDepth 100000 in
theorem law_3b {p : Program} {e : Env} {s : State} {m : MethodId} {below : List Frame} {meth : Method} {c : Code} (l : Launch) {b : Nat} {D : va_G} {ty : Nat → ClassId} {t0 : Nat → Nat} (C : fj_C p s m #[Value.ref b] c cL_law 16 RL wsL_law (fun q => s.heap.size ≤ q) D ty t0) (hr : meth.sig.returnType = ret) (hlk : meth.locks = false) (hL : t0 2 ≤ 260) (ad : Nat → Nat) (q1 q2 : Nat) {F G : Nat} (hF4 : F < 4000) {gg : Nat → Nat → Int64} {M V : Nat} {f g Fm : Nat → Int32} {acr : Int32} {a : Nat → Nat → Int32} {n : Nat → Int32} (hk : BKF F G M M a n Fm acr) (hs : a 23 1 = 0) (K : ∀ (a : Nat → Nat → Int32) (n : Nat → Int32), BKF F G M M a n Fm acr → a 23 1 = 0 → fj p l e room_1 s m #[Value.ref b] below meth c (lw_Z below #[Value.ref b] s) (fun q => s.heap.size ≤ q) D 16 46 2555 (pw q1 q2 ty f g ++ fx_w ad ty a gg n) [(9, .int (nI M)), (1, .ref (ad 0)), (0, .ref (t0 1))] 744 []) : fj p l e room_1 s m #[Value.ref b] below meth c (lw_Z below #[Value.ref b] s) (fun q => s.heap.size ≤ q) D 16 46 2555 (pw q1 q2 ty f g ++ fx_w ad ty a gg n) [(10, .int (nI (cL Fm F (G - F)))), (9, .int (nI M)), (8, .int acr), (7, .int (nI V)), (6, .ref q2), (5, .ref q1), (4, .int 1), (3, .int (nI G)), (2, .int (nI F)), (1, .ref (ad 0)), (0, .ref (t0 1))] 586 [.int (DUE F G Fm acr)] := by
  have hM2 := bk_M hk.1
  have hFG := bk_F hk.1
  by_cases hdue : DUE F G Fm acr = 0
  · refine fj_istore (lv' := [(13, .int (DUE F G Fm acr)), (10, .int (nI (cL Fm F (G - F)))), (9, .int (nI M)), (8, .int acr), (7, .int (nI V)), (6, .ref q2), (5, .ref q1), (4, .int 1), (3, .int (nI G)), (2, .int (nI F)), (1, .ref (ad 0)), (0, .ref (t0 1))]) C dL_law_586 (by decide) rfl ?_
    refine fj_iload C 7 dL_law_588 rfl ?_
    refine fj_if_eq (tgt := 715) C dL_law_590 (by decide) (fun h => absurd h (by decide)) (fun _ => ?_)
    refine fj_aload_n C 10 dL_law_593 rfl rfl ?_
    refine fj_iconst (v := 0) C dL_law_594 (by decide) ?_
    refine fj_iconst (v := (-1)) C dL_law_595 (by decide) ?_
    refine fj_callV (As := [.int 0, .int (-1)]) (rest := []) (wr := pw q1 q2 ty f g) C (d_X5_outcome l D ty t0 ad a gg n 2 0 0 M hk.1.1 0 (-1)) (cwV 2 C.2.2.2.2.1 gL_law_X5_outcome rfl rfl rfl (by decide +kernel) ⟨Nat.le_of_ble_eq_true rfl, Nat.le_of_ble_eq_true rfl⟩) ⟨0, 5, _, _, fx_at0 _ _ _ _ _, rfl, rfl⟩ rfl (Nat.le_of_ble_eq_true rfl) dL_law_596 ⟨Nat.le_of_ble_eq_true rfl, Nat.le_of_ble_eq_true rfl⟩ [2, 3, 4, 5, 6, 7, 8, 9, 10, 11, 12, 13, 14, 15, 16, 17, 18, 19, 20, 21, 22, 23, 24, 25, 26, 27, 28, 29, 30, 31, 32, 33, 34, 35, 36, 37, 38, 39, 40, 41, 42, 43, 44, 45] [0, 1] rfl rfl rfl rfl (by decide) (fun v9 w9 hp9 => ?_)
    obtain ⟨z1, u1, hr1, rfl, rfl⟩ := q_out hk (k := 0) (N := M) rfl (by omega) (by omega) (by omega) (Or.inl ⟨rfl, rfl⟩) hp9
    have hk1 := (rs_bk hr1).1
    have hs1 : z1 23 1 = 0 := by rw [(rs_bk hr1).2]; exact hs
    have hv1 : z1 26 0 = 0 := rs_out hr1 (le_20 hk).1
    refine fj_st (st' := .int (z1 26 0) :: []) rfl ?_
    refine fj_at (y := 0) hv1 ?_
    refine fj_if_ne (tgt := 715) C dL_law_599 (by decide) (fun h => absurd (by decide) h) (fun _ => ?_)
    refine fj_aload_n C 10 dL_law_602 rfl rfl ?_
    refine fj_iconst (v := 1) C dL_law_603 (by decide) ?_
    refine fj_iconst (v := (-1)) C dL_law_604 (by decide) ?_
    refine fj_callV (As := [.int 1, .int (-1)]) (rest := []) (wr := pw q1 q2 ty f g) C (d_X5_outcome l D ty t0 ad z1 gg u1 2 0 0 M hk1.1.1 1 (-1)) (cwV 2 C.2.2.2.2.1 gL_law_X5_outcome rfl rfl rfl (by decide +kernel) ⟨Nat.le_of_ble_eq_true rfl, Nat.le_of_ble_eq_true rfl⟩) ⟨0, 5, _, _, fx_at0 _ _ _ _ _, rfl, rfl⟩ rfl (Nat.le_of_ble_eq_true rfl) dL_law_605 ⟨Nat.le_of_ble_eq_true rfl, Nat.le_of_ble_eq_true rfl⟩ [2, 3, 4, 5, 6, 7, 8, 9, 10, 11, 12, 13, 14, 15, 16, 17, 18, 19, 20, 21, 22, 23, 24, 25, 26, 27, 28, 29, 30, 31, 32, 33, 34, 35, 36, 37, 38, 39, 40, 41, 42, 43, 44, 45] [0, 1] rfl rfl rfl rfl (by decide) (fun v9 w9 hp9 => ?_)
    obtain ⟨z2, u2, hr2, rfl, rfl⟩ := q_out hk1 (k := 1) (N := M) rfl (by omega) (by omega) (by omega) (Or.inl ⟨rfl, rfl⟩) hp9
    have hk2 := (rs_bk hr2).1
    have hs2 : z2 23 1 = 0 := by rw [(rs_bk hr2).2]; exact hs1
    have hv2 : z2 26 1 = DUE F G Fm acr := rs_due hr2 (le_20 hk1).2 hs1
    refine fj_st (st' := .int (z2 26 1) :: []) rfl ?_
    refine fj_at (y := DUE F G Fm acr) hv2 ?_
    refine fj_iload C 0 dL_law_608 rfl ?_
    refine fj_icmp_ne (tgt := 715) C dL_law_610 (by decide) (fun h610 => absurd (rfl : DUE F G Fm acr = DUE F G Fm acr) h610) (fun h610 => ?_)
    refine fj_aload_n C 10 dL_law_613 rfl rfl ?_
    refine fj_bipush (v := 9) C dL_law_614 (by decide) ?_
    refine fj_iload_n C 9 dL_law_616 rfl rfl ?_
    refine fj_iconst (v := (-1)) C dL_law_617 (by decide) ?_
    refine fj_iconst (v := 0) C dL_law_618 (by decide) ?_
    refine fj_callV (As := [.int 9, .int (nI F), .int (-1), .int 0]) (rest := []) (wr := pw q1 q2 ty f g) C (d_X5_holds l D ty t0 ad z2 gg u2 2 0 0 M hk2.1.1 9 (nI F) (-1) 0) (cwV 4 C.2.2.2.2.1 gL_law_X5_holds rfl rfl rfl (by decide +kernel) ⟨Nat.le_of_ble_eq_true rfl, Nat.le_of_ble_eq_true rfl⟩) ⟨0, 5, _, _, fx_at0 _ _ _ _ _, rfl, rfl⟩ rfl (Nat.le_of_ble_eq_true rfl) dL_law_619 ⟨Nat.le_of_ble_eq_true rfl, Nat.le_of_ble_eq_true rfl⟩ [2, 3, 4, 5, 6, 7, 8, 9, 10, 11, 12, 13, 14, 15, 16, 17, 18, 19, 20, 21, 22, 23, 24, 25, 26, 27, 28, 29, 30, 31, 32, 33, 34, 35, 36, 37, 38, 39, 40, 41, 42, 43, 44, 45] [0, 1] rfl rfl rfl rfl (by decide) (fun v9 w9 hp9 => ?_)
    obtain ⟨z3, u3, y3, r3, hr3, hd3, rfl, rfl, hk3, he3⟩ := q_holds hk2 (day_ok (by omega)) ⟨by decide, by decide⟩ hp9
    have hs3 : z3 23 1 = 0 := by rw [he3]; exact hs2
    have hv3 : r3 = 0 := an_h0 hr3 hd3 (by rw [nI_toInt (by omega)]; omega)
    refine fj_st (st' := .int r3 :: []) rfl ?_
    refine fj_at (y := 0) hv3 ?_
    refine fj_if_ne (tgt := 715) C dL_law_622 (by decide) (fun h => absurd (by decide) h) (fun _ => ?_)
    refine fj_aload_n C 10 dL_law_625 rfl rfl ?_
    refine fj_bipush (v := 9) C dL_law_626 (by decide) ?_
    refine fj_iload_n C 9 dL_law_628 rfl rfl ?_
    refine fj_iconst (v := (-1)) C dL_law_629 (by decide) ?_
    refine fj_iconst (v := 1) C dL_law_630 (by decide) ?_
    refine fj_callV (As := [.int 9, .int (nI F), .int (-1), .int 1]) (rest := []) (wr := pw q1 q2 ty f g) C (d_X5_holds l D ty t0 ad z3 gg y3 2 0 0 M hk3.1.1 9 (nI F) (-1) 1) (cwV 4 C.2.2.2.2.1 gL_law_X5_holds rfl rfl rfl (by decide +kernel) ⟨Nat.le_of_ble_eq_true rfl, Nat.le_of_ble_eq_true rfl⟩) ⟨0, 5, _, _, fx_at0 _ _ _ _ _, rfl, rfl⟩ rfl (Nat.le_of_ble_eq_true rfl) dL_law_631 ⟨Nat.le_of_ble_eq_true rfl, Nat.le_of_ble_eq_true rfl⟩ [2, 3, 4, 5, 6, 7, 8, 9, 10, 11, 12, 13, 14, 15, 16, 17, 18, 19, 20, 21, 22, 23, 24, 25, 26, 27, 28, 29, 30, 31, 32, 33, 34, 35, 36, 37, 38, 39, 40, 41, 42, 43, 44, 45] [0, 1] rfl rfl rfl rfl (by decide) (fun v9 w9 hp9 => ?_)
    obtain ⟨z4, u4, y4, r4, hr4, hd4, rfl, rfl, hk4, he4⟩ := q_holds hk3 (day_ok (by omega)) ⟨by decide, by decide⟩ hp9
    have hs4 : z4 23 1 = 0 := by rw [he4]; exact hs3
    have hv4 : r4 = 1 := an_l hr4 hd4 (by rw [nI_toInt (by omega)]; omega) (hl_F hk3)
    refine fj_st (st' := .int r4 :: []) rfl ?_
    refine fj_at (y := 1) hv4 ?_
    refine fj_iconst (v := 1) C dL_law_634 (by decide) ?_
    refine fj_icmp_ne (tgt := 715) C dL_law_635 (by decide) (fun h => absurd (by decide) h) (fun _ => ?_)
    refine fj_aload_n C 10 dL_law_638 rfl rfl ?_
    refine fj_bipush (v := 9) C dL_law_639 (by decide) ?_
    refine fj_iload_n C 8 dL_law_641 rfl rfl ?_
    refine fj_iconst (v := (-1)) C dL_law_642 (by decide) ?_
    refine fj_iconst (v := 1) C dL_law_643 (by decide) ?_
    refine fj_callV (As := [.int 9, .int (nI G), .int (-1), .int 1]) (rest := []) (wr := pw q1 q2 ty f g) C (d_X5_holds l D ty t0 ad z4 gg y4 2 0 0 M hk4.1.1 9 (nI G) (-1) 1) (cwV 4 C.2.2.2.2.1 gL_law_X5_holds rfl rfl rfl (by decide +kernel) ⟨Nat.le_of_ble_eq_true rfl, Nat.le_of_ble_eq_true rfl⟩) ⟨0, 5, _, _, fx_at0 _ _ _ _ _, rfl, rfl⟩ rfl (Nat.le_of_ble_eq_true rfl) dL_law_644 ⟨Nat.le_of_ble_eq_true rfl, Nat.le_of_ble_eq_true rfl⟩ [2, 3, 4, 5, 6, 7, 8, 9, 10, 11, 12, 13, 14, 15, 16, 17, 18, 19, 20, 21, 22, 23, 24, 25, 26, 27, 28, 29, 30, 31, 32, 33, 34, 35, 36, 37, 38, 39, 40, 41, 42, 43, 44, 45] [0, 1] rfl rfl rfl rfl (by decide) (fun v9 w9 hp9 => ?_)
    obtain ⟨z5, u5, y5, r5, hr5, hd5, rfl, rfl, hk5, he5⟩ := q_holds hk4 (day_ok (by omega)) ⟨by decide, by decide⟩ hp9
    have hs5 : z5 23 1 = 0 := by rw [he5]; exact hs4
    have hv5 : r5 = 2 := by rw [an_p hr5 hd5 (by rw [nI_toInt (by omega)]; omega) hs4 hdue, if_pos (by rw [nI_toInt (by omega)]; omega)]
    refine fj_st (st' := .int r5 :: []) rfl ?_
    refine fj_at (y := 2) hv5 ?_
    refine fj_iload C 0 dL_law_647 rfl ?_
    refine fj_if_ne (tgt := 656) C dL_law_649 (by decide) (fun h649 => absurd hdue h649) (fun h649 => ?_)
    refine fj_iconst (v := 2) C dL_law_652 (by decide) ?_
    refine fj_goto (tgt := 657) C dL_law_653 (by decide) ?_
    refine fj_icmp_ne (tgt := 715) C dL_law_657 (by decide) (fun h => absurd (by decide) h) (fun _ => ?_)
    refine fj_aload_n C 10 dL_law_660 rfl rfl ?_
    refine fj_bipush (v := 9) C dL_law_661 (by decide) ?_
    refine fj_sipush (v := 20000) C dL_law_663 (by decide) ?_
    refine fj_iconst (v := (-1)) C dL_law_666 (by decide) ?_
    refine fj_iconst (v := 1) C dL_law_667 (by decide) ?_
    refine fj_callV (As := [.int 9, .int 20000, .int (-1), .int 1]) (rest := []) (wr := pw q1 q2 ty f g) C (d_X5_holds l D ty t0 ad z5 gg y5 2 0 0 M hk5.1.1 9 20000 (-1) 1) (cwV 4 C.2.2.2.2.1 gL_law_X5_holds rfl rfl rfl (by decide +kernel) ⟨Nat.le_of_ble_eq_true rfl, Nat.le_of_ble_eq_true rfl⟩) ⟨0, 5, _, _, fx_at0 _ _ _ _ _, rfl, rfl⟩ rfl (Nat.le_of_ble_eq_true rfl) dL_law_668 ⟨Nat.le_of_ble_eq_true rfl, Nat.le_of_ble_eq_true rfl⟩ [2, 3, 4, 5, 6, 7, 8, 9, 10, 11, 12, 13, 14, 15, 16, 17, 18, 19, 20, 21, 22, 23, 24, 25, 26, 27, 28, 29, 30, 31, 32, 33, 34, 35, 36, 37, 38, 39, 40, 41, 42, 43, 44, 45] [0, 1] rfl rfl rfl rfl (by decide) (fun v9 w9 hp9 => ?_)
    obtain ⟨z6, u6, y6, r6, hr6, hd6, rfl, rfl, hk6, he6⟩ := q_holds hk5 ⟨by decide, by decide⟩ ⟨by decide, by decide⟩ hp9
    have hs6 : z6 23 1 = 0 := by rw [he6]; exact hs5
    have hv6 : r6 = 3 := by rw [an_p hr6 hd6 (le_20 hk5).2 hs5 hdue, if_neg (by rw [t_20]; omega)]
    refine fj_st (st' := .int r6 :: []) rfl ?_
    refine fj_at (y := 3) hv6 ?_
    refine fj_iload C 0 dL_law_671 rfl ?_
    refine fj_if_ne (tgt := 680) C dL_law_673 (by decide) (fun h673 => absurd hdue h673) (fun h673 => ?_)
    refine fj_iconst (v := 3) C dL_law_676 (by decide) ?_
    refine fj_goto (tgt := 681) C dL_law_677 (by decide) ?_
    refine fj_icmp_ne (tgt := 715) C dL_law_681 (by decide) (fun h => absurd (by decide) h) (fun _ => ?_)
    refine fj_aload_n C 10 dL_law_684 rfl rfl ?_
    refine fj_bipush (v := 9) C dL_law_685 (by decide) ?_
    refine fj_iload_n C 9 dL_law_687 rfl rfl ?_
    refine fj_iconst (v := 1) C dL_law_688 (by decide) ?_
    refine fj_isub C dL_law_689 ?_
    refine fj_at (y := nI (F - 1)) (pk_sub (b := 1) (by omega)) ?_
    refine fj_iconst (v := (-1)) C dL_law_690 (by decide) ?_
    refine fj_iconst (v := 0) C dL_law_691 (by decide) ?_
    refine fj_callV (As := [.int 9, .int (nI (F - 1)), .int (-1), .int 0]) (rest := []) (wr := pw q1 q2 ty f g) C (d_X5_holds l D ty t0 ad z6 gg y6 2 0 0 M hk6.1.1 9 (nI (F - 1)) (-1) 0) (cwV 4 C.2.2.2.2.1 gL_law_X5_holds rfl rfl rfl (by decide +kernel) ⟨Nat.le_of_ble_eq_true rfl, Nat.le_of_ble_eq_true rfl⟩) ⟨0, 5, _, _, fx_at0 _ _ _ _ _, rfl, rfl⟩ rfl (Nat.le_of_ble_eq_true rfl) dL_law_692 ⟨Nat.le_of_ble_eq_true rfl, Nat.le_of_ble_eq_true rfl⟩ [2, 3, 4, 5, 6, 7, 8, 9, 10, 11, 12, 13, 14, 15, 16, 17, 18, 19, 20, 21, 22, 23, 24, 25, 26, 27, 28, 29, 30, 31, 32, 33, 34, 35, 36, 37, 38, 39, 40, 41, 42, 43, 44, 45] [0, 1] rfl rfl rfl rfl (by decide) (fun v9 w9 hp9 => ?_)
    obtain ⟨z7, u7, y7, r7, hr7, hd7, rfl, rfl, hk7, he7⟩ := q_holds hk6 (day_ok (by omega)) ⟨by decide, by decide⟩ hp9
    have hs7 : z7 23 1 = 0 := by rw [he7]; exact hs6
    have hv7 : r7 = (-1) := an_hn hr7 hd7 (by rw [nI_toInt (by omega)]; omega)
    refine fj_st (st' := .int r7 :: []) rfl ?_
    refine fj_at (y := (-1)) hv7 ?_
    refine fj_iconst (v := (-1)) C dL_law_695 (by decide) ?_
    refine fj_icmp_ne (tgt := 715) C dL_law_696 (by decide) (fun h => absurd (by decide) h) (fun _ => ?_)
    refine fj_aload_n C 10 dL_law_699 rfl rfl ?_
    refine fj_bipush (v := 9) C dL_law_700 (by decide) ?_
    refine fj_iload_n C 8 dL_law_702 rfl rfl ?_
    refine fj_iconst (v := (-1)) C dL_law_703 (by decide) ?_
    refine fj_iconst (v := 2) C dL_law_704 (by decide) ?_
    refine fj_callV (As := [.int 9, .int (nI G), .int (-1), .int 2]) (rest := []) (wr := pw q1 q2 ty f g) C (d_X5_holds l D ty t0 ad z7 gg y7 2 0 0 M hk7.1.1 9 (nI G) (-1) 2) (cwV 4 C.2.2.2.2.1 gL_law_X5_holds rfl rfl rfl (by decide +kernel) ⟨Nat.le_of_ble_eq_true rfl, Nat.le_of_ble_eq_true rfl⟩) ⟨0, 5, _, _, fx_at0 _ _ _ _ _, rfl, rfl⟩ rfl (Nat.le_of_ble_eq_true rfl) dL_law_705 ⟨Nat.le_of_ble_eq_true rfl, Nat.le_of_ble_eq_true rfl⟩ [2, 3, 4, 5, 6, 7, 8, 9, 10, 11, 12, 13, 14, 15, 16, 17, 18, 19, 20, 21, 22, 23, 24, 25, 26, 27, 28, 29, 30, 31, 32, 33, 34, 35, 36, 37, 38, 39, 40, 41, 42, 43, 44, 45] [0, 1] rfl rfl rfl rfl (by decide) (fun v9 w9 hp9 => ?_)
    obtain ⟨z8, u8, y8, r8, hr8, hd8, rfl, rfl, hk8, he8⟩ := q_holds hk7 (day_ok (by omega)) ⟨by decide, by decide⟩ hp9
    have hs8 : z8 23 1 = 0 := by rw [he8]; exact hs7
    have hv8 : r8 = 0 := an_h2 hr8 hd8 (by rw [nI_toInt (by omega)]; omega)
    refine fj_st (st' := .int r8 :: []) rfl ?_
    refine fj_at (y := 0) hv8 ?_
    refine fj_if_ne (tgt := 715) C dL_law_708 (by decide) (fun h => absurd (by decide) h) (fun _ => ?_)
    refine fj_iconst (v := 1) C dL_law_711 (by decide) ?_
    refine fj_goto (tgt := 716) C dL_law_712 (by decide) ?_
    refine fj_istore (lv' := [(4, .int 1), (13, .int (DUE F G Fm acr)), (10, .int (nI (cL Fm F (G - F)))), (9, .int (nI M)), (8, .int acr), (7, .int (nI V)), (6, .ref q2), (5, .ref q1), (3, .int (nI G)), (2, .int (nI F)), (1, .ref (ad 0)), (0, .ref (t0 1))]) C dL_law_716 (by decide) rfl ?_
    refine fj_iload C 0 dL_law_718 rfl ?_
    refine fj_if_eq (tgt := 822) C dL_law_720 (by decide) (fun h => absurd h (by decide)) (fun _ => ?_)
    refine fj_iload_n C 8 dL_law_723 rfl rfl ?_
    refine fj_iload_n C 9 dL_law_724 rfl rfl ?_
    refine fj_icmp_eq (tgt := 744) C dL_law_725 (by decide) (fun h725 => ?_) (fun h725 => ?_)
    · refine fj_lv (lv' := [(9, .int (nI M)), (1, .ref (ad 0)), (0, .ref (t0 1))]) [3, 10, 11] rfl ?_
      exact K z8 y8 hk8 hs8
    · have hlt : F < G := by
        refine Classical.byContradiction fun q => h725 ?_
        rw [show G = F by omega]
      refine fj_aload_n C 10 dL_law_728 rfl rfl ?_
      refine fj_bipush (v := 9) C dL_law_729 (by decide) ?_
      refine fj_iload_n C 8 dL_law_731 rfl rfl ?_
      refine fj_iconst (v := 1) C dL_law_732 (by decide) ?_
      refine fj_isub C dL_law_733 ?_
      refine fj_at (y := nI (G - 1)) (pk_sub (b := 1) (by omega)) ?_
      refine fj_iconst (v := (-1)) C dL_law_734 (by decide) ?_
      refine fj_iconst (v := 4) C dL_law_735 (by decide) ?_
      refine fj_callV (As := [.int 9, .int (nI (G - 1)), .int (-1), .int 4]) (rest := []) (wr := pw q1 q2 ty f g) C (d_X5_holds l D ty t0 ad z8 gg y8 2 0 0 M hk8.1.1 9 (nI (G - 1)) (-1) 4) (cwV 4 C.2.2.2.2.1 gL_law_X5_holds rfl rfl rfl (by decide +kernel) ⟨Nat.le_of_ble_eq_true rfl, Nat.le_of_ble_eq_true rfl⟩) ⟨0, 5, _, _, fx_at0 _ _ _ _ _, rfl, rfl⟩ rfl (Nat.le_of_ble_eq_true rfl) dL_law_736 ⟨Nat.le_of_ble_eq_true rfl, Nat.le_of_ble_eq_true rfl⟩ [2, 3, 4, 5, 6, 7, 8, 9, 10, 11, 12, 13, 14, 15, 16, 17, 18, 19, 20, 21, 22, 23, 24, 25, 26, 27, 28, 29, 30, 31, 32, 33, 34, 35, 36, 37, 38, 39, 40, 41, 42, 43, 44, 45] [0, 1] rfl rfl rfl rfl (by decide) (fun v9 w9 hp9 => ?_)
      obtain ⟨z9, u9, y9, r9, hr9, hd9, rfl, rfl, hk9, he9⟩ := q_holds hk8 (day_ok (by omega)) ⟨by decide, by decide⟩ hp9
      have hs9 : z9 23 1 = 0 := by rw [he9]; exact hs8
      have hv9 : r9 = nI (cL Fm F (G - F)) := an_d hr9 hd9 hlt (by rw [nI_toInt (by omega)]; omega)
      refine fj_st (st' := .int r9 :: []) rfl ?_
      refine fj_at (y := nI (cL Fm F (G - F))) hv9 ?_
      refine fj_iload C 2 dL_law_739 rfl ?_
      refine fj_icmp_ne (tgt := 822) C dL_law_741 (by decide) (fun h741 => absurd (rfl : nI (cL Fm F (G - F)) = nI (cL Fm F (G - F))) h741) (fun h741 => ?_)
      refine fj_lv (lv' := [(9, .int (nI M)), (1, .ref (ad 0)), (0, .ref (t0 1))]) [3, 10, 11] rfl ?_
      exact K z9 y9 hk9 hs9
  · refine fj_istore (lv' := [(13, .int (DUE F G Fm acr)), (10, .int (nI (cL Fm F (G - F)))), (9, .int (nI M)), (8, .int acr), (7, .int (nI V)), (6, .ref q2), (5, .ref q1), (4, .int 1), (3, .int (nI G)), (2, .int (nI F)), (1, .ref (ad 0)), (0, .ref (t0 1))]) C dL_law_586 (by decide) rfl ?_
    refine fj_iload C 7 dL_law_588 rfl ?_
    refine fj_if_eq (tgt := 715) C dL_law_590 (by decide) (fun h => absurd h (by decide)) (fun _ => ?_)
    refine fj_aload_n C 10 dL_law_593 rfl rfl ?_
    refine fj_iconst (v := 0) C dL_law_594 (by decide) ?_
    refine fj_iconst (v := (-1)) C dL_law_595 (by decide) ?_
    refine fj_callV (As := [.int 0, .int (-1)]) (rest := []) (wr := pw q1 q2 ty f g) C (d_X5_outcome l D ty t0 ad a gg n 2 0 0 M hk.1.1 0 (-1)) (cwV 2 C.2.2.2.2.1 gL_law_X5_outcome rfl rfl rfl (by decide +kernel) ⟨Nat.le_of_ble_eq_true rfl, Nat.le_of_ble_eq_true rfl⟩) ⟨0, 5, _, _, fx_at0 _ _ _ _ _, rfl, rfl⟩ rfl (Nat.le_of_ble_eq_true rfl) dL_law_596 ⟨Nat.le_of_ble_eq_true rfl, Nat.le_of_ble_eq_true rfl⟩ [2, 3, 4, 5, 6, 7, 8, 9, 10, 11, 12, 13, 14, 15, 16, 17, 18, 19, 20, 21, 22, 23, 24, 25, 26, 27, 28, 29, 30, 31, 32, 33, 34, 35, 36, 37, 38, 39, 40, 41, 42, 43, 44, 45] [0, 1] rfl rfl rfl rfl (by decide) (fun v9 w9 hp9 => ?_)
    obtain ⟨z1, u1, hr1, rfl, rfl⟩ := q_out hk (k := 0) (N := M) rfl (by omega) (by omega) (by omega) (Or.inl ⟨rfl, rfl⟩) hp9
    have hk1 := (rs_bk hr1).1
    have hs1 : z1 23 1 = 0 := by rw [(rs_bk hr1).2]; exact hs
    have hv1 : z1 26 0 = 0 := rs_out hr1 (le_20 hk).1
    refine fj_st (st' := .int (z1 26 0) :: []) rfl ?_
    refine fj_at (y := 0) hv1 ?_
    refine fj_if_ne (tgt := 715) C dL_law_599 (by decide) (fun h => absurd (by decide) h) (fun _ => ?_)
    refine fj_aload_n C 10 dL_law_602 rfl rfl ?_
    refine fj_iconst (v := 1) C dL_law_603 (by decide) ?_
    refine fj_iconst (v := (-1)) C dL_law_604 (by decide) ?_
    refine fj_callV (As := [.int 1, .int (-1)]) (rest := []) (wr := pw q1 q2 ty f g) C (d_X5_outcome l D ty t0 ad z1 gg u1 2 0 0 M hk1.1.1 1 (-1)) (cwV 2 C.2.2.2.2.1 gL_law_X5_outcome rfl rfl rfl (by decide +kernel) ⟨Nat.le_of_ble_eq_true rfl, Nat.le_of_ble_eq_true rfl⟩) ⟨0, 5, _, _, fx_at0 _ _ _ _ _, rfl, rfl⟩ rfl (Nat.le_of_ble_eq_true rfl) dL_law_605 ⟨Nat.le_of_ble_eq_true rfl, Nat.le_of_ble_eq_true rfl⟩ [2, 3, 4, 5, 6, 7, 8, 9, 10, 11, 12, 13, 14, 15, 16, 17, 18, 19, 20, 21, 22, 23, 24, 25, 26, 27, 28, 29, 30, 31, 32, 33, 34, 35, 36, 37, 38, 39, 40, 41, 42, 43, 44, 45] [0, 1] rfl rfl rfl rfl (by decide) (fun v9 w9 hp9 => ?_)
    obtain ⟨z2, u2, hr2, rfl, rfl⟩ := q_out hk1 (k := 1) (N := M) rfl (by omega) (by omega) (by omega) (Or.inl ⟨rfl, rfl⟩) hp9
    have hk2 := (rs_bk hr2).1
    have hs2 : z2 23 1 = 0 := by rw [(rs_bk hr2).2]; exact hs1
    have hv2 : z2 26 1 = DUE F G Fm acr := rs_due hr2 (le_20 hk1).2 hs1
    refine fj_st (st' := .int (z2 26 1) :: []) rfl ?_
    refine fj_at (y := DUE F G Fm acr) hv2 ?_
    refine fj_iload C 0 dL_law_608 rfl ?_
    refine fj_icmp_ne (tgt := 715) C dL_law_610 (by decide) (fun h610 => absurd (rfl : DUE F G Fm acr = DUE F G Fm acr) h610) (fun h610 => ?_)
    refine fj_aload_n C 10 dL_law_613 rfl rfl ?_
    refine fj_bipush (v := 9) C dL_law_614 (by decide) ?_
    refine fj_iload_n C 9 dL_law_616 rfl rfl ?_
    refine fj_iconst (v := (-1)) C dL_law_617 (by decide) ?_
    refine fj_iconst (v := 0) C dL_law_618 (by decide) ?_
    refine fj_callV (As := [.int 9, .int (nI F), .int (-1), .int 0]) (rest := []) (wr := pw q1 q2 ty f g) C (d_X5_holds l D ty t0 ad z2 gg u2 2 0 0 M hk2.1.1 9 (nI F) (-1) 0) (cwV 4 C.2.2.2.2.1 gL_law_X5_holds rfl rfl rfl (by decide +kernel) ⟨Nat.le_of_ble_eq_true rfl, Nat.le_of_ble_eq_true rfl⟩) ⟨0, 5, _, _, fx_at0 _ _ _ _ _, rfl, rfl⟩ rfl (Nat.le_of_ble_eq_true rfl) dL_law_619 ⟨Nat.le_of_ble_eq_true rfl, Nat.le_of_ble_eq_true rfl⟩ [2, 3, 4, 5, 6, 7, 8, 9, 10, 11, 12, 13, 14, 15, 16, 17, 18, 19, 20, 21, 22, 23, 24, 25, 26, 27, 28, 29, 30, 31, 32, 33, 34, 35, 36, 37, 38, 39, 40, 41, 42, 43, 44, 45] [0, 1] rfl rfl rfl rfl (by decide) (fun v9 w9 hp9 => ?_)
    obtain ⟨z3, u3, y3, r3, hr3, hd3, rfl, rfl, hk3, he3⟩ := q_holds hk2 (day_ok (by omega)) ⟨by decide, by decide⟩ hp9
    have hs3 : z3 23 1 = 0 := by rw [he3]; exact hs2
    have hv3 : r3 = 0 := an_h0 hr3 hd3 (by rw [nI_toInt (by omega)]; omega)
    refine fj_st (st' := .int r3 :: []) rfl ?_
    refine fj_at (y := 0) hv3 ?_
    refine fj_if_ne (tgt := 715) C dL_law_622 (by decide) (fun h => absurd (by decide) h) (fun _ => ?_)
    refine fj_aload_n C 10 dL_law_625 rfl rfl ?_
    refine fj_bipush (v := 9) C dL_law_626 (by decide) ?_
    refine fj_iload_n C 9 dL_law_628 rfl rfl ?_
    refine fj_iconst (v := (-1)) C dL_law_629 (by decide) ?_
    refine fj_iconst (v := 1) C dL_law_630 (by decide) ?_
    refine fj_callV (As := [.int 9, .int (nI F), .int (-1), .int 1]) (rest := []) (wr := pw q1 q2 ty f g) C (d_X5_holds l D ty t0 ad z3 gg y3 2 0 0 M hk3.1.1 9 (nI F) (-1) 1) (cwV 4 C.2.2.2.2.1 gL_law_X5_holds rfl rfl rfl (by decide +kernel) ⟨Nat.le_of_ble_eq_true rfl, Nat.le_of_ble_eq_true rfl⟩) ⟨0, 5, _, _, fx_at0 _ _ _ _ _, rfl, rfl⟩ rfl (Nat.le_of_ble_eq_true rfl) dL_law_631 ⟨Nat.le_of_ble_eq_true rfl, Nat.le_of_ble_eq_true rfl⟩ [2, 3, 4, 5, 6, 7, 8, 9, 10, 11, 12, 13, 14, 15, 16, 17, 18, 19, 20, 21, 22, 23, 24, 25, 26, 27, 28, 29, 30, 31, 32, 33, 34, 35, 36, 37, 38, 39, 40, 41, 42, 43, 44, 45] [0, 1] rfl rfl rfl rfl (by decide) (fun v9 w9 hp9 => ?_)
    obtain ⟨z4, u4, y4, r4, hr4, hd4, rfl, rfl, hk4, he4⟩ := q_holds hk3 (day_ok (by omega)) ⟨by decide, by decide⟩ hp9
    have hs4 : z4 23 1 = 0 := by rw [he4]; exact hs3
    have hv4 : r4 = 1 := an_l hr4 hd4 (by rw [nI_toInt (by omega)]; omega) (hl_F hk3)
    refine fj_st (st' := .int r4 :: []) rfl ?_
    refine fj_at (y := 1) hv4 ?_
    refine fj_iconst (v := 1) C dL_law_634 (by decide) ?_
    refine fj_icmp_ne (tgt := 715) C dL_law_635 (by decide) (fun h => absurd (by decide) h) (fun _ => ?_)
    refine fj_aload_n C 10 dL_law_638 rfl rfl ?_
    refine fj_bipush (v := 9) C dL_law_639 (by decide) ?_
    refine fj_iload_n C 8 dL_law_641 rfl rfl ?_
    refine fj_iconst (v := (-1)) C dL_law_642 (by decide) ?_
    refine fj_iconst (v := 1) C dL_law_643 (by decide) ?_
    refine fj_callV (As := [.int 9, .int (nI G), .int (-1), .int 1]) (rest := []) (wr := pw q1 q2 ty f g) C (d_X5_holds l D ty t0 ad z4 gg y4 2 0 0 M hk4.1.1 9 (nI G) (-1) 1) (cwV 4 C.2.2.2.2.1 gL_law_X5_holds rfl rfl rfl (by decide +kernel) ⟨Nat.le_of_ble_eq_true rfl, Nat.le_of_ble_eq_true rfl⟩) ⟨0, 5, _, _, fx_at0 _ _ _ _ _, rfl, rfl⟩ rfl (Nat.le_of_ble_eq_true rfl) dL_law_644 ⟨Nat.le_of_ble_eq_true rfl, Nat.le_of_ble_eq_true rfl⟩ [2, 3, 4, 5, 6, 7, 8, 9, 10, 11, 12, 13, 14, 15, 16, 17, 18, 19, 20, 21, 22, 23, 24, 25, 26, 27, 28, 29, 30, 31, 32, 33, 34, 35, 36, 37, 38, 39, 40, 41, 42, 43, 44, 45] [0, 1] rfl rfl rfl rfl (by decide) (fun v9 w9 hp9 => ?_)
    obtain ⟨z5, u5, y5, r5, hr5, hd5, rfl, rfl, hk5, he5⟩ := q_holds hk4 (day_ok (by omega)) ⟨by decide, by decide⟩ hp9
    have hs5 : z5 23 1 = 0 := by rw [he5]; exact hs4
    have hv5 : r5 = 1 := an_l hr5 hd5 (by rw [nI_toInt (by omega)]; omega) (Or.inr (Or.inr hdue))
    refine fj_st (st' := .int r5 :: []) rfl ?_
    refine fj_at (y := 1) hv5 ?_
    refine fj_iload C 0 dL_law_647 rfl ?_
    refine fj_if_ne (tgt := 656) C dL_law_649 (by decide) (fun h649 => ?_) (fun h649 => absurd h649 hdue)
    refine fj_iconst (v := 1) C dL_law_656 (by decide) ?_
    refine fj_icmp_ne (tgt := 715) C dL_law_657 (by decide) (fun h => absurd (by decide) h) (fun _ => ?_)
    refine fj_aload_n C 10 dL_law_660 rfl rfl ?_
    refine fj_bipush (v := 9) C dL_law_661 (by decide) ?_
    refine fj_sipush (v := 20000) C dL_law_663 (by decide) ?_
    refine fj_iconst (v := (-1)) C dL_law_666 (by decide) ?_
    refine fj_iconst (v := 1) C dL_law_667 (by decide) ?_
    refine fj_callV (As := [.int 9, .int 20000, .int (-1), .int 1]) (rest := []) (wr := pw q1 q2 ty f g) C (d_X5_holds l D ty t0 ad z5 gg y5 2 0 0 M hk5.1.1 9 20000 (-1) 1) (cwV 4 C.2.2.2.2.1 gL_law_X5_holds rfl rfl rfl (by decide +kernel) ⟨Nat.le_of_ble_eq_true rfl, Nat.le_of_ble_eq_true rfl⟩) ⟨0, 5, _, _, fx_at0 _ _ _ _ _, rfl, rfl⟩ rfl (Nat.le_of_ble_eq_true rfl) dL_law_668 ⟨Nat.le_of_ble_eq_true rfl, Nat.le_of_ble_eq_true rfl⟩ [2, 3, 4, 5, 6, 7, 8, 9, 10, 11, 12, 13, 14, 15, 16, 17, 18, 19, 20, 21, 22, 23, 24, 25, 26, 27, 28, 29, 30, 31, 32, 33, 34, 35, 36, 37, 38, 39, 40, 41, 42, 43, 44, 45] [0, 1] rfl rfl rfl rfl (by decide) (fun v9 w9 hp9 => ?_)
    obtain ⟨z6, u6, y6, r6, hr6, hd6, rfl, rfl, hk6, he6⟩ := q_holds hk5 ⟨by decide, by decide⟩ ⟨by decide, by decide⟩ hp9
    have hs6 : z6 23 1 = 0 := by rw [he6]; exact hs5
    have hv6 : r6 = 1 := an_l hr6 hd6 (le_20 hk5).1 (Or.inr (Or.inr hdue))
    refine fj_st (st' := .int r6 :: []) rfl ?_
    refine fj_at (y := 1) hv6 ?_
    refine fj_iload C 0 dL_law_671 rfl ?_
    refine fj_if_ne (tgt := 680) C dL_law_673 (by decide) (fun h673 => ?_) (fun h673 => absurd h673 hdue)
    refine fj_iconst (v := 1) C dL_law_680 (by decide) ?_
    refine fj_icmp_ne (tgt := 715) C dL_law_681 (by decide) (fun h => absurd (by decide) h) (fun _ => ?_)
    refine fj_aload_n C 10 dL_law_684 rfl rfl ?_
    refine fj_bipush (v := 9) C dL_law_685 (by decide) ?_
    refine fj_iload_n C 9 dL_law_687 rfl rfl ?_
    refine fj_iconst (v := 1) C dL_law_688 (by decide) ?_
    refine fj_isub C dL_law_689 ?_
    refine fj_at (y := nI (F - 1)) (pk_sub (b := 1) (by omega)) ?_
    refine fj_iconst (v := (-1)) C dL_law_690 (by decide) ?_
    refine fj_iconst (v := 0) C dL_law_691 (by decide) ?_
    refine fj_callV (As := [.int 9, .int (nI (F - 1)), .int (-1), .int 0]) (rest := []) (wr := pw q1 q2 ty f g) C (d_X5_holds l D ty t0 ad z6 gg y6 2 0 0 M hk6.1.1 9 (nI (F - 1)) (-1) 0) (cwV 4 C.2.2.2.2.1 gL_law_X5_holds rfl rfl rfl (by decide +kernel) ⟨Nat.le_of_ble_eq_true rfl, Nat.le_of_ble_eq_true rfl⟩) ⟨0, 5, _, _, fx_at0 _ _ _ _ _, rfl, rfl⟩ rfl (Nat.le_of_ble_eq_true rfl) dL_law_692 ⟨Nat.le_of_ble_eq_true rfl, Nat.le_of_ble_eq_true rfl⟩ [2, 3, 4, 5, 6, 7, 8, 9, 10, 11, 12, 13, 14, 15, 16, 17, 18, 19, 20, 21, 22, 23, 24, 25, 26, 27, 28, 29, 30, 31, 32, 33, 34, 35, 36, 37, 38, 39, 40, 41, 42, 43, 44, 45] [0, 1] rfl rfl rfl rfl (by decide) (fun v9 w9 hp9 => ?_)
    obtain ⟨z7, u7, y7, r7, hr7, hd7, rfl, rfl, hk7, he7⟩ := q_holds hk6 (day_ok (by omega)) ⟨by decide, by decide⟩ hp9
    have hs7 : z7 23 1 = 0 := by rw [he7]; exact hs6
    have hv7 : r7 = (-1) := an_hn hr7 hd7 (by rw [nI_toInt (by omega)]; omega)
    refine fj_st (st' := .int r7 :: []) rfl ?_
    refine fj_at (y := (-1)) hv7 ?_
    refine fj_iconst (v := (-1)) C dL_law_695 (by decide) ?_
    refine fj_icmp_ne (tgt := 715) C dL_law_696 (by decide) (fun h => absurd (by decide) h) (fun _ => ?_)
    refine fj_aload_n C 10 dL_law_699 rfl rfl ?_
    refine fj_bipush (v := 9) C dL_law_700 (by decide) ?_
    refine fj_iload_n C 8 dL_law_702 rfl rfl ?_
    refine fj_iconst (v := (-1)) C dL_law_703 (by decide) ?_
    refine fj_iconst (v := 2) C dL_law_704 (by decide) ?_
    refine fj_callV (As := [.int 9, .int (nI G), .int (-1), .int 2]) (rest := []) (wr := pw q1 q2 ty f g) C (d_X5_holds l D ty t0 ad z7 gg y7 2 0 0 M hk7.1.1 9 (nI G) (-1) 2) (cwV 4 C.2.2.2.2.1 gL_law_X5_holds rfl rfl rfl (by decide +kernel) ⟨Nat.le_of_ble_eq_true rfl, Nat.le_of_ble_eq_true rfl⟩) ⟨0, 5, _, _, fx_at0 _ _ _ _ _, rfl, rfl⟩ rfl (Nat.le_of_ble_eq_true rfl) dL_law_705 ⟨Nat.le_of_ble_eq_true rfl, Nat.le_of_ble_eq_true rfl⟩ [2, 3, 4, 5, 6, 7, 8, 9, 10, 11, 12, 13, 14, 15, 16, 17, 18, 19, 20, 21, 22, 23, 24, 25, 26, 27, 28, 29, 30, 31, 32, 33, 34, 35, 36, 37, 38, 39, 40, 41, 42, 43, 44, 45] [0, 1] rfl rfl rfl rfl (by decide) (fun v9 w9 hp9 => ?_)
    obtain ⟨z8, u8, y8, r8, hr8, hd8, rfl, rfl, hk8, he8⟩ := q_holds hk7 (day_ok (by omega)) ⟨by decide, by decide⟩ hp9
    have hs8 : z8 23 1 = 0 := by rw [he8]; exact hs7
    have hv8 : r8 = 0 := an_h2 hr8 hd8 (by rw [nI_toInt (by omega)]; omega)
    refine fj_st (st' := .int r8 :: []) rfl ?_
    refine fj_at (y := 0) hv8 ?_
    refine fj_if_ne (tgt := 715) C dL_law_708 (by decide) (fun h => absurd (by decide) h) (fun _ => ?_)
    refine fj_iconst (v := 1) C dL_law_711 (by decide) ?_
    refine fj_goto (tgt := 716) C dL_law_712 (by decide) ?_
    refine fj_istore (lv' := [(4, .int 1), (13, .int (DUE F G Fm acr)), (10, .int (nI (cL Fm F (G - F)))), (9, .int (nI M)), (8, .int acr), (7, .int (nI V)), (6, .ref q2), (5, .ref q1), (3, .int (nI G)), (2, .int (nI F)), (1, .ref (ad 0)), (0, .ref (t0 1))]) C dL_law_716 (by decide) rfl ?_
    refine fj_iload C 0 dL_law_718 rfl ?_
    refine fj_if_eq (tgt := 822) C dL_law_720 (by decide) (fun h => absurd h (by decide)) (fun _ => ?_)
    refine fj_iload_n C 8 dL_law_723 rfl rfl ?_
    refine fj_iload_n C 9 dL_law_724 rfl rfl ?_
    refine fj_icmp_eq (tgt := 744) C dL_law_725 (by decide) (fun h725 => ?_) (fun h725 => ?_)
    · refine fj_lv (lv' := [(9, .int (nI M)), (1, .ref (ad 0)), (0, .ref (t0 1))]) [3, 10, 11] rfl ?_
      exact K z8 y8 hk8 hs8
    · have hlt : F < G := by
        refine Classical.byContradiction fun q => h725 ?_
        rw [show G = F by omega]
      refine fj_aload_n C 10 dL_law_728 rfl rfl ?_
      refine fj_bipush (v := 9) C dL_law_729 (by decide) ?_
      refine fj_iload_n C 8 dL_law_731 rfl rfl ?_
      refine fj_iconst (v := 1) C dL_law_732 (by decide) ?_
      refine fj_isub C dL_law_733 ?_
      refine fj_at (y := nI (G - 1)) (pk_sub (b := 1) (by omega)) ?_
      refine fj_iconst (v := (-1)) C dL_law_734 (by decide) ?_
      refine fj_iconst (v := 4) C dL_law_735 (by decide) ?_
      refine fj_callV (As := [.int 9, .int (nI (G - 1)), .int (-1), .int 4]) (rest := []) (wr := pw q1 q2 ty f g) C (d_X5_holds l D ty t0 ad z8 gg y8 2 0 0 M hk8.1.1 9 (nI (G - 1)) (-1) 4) (cwV 4 C.2.2.2.2.1 gL_law_X5_holds rfl rfl rfl (by decide +kernel) ⟨Nat.le_of_ble_eq_true rfl, Nat.le_of_ble_eq_true rfl⟩) ⟨0, 5, _, _, fx_at0 _ _ _ _ _, rfl, rfl⟩ rfl (Nat.le_of_ble_eq_true rfl) dL_law_736 ⟨Nat.le_of_ble_eq_true rfl, Nat.le_of_ble_eq_true rfl⟩ [2, 3, 4, 5, 6, 7, 8, 9, 10, 11, 12, 13, 14, 15, 16, 17, 18, 19, 20, 21, 22, 23, 24, 25, 26, 27, 28, 29, 30, 31, 32, 33, 34, 35, 36, 37, 38, 39, 40, 41, 42, 43, 44, 45] [0, 1] rfl rfl rfl rfl (by decide) (fun v9 w9 hp9 => ?_)
      obtain ⟨z9, u9, y9, r9, hr9, hd9, rfl, rfl, hk9, he9⟩ := q_holds hk8 (day_ok (by omega)) ⟨by decide, by decide⟩ hp9
      have hs9 : z9 23 1 = 0 := by rw [he9]; exact hs8
      have hv9 : r9 = nI (cL Fm F (G - F)) := an_d hr9 hd9 hlt (by rw [nI_toInt (by omega)]; omega)
      refine fj_st (st' := .int r9 :: []) rfl ?_
      refine fj_at (y := nI (cL Fm F (G - F))) hv9 ?_
      refine fj_iload C 2 dL_law_739 rfl ?_
      refine fj_icmp_ne (tgt := 822) C dL_law_741 (by decide) (fun h741 => absurd (rfl : nI (cL Fm F (G - F)) = nI (cL Fm F (G - F))) h741) (fun h741 => ?_)
      refine fj_lv (lv' := [(9, .int (nI M)), (1, .ref (ad 0)), (0, .ref (t0 1))]) [3, 10, 11] rfl ?_
      exact K z9 y9 hk9 hs9
