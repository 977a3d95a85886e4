set_option maxHeartbeats 4000000 in
set_option maxRecDepth 100000 in
theorem c_X6_told (l : Launch) (D : va_G) (ty : Nat → ClassId) (t0 : Nat) (bd : Nat → Nat) (x : Int32) (y : Int32)  : fc l yX6_told wsX6_told (fj_rm 2 46 0 0) D ty t0 [.ref (bd 0), .int x, .int y] (fm_w bd ty fm_a0 fm_g0 fm_n0) 0 0 (fun v w => v = some (.int (-1001))) := by
  refine fc_start (own := RX6) (cc := cX6_told) (maxL := 3) (ret := (some .int)) (by decide) rfl (Nat.le_of_ble_eq_true rfl) rfl ?_
  intro p e s m args below meth c Q A C hmn E9
  refine fj_lv (lv' := [(0, .ref (bd 0)), (1, .int x), (2, .int y)]) [0, 1, 2] rfl ?_
  refine fj_aload_n C 0 dX6_told_0 rfl rfl ?_
  refine fj_iload_n C 1 dX6_told_1 rfl rfl ?_
  refine fj_callVw (As := [.int x]) (rest := []) C (c_X6_isLine l D ty t0 bd x) (cwV 1 C.2.2.2.2.1 gX6_told_X6_isLine rfl rfl rfl (by decide +kernel) ⟨Nat.le_of_ble_eq_true rfl, Nat.le_of_ble_eq_true rfl⟩) ⟨0, 6, _, _, fm_at0 _ _ _ _ _, rfl, rfl⟩ rfl (Nat.le_of_ble_eq_true rfl) dX6_told_2 ⟨Nat.zero_le _, Nat.zero_le _⟩ (fun v9 w9 hp9 => ?_)
  obtain ⟨rfl, rfl⟩ := hp9
  refine fj_st (st' := .int 0 :: []) rfl ?_
  refine fj_if_ne (tgt := 12) C dX6_told_5 (by decide) (fun h => absurd (by decide) h) (fun _ => ?_)
  refine fj_sipush (v := (-1001)) C dX6_told_8 (by decide) ?_
  exact fj_iret C E9 dX6_told_11 rfl

set_option maxHeartbeats 4000000 in
set_option maxRecDepth 100000 in
theorem c_X6_outcome (l : Launch) (D : va_G) (ty : Nat → ClassId) (t0 : Nat) (bd : Nat → Nat) (x : Int32) (y : Int32)  : fc l yX6_outcome wsX6_outcome (fj_rm 2 46 0 0) D ty t0 [.ref (bd 0), .int x, .int y] (fm_w bd ty fm_a0 fm_g0 fm_n0) 0 0 (fun v w => v = some (.int (-1001))) := by
  refine fc_start (own := RX6) (cc := cX6_outcome) (maxL := 3) (ret := (some .int)) (by decide) rfl (Nat.le_of_ble_eq_true rfl) rfl ?_
  intro p e s m args below meth c Q A C hmn E9
  refine fj_lv (lv' := [(0, .ref (bd 0)), (1, .int x), (2, .int y)]) [0, 1, 2] rfl ?_
  refine fj_aload_n C 0 dX6_outcome_0 rfl rfl ?_
  refine fj_iload_n C 1 dX6_outcome_1 rfl rfl ?_
  refine fj_callVw (As := [.int x]) (rest := []) C (c_X6_isLine l D ty t0 bd x) (cwV 1 C.2.2.2.2.1 gX6_outcome_X6_isLine rfl rfl rfl (by decide +kernel) ⟨Nat.le_of_ble_eq_true rfl, Nat.le_of_ble_eq_true rfl⟩) ⟨0, 6, _, _, fm_at0 _ _ _ _ _, rfl, rfl⟩ rfl (Nat.le_of_ble_eq_true rfl) dX6_outcome_2 ⟨Nat.zero_le _, Nat.zero_le _⟩ (fun v9 w9 hp9 => ?_)
  obtain ⟨rfl, rfl⟩ := hp9
  refine fj_st (st' := .int 0 :: []) rfl ?_
  refine fj_if_ne (tgt := 12) C dX6_outcome_5 (by decide) (fun h => absurd (by decide) h) (fun _ => ?_)
  refine fj_sipush (v := (-1001)) C dX6_outcome_8 (by decide) ?_
  exact fj_iret C E9 dX6_outcome_11 rfl

set_option maxHeartbeats 4000000 in
set_option maxRecDepth 100000 in
theorem c_X6_holdings (l : Launch) (D : va_G) (ty : Nat → ClassId) (t0 : Nat) (bd : Nat → Nat) (x : Int32) (y : Int32)  : fc l yX6_holdings wsX6_holdings (fj_rm 2 46 0 0) D ty t0 [.ref (bd 0), .int x, .int y] (fm_w bd ty fm_a0 fm_g0 fm_n0) 0 0 (fun v w => v = some (.int (-1001))) := by
  refine fc_start (own := RX6) (cc := cX6_holdings) (maxL := 5) (ret := (some .int)) (by decide) rfl (Nat.le_of_ble_eq_true rfl) rfl ?_
  intro p e s m args below meth c Q A C hmn E9
  refine fj_lv (lv' := [(0, .ref (bd 0)), (1, .int x), (2, .int y)]) [0, 1, 2] rfl ?_
  refine fj_aload_n C 0 dX6_holdings_0 rfl rfl ?_
  refine fj_iload_n C 1 dX6_holdings_1 rfl rfl ?_
  refine fj_callVw (As := [.int x]) (rest := []) C (c_X6_isPerson l D ty t0 bd x) (cwV 1 C.2.2.2.2.1 gX6_holdings_X6_isPerson rfl rfl rfl (by decide +kernel) ⟨Nat.le_of_ble_eq_true rfl, Nat.le_of_ble_eq_true rfl⟩) ⟨0, 6, _, _, fm_at0 _ _ _ _ _, rfl, rfl⟩ rfl (Nat.le_of_ble_eq_true rfl) dX6_holdings_2 ⟨Nat.zero_le _, Nat.zero_le _⟩ (fun v9 w9 hp9 => ?_)
  obtain ⟨rfl, rfl⟩ := hp9
  refine fj_st (st' := .int 0 :: []) rfl ?_
  refine fj_if_ne (tgt := 12) C dX6_holdings_5 (by decide) (fun h => absurd (by decide) h) (fun _ => ?_)
  refine fj_sipush (v := (-1001)) C dX6_holdings_8 (by decide) ?_
  exact fj_iret C E9 dX6_holdings_11 rfl

set_option maxHeartbeats 4000000 in
set_option maxRecDepth 100000 in
theorem c_X6_line (l : Launch) (D : va_G) (ty : Nat → ClassId) (t0 : Nat) (bd : Nat → Nat) (x : Int32) (s9 : Int32) (q : Int32) (r : Int32) (u : Int32)  : fc l yX6_line wsX6_line (fj_rm 2 46 0 0) D ty t0 [.ref (bd 0), .int x, .int s9, .int q, .int r, .int u] (fm_w bd ty fm_a0 fm_g0 fm_n0) 0 0 (fun v w => v = some (.int (if (0 ≤ s9 ∧ s9 ≤ 6) then -1001 else -1002))) := by
  refine fc_start (own := RX6) (cc := cX6_line) (maxL := 6) (ret := (some .int)) (by decide) rfl (Nat.le_of_ble_eq_true rfl) rfl ?_
  intro p e s m args below meth c Q A C hmn E9
  have kL185 : Cond.constantLong RX6 185 (6) ∈ wsX6_line := (by decide +kernel)
  refine fj_lv (lv' := [(0, .ref (bd 0)), (1, .int x), (2, .int s9), (3, .int q), (4, .int r), (5, .int u)]) [0, 1, 2, 3, 4, 5] rfl ?_
  refine fj_iload_n C 2 dX6_line_0 rfl rfl ?_
  refine fj_i2l C dX6_line_1 ?_
  refine fj_lconst (v := 0) C dX6_line_2 (by decide) ?_
  refine fj_ldc2 (v := 6) C dX6_line_3 kL185 ?_
  refine fj_callSw (As := [.long s9.toInt64, .long 0, .long 6]) (rest := []) C (c_X6_inI l D ty t0 (fm_w bd ty fm_a0 fm_g0 fm_n0) s9 0 6 0 6 (by decide) (by decide)) (va_cwS 3 C.2.2.2.2.1 gX6_line_X6_in rfl rfl rfl (by decide +kernel) ⟨Nat.le_of_ble_eq_true rfl, Nat.le_of_ble_eq_true rfl⟩)  rfl (Nat.le_of_ble_eq_true rfl) dX6_line_6 ⟨Nat.zero_le _, Nat.zero_le _⟩ (fun v9 w9 hp9 => ?_)
  obtain ⟨rfl, rfl⟩ := hp9
  refine fj_st (st' := .int (if (0 ≤ s9 ∧ s9 ≤ 6) then 1 else 0) :: []) rfl ?_
  refine fj_ifb_ne (tgt := 16) C dX6_line_9 (by decide) (fun h9 => ?_) (fun h9 => ?_)
  · refine fj_aload_n C 0 dX6_line_16 rfl rfl ?_
    refine fj_iload_n C 3 dX6_line_17 rfl rfl ?_
    refine fj_callVw (As := [.int q]) (rest := []) C (c_X6_isPerson l D ty t0 bd q) (cwV 1 C.2.2.2.2.1 gX6_line_X6_isPerson rfl rfl rfl (by decide +kernel) ⟨Nat.le_of_ble_eq_true rfl, Nat.le_of_ble_eq_true rfl⟩) ⟨0, 6, _, _, fm_at0 _ _ _ _ _, rfl, rfl⟩ rfl (Nat.le_of_ble_eq_true rfl) dX6_line_18 ⟨Nat.zero_le _, Nat.zero_le _⟩ (fun v9 w9 hp9 => ?_)
    obtain ⟨rfl, rfl⟩ := hp9
    refine fj_st (st' := .int 0 :: []) rfl ?_
    refine fj_if_eq (tgt := 53) C dX6_line_21 (by decide) (fun _ => ?_) (fun h => absurd (by decide) h)
    refine fj_sipush (v := (-1001)) C dX6_line_53 (by decide) ?_
    exact fj_iret C E9 dX6_line_56 (by (repeat' split) <;> first | rfl | (exfalso; grind) | grind)
  · refine fj_sipush (v := (-1002)) C dX6_line_12 (by decide) ?_
    exact fj_iret C E9 dX6_line_15 (by (repeat' split) <;> first | rfl | (exfalso; grind) | grind)

set_option maxHeartbeats 4000000 in
set_option maxRecDepth 100000 in
theorem c_X6_putInOrder (l : Launch) (D : va_G) (ty : Nat → ClassId) (t0 : Nat) (bd : Nat → Nat) (x : Int32) (y : Int32) (hx : x = 0) : fc l yX6_putInOrder wsX6_putInOrder (fj_rm 0 0 0 0) D ty t0 [.ref (bd 0), .int x, .int y] (fm_w bd ty fm_a0 fm_g0 fm_n0) 0 0 (fun v w => v = none ∧ w = fm_w bd ty fm_a0 fm_g0 fm_n0) := by
  subst hx
  refine fc_start (own := RX6) (cc := cX6_putInOrder) (maxL := 5) (ret := none) (by decide) rfl (Nat.le_of_ble_eq_true rfl) rfl ?_
  intro p e s m args below meth c Q A C hmn E9
  have iX6 : ∀ w ∈ u_ws RX6 TX6 44, w ∈ wsX6_putInOrder := fun _ h => List.mem_cons_of_mem _ (List.mem_append_right _ h)
  have kX6_203 : Cond.fieldLink RX6 203 "FreeLandModel" "orderMany" "I" ∈ wsX6_putInOrder := (by decide +kernel)
  refine fj_lv (lv' := [(0, .ref (bd 0)), (1, .int 0), (2, .int y)]) [0, 1, 2] rfl ?_
  refine fj_aload_n C 0 dX6_putInOrder_0 rfl rfl ?_
  refine fj_iconst (v := 0) C dX6_putInOrder_1 (by decide) ?_
  refine fj_put (Cn := RX6) (T := TX6) (N := 44) (ci := 6) C iX6 tyX6 tyX6_ok nmX6 0 (fm_at0 _ _ _ _ _) rfl 23 (by decide) kX6_203 rfl rfl rfl (Nat.le_of_ble_eq_true rfl) dX6_putInOrder_2 (fm_si0_23 _ _ _ _ _ _) ?_
  refine fj_iconst (v := 0) C dX6_putInOrder_5 (by decide) ?_
  refine fj_istore_n (lv' := [(3, .int 0), (0, .ref (bd 0)), (1, .int 0), (2, .int y)]) C dX6_putInOrder_6 rfl (by decide) rfl ?_
  refine fj_iload_n C 0 dX6_putInOrder_7 rfl rfl ?_
  refine fj_iload_n C 2 dX6_putInOrder_8 rfl rfl ?_
  refine fj_icmp_ge (tgt := 111) C dX6_putInOrder_9 (by decide) (fun _ => ?_) (fun h => absurd (by decide) h)
  exact fj_vret C E9 dX6_putInOrder_111 ⟨rfl, rfl⟩

set_option maxHeartbeats 4000000 in
set_option maxRecDepth 100000 in
theorem c_X6_work (l : Launch) (D : va_G) (ty : Nat → ClassId) (t0 : Nat) (bd : Nat → Nat) (x : Int32) (y : Int32) (hx : x = 0) : fc l yX6_work wsX6_work (fj_rm 1 24 0 0) D ty t0 [.ref (bd 0), .int x, .int y] (fm_w bd ty fm_a0 fm_g0 fm_n0) 0 0 (fun v w => v = none ∧ w = fm_w bd ty (fm_cl fm_a0) fm_g0 fm_n0) := by
  subst hx
  refine fc_start (own := RX6) (cc := cX6_work) (maxL := 4) (ret := none) (by decide) rfl (Nat.le_of_ble_eq_true rfl) rfl ?_
  intro p e s m args below meth c Q A C hmn E9
  have iX6 : ∀ w ∈ u_ws RX6 TX6 44, w ∈ wsX6_work := fun _ h => List.mem_cons_of_mem _ (List.mem_append_right _ h)
  have kX6_206 : Cond.fieldLink RX6 206 "FreeLandModel" "entries" "I" ∈ wsX6_work := (by decide +kernel)
  have kX6_212 : Cond.fieldLink RX6 212 "FreeLandModel" "worked" "I" ∈ wsX6_work := (by decide +kernel)
  have kX6_203 : Cond.fieldLink RX6 203 "FreeLandModel" "orderMany" "I" ∈ wsX6_work := (by decide +kernel)
  have kX6_97 : Cond.fieldLink RX6 97 "FreeLandModel" "preferred" "[I" ∈ wsX6_work := (by decide +kernel)
  have kX6_73 : Cond.fieldLink RX6 73 "FreeLandModel" "isDead" "[Z" ∈ wsX6_work := (by decide +kernel)
  have kX6_70 : Cond.fieldLink RX6 70 "FreeLandModel" "outcomes" "[I" ∈ wsX6_work := (by decide +kernel)
  refine fj_lv (lv' := [(0, .ref (bd 0)), (1, .int 0), (2, .int y)]) [0, 1, 2] rfl ?_
  refine fj_aload_n C 0 dX6_work_0 rfl rfl ?_
  refine fj_iload_n C 1 dX6_work_1 rfl rfl ?_
  refine fj_iload_n C 2 dX6_work_2 rfl rfl ?_
  refine fj_callVw (As := [.int 0, .int y]) (rest := []) C (c_X6_putInOrder l D ty t0 bd 0 y rfl) (cwV 2 C.2.2.2.2.1 gX6_work_X6_putInOrder rfl rfl rfl (by decide +kernel) ⟨Nat.le_of_ble_eq_true rfl, Nat.le_of_ble_eq_true rfl⟩) ⟨0, 6, _, _, fm_at0 _ _ _ _ _, rfl, rfl⟩ rfl (Nat.le_of_ble_eq_true rfl) dX6_work_3 ⟨Nat.zero_le _, Nat.zero_le _⟩ (fun v9 w9 hp9 => ?_)
  obtain ⟨rfl, rfl⟩ := hp9
  refine fj_st (st' := []) rfl ?_
  refine fj_aload_n C 0 dX6_work_6 rfl rfl ?_
  refine fj_iconst (v := 0) C dX6_work_7 (by decide) ?_
  refine fj_put (Cn := RX6) (T := TX6) (N := 44) (ci := 6) C iX6 tyX6 tyX6_ok nmX6 0 (fm_at0 _ _ _ _ _) rfl 26 (by decide) kX6_206 rfl rfl rfl (Nat.le_of_ble_eq_true rfl) dX6_work_8 (fm_si0_26 _ _ _ _ _ _) ?_
  refine fj_iconst (v := 0) C dX6_work_11 (by decide) ?_
  refine fj_istore_n (lv' := [(3, .int 0), (0, .ref (bd 0)), (1, .int 0), (2, .int y)]) C dX6_work_12 rfl (by decide) rfl ?_
  refine fj_lv (lv' := [(0, .ref (bd 0)), (1, .int 0), (2, .int y), (3, .int 0)]) [1, 2, 3, 0] rfl ?_
  have lp13 : ∀ (i : Nat), (i ≤ 120) → fj p l e (fj_rm 1 24 0 0) s m args below meth c Q A D 4 0 0 (fm_w bd ty (va_up fm_a0 18 (fl (-1) (fm_a0 18) i)) fm_g0 (va_up fm_n0 7 0)) [(0, .ref (bd 0)), (1, .int 0), (2, .int y), (3, .int (nI i))] 13 [] := by
    have key : ∀ z : Nat, (fun (i : Nat) => (i ≤ 120) → fj p l e (fj_rm 1 24 0 0) s m args below meth c Q A D 4 0 0 (fm_w bd ty (va_up fm_a0 18 (fl (-1) (fm_a0 18) i)) fm_g0 (va_up fm_n0 7 0)) [(0, .ref (bd 0)), (1, .int 0), (2, .int y), (3, .int (nI i))] 13 []) z := by
      refine fx_ind (fun (i : Nat) => 120 - i) _ ?_
      rintro i ih ii
      refine fj_iload_n C 3 dX6_work_13 rfl rfl ?_
      refine fj_bipush (v := 120) C dX6_work_14 (by decide) ?_
      refine fj_icmp_ge (tgt := 32) C dX6_work_16 (by decide) (fun h16 => ?_) (fun h16 => ?_)
      · have q16 : 120 ≤ i := (nI_leI (a := 120) (by decide) (by omega)).mp h16
        obtain rfl : i = 120 := by omega
        refine fj_iconst (v := 0) C dX6_work_32 (by decide) ?_
        refine fj_istore_n (lv' := [(3, .int 0), (0, .ref (bd 0)), (1, .int 0), (2, .int y)]) C dX6_work_33 rfl (by decide) rfl ?_
        refine fj_lv (lv' := [(0, .ref (bd 0)), (1, .int 0), (2, .int y), (3, .int 0)]) [1, 2, 3, 0] rfl ?_
        have lp34 : ∀ (j : Nat), (j ≤ 12) → fj p l e (fj_rm 1 24 0 0) s m args below meth c Q A D 4 0 0 (fm_w bd ty (va_up (va_up fm_a0 18 (fl (-1) (fm_a0 18) 120)) 19 (fl 0 (fm_a0 19) j)) fm_g0 (va_up fm_n0 7 0)) [(0, .ref (bd 0)), (1, .int 0), (2, .int y), (3, .int (nI j))] 34 [] := by
          have key : ∀ z : Nat, (fun (j : Nat) => (j ≤ 12) → fj p l e (fj_rm 1 24 0 0) s m args below meth c Q A D 4 0 0 (fm_w bd ty (va_up (va_up fm_a0 18 (fl (-1) (fm_a0 18) 120)) 19 (fl 0 (fm_a0 19) j)) fm_g0 (va_up fm_n0 7 0)) [(0, .ref (bd 0)), (1, .int 0), (2, .int y), (3, .int (nI j))] 34 []) z := by
            refine fx_ind (fun (j : Nat) => 12 - j) _ ?_
            rintro j ih ij
            refine fj_iload_n C 3 dX6_work_34 rfl rfl ?_
            refine fj_bipush (v := 12) C dX6_work_35 (by decide) ?_
            refine fj_icmp_ge (tgt := 53) C dX6_work_37 (by decide) (fun h37 => ?_) (fun h37 => ?_)
            · have q37 : 12 ≤ j := (nI_leI (a := 12) (by decide) (by omega)).mp h37
              obtain rfl : j = 12 := by omega
              refine fj_iconst (v := 0) C dX6_work_53 (by decide) ?_
              refine fj_istore_n (lv' := [(3, .int 0), (0, .ref (bd 0)), (1, .int 0), (2, .int y)]) C dX6_work_54 rfl (by decide) rfl ?_
              refine fj_lv (lv' := [(0, .ref (bd 0)), (1, .int 0), (2, .int y), (3, .int 0)]) [1, 2, 3, 0] rfl ?_
              have lp55 : ∀ (k : Nat), (k ≤ 64) → fj p l e (fj_rm 1 24 0 0) s m args below meth c Q A D 4 0 0 (fm_w bd ty (va_up (va_up (va_up fm_a0 18 (fl (-1) (fm_a0 18) 120)) 19 (fl 0 (fm_a0 19) 12)) 27 (fl (-1) (fm_a0 27) k)) fm_g0 (va_up fm_n0 7 0)) [(0, .ref (bd 0)), (1, .int 0), (2, .int y), (3, .int (nI k))] 55 [] := by
                have key : ∀ z : Nat, (fun (k : Nat) => (k ≤ 64) → fj p l e (fj_rm 1 24 0 0) s m args below meth c Q A D 4 0 0 (fm_w bd ty (va_up (va_up (va_up fm_a0 18 (fl (-1) (fm_a0 18) 120)) 19 (fl 0 (fm_a0 19) 12)) 27 (fl (-1) (fm_a0 27) k)) fm_g0 (va_up fm_n0 7 0)) [(0, .ref (bd 0)), (1, .int 0), (2, .int y), (3, .int (nI k))] 55 []) z := by
                  refine fx_ind (fun (k : Nat) => 64 - k) _ ?_
                  rintro k ih ik
                  refine fj_iload_n C 3 dX6_work_55 rfl rfl ?_
                  refine fj_bipush (v := 64) C dX6_work_56 (by decide) ?_
                  refine fj_icmp_ge (tgt := 74) C dX6_work_58 (by decide) (fun h58 => ?_) (fun h58 => ?_)
                  · have q58 : 64 ≤ k := (nI_leI (a := 64) (by decide) (by omega)).mp h58
                    obtain rfl : k = 64 := by omega
                    refine fj_aload_n C 0 dX6_work_74 rfl rfl ?_
                    refine fj_iconst (v := 0) C dX6_work_75 (by decide) ?_
                    refine fj_put (Cn := RX6) (T := TX6) (N := 44) (ci := 6) C iX6 tyX6 tyX6_ok nmX6 0 (fm_at0 _ _ _ _ _) rfl 36 (by decide) kX6_212 rfl rfl rfl (Nat.le_of_ble_eq_true rfl) dX6_work_76 (fm_si0_36 _ _ _ _ _ _) ?_
                    refine fj_aload_n C 0 dX6_work_79 rfl rfl ?_
                    refine fj_get (Cn := RX6) (T := TX6) (N := 44) (ci := 6) (v := .int 0) C iX6 0 (fm_at0 _ _ _ _ _) rfl 36 (by decide) kX6_212 rfl dX6_work_80 ?_
                    refine fj_aload_n C 0 dX6_work_83 rfl rfl ?_
                    refine fj_get (Cn := RX6) (T := TX6) (N := 44) (ci := 6) (v := .int 0) C iX6 0 (fm_at0 _ _ _ _ _) rfl 23 (by decide) kX6_203 rfl dX6_work_84 ?_
                    refine fj_icmp_ge (tgt := 124) C dX6_work_87 (by decide) (fun _ => ?_) (fun h => absurd (by decide) h)
                    exact fj_vret C E9 dX6_work_124 ⟨rfl, rfl⟩
                  · have q58 : k < 64 := Nat.lt_of_not_le (fun q => h58 ((nI_leI (a := 64) (by decide) (by omega)).mpr q))
                    refine fj_aload_n C 0 dX6_work_61 rfl rfl ?_
                    refine fj_get (Cn := RX6) (T := TX6) (N := 44) (ci := 6) (v := .ref (bd 27)) C iX6 0 (fm_at0 _ _ _ _ _) rfl 34 (by decide) kX6_97 rfl dX6_work_62 ?_
                    refine fj_iload_n C 3 dX6_work_65 rfl rfl ?_
                    refine fj_iconst (v := (-1)) C dX6_work_66 (by decide) ?_
                    refine fj_iast (f := (fl (-1) (fm_a0 27) k)) C 27 (fm_at27 _ _ _ _ _) (vp_in_nI q58 (by decide)) dX6_work_67 (fm_st27 _ _ _ _ _ _) ?_
                    refine fj_ws (ws' := (fm_w bd ty (va_up (va_up (va_up fm_a0 18 (fl (-1) (fm_a0 18) 120)) 19 (fl 0 (fm_a0 19) 12)) 27 (upd (fl (-1) (fm_a0 27) k) (nI k).toNatClampNeg (-1))) fm_g0 (va_up fm_n0 7 0))) rfl ?_
                    refine fj_ws (ws' := (fm_w bd ty (va_up (va_up (va_up fm_a0 18 (fl (-1) (fm_a0 18) 120)) 19 (fl 0 (fm_a0 19) 12)) 27 (fl (-1) (fm_a0 27) (k + 1))) fm_g0 (va_up fm_n0 7 0))) (by rw [fl_nI _ _ (by omega)]) ?_
                    refine fj_iinc (v := nI (k + 1)) (lv' := [(3, .int (nI (k + 1))), (0, .ref (bd 0)), (1, .int 0), (2, .int y)]) C 3 dX6_work_68 rfl (nI_1 k) (by decide) rfl ?_
                    refine fj_goto (tgt := 55) C dX6_work_71 (by decide) ?_
                    refine fj_lv (lv' := [(0, .ref (bd 0)), (1, .int 0), (2, .int y), (3, .int (nI (k + 1)))]) [1, 2, 3, 0] rfl ?_
                    exact ih (k + 1) (by show 64 - (k + 1) < 64 - k; omega) (by omega)
                intro k
                exact key k
              refine fj_ws (ws' := (fm_w bd ty (va_up (va_up (va_up fm_a0 18 (fl (-1) (fm_a0 18) 120)) 19 (fl 0 (fm_a0 19) 12)) 27 (fl (-1) (fm_a0 27) 0)) fm_g0 (va_up fm_n0 7 0))) (by rw [fl_0]; rfl) ?_
              exact lp55 0 (Nat.zero_le _)
            · have q37 : j < 12 := Nat.lt_of_not_le (fun q => h37 ((nI_leI (a := 12) (by decide) (by omega)).mpr q))
              refine fj_aload_n C 0 dX6_work_40 rfl rfl ?_
              refine fj_get (Cn := RX6) (T := TX6) (N := 44) (ci := 6) (v := .ref (bd 19)) C iX6 0 (fm_at0 _ _ _ _ _) rfl 25 (by decide) kX6_73 rfl dX6_work_41 ?_
              refine fj_iload_n C 3 dX6_work_44 rfl rfl ?_
              refine fj_iconst (v := 0) C dX6_work_45 (by decide) ?_
              refine fj_zast (f := (fl 0 (fm_a0 19) j)) C 19 (fm_at19 _ _ _ _ _) (vp_in_nI q37 (by decide)) dX6_work_46 (fm_st19 _ _ _ _ _ _) ?_
              refine fj_ws (ws' := (fm_w bd ty (va_up (va_up fm_a0 18 (fl (-1) (fm_a0 18) 120)) 19 (upd (fl 0 (fm_a0 19) j) (nI j).toNatClampNeg (vp_nar .boolean 0))) fm_g0 (va_up fm_n0 7 0))) rfl ?_
              refine fj_ws (ws' := (fm_w bd ty (va_up (va_up fm_a0 18 (fl (-1) (fm_a0 18) 120)) 19 (fl 0 (fm_a0 19) (j + 1))) fm_g0 (va_up fm_n0 7 0))) (by rw [fl_nIz _ (by omega)]) ?_
              refine fj_iinc (v := nI (j + 1)) (lv' := [(3, .int (nI (j + 1))), (0, .ref (bd 0)), (1, .int 0), (2, .int y)]) C 3 dX6_work_47 rfl (nI_1 j) (by decide) rfl ?_
              refine fj_goto (tgt := 34) C dX6_work_50 (by decide) ?_
              refine fj_lv (lv' := [(0, .ref (bd 0)), (1, .int 0), (2, .int y), (3, .int (nI (j + 1)))]) [1, 2, 3, 0] rfl ?_
              exact ih (j + 1) (by show 12 - (j + 1) < 12 - j; omega) (by omega)
          intro j
          exact key j
        refine fj_ws (ws' := (fm_w bd ty (va_up (va_up fm_a0 18 (fl (-1) (fm_a0 18) 120)) 19 (fl 0 (fm_a0 19) 0)) fm_g0 (va_up fm_n0 7 0))) (by rw [fl_0]; rfl) ?_
        exact lp34 0 (Nat.zero_le _)
      · have q16 : i < 120 := Nat.lt_of_not_le (fun q => h16 ((nI_leI (a := 120) (by decide) (by omega)).mpr q))
        refine fj_aload_n C 0 dX6_work_19 rfl rfl ?_
        refine fj_get (Cn := RX6) (T := TX6) (N := 44) (ci := 6) (v := .ref (bd 18)) C iX6 0 (fm_at0 _ _ _ _ _) rfl 24 (by decide) kX6_70 rfl dX6_work_20 ?_
        refine fj_iload_n C 3 dX6_work_23 rfl rfl ?_
        refine fj_iconst (v := (-1)) C dX6_work_24 (by decide) ?_
        refine fj_iast (f := (fl (-1) (fm_a0 18) i)) C 18 (fm_at18 _ _ _ _ _) (vp_in_nI q16 (by decide)) dX6_work_25 (fm_st18 _ _ _ _ _ _) ?_
        refine fj_ws (ws' := (fm_w bd ty (va_up fm_a0 18 (upd (fl (-1) (fm_a0 18) i) (nI i).toNatClampNeg (-1))) fm_g0 (va_up fm_n0 7 0))) rfl ?_
        refine fj_ws (ws' := (fm_w bd ty (va_up fm_a0 18 (fl (-1) (fm_a0 18) (i + 1))) fm_g0 (va_up fm_n0 7 0))) (by rw [fl_nI _ _ (by omega)]) ?_
        refine fj_iinc (v := nI (i + 1)) (lv' := [(3, .int (nI (i + 1))), (0, .ref (bd 0)), (1, .int 0), (2, .int y)]) C 3 dX6_work_26 rfl (nI_1 i) (by decide) rfl ?_
        refine fj_goto (tgt := 13) C dX6_work_29 (by decide) ?_
        refine fj_lv (lv' := [(0, .ref (bd 0)), (1, .int 0), (2, .int y), (3, .int (nI (i + 1)))]) [1, 2, 3, 0] rfl ?_
        exact ih (i + 1) (by show 120 - (i + 1) < 120 - i; omega) (by omega)
    intro i
    exact key i
  refine fj_ws (ws' := (fm_w bd ty (va_up fm_a0 18 (fl (-1) (fm_a0 18) 0)) fm_g0 (va_up fm_n0 7 0))) (by rw [fl_0]; rfl) ?_
  exact lp13 0 (Nat.zero_le _)

set_option maxHeartbeats 4000000 in
set_option maxRecDepth 100000 in
theorem c_X6_entryOf (l : Launch) (D : va_G) (ty : Nat → ClassId) (t0 : Nat) (bd : Nat → Nat) (q : Int32)  : fc l yX6_entryOf wsX6_entryOf (fj_rm 0 0 0 0) D ty t0 [.ref (bd 0), .int q] (fm_w bd ty (fm_cl fm_a0) fm_g0 fm_n0) 0 0 (fun v w => v = some (.int (-1)) ∧ w = fm_w bd ty (fm_cl fm_a0) fm_g0 fm_n0) := by
  refine fc_start (own := RX6) (cc := cX6_entryOf) (maxL := 4) (ret := (some .int)) (by decide) rfl (Nat.le_of_ble_eq_true rfl) rfl ?_
  intro p e s m args below meth c Q A C hmn E9
  have iX6 : ∀ w ∈ u_ws RX6 TX6 44, w ∈ wsX6_entryOf := fun _ h => List.mem_cons_of_mem _ (List.mem_append_right _ h)
  have kX6_206 : Cond.fieldLink RX6 206 "FreeLandModel" "entries" "I" ∈ wsX6_entryOf := (by decide +kernel)
  refine fj_lv (lv' := [(0, .ref (bd 0)), (1, .int q)]) [0, 1] rfl ?_
  refine fj_iconst (v := (-1)) C dX6_entryOf_0 (by decide) ?_
  refine fj_istore_n (lv' := [(2, .int (-1)), (0, .ref (bd 0)), (1, .int q)]) C dX6_entryOf_1 rfl (by decide) rfl ?_
  refine fj_iconst (v := 0) C dX6_entryOf_2 (by decide) ?_
  refine fj_istore_n (lv' := [(3, .int 0), (2, .int (-1)), (0, .ref (bd 0)), (1, .int q)]) C dX6_entryOf_3 rfl (by decide) rfl ?_
  refine fj_iload_n C 0 dX6_entryOf_4 rfl rfl ?_
  refine fj_aload_n C 2 dX6_entryOf_5 rfl rfl ?_
  refine fj_get (Cn := RX6) (T := TX6) (N := 44) (ci := 6) (v := .int 0) C iX6 0 (fm_at0 _ _ _ _ _) rfl 26 (by decide) kX6_206 rfl dX6_entryOf_6 ?_
  refine fj_icmp_ge (tgt := 48) C dX6_entryOf_9 (by decide) (fun _ => ?_) (fun h => absurd (by decide) h)
  refine fj_iload_n C 1 dX6_entryOf_48 rfl rfl ?_
  exact fj_iret C E9 dX6_entryOf_49 ⟨rfl, rfl⟩

set_option maxHeartbeats 4000000 in
set_option maxRecDepth 100000 in
theorem c_X6_holderOf (l : Launch) (D : va_G) (ty : Nat → ClassId) (t0 : Nat) (bd : Nat → Nat) (q : Int32)  : fc l yX6_holderOf wsX6_holderOf (fj_rm 1 23 0 0) D ty t0 [.ref (bd 0), .int q] (fm_w bd ty (fm_cl fm_a0) fm_g0 fm_n0) 0 0 (fun v w => v = some (.int (-1)) ∧ w = fm_w bd ty (fm_cl fm_a0) fm_g0 fm_n0) := by
  refine fc_start (own := RX6) (cc := cX6_holderOf) (maxL := 3) (ret := (some .int)) (by decide) rfl (Nat.le_of_ble_eq_true rfl) rfl ?_
  intro p e s m args below meth c Q A C hmn E9
  refine fj_lv (lv' := [(0, .ref (bd 0)), (1, .int q)]) [0, 1] rfl ?_
  refine fj_aload_n C 0 dX6_holderOf_0 rfl rfl ?_
  refine fj_iload_n C 1 dX6_holderOf_1 rfl rfl ?_
  refine fj_callVw (As := [.int q]) (rest := []) C (c_X6_entryOf l D ty t0 bd q) (cwV 1 C.2.2.2.2.1 gX6_holderOf_X6_entryOf rfl rfl rfl (by decide +kernel) ⟨Nat.le_of_ble_eq_true rfl, Nat.le_of_ble_eq_true rfl⟩) ⟨0, 6, _, _, fm_at0 _ _ _ _ _, rfl, rfl⟩ rfl (Nat.le_of_ble_eq_true rfl) dX6_holderOf_2 ⟨Nat.zero_le _, Nat.zero_le _⟩ (fun v9 w9 hp9 => ?_)
  obtain ⟨rfl, rfl⟩ := hp9
  refine fj_st (st' := .int (-1) :: []) rfl ?_
  refine fj_istore_n (lv' := [(2, .int (-1)), (0, .ref (bd 0)), (1, .int q)]) C dX6_holderOf_5 rfl (by decide) rfl ?_
  refine fj_iload_n C 0 dX6_holderOf_6 rfl rfl ?_
  refine fj_if_ge (tgt := 14) C dX6_holderOf_7 (by decide) (fun h => absurd h (by decide)) (fun _ => ?_)
  refine fj_iconst (v := (-1)) C dX6_holderOf_10 (by decide) ?_
  refine fj_goto (tgt := 20) C dX6_holderOf_11 (by decide) ?_
  exact fj_iret C E9 dX6_holderOf_20 ⟨rfl, rfl⟩

set_option maxHeartbeats 4000000 in
set_option maxRecDepth 100000 in
theorem c_X6_entryMany (l : Launch) (D : va_G) (ty : Nat → ClassId) (t0 : Nat) (bd : Nat → Nat) (x : Int32)  : fc l yX6_entryMany wsX6_entryMany (fj_rm 0 0 0 0) D ty t0 [.ref (bd 0), .int x] (fm_w bd ty (fm_cl fm_a0) fm_g0 fm_n0) 0 0 (fun v w => v = some (.int 0) ∧ w = fm_w bd ty (fm_cl fm_a0) fm_g0 fm_n0) := by
  refine fc_start (own := RX6) (cc := cX6_entryMany) (maxL := 4) (ret := (some .int)) (by decide) rfl (Nat.le_of_ble_eq_true rfl) rfl ?_
  intro p e s m args below meth c Q A C hmn E9
  have iX6 : ∀ w ∈ u_ws RX6 TX6 44, w ∈ wsX6_entryMany := fun _ h => List.mem_cons_of_mem _ (List.mem_append_right _ h)
  have kX6_206 : Cond.fieldLink RX6 206 "FreeLandModel" "entries" "I" ∈ wsX6_entryMany := (by decide +kernel)
  refine fj_lv (lv' := [(0, .ref (bd 0)), (1, .int x)]) [0, 1] rfl ?_
  refine fj_iconst (v := 0) C dX6_entryMany_0 (by decide) ?_
  refine fj_istore_n (lv' := [(2, .int 0), (0, .ref (bd 0)), (1, .int x)]) C dX6_entryMany_1 rfl (by decide) rfl ?_
  refine fj_iconst (v := 0) C dX6_entryMany_2 (by decide) ?_
  refine fj_istore_n (lv' := [(3, .int 0), (2, .int 0), (0, .ref (bd 0)), (1, .int x)]) C dX6_entryMany_3 rfl (by decide) rfl ?_
  refine fj_iload_n C 0 dX6_entryMany_4 rfl rfl ?_
  refine fj_aload_n C 2 dX6_entryMany_5 rfl rfl ?_
  refine fj_get (Cn := RX6) (T := TX6) (N := 44) (ci := 6) (v := .int 0) C iX6 0 (fm_at0 _ _ _ _ _) rfl 26 (by decide) kX6_206 rfl dX6_entryMany_6 ?_
  refine fj_icmp_ge (tgt := 36) C dX6_entryMany_9 (by decide) (fun _ => ?_) (fun h => absurd (by decide) h)
  refine fj_iload_n C 1 dX6_entryMany_36 rfl rfl ?_
  exact fj_iret C E9 dX6_entryMany_37 ⟨rfl, rfl⟩

set_option maxHeartbeats 4000000 in
set_option maxRecDepth 100000 in
theorem c_X6_preferredOn (l : Launch) (D : va_G) (ty : Nat → ClassId) (t0 : Nat) (bd : Nat → Nat) (q : Int32) (d : Int32) (hq : 0 ≤ q ∧ q ≤ 63) : fc l yX6_preferredOn wsX6_preferredOn (fj_rm 0 0 0 0) D ty t0 [.ref (bd 0), .int q, .int d] (fm_w bd ty (fm_cl fm_a0) fm_g0 fm_n0) 0 0 (fun v w => v = some (.int (-1)) ∧ w = fm_w bd ty (fm_cl fm_a0) fm_g0 fm_n0) := by
  refine fc_start (own := RX6) (cc := cX6_preferredOn) (maxL := 3) (ret := (some .int)) (by decide) rfl (Nat.le_of_ble_eq_true rfl) rfl ?_
  intro p e s m args below meth c Q A C hmn E9
  have iX6 : ∀ w ∈ u_ws RX6 TX6 44, w ∈ wsX6_preferredOn := fun _ h => List.mem_cons_of_mem _ (List.mem_append_right _ h)
  have kX6_97 : Cond.fieldLink RX6 97 "FreeLandModel" "preferred" "[I" ∈ wsX6_preferredOn := (by decide +kernel)
  refine fj_lv (lv' := [(0, .ref (bd 0)), (1, .int q), (2, .int d)]) [0, 1, 2] rfl ?_
  refine fj_aload_n C 0 dX6_preferredOn_0 rfl rfl ?_
  refine fj_get (Cn := RX6) (T := TX6) (N := 44) (ci := 6) (v := .ref (bd 27)) C iX6 0 (fm_at0 _ _ _ _ _) rfl 34 (by decide) kX6_97 rfl dX6_preferredOn_1 ?_
  refine fj_iload_n C 1 dX6_preferredOn_4 rfl rfl ?_
  refine fj_iald (f := ((fm_cl fm_a0) 27)) C 27 (fm_at27 _ _ _ _ _) (fx_in hq.1 hq.2 (by decide) (by decide)) dX6_preferredOn_5 ?_
  refine fj_at (y := (-1)) (fm_cl27 _ (fx_ix hq)) ?_
  refine fj_if_lt (tgt := 28) C dX6_preferredOn_6 (by decide) (fun _ => ?_) (fun h => absurd (by decide) h)
  refine fj_iconst (v := (-1)) C dX6_preferredOn_28 (by decide) ?_
  exact fj_iret C E9 dX6_preferredOn_29 ⟨rfl, rfl⟩

set_option maxHeartbeats 4000000 in
set_option maxRecDepth 100000 in
theorem c_X6_stateOf (l : Launch) (D : va_G) (ty : Nat → ClassId) (t0 : Nat) (bd : Nat → Nat) (q : Int32) (e9 : Int32) (d : Int32) (he : e9 = -1) (hd : 0 ≤ d ∧ d ≤ 20000) : fc l yX6_stateOf wsX6_stateOf (fj_rm 1 20 0 0) D ty t0 [.ref (bd 0), .int q, .int e9, .int d] (fm_w bd ty (fm_cl fm_a0) fm_g0 fm_n0) 0 0 (fun v w => v = some (.int 0) ∧ w = fm_w bd ty (fm_cl fm_a0) fm_g0 fm_n0) := by
  subst he
  refine fc_start (own := RX6) (cc := cX6_stateOf) (maxL := 4) (ret := (some .int)) (by decide) rfl (Nat.le_of_ble_eq_true rfl) rfl ?_
  intro p e s m args below meth c Q A C hmn E9
  have iX6 : ∀ w ∈ u_ws RX6 TX6 44, w ∈ wsX6_stateOf := fun _ h => List.mem_cons_of_mem _ (List.mem_append_right _ h)
  have kX6_16 : Cond.fieldLink RX6 16 "FreeLandModel" "mapDay" "I" ∈ wsX6_stateOf := (by decide +kernel)
  refine fj_lv (lv' := [(0, .ref (bd 0)), (1, .int q), (2, .int (-1)), (3, .int d)]) [0, 1, 2, 3] rfl ?_
  refine fj_iload_n C 2 dX6_stateOf_0 rfl rfl ?_
  refine fj_if_ge (tgt := 25) C dX6_stateOf_1 (by decide) (fun h => absurd h (by decide)) (fun _ => ?_)
  refine fj_iload_n C 1 dX6_stateOf_4 rfl rfl ?_
  refine fj_callSw (As := [.int q]) (rest := []) C (c_X6_isOdd l D ty t0 (fm_w bd ty (fm_cl fm_a0) fm_g0 fm_n0) q) (va_cwS 1 C.2.2.2.2.1 gX6_stateOf_X6_isOdd rfl rfl rfl (by decide +kernel) ⟨Nat.le_of_ble_eq_true rfl, Nat.le_of_ble_eq_true rfl⟩)  rfl (Nat.le_of_ble_eq_true rfl) dX6_stateOf_5 ⟨Nat.zero_le _, Nat.zero_le _⟩ (fun v9 w9 hp9 => ?_)
  obtain ⟨rfl, rfl⟩ := hp9
  refine fj_st (st' := .int (if ((q - q / 8 * 8) / 2 + q / 8 / 2 - ((q - q / 8 * 8) / 2 + q / 8 / 2) / 2 * 2 = 1) then 1 else 0) :: []) rfl ?_
  refine fj_ifb_eq (tgt := 23) C dX6_stateOf_8 (by decide) (fun h8 => ?_) (fun h8 => ?_)
  · refine fj_iconst (v := 0) C dX6_stateOf_23 (by decide) ?_
    exact fj_iret C E9 dX6_stateOf_24 ⟨rfl, rfl⟩
  · refine fj_iload_n C 3 dX6_stateOf_11 rfl rfl ?_
    refine fj_aload_n C 0 dX6_stateOf_12 rfl rfl ?_
    refine fj_get (Cn := RX6) (T := TX6) (N := 44) (ci := 6) (v := .int 20001) C iX6 0 (fm_at0 _ _ _ _ _) rfl 3 (by decide) kX6_16 rfl dX6_stateOf_13 ?_
    refine fj_icmp_lt (tgt := 23) C dX6_stateOf_16 (by decide) (fun h16 => ?_) (fun h16 => absurd (by grind) h16)
    refine fj_iconst (v := 0) C dX6_stateOf_23 (by decide) ?_
    exact fj_iret C E9 dX6_stateOf_24 ⟨rfl, rfl⟩

set_option maxHeartbeats 4000000 in
set_option maxRecDepth 100000 in
theorem c_X6_count (l : Launch) (D : va_G) (ty : Nat → ClassId) (t0 : Nat) (bd : Nat → Nat) (x : Int32)  : fc l yX6_count wsX6_count (fj_rm 2 47 0 0) D ty t0 [.ref (bd 0), .int x] (fm_w bd ty fm_a0 fm_g0 fm_n0) 0 0 (fun v w => v = some (.int (if (0 ≤ x ∧ x ≤ 10) then 0 else -1002))) := by
  refine fc_start (own := RX6) (cc := cX6_count) (maxL := 6) (ret := (some .int)) (by decide) rfl (Nat.le_of_ble_eq_true rfl) rfl ?_
  intro p e s m args below meth c Q A C hmn E9
  have iX6 : ∀ w ∈ u_ws RX6 TX6 44, w ∈ wsX6_count := fun _ h => List.mem_cons_of_mem _ (List.mem_append_right _ h)
  have kX6_197 : Cond.fieldLink RX6 197 "FreeLandModel" "lines" "I" ∈ wsX6_count := (by decide +kernel)
  have kX6_134 : Cond.fieldLink RX6 134 "FreeLandModel" "persons" "I" ∈ wsX6_count := (by decide +kernel)
  have kX6_158 : Cond.fieldLink RX6 158 "FreeLandModel" "laws" "I" ∈ wsX6_count := (by decide +kernel)
  have kX6_145 : Cond.fieldLink RX6 145 "FreeLandModel" "texted" "I" ∈ wsX6_count := (by decide +kernel)
  have kX6_206 : Cond.fieldLink RX6 206 "FreeLandModel" "entries" "I" ∈ wsX6_count := (by decide +kernel)
  refine fj_lv (lv' := [(0, .ref (bd 0)), (1, .int x)]) [0, 1] rfl ?_
  refine fj_iconst (v := 0) C dX6_count_0 (by decide) ?_
  refine fj_istore_n (lv' := [(2, .int 0), (0, .ref (bd 0)), (1, .int x)]) C dX6_count_1 rfl (by decide) rfl ?_
  refine fj_iconst (v := 0) C dX6_count_2 (by decide) ?_
  refine fj_istore_n (lv' := [(3, .int 0), (2, .int 0), (0, .ref (bd 0)), (1, .int x)]) C dX6_count_3 rfl (by decide) rfl ?_
  refine fj_iconst (v := 0) C dX6_count_4 (by decide) ?_
  refine fj_istore (lv' := [(4, .int 0), (3, .int 0), (2, .int 0), (0, .ref (bd 0)), (1, .int x)]) C dX6_count_5 (by decide) rfl ?_
  refine fj_aload_n C 3 dX6_count_7 rfl rfl ?_
  refine fj_aload_n C 3 dX6_count_8 rfl rfl ?_
  refine fj_get (Cn := RX6) (T := TX6) (N := 44) (ci := 6) (v := .int 0) C iX6 0 (fm_at0 _ _ _ _ _) rfl 12 (by decide) kX6_197 rfl dX6_count_9 ?_
  refine fj_sipush (v := 20000) C dX6_count_12 (by decide) ?_
  refine fj_callVw (As := [.int 0, .int 20000]) (rest := []) C (c_X6_work l D ty t0 bd 0 20000 rfl) (cwV 2 C.2.2.2.2.1 gX6_count_X6_work rfl rfl rfl (by decide +kernel) ⟨Nat.le_of_ble_eq_true rfl, Nat.le_of_ble_eq_true rfl⟩) ⟨0, 6, _, _, fm_at0 _ _ _ _ _, rfl, rfl⟩ rfl (Nat.le_of_ble_eq_true rfl) dX6_count_15 ⟨Nat.zero_le _, Nat.zero_le _⟩ (fun v9 w9 hp9 => ?_)
  obtain ⟨rfl, rfl⟩ := hp9
  refine fj_st (st' := []) rfl ?_
  refine fj_iconst (v := 0) C dX6_count_18 (by decide) ?_
  refine fj_istore (lv' := [(5, .int 0), (4, .int 0), (3, .int 0), (2, .int 0), (0, .ref (bd 0)), (1, .int x)]) C dX6_count_19 (by decide) rfl ?_
  refine fj_iload C 0 dX6_count_21 rfl ?_
  refine fj_aload_n C 4 dX6_count_23 rfl rfl ?_
  refine fj_get (Cn := RX6) (T := TX6) (N := 44) (ci := 6) (v := .int 0) C iX6 0 (fm_at0 _ _ _ _ _) rfl 12 (by decide) kX6_197 rfl dX6_count_24 ?_
  refine fj_icmp_ge (tgt := 72) C dX6_count_27 (by decide) (fun _ => ?_) (fun h => absurd (by decide) h)
  refine fj_iconst (v := 0) C dX6_count_72 (by decide) ?_
  refine fj_istore (lv' := [(5, .int 0), (4, .int 0), (3, .int 0), (2, .int 0), (0, .ref (bd 0)), (1, .int x)]) C dX6_count_73 (by decide) rfl ?_
  refine fj_iload C 0 dX6_count_75 rfl ?_
  refine fj_aload_n C 4 dX6_count_77 rfl rfl ?_
  refine fj_get (Cn := RX6) (T := TX6) (N := 44) (ci := 6) (v := .int 0) C iX6 0 (fm_at0 _ _ _ _ _) rfl 0 (by decide) kX6_134 rfl dX6_count_78 ?_
  refine fj_icmp_ge (tgt := 110) C dX6_count_81 (by decide) (fun _ => ?_) (fun h => absurd (by decide) h)
  refine fj_iload_n C 5 dX6_count_110 rfl rfl ?_
  rcases fx_sw x 0 10 with hsw | hsw
  · refine fj_tableOut (tgt := 218) C dX6_count_111 hsw (by decide) ?_
    have z1 : ¬ (0 ≤ x ∧ x ≤ 10) := (by simp only [Int32.le_iff_toInt_le]; simp; omega)
    refine fj_sipush (v := (-1002)) C dX6_count_218 (by decide) ?_
    exact fj_iret C E9 dX6_count_221 (by (repeat' split) <;> first | rfl | (exfalso; grind) | grind)
  · obtain ⟨hs1, hs2⟩ := hsw
    rcases (show x.toInt = 0 ∨ x.toInt = 1 ∨ x.toInt = 2 ∨ x.toInt = 3 ∨ x.toInt = 4 ∨ x.toInt = 5 ∨ x.toInt = 6 ∨ x.toInt = 7 ∨ x.toInt = 8 ∨ x.toInt = 9 ∨ x.toInt = 10 by omega) with hsw | hsw | hsw | hsw | hsw | hsw | hsw | hsw | hsw | hsw | hsw
    · refine fj_tableIn (off := 57) (tgt := 168) C dX6_count_111 (by omega) (by omega) (by rw [hsw]; rfl) (by decide) ?_
      have ex : x = 0 := Int32.toInt_inj.mp (by simp [hsw])
      refine fj_aload_n C 4 dX6_count_168 rfl rfl ?_
      refine fj_get (Cn := RX6) (T := TX6) (N := 44) (ci := 6) (v := .int 0) C iX6 0 (fm_at0 _ _ _ _ _) rfl 0 (by decide) kX6_134 rfl dX6_count_169 ?_
      exact fj_iret C E9 dX6_count_172 (by (repeat' split) <;> first | rfl | (exfalso; grind) | grind)
    · refine fj_tableIn (off := 62) (tgt := 173) C dX6_count_111 (by omega) (by omega) (by rw [hsw]; rfl) (by decide) ?_
      have ex : x = 1 := Int32.toInt_inj.mp (by simp [hsw])
      refine fj_aload_n C 4 dX6_count_173 rfl rfl ?_
      refine fj_get (Cn := RX6) (T := TX6) (N := 44) (ci := 6) (v := .int 0) C iX6 0 (fm_at0 _ _ _ _ _) rfl 7 (by decide) kX6_158 rfl dX6_count_174 ?_
      exact fj_iret C E9 dX6_count_177 (by (repeat' split) <;> first | rfl | (exfalso; grind) | grind)
    · refine fj_tableIn (off := 67) (tgt := 178) C dX6_count_111 (by omega) (by omega) (by rw [hsw]; rfl) (by decide) ?_
      have ex : x = 2 := Int32.toInt_inj.mp (by simp [hsw])
      refine fj_aload_n C 4 dX6_count_178 rfl rfl ?_
      refine fj_get (Cn := RX6) (T := TX6) (N := 44) (ci := 6) (v := .int 0) C iX6 0 (fm_at0 _ _ _ _ _) rfl 12 (by decide) kX6_197 rfl dX6_count_179 ?_
      exact fj_iret C E9 dX6_count_182 (by (repeat' split) <;> first | rfl | (exfalso; grind) | grind)
    · refine fj_tableIn (off := 72) (tgt := 183) C dX6_count_111 (by omega) (by omega) (by rw [hsw]; rfl) (by decide) ?_
      have ex : x = 3 := Int32.toInt_inj.mp (by simp [hsw])
      refine fj_iload_n C 3 dX6_count_183 rfl rfl ?_
      exact fj_iret C E9 dX6_count_184 (by (repeat' split) <;> first | rfl | (exfalso; grind) | grind)
    · refine fj_tableIn (off := 74) (tgt := 185) C dX6_count_111 (by omega) (by omega) (by rw [hsw]; rfl) (by decide) ?_
      have ex : x = 4 := Int32.toInt_inj.mp (by simp [hsw])
      refine fj_aload_n C 4 dX6_count_185 rfl rfl ?_
      refine fj_get (Cn := RX6) (T := TX6) (N := 44) (ci := 6) (v := .int 0) C iX6 0 (fm_at0 _ _ _ _ _) rfl 5 (by decide) kX6_145 rfl dX6_count_186 ?_
      exact fj_iret C E9 dX6_count_189 (by (repeat' split) <;> first | rfl | (exfalso; grind) | grind)
    · refine fj_tableIn (off := 79) (tgt := 190) C dX6_count_111 (by omega) (by omega) (by rw [hsw]; rfl) (by decide) ?_
      have ex : x = 5 := Int32.toInt_inj.mp (by simp [hsw])
      refine fj_aload_n C 4 dX6_count_190 rfl rfl ?_
      refine fj_get (Cn := RX6) (T := TX6) (N := 44) (ci := 6) (v := .int 0) C iX6 0 (fm_at0 _ _ _ _ _) rfl 26 (by decide) kX6_206 rfl dX6_count_191 ?_
      exact fj_iret C E9 dX6_count_194 (by (repeat' split) <;> first | rfl | (exfalso; grind) | grind)
    · refine fj_tableIn (off := 84) (tgt := 195) C dX6_count_111 (by omega) (by omega) (by rw [hsw]; rfl) (by decide) ?_
      have ex : x = 6 := Int32.toInt_inj.mp (by simp [hsw])
      refine fj_aload_n C 4 dX6_count_195 rfl rfl ?_
      refine fj_iconst (v := 1) C dX6_count_196 (by decide) ?_
      refine fj_callVw (As := [.int 1]) (rest := []) C (c_X6_entryMany l D ty t0 bd 1) (cwV 1 C.2.2.2.2.1 gX6_count_X6_entryMany rfl rfl rfl (by decide +kernel) ⟨Nat.le_of_ble_eq_true rfl, Nat.le_of_ble_eq_true rfl⟩) ⟨0, 6, _, _, fm_at0 _ _ _ _ _, rfl, rfl⟩ rfl (Nat.le_of_ble_eq_true rfl) dX6_count_197 ⟨Nat.zero_le _, Nat.zero_le _⟩ (fun v9 w9 hp9 => ?_)
      obtain ⟨rfl, rfl⟩ := hp9
      refine fj_st (st' := .int 0 :: []) rfl ?_
      exact fj_iret C E9 dX6_count_200 (by (repeat' split) <;> first | rfl | (exfalso; grind) | grind)
    · refine fj_tableIn (off := 90) (tgt := 201) C dX6_count_111 (by omega) (by omega) (by rw [hsw]; rfl) (by decide) ?_
      have ex : x = 7 := Int32.toInt_inj.mp (by simp [hsw])
      refine fj_aload_n C 4 dX6_count_201 rfl rfl ?_
      refine fj_iconst (v := 2) C dX6_count_202 (by decide) ?_
      refine fj_callVw (As := [.int 2]) (rest := []) C (c_X6_entryMany l D ty t0 bd 2) (cwV 1 C.2.2.2.2.1 gX6_count_X6_entryMany rfl rfl rfl (by decide +kernel) ⟨Nat.le_of_ble_eq_true rfl, Nat.le_of_ble_eq_true rfl⟩) ⟨0, 6, _, _, fm_at0 _ _ _ _ _, rfl, rfl⟩ rfl (Nat.le_of_ble_eq_true rfl) dX6_count_203 ⟨Nat.zero_le _, Nat.zero_le _⟩ (fun v9 w9 hp9 => ?_)
      obtain ⟨rfl, rfl⟩ := hp9
      refine fj_st (st' := .int 0 :: []) rfl ?_
      exact fj_iret C E9 dX6_count_206 (by (repeat' split) <;> first | rfl | (exfalso; grind) | grind)
    · refine fj_tableIn (off := 96) (tgt := 207) C dX6_count_111 (by omega) (by omega) (by rw [hsw]; rfl) (by decide) ?_
      have ex : x = 8 := Int32.toInt_inj.mp (by simp [hsw])
      refine fj_aload_n C 4 dX6_count_207 rfl rfl ?_
      refine fj_iconst (v := 0) C dX6_count_208 (by decide) ?_
      refine fj_callVw (As := [.int 0]) (rest := []) C (c_X6_entryMany l D ty t0 bd 0) (cwV 1 C.2.2.2.2.1 gX6_count_X6_entryMany rfl rfl rfl (by decide +kernel) ⟨Nat.le_of_ble_eq_true rfl, Nat.le_of_ble_eq_true rfl⟩) ⟨0, 6, _, _, fm_at0 _ _ _ _ _, rfl, rfl⟩ rfl (Nat.le_of_ble_eq_true rfl) dX6_count_209 ⟨Nat.zero_le _, Nat.zero_le _⟩ (fun v9 w9 hp9 => ?_)
      obtain ⟨rfl, rfl⟩ := hp9
      refine fj_st (st' := .int 0 :: []) rfl ?_
      exact fj_iret C E9 dX6_count_212 (by (repeat' split) <;> first | rfl | (exfalso; grind) | grind)
    · refine fj_tableIn (off := 102) (tgt := 213) C dX6_count_111 (by omega) (by omega) (by rw [hsw]; rfl) (by decide) ?_
      have ex : x = 9 := Int32.toInt_inj.mp (by simp [hsw])
      refine fj_iload C 1 dX6_count_213 rfl ?_
      exact fj_iret C E9 dX6_count_215 (by (repeat' split) <;> first | rfl | (exfalso; grind) | grind)
    · refine fj_tableIn (off := 105) (tgt := 216) C dX6_count_111 (by omega) (by omega) (by rw [hsw]; rfl) (by decide) ?_
      have ex : x = 10 := Int32.toInt_inj.mp (by simp [hsw])
      refine fj_iload_n C 2 dX6_count_216 rfl rfl ?_
      exact fj_iret C E9 dX6_count_217 (by (repeat' split) <;> first | rfl | (exfalso; grind) | grind)
