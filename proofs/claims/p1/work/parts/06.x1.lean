set_option maxHeartbeats 4000000 in
set_option maxRecDepth 100000 in
theorem c_X5_strike (l : Launch) (D : va_G) (ty : Nat → ClassId) (t0 : Nat) (ad : Nat → Nat) (x : Int32) (y : Int32)  : fc l yX5_strike wsX5_strike (fj_rm 2 43 0 0) D ty t0 [.ref (ad 0), .int x, .int y] (fx_w ad ty fx_a0 fx_g0 fx_n0) 0 0 (fun v w => v = some (.int (-1001))) := by
  refine fc_start (own := RX5) (cc := cX5_strike) (maxL := 4) (ret := (some .int)) (by decide) rfl (Nat.le_of_ble_eq_true rfl) rfl ?_
  intro p e s m args below meth c Q A C hmn E9
  refine fj_lv (lv' := [(0, .ref (ad 0)), (1, .int x), (2, .int y)]) [0, 1, 2] rfl ?_
  refine fj_aload_n C 0 dX5_strike_0 rfl rfl ?_
  refine fj_iload_n C 1 dX5_strike_1 rfl rfl ?_
  refine fj_callVw (As := [.int x]) (rest := []) C (c_X5_isLine l D ty t0 ad x) (cwV 1 C.2.2.2.2.1 gX5_strike_X5_isLine rfl rfl rfl (by decide +kernel) ⟨Nat.le_of_ble_eq_true rfl, Nat.le_of_ble_eq_true rfl⟩) ⟨0, 5, _, _, fx_at0 _ _ _ _ _, rfl, rfl⟩ rfl (Nat.le_of_ble_eq_true rfl) dX5_strike_2 ⟨Nat.zero_le _, Nat.zero_le _⟩ (fun v9 w9 hp9 => ?_)
  obtain ⟨rfl, rfl⟩ := hp9
  refine fj_st (st' := .int 0 :: []) rfl ?_
  refine fj_if_ne (tgt := 12) C dX5_strike_5 (by decide) (fun h => absurd (by decide) h) (fun _ => ?_)
  refine fj_sipush (v := (-1001)) C dX5_strike_8 (by decide) ?_
  exact fj_iret C E9 dX5_strike_11 rfl

set_option maxHeartbeats 4000000 in
set_option maxRecDepth 100000 in
theorem c_X5_told (l : Launch) (D : va_G) (ty : Nat → ClassId) (t0 : Nat) (ad : Nat → Nat) (x : Int32) (y : Int32)  : fc l yX5_told wsX5_told (fj_rm 2 43 0 0) D ty t0 [.ref (ad 0), .int x, .int y] (fx_w ad ty fx_a0 fx_g0 fx_n0) 0 0 (fun v w => v = some (.int (-1001))) := by
  refine fc_start (own := RX5) (cc := cX5_told) (maxL := 3) (ret := (some .int)) (by decide) rfl (Nat.le_of_ble_eq_true rfl) rfl ?_
  intro p e s m args below meth c Q A C hmn E9
  refine fj_lv (lv' := [(0, .ref (ad 0)), (1, .int x), (2, .int y)]) [0, 1, 2] rfl ?_
  refine fj_aload_n C 0 dX5_told_0 rfl rfl ?_
  refine fj_iload_n C 1 dX5_told_1 rfl rfl ?_
  refine fj_callVw (As := [.int x]) (rest := []) C (c_X5_isLine l D ty t0 ad x) (cwV 1 C.2.2.2.2.1 gX5_told_X5_isLine rfl rfl rfl (by decide +kernel) ⟨Nat.le_of_ble_eq_true rfl, Nat.le_of_ble_eq_true rfl⟩) ⟨0, 5, _, _, fx_at0 _ _ _ _ _, rfl, rfl⟩ rfl (Nat.le_of_ble_eq_true rfl) dX5_told_2 ⟨Nat.zero_le _, Nat.zero_le _⟩ (fun v9 w9 hp9 => ?_)
  obtain ⟨rfl, rfl⟩ := hp9
  refine fj_st (st' := .int 0 :: []) rfl ?_
  refine fj_if_ne (tgt := 12) C dX5_told_5 (by decide) (fun h => absurd (by decide) h) (fun _ => ?_)
  refine fj_sipush (v := (-1001)) C dX5_told_8 (by decide) ?_
  exact fj_iret C E9 dX5_told_11 rfl

set_option maxHeartbeats 4000000 in
set_option maxRecDepth 100000 in
theorem c_X5_outcome (l : Launch) (D : va_G) (ty : Nat → ClassId) (t0 : Nat) (ad : Nat → Nat) (x : Int32) (y : Int32)  : fc l yX5_outcome wsX5_outcome (fj_rm 2 43 0 0) D ty t0 [.ref (ad 0), .int x, .int y] (fx_w ad ty fx_a0 fx_g0 fx_n0) 0 0 (fun v w => v = some (.int (-1001))) := by
  refine fc_start (own := RX5) (cc := cX5_outcome) (maxL := 3) (ret := (some .int)) (by decide) rfl (Nat.le_of_ble_eq_true rfl) rfl ?_
  intro p e s m args below meth c Q A C hmn E9
  refine fj_lv (lv' := [(0, .ref (ad 0)), (1, .int x), (2, .int y)]) [0, 1, 2] rfl ?_
  refine fj_aload_n C 0 dX5_outcome_0 rfl rfl ?_
  refine fj_iload_n C 1 dX5_outcome_1 rfl rfl ?_
  refine fj_callVw (As := [.int x]) (rest := []) C (c_X5_isLine l D ty t0 ad x) (cwV 1 C.2.2.2.2.1 gX5_outcome_X5_isLine rfl rfl rfl (by decide +kernel) ⟨Nat.le_of_ble_eq_true rfl, Nat.le_of_ble_eq_true rfl⟩) ⟨0, 5, _, _, fx_at0 _ _ _ _ _, rfl, rfl⟩ rfl (Nat.le_of_ble_eq_true rfl) dX5_outcome_2 ⟨Nat.zero_le _, Nat.zero_le _⟩ (fun v9 w9 hp9 => ?_)
  obtain ⟨rfl, rfl⟩ := hp9
  refine fj_st (st' := .int 0 :: []) rfl ?_
  refine fj_if_ne (tgt := 12) C dX5_outcome_5 (by decide) (fun h => absurd (by decide) h) (fun _ => ?_)
  refine fj_sipush (v := (-1001)) C dX5_outcome_8 (by decide) ?_
  exact fj_iret C E9 dX5_outcome_11 rfl

set_option maxHeartbeats 4000000 in
set_option maxRecDepth 100000 in
theorem c_X5_holdings (l : Launch) (D : va_G) (ty : Nat → ClassId) (t0 : Nat) (ad : Nat → Nat) (x : Int32) (y : Int32)  : fc l yX5_holdings wsX5_holdings (fj_rm 2 43 0 0) D ty t0 [.ref (ad 0), .int x, .int y] (fx_w ad ty fx_a0 fx_g0 fx_n0) 0 0 (fun v w => v = some (.int (-1001))) := by
  refine fc_start (own := RX5) (cc := cX5_holdings) (maxL := 5) (ret := (some .int)) (by decide) rfl (Nat.le_of_ble_eq_true rfl) rfl ?_
  intro p e s m args below meth c Q A C hmn E9
  refine fj_lv (lv' := [(0, .ref (ad 0)), (1, .int x), (2, .int y)]) [0, 1, 2] rfl ?_
  refine fj_aload_n C 0 dX5_holdings_0 rfl rfl ?_
  refine fj_iload_n C 1 dX5_holdings_1 rfl rfl ?_
  refine fj_callVw (As := [.int x]) (rest := []) C (c_X5_isPerson l D ty t0 ad x) (cwV 1 C.2.2.2.2.1 gX5_holdings_X5_isPerson rfl rfl rfl (by decide +kernel) ⟨Nat.le_of_ble_eq_true rfl, Nat.le_of_ble_eq_true rfl⟩) ⟨0, 5, _, _, fx_at0 _ _ _ _ _, rfl, rfl⟩ rfl (Nat.le_of_ble_eq_true rfl) dX5_holdings_2 ⟨Nat.zero_le _, Nat.zero_le _⟩ (fun v9 w9 hp9 => ?_)
  obtain ⟨rfl, rfl⟩ := hp9
  refine fj_st (st' := .int 0 :: []) rfl ?_
  refine fj_if_ne (tgt := 12) C dX5_holdings_5 (by decide) (fun h => absurd (by decide) h) (fun _ => ?_)
  refine fj_sipush (v := (-1001)) C dX5_holdings_8 (by decide) ?_
  exact fj_iret C E9 dX5_holdings_11 rfl

set_option maxHeartbeats 4000000 in
set_option maxRecDepth 100000 in
theorem c_X5_line (l : Launch) (D : va_G) (ty : Nat → ClassId) (t0 : Nat) (ad : Nat → Nat) (x : Int32) (s9 : Int32) (q : Int32) (r : Int32) (u : Int32)  : fc l yX5_line wsX5_line (fj_rm 2 43 0 0) D ty t0 [.ref (ad 0), .int x, .int s9, .int q, .int r, .int u] (fx_w ad ty fx_a0 fx_g0 fx_n0) 0 0 (fun v w => v = some (.int (if (0 ≤ s9 ∧ s9 ≤ 6) then -1001 else -1002))) := by
  refine fc_start (own := RX5) (cc := cX5_line) (maxL := 7) (ret := (some .int)) (by decide) rfl (Nat.le_of_ble_eq_true rfl) rfl ?_
  intro p e s m args below meth c Q A C hmn E9
  refine fj_lv (lv' := [(0, .ref (ad 0)), (1, .int x), (2, .int s9), (3, .int q), (4, .int r), (5, .int u)]) [0, 1, 2, 3, 4, 5] rfl ?_
  refine fj_iload_n C 2 dX5_line_0 rfl rfl ?_
  refine fj_iconst (v := 0) C dX5_line_1 (by decide) ?_
  refine fj_bipush (v := 6) C dX5_line_2 (by decide) ?_
  refine fj_callSw (As := [.int s9, .int 0, .int 6]) (rest := []) C (c_X5_within l D ty t0 (fx_w ad ty fx_a0 fx_g0 fx_n0) s9 0 6) (va_cwS 3 C.2.2.2.2.1 gX5_line_X5_within rfl rfl rfl (by decide +kernel) ⟨Nat.le_of_ble_eq_true rfl, Nat.le_of_ble_eq_true rfl⟩)  rfl (Nat.le_of_ble_eq_true rfl) dX5_line_4 ⟨Nat.zero_le _, Nat.zero_le _⟩ (fun v9 w9 hp9 => ?_)
  obtain ⟨rfl, rfl⟩ := hp9
  refine fj_st (st' := .int (if (0 ≤ s9 ∧ s9 ≤ 6) then 1 else 0) :: []) rfl ?_
  refine fj_ifb_ne (tgt := 14) C dX5_line_7 (by decide) (fun h7 => ?_) (fun h7 => ?_)
  · refine fj_aload_n C 0 dX5_line_14 rfl rfl ?_
    refine fj_iload_n C 3 dX5_line_15 rfl rfl ?_
    refine fj_callVw (As := [.int q]) (rest := []) C (c_X5_isPerson l D ty t0 ad q) (cwV 1 C.2.2.2.2.1 gX5_line_X5_isPerson rfl rfl rfl (by decide +kernel) ⟨Nat.le_of_ble_eq_true rfl, Nat.le_of_ble_eq_true rfl⟩) ⟨0, 5, _, _, fx_at0 _ _ _ _ _, rfl, rfl⟩ rfl (Nat.le_of_ble_eq_true rfl) dX5_line_16 ⟨Nat.zero_le _, Nat.zero_le _⟩ (fun v9 w9 hp9 => ?_)
    obtain ⟨rfl, rfl⟩ := hp9
    refine fj_st (st' := .int 0 :: []) rfl ?_
    refine fj_if_ne (tgt := 26) C dX5_line_19 (by decide) (fun h => absurd (by decide) h) (fun _ => ?_)
    refine fj_sipush (v := (-1001)) C dX5_line_22 (by decide) ?_
    exact fj_iret C E9 dX5_line_25 (by (repeat' split) <;> first | rfl | (exfalso; grind) | grind)
  · refine fj_sipush (v := (-1002)) C dX5_line_10 (by decide) ?_
    exact fj_iret C E9 dX5_line_13 (by (repeat' split) <;> first | rfl | (exfalso; grind) | grind)

set_option maxHeartbeats 4000000 in
set_option maxRecDepth 100000 in
theorem c_X4_clear (l : Launch) (D : va_G) (ty : Nat → ClassId) (t0 : Nat) (ad : Nat → Nat) (a : Nat → Nat → Int32) (g : Nat → Nat → Int64) (n : Nat → Int32)   : fc l yX4_clear wsX4_clear (fj_rm 0 0 0 0) D ty t0 [.ref (ad 25)] (fx_w ad ty a g n) 0 0 (fun v w => v = none ∧ w = fx_w ad ty (fx_cl a) g n) := by
  refine fc_start (own := RX4) (cc := cX4_clear) (maxL := 2) (ret := none) (by decide) rfl (Nat.le_of_ble_eq_true rfl) rfl ?_
  intro p e s m args below meth c Q A C hmn E9
  have iX4 : ∀ w ∈ u_ws RX4 TX4 18, w ∈ wsX4_clear := fun _ h => List.mem_cons_of_mem _ (List.mem_append_right _ h)
  have kX4_46 : Cond.fieldLink RX4 46 "FreeLand$Work" "dead" "[Z" ∈ wsX4_clear := (by decide +kernel)
  have kX4_50 : Cond.fieldLink RX4 50 "FreeLand$Work" "filed" "[I" ∈ wsX4_clear := (by decide +kernel)
  have kX4_37 : Cond.fieldLink RX4 37 "FreeLand$Work" "held" "[I" ∈ wsX4_clear := (by decide +kernel)
  have kX4_40 : Cond.fieldLink RX4 40 "FreeLand$Work" "preferred" "[I" ∈ wsX4_clear := (by decide +kernel)
  have kX4_15 : Cond.fieldLink RX4 15 "FreeLand$Work" "result" "[I" ∈ wsX4_clear := (by decide +kernel)
  have kX4_19 : Cond.fieldLink RX4 19 "FreeLand$Work" "state" "[I" ∈ wsX4_clear := (by decide +kernel)
  refine fj_lv (lv' := [(0, .ref (ad 25))]) [0] rfl ?_
  refine fj_iconst (v := 0) C dX4_clear_0 (by decide) ?_
  refine fj_istore_n (lv' := [(1, .int 0), (0, .ref (ad 25))]) C dX4_clear_1 rfl (by decide) rfl ?_
  refine fj_lv (lv' := [(0, .ref (ad 25)), (1, .int 0)]) [1, 0] rfl ?_
  have lp2 : ∀ (i : Nat), (i ≤ 120) → fj p l e (fj_rm 0 0 0 0) s m args below meth c Q A D 2 0 0 (fx_w ad ty (va_up (va_up a 26 (fl (-1) (a 26) i)) 27 (fl 0 (a 27) i)) g n) [(0, .ref (ad 25)), (1, .int (nI i))] 2 [] := by
    have key : ∀ z : Nat, (fun (i : Nat) => (i ≤ 120) → fj p l e (fj_rm 0 0 0 0) s m args below meth c Q A D 2 0 0 (fx_w ad ty (va_up (va_up a 26 (fl (-1) (a 26) i)) 27 (fl 0 (a 27) i)) g n) [(0, .ref (ad 25)), (1, .int (nI i))] 2 []) z := by
      refine fx_ind (fun (i : Nat) => 120 - i) _ ?_
      rintro i ih ii
      refine fj_iload_n C 1 dX4_clear_2 rfl rfl ?_
      refine fj_bipush (v := 120) C dX4_clear_3 (by decide) ?_
      refine fj_icmp_ge (tgt := 28) C dX4_clear_5 (by decide) (fun h5 => ?_) (fun h5 => ?_)
      · have q5 : 120 ≤ i := (nI_leI (a := 120) (by decide) (by omega)).mp h5
        obtain rfl : i = 120 := by omega
        refine fj_iconst (v := 0) C dX4_clear_28 (by decide) ?_
        refine fj_istore_n (lv' := [(1, .int 0), (0, .ref (ad 25))]) C dX4_clear_29 rfl (by decide) rfl ?_
        refine fj_lv (lv' := [(0, .ref (ad 25)), (1, .int 0)]) [1, 0] rfl ?_
        have lp30 : ∀ (j : Nat), (j ≤ 64) → fj p l e (fj_rm 0 0 0 0) s m args below meth c Q A D 2 0 0 (fx_w ad ty (va_up (va_up (va_up (va_up a 26 (fl (-1) (a 26) 120)) 27 (fl 0 (a 27) 120)) 33 (fl (-1) (a 33) j)) 34 (fl (-1) (a 34) j)) g n) [(0, .ref (ad 25)), (1, .int (nI j))] 30 [] := by
          have key : ∀ z : Nat, (fun (j : Nat) => (j ≤ 64) → fj p l e (fj_rm 0 0 0 0) s m args below meth c Q A D 2 0 0 (fx_w ad ty (va_up (va_up (va_up (va_up a 26 (fl (-1) (a 26) 120)) 27 (fl 0 (a 27) 120)) 33 (fl (-1) (a 33) j)) 34 (fl (-1) (a 34) j)) g n) [(0, .ref (ad 25)), (1, .int (nI j))] 30 []) z := by
            refine fx_ind (fun (j : Nat) => 64 - j) _ ?_
            rintro j ih ij
            refine fj_iload_n C 1 dX4_clear_30 rfl rfl ?_
            refine fj_bipush (v := 64) C dX4_clear_31 (by decide) ?_
            refine fj_icmp_ge (tgt := 56) C dX4_clear_33 (by decide) (fun h33 => ?_) (fun h33 => ?_)
            · have q33 : 64 ≤ j := (nI_leI (a := 64) (by decide) (by omega)).mp h33
              obtain rfl : j = 64 := by omega
              refine fj_iconst (v := 0) C dX4_clear_56 (by decide) ?_
              refine fj_istore_n (lv' := [(1, .int 0), (0, .ref (ad 25))]) C dX4_clear_57 rfl (by decide) rfl ?_
              refine fj_lv (lv' := [(0, .ref (ad 25)), (1, .int 0)]) [1, 0] rfl ?_
              have lp58 : ∀ (k : Nat), (k ≤ 12) → fj p l e (fj_rm 0 0 0 0) s m args below meth c Q A D 2 0 0 (fx_w ad ty (va_up (va_up (va_up (va_up (va_up (va_up a 26 (fl (-1) (a 26) 120)) 27 (fl 0 (a 27) 120)) 33 (fl (-1) (a 33) 64)) 34 (fl (-1) (a 34) 64)) 36 (fl 0 (a 36) k)) 37 (fl 0 (a 37) k)) g n) [(0, .ref (ad 25)), (1, .int (nI k))] 58 [] := by
                have key : ∀ z : Nat, (fun (k : Nat) => (k ≤ 12) → fj p l e (fj_rm 0 0 0 0) s m args below meth c Q A D 2 0 0 (fx_w ad ty (va_up (va_up (va_up (va_up (va_up (va_up a 26 (fl (-1) (a 26) 120)) 27 (fl 0 (a 27) 120)) 33 (fl (-1) (a 33) 64)) 34 (fl (-1) (a 34) 64)) 36 (fl 0 (a 36) k)) 37 (fl 0 (a 37) k)) g n) [(0, .ref (ad 25)), (1, .int (nI k))] 58 []) z := by
                  refine fx_ind (fun (k : Nat) => 12 - k) _ ?_
                  rintro k ih ik
                  refine fj_iload_n C 1 dX4_clear_58 rfl rfl ?_
                  refine fj_bipush (v := 12) C dX4_clear_59 (by decide) ?_
                  refine fj_icmp_ge (tgt := 84) C dX4_clear_61 (by decide) (fun h61 => ?_) (fun h61 => ?_)
                  · have q61 : 12 ≤ k := (nI_leI (a := 12) (by decide) (by omega)).mp h61
                    obtain rfl : k = 12 := by omega
                    exact fj_vret C E9 dX4_clear_84 ⟨rfl, rfl⟩
                  · have q61 : k < 12 := Nat.lt_of_not_le (fun q => h61 ((nI_leI (a := 12) (by decide) (by omega)).mpr q))
                    refine fj_aload_n C 0 dX4_clear_64 rfl rfl ?_
                    refine fj_get (Cn := RX4) (T := TX4) (N := 18) (ci := 4) (v := .ref (ad 36)) C iX4 25 (fx_at25 _ _ _ _ _) rfl 14 (by decide) kX4_46 rfl dX4_clear_65 ?_
                    refine fj_iload_n C 1 dX4_clear_68 rfl rfl ?_
                    refine fj_iconst (v := 0) C dX4_clear_69 (by decide) ?_
                    refine fj_zast (f := (fl 0 (a 36) k)) C 36 (fx_at36 _ _ _ _ _) (vp_in_nI q61 (by decide)) dX4_clear_70 (fx_st36 _ _ _ _ _ _) ?_
                    refine fj_ws (ws' := (fx_w ad ty (va_up (va_up (va_up (va_up (va_up (va_up a 26 (fl (-1) (a 26) 120)) 27 (fl 0 (a 27) 120)) 33 (fl (-1) (a 33) 64)) 34 (fl (-1) (a 34) 64)) 37 (fl 0 (a 37) k)) 36 (upd (fl 0 (a 36) k) (nI k).toNatClampNeg (vp_nar .boolean 0))) g n)) rfl ?_
                    refine fj_ws (ws' := (fx_w ad ty (va_up (va_up (va_up (va_up (va_up (va_up a 26 (fl (-1) (a 26) 120)) 27 (fl 0 (a 27) 120)) 33 (fl (-1) (a 33) 64)) 34 (fl (-1) (a 34) 64)) 37 (fl 0 (a 37) k)) 36 (fl 0 (a 36) (k + 1))) g n)) (by rw [fl_nIz _ (by omega)]) ?_
                    refine fj_aload_n C 0 dX4_clear_71 rfl rfl ?_
                    refine fj_get (Cn := RX4) (T := TX4) (N := 18) (ci := 4) (v := .ref (ad 37)) C iX4 25 (fx_at25 _ _ _ _ _) rfl 15 (by decide) kX4_50 rfl dX4_clear_72 ?_
                    refine fj_iload_n C 1 dX4_clear_75 rfl rfl ?_
                    refine fj_iconst (v := 0) C dX4_clear_76 (by decide) ?_
                    refine fj_iast (f := (fl 0 (a 37) k)) C 37 (fx_at37 _ _ _ _ _) (vp_in_nI q61 (by decide)) dX4_clear_77 (fx_st37 _ _ _ _ _ _) ?_
                    refine fj_ws (ws' := (fx_w ad ty (va_up (va_up (va_up (va_up (va_up (va_up a 26 (fl (-1) (a 26) 120)) 27 (fl 0 (a 27) 120)) 33 (fl (-1) (a 33) 64)) 34 (fl (-1) (a 34) 64)) 36 (fl 0 (a 36) (k + 1))) 37 (upd (fl 0 (a 37) k) (nI k).toNatClampNeg 0)) g n)) rfl ?_
                    refine fj_ws (ws' := (fx_w ad ty (va_up (va_up (va_up (va_up (va_up (va_up a 26 (fl (-1) (a 26) 120)) 27 (fl 0 (a 27) 120)) 33 (fl (-1) (a 33) 64)) 34 (fl (-1) (a 34) 64)) 36 (fl 0 (a 36) (k + 1))) 37 (fl 0 (a 37) (k + 1))) g n)) (by rw [fl_nI _ _ (by omega)]) ?_
                    refine fj_iinc (v := nI (k + 1)) (lv' := [(1, .int (nI (k + 1))), (0, .ref (ad 25))]) C 1 dX4_clear_78 rfl (nI_1 k) (by decide) rfl ?_
                    refine fj_goto (tgt := 58) C dX4_clear_81 (by decide) ?_
                    refine fj_lv (lv' := [(0, .ref (ad 25)), (1, .int (nI (k + 1)))]) [1, 0] rfl ?_
                    exact ih (k + 1) (by show 12 - (k + 1) < 12 - k; omega) (by omega)
                intro k
                exact key k
              refine fj_ws (ws' := (fx_w ad ty (va_up (va_up (va_up (va_up (va_up (va_up a 26 (fl (-1) (a 26) 120)) 27 (fl 0 (a 27) 120)) 33 (fl (-1) (a 33) 64)) 34 (fl (-1) (a 34) 64)) 36 (fl 0 (a 36) 0)) 37 (fl 0 (a 37) 0)) g n)) (by rw [fl_0, fl_0]; rfl) ?_
              exact lp58 0 (Nat.zero_le _)
            · have q33 : j < 64 := Nat.lt_of_not_le (fun q => h33 ((nI_leI (a := 64) (by decide) (by omega)).mpr q))
              refine fj_aload_n C 0 dX4_clear_36 rfl rfl ?_
              refine fj_get (Cn := RX4) (T := TX4) (N := 18) (ci := 4) (v := .ref (ad 33)) C iX4 25 (fx_at25 _ _ _ _ _) rfl 11 (by decide) kX4_37 rfl dX4_clear_37 ?_
              refine fj_iload_n C 1 dX4_clear_40 rfl rfl ?_
              refine fj_iconst (v := (-1)) C dX4_clear_41 (by decide) ?_
              refine fj_iast (f := (fl (-1) (a 33) j)) C 33 (fx_at33 _ _ _ _ _) (vp_in_nI q33 (by decide)) dX4_clear_42 (fx_st33 _ _ _ _ _ _) ?_
              refine fj_ws (ws' := (fx_w ad ty (va_up (va_up (va_up (va_up a 26 (fl (-1) (a 26) 120)) 27 (fl 0 (a 27) 120)) 34 (fl (-1) (a 34) j)) 33 (upd (fl (-1) (a 33) j) (nI j).toNatClampNeg (-1))) g n)) rfl ?_
              refine fj_ws (ws' := (fx_w ad ty (va_up (va_up (va_up (va_up a 26 (fl (-1) (a 26) 120)) 27 (fl 0 (a 27) 120)) 34 (fl (-1) (a 34) j)) 33 (fl (-1) (a 33) (j + 1))) g n)) (by rw [fl_nI _ _ (by omega)]) ?_
              refine fj_aload_n C 0 dX4_clear_43 rfl rfl ?_
              refine fj_get (Cn := RX4) (T := TX4) (N := 18) (ci := 4) (v := .ref (ad 34)) C iX4 25 (fx_at25 _ _ _ _ _) rfl 12 (by decide) kX4_40 rfl dX4_clear_44 ?_
              refine fj_iload_n C 1 dX4_clear_47 rfl rfl ?_
              refine fj_iconst (v := (-1)) C dX4_clear_48 (by decide) ?_
              refine fj_iast (f := (fl (-1) (a 34) j)) C 34 (fx_at34 _ _ _ _ _) (vp_in_nI q33 (by decide)) dX4_clear_49 (fx_st34 _ _ _ _ _ _) ?_
              refine fj_ws (ws' := (fx_w ad ty (va_up (va_up (va_up (va_up a 26 (fl (-1) (a 26) 120)) 27 (fl 0 (a 27) 120)) 33 (fl (-1) (a 33) (j + 1))) 34 (upd (fl (-1) (a 34) j) (nI j).toNatClampNeg (-1))) g n)) rfl ?_
              refine fj_ws (ws' := (fx_w ad ty (va_up (va_up (va_up (va_up a 26 (fl (-1) (a 26) 120)) 27 (fl 0 (a 27) 120)) 33 (fl (-1) (a 33) (j + 1))) 34 (fl (-1) (a 34) (j + 1))) g n)) (by rw [fl_nI _ _ (by omega)]) ?_
              refine fj_iinc (v := nI (j + 1)) (lv' := [(1, .int (nI (j + 1))), (0, .ref (ad 25))]) C 1 dX4_clear_50 rfl (nI_1 j) (by decide) rfl ?_
              refine fj_goto (tgt := 30) C dX4_clear_53 (by decide) ?_
              refine fj_lv (lv' := [(0, .ref (ad 25)), (1, .int (nI (j + 1)))]) [1, 0] rfl ?_
              exact ih (j + 1) (by show 64 - (j + 1) < 64 - j; omega) (by omega)
          intro j
          exact key j
        refine fj_ws (ws' := (fx_w ad ty (va_up (va_up (va_up (va_up a 26 (fl (-1) (a 26) 120)) 27 (fl 0 (a 27) 120)) 33 (fl (-1) (a 33) 0)) 34 (fl (-1) (a 34) 0)) g n)) (by rw [fl_0, fl_0]; rfl) ?_
        exact lp30 0 (Nat.zero_le _)
      · have q5 : i < 120 := Nat.lt_of_not_le (fun q => h5 ((nI_leI (a := 120) (by decide) (by omega)).mpr q))
        refine fj_aload_n C 0 dX4_clear_8 rfl rfl ?_
        refine fj_get (Cn := RX4) (T := TX4) (N := 18) (ci := 4) (v := .ref (ad 26)) C iX4 25 (fx_at25 _ _ _ _ _) rfl 4 (by decide) kX4_15 rfl dX4_clear_9 ?_
        refine fj_iload_n C 1 dX4_clear_12 rfl rfl ?_
        refine fj_iconst (v := (-1)) C dX4_clear_13 (by decide) ?_
        refine fj_iast (f := (fl (-1) (a 26) i)) C 26 (fx_at26 _ _ _ _ _) (vp_in_nI q5 (by decide)) dX4_clear_14 (fx_st26 _ _ _ _ _ _) ?_
        refine fj_ws (ws' := (fx_w ad ty (va_up (va_up a 27 (fl 0 (a 27) i)) 26 (upd (fl (-1) (a 26) i) (nI i).toNatClampNeg (-1))) g n)) rfl ?_
        refine fj_ws (ws' := (fx_w ad ty (va_up (va_up a 27 (fl 0 (a 27) i)) 26 (fl (-1) (a 26) (i + 1))) g n)) (by rw [fl_nI _ _ (by omega)]) ?_
        refine fj_aload_n C 0 dX4_clear_15 rfl rfl ?_
        refine fj_get (Cn := RX4) (T := TX4) (N := 18) (ci := 4) (v := .ref (ad 27)) C iX4 25 (fx_at25 _ _ _ _ _) rfl 5 (by decide) kX4_19 rfl dX4_clear_16 ?_
        refine fj_iload_n C 1 dX4_clear_19 rfl rfl ?_
        refine fj_iconst (v := 0) C dX4_clear_20 (by decide) ?_
        refine fj_iast (f := (fl 0 (a 27) i)) C 27 (fx_at27 _ _ _ _ _) (vp_in_nI q5 (by decide)) dX4_clear_21 (fx_st27 _ _ _ _ _ _) ?_
        refine fj_ws (ws' := (fx_w ad ty (va_up (va_up a 26 (fl (-1) (a 26) (i + 1))) 27 (upd (fl 0 (a 27) i) (nI i).toNatClampNeg 0)) g n)) rfl ?_
        refine fj_ws (ws' := (fx_w ad ty (va_up (va_up a 26 (fl (-1) (a 26) (i + 1))) 27 (fl 0 (a 27) (i + 1))) g n)) (by rw [fl_nI _ _ (by omega)]) ?_
        refine fj_iinc (v := nI (i + 1)) (lv' := [(1, .int (nI (i + 1))), (0, .ref (ad 25))]) C 1 dX4_clear_22 rfl (nI_1 i) (by decide) rfl ?_
        refine fj_goto (tgt := 2) C dX4_clear_25 (by decide) ?_
        refine fj_lv (lv' := [(0, .ref (ad 25)), (1, .int (nI (i + 1)))]) [1, 0] rfl ?_
        exact ih (i + 1) (by show 120 - (i + 1) < 120 - i; omega) (by omega)
    intro i
    exact key i
  refine fj_ws (ws' := (fx_w ad ty (va_up (va_up a 26 (fl (-1) (a 26) 0)) 27 (fl 0 (a 27) 0)) g n)) (by rw [fl_0, fl_0]; rfl) ?_
  exact lp2 0 (Nat.zero_le _)

set_option maxHeartbeats 4000000 in
set_option maxRecDepth 100000 in
theorem c_X4_through (l : Launch) (D : va_G) (ty : Nat → ClassId) (t0 : Nat) (ad : Nat → Nat) (x : Int32) (y : Int32)  : fc l yX4_through wsX4_through (fj_rm 1 21 0 0) D ty t0 [.ref (ad 25), .int x, .int y] (fx_w ad ty fx_a0 fx_g0 fx_n0) 0 0 (fun v w => v = none ∧ w = fx_w ad ty (fx_cl fx_a0) fx_g0 fx_n0) := by
  refine fc_start (own := RX4) (cc := cX4_through) (maxL := 5) (ret := none) (by decide) rfl (Nat.le_of_ble_eq_true rfl) rfl ?_
  intro p e s m args below meth c Q A C hmn E9
  have iX4 : ∀ w ∈ u_ws RX4 TX4 18, w ∈ wsX4_through := fun _ h => List.mem_cons_of_mem _ (List.mem_append_left _ (List.mem_append_left _ (List.mem_append_left _ (List.mem_append_right _ h))))
  have kX4_61 : Cond.fieldLink RX4 61 "FreeLand$Work" "book" "LFreeLand$Book;" ∈ wsX4_through := (by decide +kernel)
  have iX0 : ∀ w ∈ u_ws RX0 TX0 8, w ∈ wsX4_through := fun _ h => List.mem_cons_of_mem _ (List.mem_append_left _ (List.mem_append_left _ (List.mem_append_right _ h)))
  have kX4_68 : (RX4, 68, "FreeLand$Book", "size", "I") ∈ nw_F := (by decide +kernel)
  refine fj_lv (lv' := [(0, .ref (ad 25)), (1, .int x), (2, .int y)]) [0, 1, 2] rfl ?_
  refine fj_aload_n C 0 dX4_through_0 rfl rfl ?_
  refine fj_callVw (As := []) (rest := []) C (c_X4_clear l D ty t0 ad fx_a0 fx_g0 fx_n0) (cwV 0 C.2.2.2.2.1 gX4_through_X4_clear rfl rfl rfl (by decide +kernel) ⟨Nat.le_of_ble_eq_true rfl, Nat.le_of_ble_eq_true rfl⟩) ⟨25, 4, _, _, fx_at25 _ _ _ _ _, rfl, rfl⟩ rfl (Nat.le_of_ble_eq_true rfl) dX4_through_1 ⟨Nat.zero_le _, Nat.zero_le _⟩ (fun v9 w9 hp9 => ?_)
  obtain ⟨rfl, rfl⟩ := hp9
  refine fj_st (st' := []) rfl ?_
  refine fj_iconst (v := 0) C dX4_through_4 (by decide) ?_
  refine fj_istore_n (lv' := [(3, .int 0), (0, .ref (ad 25)), (1, .int x), (2, .int y)]) C dX4_through_5 rfl (by decide) rfl ?_
  refine fj_iload_n C 0 dX4_through_6 rfl rfl ?_
  refine fj_aload_n C 1 dX4_through_7 rfl rfl ?_
  refine fj_get (Cn := RX4) (T := TX4) (N := 18) (ci := 4) (v := .ref (ad 17)) C iX4 25 (fx_at25 _ _ _ _ _) rfl 2 (by decide) kX4_61 rfl dX4_through_8 ?_
  refine fj_getN (Cn := RX0) (T := TX0) (N := 8) (ci := 0) (v := .int 0) C iX0 17 (fx_at17 _ _ _ _ _) rfl 7 (by decide) kX4_68 rfl dX4_through_11 ?_
  refine fj_icmp_ge (tgt := 84) C dX4_through_14 (by decide) (fun _ => ?_) (fun h => absurd (by decide) h)
  exact fj_vret C E9 dX4_through_84 ⟨rfl, rfl⟩

set_option maxHeartbeats 4000000 in
set_option maxRecDepth 100000 in
theorem c_X4_holderOf (l : Launch) (D : va_G) (ty : Nat → ClassId) (t0 : Nat) (ad : Nat → Nat) (q : Int32) (hq : 0 ≤ q ∧ q ≤ 63) : fc l yX4_holderOf wsX4_holderOf (fj_rm 0 0 0 0) D ty t0 [.ref (ad 25), .int q] (fx_w ad ty (fx_cl fx_a0) fx_g0 fx_n0) 0 0 (fun v w => v = some (.int (-1)) ∧ w = fx_w ad ty (fx_cl fx_a0) fx_g0 fx_n0) := by
  refine fc_start (own := RX4) (cc := cX4_holderOf) (maxL := 2) (ret := (some .int)) (by decide) rfl (Nat.le_of_ble_eq_true rfl) rfl ?_
  intro p e s m args below meth c Q A C hmn E9
  have iX4 : ∀ w ∈ u_ws RX4 TX4 18, w ∈ wsX4_holderOf := fun _ h => List.mem_cons_of_mem _ (List.mem_append_right _ h)
  have kX4_37 : Cond.fieldLink RX4 37 "FreeLand$Work" "held" "[I" ∈ wsX4_holderOf := (by decide +kernel)
  refine fj_lv (lv' := [(0, .ref (ad 25)), (1, .int q)]) [0, 1] rfl ?_
  refine fj_aload_n C 0 dX4_holderOf_0 rfl rfl ?_
  refine fj_get (Cn := RX4) (T := TX4) (N := 18) (ci := 4) (v := .ref (ad 33)) C iX4 25 (fx_at25 _ _ _ _ _) rfl 11 (by decide) kX4_37 rfl dX4_holderOf_1 ?_
  refine fj_iload_n C 1 dX4_holderOf_4 rfl rfl ?_
  refine fj_iald (f := ((fx_cl fx_a0) 33)) C 33 (fx_at33 _ _ _ _ _) (fx_in hq.1 hq.2 (by decide) (by decide)) dX4_holderOf_5 ?_
  refine fj_at (y := (-1)) (fx_cl33 _ (fx_ix hq)) ?_
  refine fj_iconst (v := (-1)) C dX4_holderOf_6 (by decide) ?_
  refine fj_icmp_ne (tgt := 14) C dX4_holderOf_7 (by decide) (fun h => absurd (by decide) h) (fun _ => ?_)
  refine fj_iconst (v := (-1)) C dX4_holderOf_10 (by decide) ?_
  refine fj_goto (tgt := 25) C dX4_holderOf_11 (by decide) ?_
  exact fj_iret C E9 dX4_holderOf_25 ⟨rfl, rfl⟩

set_option maxHeartbeats 4000000 in
set_option maxRecDepth 100000 in
theorem c_X4_isRailroads (l : Launch) (D : va_G) (ty : Nat → ClassId) (t0 : Nat) (ad : Nat → Nat) (q : Int32) (d : Int32) (hd : 0 ≤ d ∧ d ≤ 20000) : fc l yX4_isRailroads wsX4_isRailroads (fj_rm 0 0 0 0) D ty t0 [.ref (ad 25), .int q, .int d] (fx_w ad ty (fx_cl fx_a0) fx_g0 fx_n0) 0 0 (fun v w => v = some (.int 0) ∧ w = fx_w ad ty (fx_cl fx_a0) fx_g0 fx_n0) := by
  refine fc_start (own := RX4) (cc := cX4_isRailroads) (maxL := 5) (ret := (some .boolean)) (by decide) rfl (Nat.le_of_ble_eq_true rfl) rfl ?_
  intro p e s m args below meth c Q A C hmn E9
  have iX4 : ∀ w ∈ u_ws RX4 TX4 18, w ∈ wsX4_isRailroads := fun _ h => List.mem_cons_of_mem _ (List.mem_append_right _ h)
  have kX4_9 : Cond.fieldLink RX4 9 "FreeLand$Work" "mapDay" "I" ∈ wsX4_isRailroads := (by decide +kernel)
  refine fj_lv (lv' := [(0, .ref (ad 25)), (1, .int q), (2, .int d)]) [0, 1, 2] rfl ?_
  refine fj_iload_n C 1 dX4_isRailroads_0 rfl rfl ?_
  refine fj_bipush (v := 8) C dX4_isRailroads_1 (by decide) ?_
  refine fj_irem C dX4_isRailroads_3 (by decide) ?_
  refine fj_istore_n (lv' := [(3, .int (q - q / 8 * 8)), (0, .ref (ad 25)), (1, .int q), (2, .int d)]) C dX4_isRailroads_4 rfl (by decide) rfl ?_
  refine fj_iload_n C 2 dX4_isRailroads_5 rfl rfl ?_
  refine fj_bipush (v := 8) C dX4_isRailroads_6 (by decide) ?_
  refine fj_idiv C dX4_isRailroads_8 (by decide) ?_
  refine fj_istore (lv' := [(4, .int (q / 8)), (3, .int (q - q / 8 * 8)), (0, .ref (ad 25)), (1, .int q), (2, .int d)]) C dX4_isRailroads_9 (by decide) rfl ?_
  refine fj_iload_n C 4 dX4_isRailroads_11 rfl rfl ?_
  refine fj_aload_n C 2 dX4_isRailroads_12 rfl rfl ?_
  refine fj_get (Cn := RX4) (T := TX4) (N := 18) (ci := 4) (v := .int 20001) C iX4 25 (fx_at25 _ _ _ _ _) rfl 3 (by decide) kX4_9 rfl dX4_isRailroads_13 ?_
  refine fj_icmp_lt (tgt := 37) C dX4_isRailroads_16 (by decide) (fun h16 => ?_) (fun h16 => absurd (by grind) h16)
  refine fj_iconst (v := 0) C dX4_isRailroads_37 (by decide) ?_
  exact fj_zret C E9 rfl dX4_isRailroads_38 ⟨rfl, rfl⟩

set_option maxHeartbeats 4000000 in
set_option maxRecDepth 100000 in
theorem c_X4_standing (l : Launch) (D : va_G) (ty : Nat → ClassId) (t0 : Nat) (ad : Nat → Nat) (q : Int32) (d : Int32) (hq : 0 ≤ q ∧ q ≤ 63) (hd : 0 ≤ d ∧ d ≤ 20000) : fc l yX4_standing wsX4_standing (fj_rm 1 24 0 0) D ty t0 [.ref (ad 25), .int q, .int d] (fx_w ad ty (fx_cl fx_a0) fx_g0 fx_n0) 0 0 (fun v w => v = some (.int 0) ∧ w = fx_w ad ty (fx_cl fx_a0) fx_g0 fx_n0) := by
  refine fc_start (own := RX4) (cc := cX4_standing) (maxL := 4) (ret := (some .int)) (by decide) rfl (Nat.le_of_ble_eq_true rfl) rfl ?_
  intro p e s m args below meth c Q A C hmn E9
  have iX4 : ∀ w ∈ u_ws RX4 TX4 18, w ∈ wsX4_standing := fun _ h => List.mem_cons_of_mem _ (List.mem_append_right _ h)
  have kX4_37 : Cond.fieldLink RX4 37 "FreeLand$Work" "held" "[I" ∈ wsX4_standing := (by decide +kernel)
  refine fj_lv (lv' := [(0, .ref (ad 25)), (1, .int q), (2, .int d)]) [0, 1, 2] rfl ?_
  refine fj_aload_n C 0 dX4_standing_0 rfl rfl ?_
  refine fj_get (Cn := RX4) (T := TX4) (N := 18) (ci := 4) (v := .ref (ad 33)) C iX4 25 (fx_at25 _ _ _ _ _) rfl 11 (by decide) kX4_37 rfl dX4_standing_1 ?_
  refine fj_iload_n C 1 dX4_standing_4 rfl rfl ?_
  refine fj_iald (f := ((fx_cl fx_a0) 33)) C 33 (fx_at33 _ _ _ _ _) (fx_in hq.1 hq.2 (by decide) (by decide)) dX4_standing_5 ?_
  refine fj_at (y := (-1)) (fx_cl33 _ (fx_ix hq)) ?_
  refine fj_istore_n (lv' := [(3, .int (-1)), (0, .ref (ad 25)), (1, .int q), (2, .int d)]) C dX4_standing_6 rfl (by decide) rfl ?_
  refine fj_iload_n C 0 dX4_standing_7 rfl rfl ?_
  refine fj_iconst (v := (-1)) C dX4_standing_8 (by decide) ?_
  refine fj_icmp_ne (tgt := 27) C dX4_standing_9 (by decide) (fun h => absurd (by decide) h) (fun _ => ?_)
  refine fj_aload_n C 1 dX4_standing_12 rfl rfl ?_
  refine fj_iload_n C 2 dX4_standing_13 rfl rfl ?_
  refine fj_iload_n C 3 dX4_standing_14 rfl rfl ?_
  refine fj_callVw (As := [.int q, .int d]) (rest := []) C (c_X4_isRailroads l D ty t0 ad q d hd) (cwV 2 C.2.2.2.2.1 gX4_standing_X4_isRailroads rfl rfl rfl (by decide +kernel) ⟨Nat.le_of_ble_eq_true rfl, Nat.le_of_ble_eq_true rfl⟩) ⟨25, 4, _, _, fx_at25 _ _ _ _ _, rfl, rfl⟩ rfl (Nat.le_of_ble_eq_true rfl) dX4_standing_15 ⟨Nat.zero_le _, Nat.zero_le _⟩ (fun v9 w9 hp9 => ?_)
  obtain ⟨rfl, rfl⟩ := hp9
  refine fj_st (st' := .int 0 :: []) rfl ?_
  refine fj_if_eq (tgt := 25) C dX4_standing_18 (by decide) (fun _ => ?_) (fun h => absurd (by decide) h)
  refine fj_iconst (v := 0) C dX4_standing_25 (by decide) ?_
  exact fj_iret C E9 dX4_standing_26 ⟨rfl, rfl⟩

set_option maxHeartbeats 4000000 in
set_option maxRecDepth 100000 in
theorem c_X4_preferredOn (l : Launch) (D : va_G) (ty : Nat → ClassId) (t0 : Nat) (ad : Nat → Nat) (q : Int32) (d : Int32) (hq : 0 ≤ q ∧ q ≤ 63) : fc l yX4_preferredOn wsX4_preferredOn (fj_rm 0 0 0 0) D ty t0 [.ref (ad 25), .int q, .int d] (fx_w ad ty (fx_cl fx_a0) fx_g0 fx_n0) 0 0 (fun v w => v = some (.int (-1)) ∧ w = fx_w ad ty (fx_cl fx_a0) fx_g0 fx_n0) := by
  refine fc_start (own := RX4) (cc := cX4_preferredOn) (maxL := 3) (ret := (some .int)) (by decide) rfl (Nat.le_of_ble_eq_true rfl) rfl ?_
  intro p e s m args below meth c Q A C hmn E9
  have iX4 : ∀ w ∈ u_ws RX4 TX4 18, w ∈ wsX4_preferredOn := fun _ h => List.mem_cons_of_mem _ (List.mem_append_right _ h)
  have kX4_40 : Cond.fieldLink RX4 40 "FreeLand$Work" "preferred" "[I" ∈ wsX4_preferredOn := (by decide +kernel)
  refine fj_lv (lv' := [(0, .ref (ad 25)), (1, .int q), (2, .int d)]) [0, 1, 2] rfl ?_
  refine fj_aload_n C 0 dX4_preferredOn_0 rfl rfl ?_
  refine fj_get (Cn := RX4) (T := TX4) (N := 18) (ci := 4) (v := .ref (ad 34)) C iX4 25 (fx_at25 _ _ _ _ _) rfl 12 (by decide) kX4_40 rfl dX4_preferredOn_1 ?_
  refine fj_iload_n C 1 dX4_preferredOn_4 rfl rfl ?_
  refine fj_iald (f := ((fx_cl fx_a0) 34)) C 34 (fx_at34 _ _ _ _ _) (fx_in hq.1 hq.2 (by decide) (by decide)) dX4_preferredOn_5 ?_
  refine fj_at (y := (-1)) (fx_cl34 _ (fx_ix hq)) ?_
  refine fj_iconst (v := (-1)) C dX4_preferredOn_6 (by decide) ?_
  refine fj_icmp_eq (tgt := 29) C dX4_preferredOn_7 (by decide) (fun _ => ?_) (fun h => absurd (by decide) h)
  refine fj_iconst (v := (-1)) C dX4_preferredOn_29 (by decide) ?_
  exact fj_iret C E9 dX4_preferredOn_30 ⟨rfl, rfl⟩

set_option maxHeartbeats 4000000 in
set_option maxRecDepth 100000 in
theorem c_X4_daysLived (l : Launch) (D : va_G) (ty : Nat → ClassId) (t0 : Nat) (ad : Nat → Nat) (q : Int32) (d : Int32) (hq : 0 ≤ q ∧ q ≤ 63) : fc l yX4_daysLived wsX4_daysLived (fj_rm 0 0 0 0) D ty t0 [.ref (ad 25), .int q, .int d] (fx_w ad ty (fx_cl fx_a0) fx_g0 fx_n0) 0 0 (fun v w => v = some (.int 0) ∧ w = fx_w ad ty (fx_cl fx_a0) fx_g0 fx_n0) := by
  refine fc_start (own := RX4) (cc := cX4_daysLived) (maxL := 4) (ret := (some .int)) (by decide) rfl (Nat.le_of_ble_eq_true rfl) rfl ?_
  intro p e s m args below meth c Q A C hmn E9
  have iX4 : ∀ w ∈ u_ws RX4 TX4 18, w ∈ wsX4_daysLived := fun _ h => List.mem_cons_of_mem _ (List.mem_append_left _ (List.mem_append_right _ h))
  have kX4_37 : Cond.fieldLink RX4 37 "FreeLand$Work" "held" "[I" ∈ wsX4_daysLived := (by decide +kernel)
  refine fj_lv (lv' := [(0, .ref (ad 25)), (1, .int q), (2, .int d)]) [0, 1, 2] rfl ?_
  refine fj_aload_n C 0 dX4_daysLived_0 rfl rfl ?_
  refine fj_get (Cn := RX4) (T := TX4) (N := 18) (ci := 4) (v := .ref (ad 33)) C iX4 25 (fx_at25 _ _ _ _ _) rfl 11 (by decide) kX4_37 rfl dX4_daysLived_1 ?_
  refine fj_iload_n C 1 dX4_daysLived_4 rfl rfl ?_
  refine fj_iald (f := ((fx_cl fx_a0) 33)) C 33 (fx_at33 _ _ _ _ _) (fx_in hq.1 hq.2 (by decide) (by decide)) dX4_daysLived_5 ?_
  refine fj_at (y := (-1)) (fx_cl33 _ (fx_ix hq)) ?_
  refine fj_istore_n (lv' := [(3, .int (-1)), (0, .ref (ad 25)), (1, .int q), (2, .int d)]) C dX4_daysLived_6 rfl (by decide) rfl ?_
  refine fj_iload_n C 0 dX4_daysLived_7 rfl rfl ?_
  refine fj_iconst (v := (-1)) C dX4_daysLived_8 (by decide) ?_
  refine fj_icmp_ne (tgt := 14) C dX4_daysLived_9 (by decide) (fun h => absurd (by decide) h) (fun _ => ?_)
  refine fj_iconst (v := 0) C dX4_daysLived_12 (by decide) ?_
  exact fj_iret C E9 dX4_daysLived_13 ⟨rfl, rfl⟩
