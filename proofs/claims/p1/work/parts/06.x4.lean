set_option maxHeartbeats 4000000 in
set_option maxRecDepth 100000 in
theorem c_X1_isKnown (l : Launch) (D : va_G) (ty : Nat → ClassId) (t0 : Nat) (ad : Nat → Nat) (g : Nat → Nat → Int64) (n : Nat → Int32) (i : Int32) (j : Int32) (hi : 0 ≤ i ∧ i ≤ 8) (hj : 0 ≤ j ∧ j ≤ 8) : fc l yX1_isKnown wsX1_isKnown (fj_rm 0 0 0 0) D ty t0 [.ref (ad 38), .int i, .int j] (fx_w ad ty fx_a0 g n) 0 0 (fun v w => v = some (.int 1) ∧ w = fx_w ad ty fx_a0 g n) := by
  refine fc_start (own := RX1) (cc := cX1_isKnown) (maxL := 3) (ret := (some .boolean)) (by decide) rfl (Nat.le_of_ble_eq_true rfl) rfl ?_
  intro p e s m args below meth c Q A C hmn E9
  have iX1 : ∀ w ∈ u_ws RX1 TX1 7, w ∈ wsX1_isKnown := fun _ h => List.mem_cons_of_mem _ (List.mem_append_right _ h)
  have kX1_9 : Cond.fieldLink RX1 9 "FreeLand$Corners" "known" "[Z" ∈ wsX1_isKnown := (by decide +kernel)
  refine fj_lv (lv' := [(0, .ref (ad 38)), (1, .int i), (2, .int j)]) [0, 1, 2] rfl ?_
  refine fj_aload_n C 0 dX1_isKnown_0 rfl rfl ?_
  refine fj_get (Cn := RX1) (T := TX1) (N := 7) (ci := 1) (v := .ref (ad 39)) C iX1 38 (fx_at38 _ _ _ _ _) rfl 0 (by decide) kX1_9 rfl dX1_isKnown_1 ?_
  refine fj_bipush (v := 9) C dX1_isKnown_4 (by decide) ?_
  refine fj_iload_n C 2 dX1_isKnown_6 rfl rfl ?_
  refine fj_imul C dX1_isKnown_7 ?_
  refine fj_iload_n C 1 dX1_isKnown_8 rfl rfl ?_
  refine fj_iadd C dX1_isKnown_9 ?_
  refine fj_zald (f := (fx_a0 39)) C 39 (fx_at39 _ _ _ _ _) (fx_ij hi hj) dX1_isKnown_10 ?_
  refine fj_at (y := 1) (fx_kn hi hj) ?_
  exact fj_zret C E9 rfl dX1_isKnown_11 ⟨rfl, rfl⟩

set_option maxHeartbeats 4000000 in
set_option maxRecDepth 100000 in
theorem c_X1_forget (l : Launch) (D : va_G) (ty : Nat → ClassId) (t0 : Nat) (ad : Nat → Nat) (i : Int32) (j : Int32) (hi : 0 ≤ i ∧ i ≤ 8) (hj : 0 ≤ j ∧ j ≤ 8) : fc l yX1_forget wsX1_forget (fj_rm 1 22 0 0) D ty t0 [.ref (ad 38), .int i, .int j] (fx_w ad ty fx_a0 fx_g0 fx_n0) 0 0 (fun v w => v = some (.int 1)) := by
  refine fc_start (own := RX1) (cc := cX1_forget) (maxL := 4) (ret := (some .boolean)) (by decide) rfl (Nat.le_of_ble_eq_true rfl) rfl ?_
  intro p e s m args below meth c Q A C hmn E9
  have iX1 : ∀ w ∈ u_ws RX1 TX1 7, w ∈ wsX1_forget := fun _ h => List.mem_cons_of_mem _ (List.mem_append_right _ h)
  have kX1_9 : Cond.fieldLink RX1 9 "FreeLand$Corners" "known" "[Z" ∈ wsX1_forget := (by decide +kernel)
  refine fj_lv (lv' := [(0, .ref (ad 38)), (1, .int i), (2, .int j)]) [0, 1, 2] rfl ?_
  refine fj_aload_n C 0 dX1_forget_0 rfl rfl ?_
  refine fj_iload_n C 1 dX1_forget_1 rfl rfl ?_
  refine fj_iload_n C 2 dX1_forget_2 rfl rfl ?_
  refine fj_callVw (As := [.int i, .int j]) (rest := []) C (c_X1_isKnown l D ty t0 ad fx_g0 fx_n0 i j hi hj) (cwV 2 C.2.2.2.2.1 gX1_forget_X1_isKnown rfl rfl rfl (by decide +kernel) ⟨Nat.le_of_ble_eq_true rfl, Nat.le_of_ble_eq_true rfl⟩) ⟨38, 1, _, _, fx_at38 _ _ _ _ _, rfl, rfl⟩ rfl (Nat.le_of_ble_eq_true rfl) dX1_forget_3 ⟨Nat.zero_le _, Nat.zero_le _⟩ (fun v9 w9 hp9 => ?_)
  obtain ⟨rfl, rfl⟩ := hp9
  refine fj_st (st' := .int 1 :: []) rfl ?_
  refine fj_istore_n (lv' := [(3, .int 1), (0, .ref (ad 38)), (1, .int i), (2, .int j)]) C dX1_forget_6 rfl (by decide) rfl ?_
  refine fj_aload_n C 1 dX1_forget_7 rfl rfl ?_
  refine fj_get (Cn := RX1) (T := TX1) (N := 7) (ci := 1) (v := .ref (ad 39)) C iX1 38 (fx_at38 _ _ _ _ _) rfl 0 (by decide) kX1_9 rfl dX1_forget_8 ?_
  refine fj_bipush (v := 9) C dX1_forget_11 (by decide) ?_
  refine fj_iload_n C 3 dX1_forget_13 rfl rfl ?_
  refine fj_imul C dX1_forget_14 ?_
  refine fj_iload_n C 2 dX1_forget_15 rfl rfl ?_
  refine fj_iadd C dX1_forget_16 ?_
  refine fj_iconst (v := 0) C dX1_forget_17 (by decide) ?_
  refine fj_zast (f := (fx_a0 39)) C 39 (fx_at39 _ _ _ _ _) (fx_ij hi hj) dX1_forget_18 (fx_st39 _ _ _ _ _ _) ?_
  refine fj_iload_n C 0 dX1_forget_19 rfl rfl ?_
  exact fj_zret C E9 rfl dX1_forget_20 rfl

set_option maxHeartbeats 4000000 in
set_option maxRecDepth 100000 in
theorem c_X5_lose (l : Launch) (D : va_G) (ty : Nat → ClassId) (t0 : Nat) (ad : Nat → Nat) (i : Int32) (j : Int32)  : fc l yX5_lose wsX5_lose (fj_rm 2 45 0 0) D ty t0 [.ref (ad 0), .int i, .int j] (fx_w ad ty fx_a0 fx_g0 fx_n0) 0 0 (fun v w => v = some (.int (if ((0 ≤ i ∧ i ≤ 8) ∧ (0 ≤ j ∧ j ≤ 8)) then 1 else -1002))) := by
  refine fc_start (own := RX5) (cc := cX5_lose) (maxL := 3) (ret := (some .int)) (by decide) rfl (Nat.le_of_ble_eq_true rfl) rfl ?_
  intro p e s m args below meth c Q A C hmn E9
  have iX5 : ∀ w ∈ u_ws RX5 TX5 5, w ∈ wsX5_lose := fun _ h => List.mem_cons_of_mem _ (List.mem_append_left _ (List.mem_append_right _ h))
  have kX5_42 : Cond.fieldLink RX5 42 "FreeLand" "corners" "LFreeLand$Corners;" ∈ wsX5_lose := (by decide +kernel)
  have kN178 : (RX5, 178, yX1_forget) ∈ nw_M := (by decide +kernel)
  have kIX1 : Cond.initialized RX1 ∈ wsX5_lose := (by decide +kernel)
  have kVX1_forget : Cond.instanceMethod yX1_forget ∈ wsX5_lose := (by decide +kernel)
  have kSX1_forget : Cond.selects RX1 yX1_forget yX1_forget ∈ wsX5_lose := (by decide +kernel)
  refine fj_lv (lv' := [(0, .ref (ad 0)), (1, .int i), (2, .int j)]) [0, 1, 2] rfl ?_
  refine fj_iload_n C 1 dX5_lose_0 rfl rfl ?_
  refine fj_iload_n C 2 dX5_lose_1 rfl rfl ?_
  refine fj_callSw (As := [.int i, .int j]) (rest := []) C (c_X5_isCorner l D ty t0 (fx_w ad ty fx_a0 fx_g0 fx_n0) i j) (va_cwS 2 C.2.2.2.2.1 gX5_lose_X5_isCorner rfl rfl rfl (by decide +kernel) ⟨Nat.le_of_ble_eq_true rfl, Nat.le_of_ble_eq_true rfl⟩)  rfl (Nat.le_of_ble_eq_true rfl) dX5_lose_2 ⟨Nat.zero_le _, Nat.zero_le _⟩ (fun v9 w9 hp9 => ?_)
  obtain ⟨rfl, rfl⟩ := hp9
  refine fj_st (st' := .int (if ((0 ≤ i ∧ i ≤ 8) ∧ (0 ≤ j ∧ j ≤ 8)) then 1 else 0) :: []) rfl ?_
  refine fj_ifb_ne (tgt := 12) C dX5_lose_5 (by decide) (fun h5 => ?_) (fun h5 => ?_)
  · refine fj_aload_n C 0 dX5_lose_12 rfl rfl ?_
    refine fj_get (Cn := RX5) (T := TX5) (N := 5) (ci := 5) (v := .ref (ad 38)) C iX5 0 (fx_at0 _ _ _ _ _) rfl 4 (by decide) kX5_42 rfl dX5_lose_13 ?_
    refine fj_iload_n C 1 dX5_lose_16 rfl rfl ?_
    refine fj_iload_n C 2 dX5_lose_17 rfl rfl ?_
    refine fj_callVNw (As := [.int i, .int j]) (rest := []) C (c_X1_forget l D ty t0 ad i j (by grind) (by grind)) ⟨va_cnB 2 C.2.2.2.2.1 gX5_lose_X1_forget_n178 rfl rfl rfl (C.2.2.2.2.2.2.2.1.1 _ kN178) (C.2.2.2.2.1 _ kIX1) (by decide +kernel) ⟨Nat.le_of_ble_eq_true rfl, Nat.le_of_ble_eq_true rfl⟩, C.2.2.2.2.1 _ kVX1_forget, C.2.2.2.2.1 _ kSX1_forget⟩ ⟨38, 1, _, _, fx_at38 _ _ _ _ _, rfl, rfl⟩ rfl (Nat.le_of_ble_eq_true rfl) dX5_lose_18 ⟨Nat.zero_le _, Nat.zero_le _⟩ (fun v9 w9 hp9 => ?_)
    obtain rfl := hp9
    refine fj_st (st' := .int 1 :: []) rfl ?_
    refine fj_if_eq (tgt := 28) C dX5_lose_21 (by decide) (fun h => absurd h (by decide)) (fun _ => ?_)
    refine fj_iconst (v := 1) C dX5_lose_24 (by decide) ?_
    refine fj_goto (tgt := 29) C dX5_lose_25 (by decide) ?_
    exact fj_iret C E9 dX5_lose_29 (by (repeat' split) <;> first | rfl | (exfalso; grind) | grind)
  · refine fj_sipush (v := (-1002)) C dX5_lose_8 (by decide) ?_
    exact fj_iret C E9 dX5_lose_11 (by (repeat' split) <;> first | rfl | (exfalso; grind) | grind)

set_option maxHeartbeats 4000000 in
set_option maxRecDepth 100000 in
theorem c_X1_find (l : Launch) (D : va_G) (ty : Nat → ClassId) (t0 : Nat) (ad : Nat → Nat) (g : Nat → Nat → Int64) (n : Nat → Int32) (i : Int32) (j : Int32) (hi : 0 ≤ i ∧ i ≤ 8) (hj : 0 ≤ j ∧ j ≤ 8) : fc l yX1_find wsX1_find (fj_rm 0 0 0 0) D ty t0 [.ref (ad 38), .int i, .int j] (fx_w ad ty fx_a0 g n) 0 0 (fun v w => v = some (.int 1) ∧ w = (fx_w ad ty fx_a0 g (va_up (va_up n 8 (840 * fx_a0 40 (9 * j + i).toNatClampNeg)) 9 (840 * fx_a0 41 (9 * j + i).toNatClampNeg)))) := by
  refine fc_start (own := RX1) (cc := cX1_find) (maxL := 4) (ret := (some .boolean)) (by decide) rfl (Nat.le_of_ble_eq_true rfl) rfl ?_
  intro p e s m args below meth c Q A C hmn E9
  have iX1 : ∀ w ∈ u_ws RX1 TX1 7, w ∈ wsX1_find := fun _ h => List.mem_cons_of_mem _ (List.mem_append_right _ h)
  have kX1_9 : Cond.fieldLink RX1 9 "FreeLand$Corners" "known" "[Z" ∈ wsX1_find := (by decide +kernel)
  have kX1_13 : Cond.fieldLink RX1 13 "FreeLand$Corners" "x" "[I" ∈ wsX1_find := (by decide +kernel)
  have kX1_31 : Cond.fieldLink RX1 31 "FreeLand$Corners" "foundX" "I" ∈ wsX1_find := (by decide +kernel)
  have kX1_17 : Cond.fieldLink RX1 17 "FreeLand$Corners" "y" "[I" ∈ wsX1_find := (by decide +kernel)
  have kX1_35 : Cond.fieldLink RX1 35 "FreeLand$Corners" "foundY" "I" ∈ wsX1_find := (by decide +kernel)
  refine fj_lv (lv' := [(0, .ref (ad 38)), (1, .int i), (2, .int j)]) [0, 1, 2] rfl ?_
  refine fj_bipush (v := 9) C dX1_find_0 (by decide) ?_
  refine fj_iload_n C 2 dX1_find_2 rfl rfl ?_
  refine fj_imul C dX1_find_3 ?_
  refine fj_iload_n C 1 dX1_find_4 rfl rfl ?_
  refine fj_iadd C dX1_find_5 ?_
  refine fj_istore_n (lv' := [(3, .int ((9 * j) + i)), (0, .ref (ad 38)), (1, .int i), (2, .int j)]) C dX1_find_6 rfl (by decide) rfl ?_
  refine fj_aload_n C 1 dX1_find_7 rfl rfl ?_
  refine fj_get (Cn := RX1) (T := TX1) (N := 7) (ci := 1) (v := .ref (ad 39)) C iX1 38 (fx_at38 _ _ _ _ _) rfl 0 (by decide) kX1_9 rfl dX1_find_8 ?_
  refine fj_iload_n C 0 dX1_find_11 rfl rfl ?_
  refine fj_zald (f := (fx_a0 39)) C 39 (fx_at39 _ _ _ _ _) (fx_ij hi hj) dX1_find_12 ?_
  refine fj_at (y := 1) (fx_kn hi hj) ?_
  refine fj_if_eq (tgt := 46) C dX1_find_13 (by decide) (fun h => absurd h (by decide)) (fun _ => ?_)
  refine fj_aload_n C 1 dX1_find_16 rfl rfl ?_
  refine fj_sipush (v := 840) C dX1_find_17 (by decide) ?_
  refine fj_aload_n C 1 dX1_find_20 rfl rfl ?_
  refine fj_get (Cn := RX1) (T := TX1) (N := 7) (ci := 1) (v := .ref (ad 40)) C iX1 38 (fx_at38 _ _ _ _ _) rfl 1 (by decide) kX1_13 rfl dX1_find_21 ?_
  refine fj_iload_n C 0 dX1_find_24 rfl rfl ?_
  refine fj_iald (f := (fx_a0 40)) C 40 (fx_at40 _ _ _ _ _) (fx_ij hi hj) dX1_find_25 ?_
  refine fj_imul C dX1_find_26 ?_
  refine fj_put (Cn := RX1) (T := TX1) (N := 7) (ci := 1) C iX1 tyX1 tyX1_ok nmX1 38 (fx_at38 _ _ _ _ _) rfl 3 (by decide) kX1_31 rfl rfl rfl (Nat.le_of_ble_eq_true rfl) dX1_find_27 (fx_si38_3 _ _ _ _ _ _) ?_
  refine fj_aload_n C 1 dX1_find_30 rfl rfl ?_
  refine fj_sipush (v := 840) C dX1_find_31 (by decide) ?_
  refine fj_aload_n C 1 dX1_find_34 rfl rfl ?_
  refine fj_get (Cn := RX1) (T := TX1) (N := 7) (ci := 1) (v := .ref (ad 41)) C iX1 38 (fx_at38 _ _ _ _ _) rfl 2 (by decide) kX1_17 rfl dX1_find_35 ?_
  refine fj_iload_n C 0 dX1_find_38 rfl rfl ?_
  refine fj_iald (f := (fx_a0 41)) C 41 (fx_at41 _ _ _ _ _) (fx_ij hi hj) dX1_find_39 ?_
  refine fj_imul C dX1_find_40 ?_
  refine fj_put (Cn := RX1) (T := TX1) (N := 7) (ci := 1) C iX1 tyX1 tyX1_ok nmX1 38 (fx_at38 _ _ _ _ _) rfl 4 (by decide) kX1_35 rfl rfl rfl (Nat.le_of_ble_eq_true rfl) dX1_find_41 (fx_si38_4 _ _ _ _ _ _) ?_
  refine fj_iconst (v := 1) C dX1_find_44 (by decide) ?_
  exact fj_zret C E9 rfl dX1_find_45 ⟨rfl, rfl⟩

set_option maxHeartbeats 4000000 in
set_option maxRecDepth 100000 in
theorem c_X5_lies (l : Launch) (D : va_G) (ty : Nat → ClassId) (t0 : Nat) (ad : Nat → Nat) (i : Int32) (j : Int32) (u : Int32)  : fc l yX5_lies wsX5_lies (fj_rm 2 43 0 0) D ty t0 [.ref (ad 0), .int i, .int j, .int u] (fx_w ad ty fx_a0 fx_g0 fx_n0) 0 0 (fun v w => v = some (.int (if ((0 ≤ i ∧ i ≤ 8) ∧ (0 ≤ j ∧ j ≤ 8)) ∧ (0 ≤ u ∧ u ≤ 2) then (if u = 0 then 840 * fx_a0 40 (9 * j + i).toNatClampNeg else if u = 1 then 840 * fx_a0 41 (9 * j + i).toNatClampNeg else 1) else -1002))) := by
  refine fc_start (own := RX5) (cc := cX5_lies) (maxL := 4) (ret := (some .int)) (by decide) rfl (Nat.le_of_ble_eq_true rfl) rfl ?_
  intro p e s m args below meth c Q A C hmn E9
  have iX5 : ∀ w ∈ u_ws RX5 TX5 5, w ∈ wsX5_lies := fun _ h => List.mem_cons_of_mem _ (List.mem_append_left _ (List.mem_append_right _ h))
  have kX5_42 : Cond.fieldLink RX5 42 "FreeLand" "corners" "LFreeLand$Corners;" ∈ wsX5_lies := (by decide +kernel)
  have kN181 : (RX5, 181, yX1_find) ∈ nw_M := (by decide +kernel)
  have kIX1 : Cond.initialized RX1 ∈ wsX5_lies := (by decide +kernel)
  have kVX1_find : Cond.instanceMethod yX1_find ∈ wsX5_lies := (by decide +kernel)
  have kSX1_find : Cond.selects RX1 yX1_find yX1_find ∈ wsX5_lies := (by decide +kernel)
  have iX1 : ∀ w ∈ u_ws RX1 TX1 7, w ∈ wsX5_lies := fun _ h => List.mem_cons_of_mem _ (List.mem_append_right _ h)
  have kX5_184 : (RX5, 184, "FreeLand$Corners", "foundX", "I") ∈ nw_F := (by decide +kernel)
  have kX5_187 : (RX5, 187, "FreeLand$Corners", "foundY", "I") ∈ nw_F := (by decide +kernel)
  have kN190 : (RX5, 190, yX1_isKnown) ∈ nw_M := (by decide +kernel)
  have kVX1_isKnown : Cond.instanceMethod yX1_isKnown ∈ wsX5_lies := (by decide +kernel)
  have kSX1_isKnown : Cond.selects RX1 yX1_isKnown yX1_isKnown ∈ wsX5_lies := (by decide +kernel)
  refine fj_lv (lv' := [(0, .ref (ad 0)), (1, .int i), (2, .int j), (3, .int u)]) [0, 1, 2, 3] rfl ?_
  refine fj_iload_n C 1 dX5_lies_0 rfl rfl ?_
  refine fj_iload_n C 2 dX5_lies_1 rfl rfl ?_
  refine fj_callSw (As := [.int i, .int j]) (rest := []) C (c_X5_isCorner l D ty t0 (fx_w ad ty fx_a0 fx_g0 fx_n0) i j) (va_cwS 2 C.2.2.2.2.1 gX5_lies_X5_isCorner rfl rfl rfl (by decide +kernel) ⟨Nat.le_of_ble_eq_true rfl, Nat.le_of_ble_eq_true rfl⟩)  rfl (Nat.le_of_ble_eq_true rfl) dX5_lies_2 ⟨Nat.zero_le _, Nat.zero_le _⟩ (fun v9 w9 hp9 => ?_)
  obtain ⟨rfl, rfl⟩ := hp9
  refine fj_st (st' := .int (if ((0 ≤ i ∧ i ≤ 8) ∧ (0 ≤ j ∧ j ≤ 8)) then 1 else 0) :: []) rfl ?_
  refine fj_ifb_eq (tgt := 17) C dX5_lies_5 (by decide) (fun h5 => ?_) (fun h5 => ?_)
  · refine fj_sipush (v := (-1002)) C dX5_lies_17 (by decide) ?_
    exact fj_iret C E9 dX5_lies_20 (by (repeat' split) <;> first | rfl | (exfalso; grind) | grind)
  · refine fj_iload_n C 3 dX5_lies_8 rfl rfl ?_
    refine fj_iconst (v := 0) C dX5_lies_9 (by decide) ?_
    refine fj_iconst (v := 2) C dX5_lies_10 (by decide) ?_
    refine fj_callSw (As := [.int u, .int 0, .int 2]) (rest := []) C (c_X5_within l D ty t0 (fx_w ad ty fx_a0 fx_g0 fx_n0) u 0 2) (va_cwS 3 C.2.2.2.2.1 gX5_lies_X5_within rfl rfl rfl (by decide +kernel) ⟨Nat.le_of_ble_eq_true rfl, Nat.le_of_ble_eq_true rfl⟩)  rfl (Nat.le_of_ble_eq_true rfl) dX5_lies_11 ⟨Nat.zero_le _, Nat.zero_le _⟩ (fun v9 w9 hp9 => ?_)
    obtain ⟨rfl, rfl⟩ := hp9
    refine fj_st (st' := .int (if (0 ≤ u ∧ u ≤ 2) then 1 else 0) :: []) rfl ?_
    refine fj_ifb_ne (tgt := 21) C dX5_lies_14 (by decide) (fun h14 => ?_) (fun h14 => ?_)
    · refine fj_aload_n C 0 dX5_lies_21 rfl rfl ?_
      refine fj_get (Cn := RX5) (T := TX5) (N := 5) (ci := 5) (v := .ref (ad 38)) C iX5 0 (fx_at0 _ _ _ _ _) rfl 4 (by decide) kX5_42 rfl dX5_lies_22 ?_
      refine fj_iload_n C 1 dX5_lies_25 rfl rfl ?_
      refine fj_iload_n C 2 dX5_lies_26 rfl rfl ?_
      refine fj_callVNw (As := [.int i, .int j]) (rest := []) C (c_X1_find l D ty t0 ad fx_g0 fx_n0 i j (by grind) (by grind)) ⟨va_cnB 2 C.2.2.2.2.1 gX5_lies_X1_find_n181 rfl rfl rfl (C.2.2.2.2.2.2.2.1.1 _ kN181) (C.2.2.2.2.1 _ kIX1) (by decide +kernel) ⟨Nat.le_of_ble_eq_true rfl, Nat.le_of_ble_eq_true rfl⟩, C.2.2.2.2.1 _ kVX1_find, C.2.2.2.2.1 _ kSX1_find⟩ ⟨38, 1, _, _, fx_at38 _ _ _ _ _, rfl, rfl⟩ rfl (Nat.le_of_ble_eq_true rfl) dX5_lies_27 ⟨Nat.zero_le _, Nat.zero_le _⟩ (fun v9 w9 hp9 => ?_)
      obtain ⟨rfl, rfl⟩ := hp9
      refine fj_ws (ws' := (fx_w ad ty fx_a0 fx_g0 (va_up (va_up fx_n0 8 (840 * fx_a0 40 (9 * j + i).toNatClampNeg)) 9 (840 * fx_a0 41 (9 * j + i).toNatClampNeg)))) rfl ?_
      refine fj_st (st' := .int 1 :: []) rfl ?_
      refine fj_if_ne (tgt := 37) C dX5_lies_30 (by decide) (fun _ => ?_) (fun h => absurd h (by decide))
      refine fj_iload_n C 3 dX5_lies_37 rfl rfl ?_
      rcases (show u.toInt = 0 ∨ u.toInt = 1 ∨ (¬ (0 : Int) = u.toInt ∧ ¬ (1 : Int) = u.toInt) by omega) with hsw | hsw | hsw
      · refine fj_lookup (off := 26) (tgt := 64) C dX5_lies_38 (by decide) (by rw [hsw]; rfl) (by decide) ?_
        have eu : u = 0 := Int32.toInt_inj.mp (by simp [hsw])
        refine fj_aload_n C 0 dX5_lies_64 rfl rfl ?_
        refine fj_get (Cn := RX5) (T := TX5) (N := 5) (ci := 5) (v := .ref (ad 38)) C iX5 0 (fx_at0 _ _ _ _ _) rfl 4 (by decide) kX5_42 rfl dX5_lies_65 ?_
        refine fj_getN (Cn := RX1) (T := TX1) (N := 7) (ci := 1) (v := .int (840 * fx_a0 40 (9 * j + i).toNatClampNeg)) C iX1 38 (fx_at38 _ _ _ _ _) rfl 3 (by decide) kX5_184 rfl dX5_lies_68 ?_
        exact fj_iret C E9 dX5_lies_71 (by (repeat' split) <;> first | rfl | (exfalso; grind) | grind)
      · refine fj_lookup (off := 34) (tgt := 72) C dX5_lies_38 (by decide) (by rw [hsw]; rfl) (by decide) ?_
        have eu : u = 1 := Int32.toInt_inj.mp (by simp [hsw])
        refine fj_aload_n C 0 dX5_lies_72 rfl rfl ?_
        refine fj_get (Cn := RX5) (T := TX5) (N := 5) (ci := 5) (v := .ref (ad 38)) C iX5 0 (fx_at0 _ _ _ _ _) rfl 4 (by decide) kX5_42 rfl dX5_lies_73 ?_
        refine fj_getN (Cn := RX1) (T := TX1) (N := 7) (ci := 1) (v := .int (840 * fx_a0 41 (9 * j + i).toNatClampNeg)) C iX1 38 (fx_at38 _ _ _ _ _) rfl 4 (by decide) kX5_187 rfl dX5_lies_76 ?_
        exact fj_iret C E9 dX5_lies_79 (by (repeat' split) <;> first | rfl | (exfalso; grind) | grind)
      · refine fj_lookup (off := 42) (tgt := 80) C dX5_lies_38 (by decide) (by simp [Op.lookupswitch.offset, hsw]) (by decide) ?_
        have eu : ¬ u = 0 := by intro e; subst e; exact hsw.1 (by decide)
        have eu2 : ¬ u = 1 := by intro e; subst e; exact hsw.2 (by decide)
        refine fj_aload_n C 0 dX5_lies_80 rfl rfl ?_
        refine fj_get (Cn := RX5) (T := TX5) (N := 5) (ci := 5) (v := .ref (ad 38)) C iX5 0 (fx_at0 _ _ _ _ _) rfl 4 (by decide) kX5_42 rfl dX5_lies_81 ?_
        refine fj_iload_n C 1 dX5_lies_84 rfl rfl ?_
        refine fj_iload_n C 2 dX5_lies_85 rfl rfl ?_
        refine fj_callVNw (As := [.int i, .int j]) (rest := []) C (c_X1_isKnown l D ty t0 ad fx_g0 (va_up (va_up fx_n0 8 (840 * fx_a0 40 (9 * j + i).toNatClampNeg)) 9 (840 * fx_a0 41 (9 * j + i).toNatClampNeg)) i j (by grind) (by grind)) ⟨va_cnB 2 C.2.2.2.2.1 gX5_lies_X1_isKnown_n190 rfl rfl rfl (C.2.2.2.2.2.2.2.1.1 _ kN190) (C.2.2.2.2.1 _ kIX1) (by decide +kernel) ⟨Nat.le_of_ble_eq_true rfl, Nat.le_of_ble_eq_true rfl⟩, C.2.2.2.2.1 _ kVX1_isKnown, C.2.2.2.2.1 _ kSX1_isKnown⟩ ⟨38, 1, _, _, fx_at38 _ _ _ _ _, rfl, rfl⟩ rfl (Nat.le_of_ble_eq_true rfl) dX5_lies_86 ⟨Nat.zero_le _, Nat.zero_le _⟩ (fun v9 w9 hp9 => ?_)
        obtain ⟨rfl, rfl⟩ := hp9
        refine fj_st (st' := .int 1 :: []) rfl ?_
        refine fj_if_eq (tgt := 96) C dX5_lies_89 (by decide) (fun h => absurd h (by decide)) (fun _ => ?_)
        refine fj_iconst (v := 1) C dX5_lies_92 (by decide) ?_
        refine fj_goto (tgt := 97) C dX5_lies_93 (by decide) ?_
        exact fj_iret C E9 dX5_lies_97 (by (repeat' split) <;> first | rfl | (exfalso; grind) | grind)
    · refine fj_sipush (v := (-1002)) C dX5_lies_17 (by decide) ?_
      exact fj_iret C E9 dX5_lies_20 (by (repeat' split) <;> first | rfl | (exfalso; grind) | grind)

set_option maxHeartbeats 4000000 in
set_option maxRecDepth 100000 in
theorem c_X1_findAround (l : Launch) (D : va_G) (ty : Nat → ClassId) (t0 : Nat) (ad : Nat → Nat) (i : Int32) (j : Int32) (hi : 0 ≤ i ∧ i ≤ 7) (hj : 0 ≤ j ∧ j ≤ 7) : fc l yX1_findAround wsX1_findAround (fj_rm 1 23 0 0) D ty t0 [.ref (ad 38), .int i, .int j] (fx_w ad ty fx_a0 fx_g0 fx_n0) 0 0 (fun v w => v = some (.int 1) ∧ w = (fx_w ad ty fx_a0 (va_up (va_up fx_g0 42 (vp_updL (vp_updL (vp_updL (vp_updL (fx_g0 42) 0 (840 * fx_a0 40 (9 * (j + 0) + (i + 0)).toNatClampNeg).toInt64) 1 (840 * fx_a0 40 (9 * (j + 0) + (i + 1)).toNatClampNeg).toInt64) 2 (840 * fx_a0 40 (9 * (j + 1) + (i + 1)).toNatClampNeg).toInt64) 3 (840 * fx_a0 40 (9 * (j + 1) + (i + 0)).toNatClampNeg).toInt64)) 43 (vp_updL (vp_updL (vp_updL (vp_updL (fx_g0 43) 0 (840 * fx_a0 41 (9 * (j + 0) + (i + 0)).toNatClampNeg).toInt64) 1 (840 * fx_a0 41 (9 * (j + 0) + (i + 1)).toNatClampNeg).toInt64) 2 (840 * fx_a0 41 (9 * (j + 1) + (i + 1)).toNatClampNeg).toInt64) 3 (840 * fx_a0 41 (9 * (j + 1) + (i + 0)).toNatClampNeg).toInt64)) (va_up (va_up fx_n0 8 (840 * fx_a0 40 (9 * (j + 1) + (i + 0)).toNatClampNeg)) 9 (840 * fx_a0 41 (9 * (j + 1) + (i + 0)).toNatClampNeg)))) := by
  refine fc_start (own := RX1) (cc := cX1_findAround) (maxL := 6) (ret := (some .boolean)) (by decide) rfl (Nat.le_of_ble_eq_true rfl) rfl ?_
  intro p e s m args below meth c Q A C hmn E9
  have iX1 : ∀ w ∈ u_ws RX1 TX1 7, w ∈ wsX1_findAround := fun _ h => List.mem_cons_of_mem _ (List.mem_append_right _ h)
  have kX1_20 : Cond.fieldLink RX1 20 "FreeLand$Corners" "aroundX" "[J" ∈ wsX1_findAround := (by decide +kernel)
  have kX1_31 : Cond.fieldLink RX1 31 "FreeLand$Corners" "foundX" "I" ∈ wsX1_findAround := (by decide +kernel)
  have kX1_24 : Cond.fieldLink RX1 24 "FreeLand$Corners" "aroundY" "[J" ∈ wsX1_findAround := (by decide +kernel)
  have kX1_35 : Cond.fieldLink RX1 35 "FreeLand$Corners" "foundY" "I" ∈ wsX1_findAround := (by decide +kernel)
  refine fj_lv (lv' := [(0, .ref (ad 38)), (1, .int i), (2, .int j)]) [0, 1, 2] rfl ?_
  refine fj_iconst (v := 0) C dX1_findAround_0 (by decide) ?_
  refine fj_istore_n (lv' := [(3, .int 0), (0, .ref (ad 38)), (1, .int i), (2, .int j)]) C dX1_findAround_1 rfl (by decide) rfl ?_
  refine fj_iload_n C 0 dX1_findAround_2 rfl rfl ?_
  refine fj_iconst (v := 4) C dX1_findAround_3 (by decide) ?_
  refine fj_icmp_ge (tgt := 81) C dX1_findAround_4 (by decide) (fun h => absurd h (by decide)) (fun _ => ?_)
  refine fj_iload_n C 0 dX1_findAround_7 rfl rfl ?_
  refine fj_iconst (v := 1) C dX1_findAround_8 (by decide) ?_
  refine fj_icmp_eq (tgt := 17) C dX1_findAround_9 (by decide) (fun h => absurd h (by decide)) (fun _ => ?_)
  refine fj_iload_n C 0 dX1_findAround_12 rfl rfl ?_
  refine fj_iconst (v := 2) C dX1_findAround_13 (by decide) ?_
  refine fj_icmp_ne (tgt := 21) C dX1_findAround_14 (by decide) (fun _ => ?_) (fun h => absurd h (by decide))
  refine fj_iconst (v := 0) C dX1_findAround_21 (by decide) ?_
  refine fj_istore (lv' := [(4, .int 0), (3, .int 0), (0, .ref (ad 38)), (1, .int i), (2, .int j)]) C dX1_findAround_22 (by decide) rfl ?_
  refine fj_iload_n C 1 dX1_findAround_24 rfl rfl ?_
  refine fj_iconst (v := 2) C dX1_findAround_25 (by decide) ?_
  refine fj_icmp_lt (tgt := 33) C dX1_findAround_26 (by decide) (fun _ => ?_) (fun h => absurd (by decide) h)
  refine fj_iconst (v := 0) C dX1_findAround_33 (by decide) ?_
  refine fj_istore (lv' := [(5, .int 0), (4, .int 0), (3, .int 0), (0, .ref (ad 38)), (1, .int i), (2, .int j)]) C dX1_findAround_34 (by decide) rfl ?_
  refine fj_aload_n C 3 dX1_findAround_36 rfl rfl ?_
  refine fj_iload_n C 4 dX1_findAround_37 rfl rfl ?_
  refine fj_iload C 1 dX1_findAround_38 rfl ?_
  refine fj_iadd C dX1_findAround_40 ?_
  refine fj_iload_n C 5 dX1_findAround_41 rfl rfl ?_
  refine fj_iload C 0 dX1_findAround_42 rfl ?_
  refine fj_iadd C dX1_findAround_44 ?_
  refine fj_callVw (As := [.int (i + 0), .int (j + 0)]) (rest := []) C (c_X1_find l D ty t0 ad fx_g0 fx_n0 (i + 0) (j + 0) (fx_i0 hi) (fx_i0 hj)) (cwV 2 C.2.2.2.2.1 gX1_findAround_X1_find rfl rfl rfl (by decide +kernel) ⟨Nat.le_of_ble_eq_true rfl, Nat.le_of_ble_eq_true rfl⟩) ⟨38, 1, _, _, fx_at38 _ _ _ _ _, rfl, rfl⟩ rfl (Nat.le_of_ble_eq_true rfl) dX1_findAround_45 ⟨Nat.zero_le _, Nat.zero_le _⟩ (fun v9 w9 hp9 => ?_)
  obtain ⟨rfl, rfl⟩ := hp9
  refine fj_ws (ws' := (fx_w ad ty fx_a0 fx_g0 (va_up (va_up fx_n0 8 (840 * fx_a0 40 (9 * (j + 0) + (i + 0)).toNatClampNeg)) 9 (840 * fx_a0 41 (9 * (j + 0) + (i + 0)).toNatClampNeg)))) rfl ?_
  refine fj_st (st' := .int 1 :: []) rfl ?_
  refine fj_if_ne (tgt := 53) C dX1_findAround_48 (by decide) (fun _ => ?_) (fun h => absurd h (by decide))
  refine fj_aload_n C 3 dX1_findAround_53 rfl rfl ?_
  refine fj_get (Cn := RX1) (T := TX1) (N := 7) (ci := 1) (v := .ref (ad 42)) C iX1 38 (fx_at38 _ _ _ _ _) rfl 5 (by decide) kX1_20 rfl dX1_findAround_54 ?_
  refine fj_iload_n C 2 dX1_findAround_57 rfl rfl ?_
  refine fj_aload_n C 3 dX1_findAround_58 rfl rfl ?_
  refine fj_get (Cn := RX1) (T := TX1) (N := 7) (ci := 1) (v := .int (840 * fx_a0 40 (9 * (j + 0) + (i + 0)).toNatClampNeg)) C iX1 38 (fx_at38 _ _ _ _ _) rfl 3 (by decide) kX1_31 rfl dX1_findAround_59 ?_
  refine fj_i2l C dX1_findAround_62 ?_
  refine fj_last (f := (fx_g0 42)) C 42 (fx_at42 _ _ _ _ _) (vp_in_iff.mpr ⟨by decide, by decide⟩) dX1_findAround_63 (fx_st42 _ _ _ _ _ _) ?_
  refine fj_aload_n C 3 dX1_findAround_64 rfl rfl ?_
  refine fj_get (Cn := RX1) (T := TX1) (N := 7) (ci := 1) (v := .ref (ad 43)) C iX1 38 (fx_at38 _ _ _ _ _) rfl 6 (by decide) kX1_24 rfl dX1_findAround_65 ?_
  refine fj_iload_n C 2 dX1_findAround_68 rfl rfl ?_
  refine fj_aload_n C 3 dX1_findAround_69 rfl rfl ?_
  refine fj_get (Cn := RX1) (T := TX1) (N := 7) (ci := 1) (v := .int (840 * fx_a0 41 (9 * (j + 0) + (i + 0)).toNatClampNeg)) C iX1 38 (fx_at38 _ _ _ _ _) rfl 4 (by decide) kX1_35 rfl dX1_findAround_70 ?_
  refine fj_i2l C dX1_findAround_73 ?_
  refine fj_last (f := (fx_g0 43)) C 43 (fx_at43 _ _ _ _ _) (vp_in_iff.mpr ⟨by decide, by decide⟩) dX1_findAround_74 (fx_st43 _ _ _ _ _ _) ?_
  refine fj_iinc (v := 1) (lv' := [(3, .int 1), (5, .int 0), (4, .int 0), (0, .ref (ad 38)), (1, .int i), (2, .int j)]) C 2 dX1_findAround_75 rfl (by decide) (by decide) rfl ?_
  refine fj_goto (tgt := 2) C dX1_findAround_78 (by decide) ?_
  refine fj_iload_n C 0 dX1_findAround_2 rfl rfl ?_
  refine fj_iconst (v := 4) C dX1_findAround_3 (by decide) ?_
  refine fj_icmp_ge (tgt := 81) C dX1_findAround_4 (by decide) (fun h => absurd h (by decide)) (fun _ => ?_)
  refine fj_iload_n C 0 dX1_findAround_7 rfl rfl ?_
  refine fj_iconst (v := 1) C dX1_findAround_8 (by decide) ?_
  refine fj_icmp_eq (tgt := 17) C dX1_findAround_9 (by decide) (fun _ => ?_) (fun h => absurd (by decide) h)
  refine fj_iconst (v := 1) C dX1_findAround_17 (by decide) ?_
  refine fj_goto (tgt := 22) C dX1_findAround_18 (by decide) ?_
  refine fj_istore (lv' := [(4, .int 1), (3, .int 1), (5, .int 0), (0, .ref (ad 38)), (1, .int i), (2, .int j)]) C dX1_findAround_22 (by decide) rfl ?_
  refine fj_iload_n C 1 dX1_findAround_24 rfl rfl ?_
  refine fj_iconst (v := 2) C dX1_findAround_25 (by decide) ?_
  refine fj_icmp_lt (tgt := 33) C dX1_findAround_26 (by decide) (fun _ => ?_) (fun h => absurd (by decide) h)
  refine fj_iconst (v := 0) C dX1_findAround_33 (by decide) ?_
  refine fj_istore (lv' := [(5, .int 0), (4, .int 1), (3, .int 1), (0, .ref (ad 38)), (1, .int i), (2, .int j)]) C dX1_findAround_34 (by decide) rfl ?_
  refine fj_aload_n C 3 dX1_findAround_36 rfl rfl ?_
  refine fj_iload_n C 4 dX1_findAround_37 rfl rfl ?_
  refine fj_iload C 1 dX1_findAround_38 rfl ?_
  refine fj_iadd C dX1_findAround_40 ?_
  refine fj_iload_n C 5 dX1_findAround_41 rfl rfl ?_
  refine fj_iload C 0 dX1_findAround_42 rfl ?_
  refine fj_iadd C dX1_findAround_44 ?_
  refine fj_callVw (As := [.int (i + 1), .int (j + 0)]) (rest := []) C (c_X1_find l D ty t0 ad (va_up (va_up fx_g0 42 (vp_updL (fx_g0 42) 0 ((840 * fx_a0 40 (9 * (j + 0) + (i + 0)).toNatClampNeg).toInt64))) 43 (vp_updL (fx_g0 43) 0 ((840 * fx_a0 41 (9 * (j + 0) + (i + 0)).toNatClampNeg).toInt64))) (va_up (va_up fx_n0 8 (840 * fx_a0 40 (9 * (j + 0) + (i + 0)).toNatClampNeg)) 9 (840 * fx_a0 41 (9 * (j + 0) + (i + 0)).toNatClampNeg)) (i + 1) (j + 0) (fx_i1 hi) (fx_i0 hj)) (cwV 2 C.2.2.2.2.1 gX1_findAround_X1_find rfl rfl rfl (by decide +kernel) ⟨Nat.le_of_ble_eq_true rfl, Nat.le_of_ble_eq_true rfl⟩) ⟨38, 1, _, _, fx_at38 _ _ _ _ _, rfl, rfl⟩ rfl (Nat.le_of_ble_eq_true rfl) dX1_findAround_45 ⟨Nat.zero_le _, Nat.zero_le _⟩ (fun v9 w9 hp9 => ?_)
  obtain ⟨rfl, rfl⟩ := hp9
  refine fj_ws (ws' := (fx_w ad ty fx_a0 (va_up (va_up fx_g0 42 (vp_updL (fx_g0 42) 0 ((840 * fx_a0 40 (9 * (j + 0) + (i + 0)).toNatClampNeg).toInt64))) 43 (vp_updL (fx_g0 43) 0 ((840 * fx_a0 41 (9 * (j + 0) + (i + 0)).toNatClampNeg).toInt64))) (va_up (va_up fx_n0 8 (840 * fx_a0 40 (9 * (j + 0) + (i + 1)).toNatClampNeg)) 9 (840 * fx_a0 41 (9 * (j + 0) + (i + 1)).toNatClampNeg)))) rfl ?_
  refine fj_st (st' := .int 1 :: []) rfl ?_
  refine fj_if_ne (tgt := 53) C dX1_findAround_48 (by decide) (fun _ => ?_) (fun h => absurd h (by decide))
  refine fj_aload_n C 3 dX1_findAround_53 rfl rfl ?_
  refine fj_get (Cn := RX1) (T := TX1) (N := 7) (ci := 1) (v := .ref (ad 42)) C iX1 38 (fx_at38 _ _ _ _ _) rfl 5 (by decide) kX1_20 rfl dX1_findAround_54 ?_
  refine fj_iload_n C 2 dX1_findAround_57 rfl rfl ?_
  refine fj_aload_n C 3 dX1_findAround_58 rfl rfl ?_
  refine fj_get (Cn := RX1) (T := TX1) (N := 7) (ci := 1) (v := .int (840 * fx_a0 40 (9 * (j + 0) + (i + 1)).toNatClampNeg)) C iX1 38 (fx_at38 _ _ _ _ _) rfl 3 (by decide) kX1_31 rfl dX1_findAround_59 ?_
  refine fj_i2l C dX1_findAround_62 ?_
  refine fj_last (f := (vp_updL (fx_g0 42) 0 ((840 * fx_a0 40 (9 * (j + 0) + (i + 0)).toNatClampNeg).toInt64))) C 42 (fx_at42 _ _ _ _ _) (vp_in_iff.mpr ⟨by decide, by decide⟩) dX1_findAround_63 (fx_st42 _ _ _ _ _ _) ?_
  refine fj_ws (ws' := (fx_w ad ty fx_a0 (va_up (va_up fx_g0 43 (vp_updL (fx_g0 43) 0 ((840 * fx_a0 41 (9 * (j + 0) + (i + 0)).toNatClampNeg).toInt64))) 42 (vp_updL (vp_updL (fx_g0 42) 0 ((840 * fx_a0 40 (9 * (j + 0) + (i + 0)).toNatClampNeg).toInt64)) 1 ((840 * fx_a0 40 (9 * (j + 0) + (i + 1)).toNatClampNeg).toInt64))) (va_up (va_up fx_n0 8 (840 * fx_a0 40 (9 * (j + 0) + (i + 1)).toNatClampNeg)) 9 (840 * fx_a0 41 (9 * (j + 0) + (i + 1)).toNatClampNeg)))) rfl ?_
  refine fj_aload_n C 3 dX1_findAround_64 rfl rfl ?_
  refine fj_get (Cn := RX1) (T := TX1) (N := 7) (ci := 1) (v := .ref (ad 43)) C iX1 38 (fx_at38 _ _ _ _ _) rfl 6 (by decide) kX1_24 rfl dX1_findAround_65 ?_
  refine fj_iload_n C 2 dX1_findAround_68 rfl rfl ?_
  refine fj_aload_n C 3 dX1_findAround_69 rfl rfl ?_
  refine fj_get (Cn := RX1) (T := TX1) (N := 7) (ci := 1) (v := .int (840 * fx_a0 41 (9 * (j + 0) + (i + 1)).toNatClampNeg)) C iX1 38 (fx_at38 _ _ _ _ _) rfl 4 (by decide) kX1_35 rfl dX1_findAround_70 ?_
  refine fj_i2l C dX1_findAround_73 ?_
  refine fj_last (f := (vp_updL (fx_g0 43) 0 ((840 * fx_a0 41 (9 * (j + 0) + (i + 0)).toNatClampNeg).toInt64))) C 43 (fx_at43 _ _ _ _ _) (vp_in_iff.mpr ⟨by decide, by decide⟩) dX1_findAround_74 (fx_st43 _ _ _ _ _ _) ?_
  refine fj_ws (ws' := (fx_w ad ty fx_a0 (va_up (va_up fx_g0 42 (vp_updL (vp_updL (fx_g0 42) 0 ((840 * fx_a0 40 (9 * (j + 0) + (i + 0)).toNatClampNeg).toInt64)) 1 ((840 * fx_a0 40 (9 * (j + 0) + (i + 1)).toNatClampNeg).toInt64))) 43 (vp_updL (vp_updL (fx_g0 43) 0 ((840 * fx_a0 41 (9 * (j + 0) + (i + 0)).toNatClampNeg).toInt64)) 1 ((840 * fx_a0 41 (9 * (j + 0) + (i + 1)).toNatClampNeg).toInt64))) (va_up (va_up fx_n0 8 (840 * fx_a0 40 (9 * (j + 0) + (i + 1)).toNatClampNeg)) 9 (840 * fx_a0 41 (9 * (j + 0) + (i + 1)).toNatClampNeg)))) rfl ?_
  refine fj_iinc (v := 2) (lv' := [(3, .int 2), (5, .int 0), (4, .int 1), (0, .ref (ad 38)), (1, .int i), (2, .int j)]) C 2 dX1_findAround_75 rfl (by decide) (by decide) rfl ?_
  refine fj_goto (tgt := 2) C dX1_findAround_78 (by decide) ?_
  refine fj_iload_n C 0 dX1_findAround_2 rfl rfl ?_
  refine fj_iconst (v := 4) C dX1_findAround_3 (by decide) ?_
  refine fj_icmp_ge (tgt := 81) C dX1_findAround_4 (by decide) (fun h => absurd h (by decide)) (fun _ => ?_)
  refine fj_iload_n C 0 dX1_findAround_7 rfl rfl ?_
  refine fj_iconst (v := 1) C dX1_findAround_8 (by decide) ?_
  refine fj_icmp_eq (tgt := 17) C dX1_findAround_9 (by decide) (fun h => absurd h (by decide)) (fun _ => ?_)
  refine fj_iload_n C 0 dX1_findAround_12 rfl rfl ?_
  refine fj_iconst (v := 2) C dX1_findAround_13 (by decide) ?_
  refine fj_icmp_ne (tgt := 21) C dX1_findAround_14 (by decide) (fun h => absurd (by decide) h) (fun _ => ?_)
  refine fj_iconst (v := 1) C dX1_findAround_17 (by decide) ?_
  refine fj_goto (tgt := 22) C dX1_findAround_18 (by decide) ?_
  refine fj_istore (lv' := [(4, .int 1), (3, .int 2), (5, .int 0), (0, .ref (ad 38)), (1, .int i), (2, .int j)]) C dX1_findAround_22 (by decide) rfl ?_
  refine fj_iload_n C 1 dX1_findAround_24 rfl rfl ?_
  refine fj_iconst (v := 2) C dX1_findAround_25 (by decide) ?_
  refine fj_icmp_lt (tgt := 33) C dX1_findAround_26 (by decide) (fun h => absurd h (by decide)) (fun _ => ?_)
  refine fj_iconst (v := 1) C dX1_findAround_29 (by decide) ?_
  refine fj_goto (tgt := 34) C dX1_findAround_30 (by decide) ?_
  refine fj_istore (lv' := [(5, .int 1), (4, .int 1), (3, .int 2), (0, .ref (ad 38)), (1, .int i), (2, .int j)]) C dX1_findAround_34 (by decide) rfl ?_
  refine fj_aload_n C 3 dX1_findAround_36 rfl rfl ?_
  refine fj_iload_n C 4 dX1_findAround_37 rfl rfl ?_
  refine fj_iload C 1 dX1_findAround_38 rfl ?_
  refine fj_iadd C dX1_findAround_40 ?_
  refine fj_iload_n C 5 dX1_findAround_41 rfl rfl ?_
  refine fj_iload C 0 dX1_findAround_42 rfl ?_
  refine fj_iadd C dX1_findAround_44 ?_
  refine fj_callVw (As := [.int (i + 1), .int (j + 1)]) (rest := []) C (c_X1_find l D ty t0 ad (va_up (va_up fx_g0 42 (vp_updL (vp_updL (fx_g0 42) 0 ((840 * fx_a0 40 (9 * (j + 0) + (i + 0)).toNatClampNeg).toInt64)) 1 ((840 * fx_a0 40 (9 * (j + 0) + (i + 1)).toNatClampNeg).toInt64))) 43 (vp_updL (vp_updL (fx_g0 43) 0 ((840 * fx_a0 41 (9 * (j + 0) + (i + 0)).toNatClampNeg).toInt64)) 1 ((840 * fx_a0 41 (9 * (j + 0) + (i + 1)).toNatClampNeg).toInt64))) (va_up (va_up fx_n0 8 (840 * fx_a0 40 (9 * (j + 0) + (i + 1)).toNatClampNeg)) 9 (840 * fx_a0 41 (9 * (j + 0) + (i + 1)).toNatClampNeg)) (i + 1) (j + 1) (fx_i1 hi) (fx_i1 hj)) (cwV 2 C.2.2.2.2.1 gX1_findAround_X1_find rfl rfl rfl (by decide +kernel) ⟨Nat.le_of_ble_eq_true rfl, Nat.le_of_ble_eq_true rfl⟩) ⟨38, 1, _, _, fx_at38 _ _ _ _ _, rfl, rfl⟩ rfl (Nat.le_of_ble_eq_true rfl) dX1_findAround_45 ⟨Nat.zero_le _, Nat.zero_le _⟩ (fun v9 w9 hp9 => ?_)
  obtain ⟨rfl, rfl⟩ := hp9
  refine fj_ws (ws' := (fx_w ad ty fx_a0 (va_up (va_up fx_g0 42 (vp_updL (vp_updL (fx_g0 42) 0 ((840 * fx_a0 40 (9 * (j + 0) + (i + 0)).toNatClampNeg).toInt64)) 1 ((840 * fx_a0 40 (9 * (j + 0) + (i + 1)).toNatClampNeg).toInt64))) 43 (vp_updL (vp_updL (fx_g0 43) 0 ((840 * fx_a0 41 (9 * (j + 0) + (i + 0)).toNatClampNeg).toInt64)) 1 ((840 * fx_a0 41 (9 * (j + 0) + (i + 1)).toNatClampNeg).toInt64))) (va_up (va_up fx_n0 8 (840 * fx_a0 40 (9 * (j + 1) + (i + 1)).toNatClampNeg)) 9 (840 * fx_a0 41 (9 * (j + 1) + (i + 1)).toNatClampNeg)))) rfl ?_
  refine fj_st (st' := .int 1 :: []) rfl ?_
  refine fj_if_ne (tgt := 53) C dX1_findAround_48 (by decide) (fun _ => ?_) (fun h => absurd h (by decide))
  refine fj_aload_n C 3 dX1_findAround_53 rfl rfl ?_
  refine fj_get (Cn := RX1) (T := TX1) (N := 7) (ci := 1) (v := .ref (ad 42)) C iX1 38 (fx_at38 _ _ _ _ _) rfl 5 (by decide) kX1_20 rfl dX1_findAround_54 ?_
  refine fj_iload_n C 2 dX1_findAround_57 rfl rfl ?_
  refine fj_aload_n C 3 dX1_findAround_58 rfl rfl ?_
  refine fj_get (Cn := RX1) (T := TX1) (N := 7) (ci := 1) (v := .int (840 * fx_a0 40 (9 * (j + 1) + (i + 1)).toNatClampNeg)) C iX1 38 (fx_at38 _ _ _ _ _) rfl 3 (by decide) kX1_31 rfl dX1_findAround_59 ?_
  refine fj_i2l C dX1_findAround_62 ?_
  refine fj_last (f := (vp_updL (vp_updL (fx_g0 42) 0 ((840 * fx_a0 40 (9 * (j + 0) + (i + 0)).toNatClampNeg).toInt64)) 1 ((840 * fx_a0 40 (9 * (j + 0) + (i + 1)).toNatClampNeg).toInt64))) C 42 (fx_at42 _ _ _ _ _) (vp_in_iff.mpr ⟨by decide, by decide⟩) dX1_findAround_63 (fx_st42 _ _ _ _ _ _) ?_
  refine fj_ws (ws' := (fx_w ad ty fx_a0 (va_up (va_up fx_g0 43 (vp_updL (vp_updL (fx_g0 43) 0 ((840 * fx_a0 41 (9 * (j + 0) + (i + 0)).toNatClampNeg).toInt64)) 1 ((840 * fx_a0 41 (9 * (j + 0) + (i + 1)).toNatClampNeg).toInt64))) 42 (vp_updL (vp_updL (vp_updL (fx_g0 42) 0 ((840 * fx_a0 40 (9 * (j + 0) + (i + 0)).toNatClampNeg).toInt64)) 1 ((840 * fx_a0 40 (9 * (j + 0) + (i + 1)).toNatClampNeg).toInt64)) 2 ((840 * fx_a0 40 (9 * (j + 1) + (i + 1)).toNatClampNeg).toInt64))) (va_up (va_up fx_n0 8 (840 * fx_a0 40 (9 * (j + 1) + (i + 1)).toNatClampNeg)) 9 (840 * fx_a0 41 (9 * (j + 1) + (i + 1)).toNatClampNeg)))) rfl ?_
  refine fj_aload_n C 3 dX1_findAround_64 rfl rfl ?_
  refine fj_get (Cn := RX1) (T := TX1) (N := 7) (ci := 1) (v := .ref (ad 43)) C iX1 38 (fx_at38 _ _ _ _ _) rfl 6 (by decide) kX1_24 rfl dX1_findAround_65 ?_
  refine fj_iload_n C 2 dX1_findAround_68 rfl rfl ?_
  refine fj_aload_n C 3 dX1_findAround_69 rfl rfl ?_
  refine fj_get (Cn := RX1) (T := TX1) (N := 7) (ci := 1) (v := .int (840 * fx_a0 41 (9 * (j + 1) + (i + 1)).toNatClampNeg)) C iX1 38 (fx_at38 _ _ _ _ _) rfl 4 (by decide) kX1_35 rfl dX1_findAround_70 ?_
  refine fj_i2l C dX1_findAround_73 ?_
  refine fj_last (f := (vp_updL (vp_updL (fx_g0 43) 0 ((840 * fx_a0 41 (9 * (j + 0) + (i + 0)).toNatClampNeg).toInt64)) 1 ((840 * fx_a0 41 (9 * (j + 0) + (i + 1)).toNatClampNeg).toInt64))) C 43 (fx_at43 _ _ _ _ _) (vp_in_iff.mpr ⟨by decide, by decide⟩) dX1_findAround_74 (fx_st43 _ _ _ _ _ _) ?_
  refine fj_ws (ws' := (fx_w ad ty fx_a0 (va_up (va_up fx_g0 42 (vp_updL (vp_updL (vp_updL (fx_g0 42) 0 ((840 * fx_a0 40 (9 * (j + 0) + (i + 0)).toNatClampNeg).toInt64)) 1 ((840 * fx_a0 40 (9 * (j + 0) + (i + 1)).toNatClampNeg).toInt64)) 2 ((840 * fx_a0 40 (9 * (j + 1) + (i + 1)).toNatClampNeg).toInt64))) 43 (vp_updL (vp_updL (vp_updL (fx_g0 43) 0 ((840 * fx_a0 41 (9 * (j + 0) + (i + 0)).toNatClampNeg).toInt64)) 1 ((840 * fx_a0 41 (9 * (j + 0) + (i + 1)).toNatClampNeg).toInt64)) 2 ((840 * fx_a0 41 (9 * (j + 1) + (i + 1)).toNatClampNeg).toInt64))) (va_up (va_up fx_n0 8 (840 * fx_a0 40 (9 * (j + 1) + (i + 1)).toNatClampNeg)) 9 (840 * fx_a0 41 (9 * (j + 1) + (i + 1)).toNatClampNeg)))) rfl ?_
  refine fj_iinc (v := 3) (lv' := [(3, .int 3), (5, .int 1), (4, .int 1), (0, .ref (ad 38)), (1, .int i), (2, .int j)]) C 2 dX1_findAround_75 rfl (by decide) (by decide) rfl ?_
  refine fj_goto (tgt := 2) C dX1_findAround_78 (by decide) ?_
  refine fj_iload_n C 0 dX1_findAround_2 rfl rfl ?_
  refine fj_iconst (v := 4) C dX1_findAround_3 (by decide) ?_
  refine fj_icmp_ge (tgt := 81) C dX1_findAround_4 (by decide) (fun h => absurd h (by decide)) (fun _ => ?_)
  refine fj_iload_n C 0 dX1_findAround_7 rfl rfl ?_
  refine fj_iconst (v := 1) C dX1_findAround_8 (by decide) ?_
  refine fj_icmp_eq (tgt := 17) C dX1_findAround_9 (by decide) (fun h => absurd h (by decide)) (fun _ => ?_)
  refine fj_iload_n C 0 dX1_findAround_12 rfl rfl ?_
  refine fj_iconst (v := 2) C dX1_findAround_13 (by decide) ?_
  refine fj_icmp_ne (tgt := 21) C dX1_findAround_14 (by decide) (fun _ => ?_) (fun h => absurd h (by decide))
  refine fj_iconst (v := 0) C dX1_findAround_21 (by decide) ?_
  refine fj_istore (lv' := [(4, .int 0), (3, .int 3), (5, .int 1), (0, .ref (ad 38)), (1, .int i), (2, .int j)]) C dX1_findAround_22 (by decide) rfl ?_
  refine fj_iload_n C 1 dX1_findAround_24 rfl rfl ?_
  refine fj_iconst (v := 2) C dX1_findAround_25 (by decide) ?_
  refine fj_icmp_lt (tgt := 33) C dX1_findAround_26 (by decide) (fun h => absurd h (by decide)) (fun _ => ?_)
  refine fj_iconst (v := 1) C dX1_findAround_29 (by decide) ?_
  refine fj_goto (tgt := 34) C dX1_findAround_30 (by decide) ?_
  refine fj_istore (lv' := [(5, .int 1), (4, .int 0), (3, .int 3), (0, .ref (ad 38)), (1, .int i), (2, .int j)]) C dX1_findAround_34 (by decide) rfl ?_
  refine fj_aload_n C 3 dX1_findAround_36 rfl rfl ?_
  refine fj_iload_n C 4 dX1_findAround_37 rfl rfl ?_
  refine fj_iload C 1 dX1_findAround_38 rfl ?_
  refine fj_iadd C dX1_findAround_40 ?_
  refine fj_iload_n C 5 dX1_findAround_41 rfl rfl ?_
  refine fj_iload C 0 dX1_findAround_42 rfl ?_
  refine fj_iadd C dX1_findAround_44 ?_
  refine fj_callVw (As := [.int (i + 0), .int (j + 1)]) (rest := []) C (c_X1_find l D ty t0 ad (va_up (va_up fx_g0 42 (vp_updL (vp_updL (vp_updL (fx_g0 42) 0 ((840 * fx_a0 40 (9 * (j + 0) + (i + 0)).toNatClampNeg).toInt64)) 1 ((840 * fx_a0 40 (9 * (j + 0) + (i + 1)).toNatClampNeg).toInt64)) 2 ((840 * fx_a0 40 (9 * (j + 1) + (i + 1)).toNatClampNeg).toInt64))) 43 (vp_updL (vp_updL (vp_updL (fx_g0 43) 0 ((840 * fx_a0 41 (9 * (j + 0) + (i + 0)).toNatClampNeg).toInt64)) 1 ((840 * fx_a0 41 (9 * (j + 0) + (i + 1)).toNatClampNeg).toInt64)) 2 ((840 * fx_a0 41 (9 * (j + 1) + (i + 1)).toNatClampNeg).toInt64))) (va_up (va_up fx_n0 8 (840 * fx_a0 40 (9 * (j + 1) + (i + 1)).toNatClampNeg)) 9 (840 * fx_a0 41 (9 * (j + 1) + (i + 1)).toNatClampNeg)) (i + 0) (j + 1) (fx_i0 hi) (fx_i1 hj)) (cwV 2 C.2.2.2.2.1 gX1_findAround_X1_find rfl rfl rfl (by decide +kernel) ⟨Nat.le_of_ble_eq_true rfl, Nat.le_of_ble_eq_true rfl⟩) ⟨38, 1, _, _, fx_at38 _ _ _ _ _, rfl, rfl⟩ rfl (Nat.le_of_ble_eq_true rfl) dX1_findAround_45 ⟨Nat.zero_le _, Nat.zero_le _⟩ (fun v9 w9 hp9 => ?_)
  obtain ⟨rfl, rfl⟩ := hp9
  refine fj_ws (ws' := (fx_w ad ty fx_a0 (va_up (va_up fx_g0 42 (vp_updL (vp_updL (vp_updL (fx_g0 42) 0 ((840 * fx_a0 40 (9 * (j + 0) + (i + 0)).toNatClampNeg).toInt64)) 1 ((840 * fx_a0 40 (9 * (j + 0) + (i + 1)).toNatClampNeg).toInt64)) 2 ((840 * fx_a0 40 (9 * (j + 1) + (i + 1)).toNatClampNeg).toInt64))) 43 (vp_updL (vp_updL (vp_updL (fx_g0 43) 0 ((840 * fx_a0 41 (9 * (j + 0) + (i + 0)).toNatClampNeg).toInt64)) 1 ((840 * fx_a0 41 (9 * (j + 0) + (i + 1)).toNatClampNeg).toInt64)) 2 ((840 * fx_a0 41 (9 * (j + 1) + (i + 1)).toNatClampNeg).toInt64))) (va_up (va_up fx_n0 8 (840 * fx_a0 40 (9 * (j + 1) + (i + 0)).toNatClampNeg)) 9 (840 * fx_a0 41 (9 * (j + 1) + (i + 0)).toNatClampNeg)))) rfl ?_
  refine fj_st (st' := .int 1 :: []) rfl ?_
  refine fj_if_ne (tgt := 53) C dX1_findAround_48 (by decide) (fun _ => ?_) (fun h => absurd h (by decide))
  refine fj_aload_n C 3 dX1_findAround_53 rfl rfl ?_
  refine fj_get (Cn := RX1) (T := TX1) (N := 7) (ci := 1) (v := .ref (ad 42)) C iX1 38 (fx_at38 _ _ _ _ _) rfl 5 (by decide) kX1_20 rfl dX1_findAround_54 ?_
  refine fj_iload_n C 2 dX1_findAround_57 rfl rfl ?_
  refine fj_aload_n C 3 dX1_findAround_58 rfl rfl ?_
  refine fj_get (Cn := RX1) (T := TX1) (N := 7) (ci := 1) (v := .int (840 * fx_a0 40 (9 * (j + 1) + (i + 0)).toNatClampNeg)) C iX1 38 (fx_at38 _ _ _ _ _) rfl 3 (by decide) kX1_31 rfl dX1_findAround_59 ?_
  refine fj_i2l C dX1_findAround_62 ?_
  refine fj_last (f := (vp_updL (vp_updL (vp_updL (fx_g0 42) 0 ((840 * fx_a0 40 (9 * (j + 0) + (i + 0)).toNatClampNeg).toInt64)) 1 ((840 * fx_a0 40 (9 * (j + 0) + (i + 1)).toNatClampNeg).toInt64)) 2 ((840 * fx_a0 40 (9 * (j + 1) + (i + 1)).toNatClampNeg).toInt64))) C 42 (fx_at42 _ _ _ _ _) (vp_in_iff.mpr ⟨by decide, by decide⟩) dX1_findAround_63 (fx_st42 _ _ _ _ _ _) ?_
  refine fj_ws (ws' := (fx_w ad ty fx_a0 (va_up (va_up fx_g0 43 (vp_updL (vp_updL (vp_updL (fx_g0 43) 0 ((840 * fx_a0 41 (9 * (j + 0) + (i + 0)).toNatClampNeg).toInt64)) 1 ((840 * fx_a0 41 (9 * (j + 0) + (i + 1)).toNatClampNeg).toInt64)) 2 ((840 * fx_a0 41 (9 * (j + 1) + (i + 1)).toNatClampNeg).toInt64))) 42 (vp_updL (vp_updL (vp_updL (vp_updL (fx_g0 42) 0 ((840 * fx_a0 40 (9 * (j + 0) + (i + 0)).toNatClampNeg).toInt64)) 1 ((840 * fx_a0 40 (9 * (j + 0) + (i + 1)).toNatClampNeg).toInt64)) 2 ((840 * fx_a0 40 (9 * (j + 1) + (i + 1)).toNatClampNeg).toInt64)) 3 ((840 * fx_a0 40 (9 * (j + 1) + (i + 0)).toNatClampNeg).toInt64))) (va_up (va_up fx_n0 8 (840 * fx_a0 40 (9 * (j + 1) + (i + 0)).toNatClampNeg)) 9 (840 * fx_a0 41 (9 * (j + 1) + (i + 0)).toNatClampNeg)))) rfl ?_
  refine fj_aload_n C 3 dX1_findAround_64 rfl rfl ?_
  refine fj_get (Cn := RX1) (T := TX1) (N := 7) (ci := 1) (v := .ref (ad 43)) C iX1 38 (fx_at38 _ _ _ _ _) rfl 6 (by decide) kX1_24 rfl dX1_findAround_65 ?_
  refine fj_iload_n C 2 dX1_findAround_68 rfl rfl ?_
  refine fj_aload_n C 3 dX1_findAround_69 rfl rfl ?_
  refine fj_get (Cn := RX1) (T := TX1) (N := 7) (ci := 1) (v := .int (840 * fx_a0 41 (9 * (j + 1) + (i + 0)).toNatClampNeg)) C iX1 38 (fx_at38 _ _ _ _ _) rfl 4 (by decide) kX1_35 rfl dX1_findAround_70 ?_
  refine fj_i2l C dX1_findAround_73 ?_
  refine fj_last (f := (vp_updL (vp_updL (vp_updL (fx_g0 43) 0 ((840 * fx_a0 41 (9 * (j + 0) + (i + 0)).toNatClampNeg).toInt64)) 1 ((840 * fx_a0 41 (9 * (j + 0) + (i + 1)).toNatClampNeg).toInt64)) 2 ((840 * fx_a0 41 (9 * (j + 1) + (i + 1)).toNatClampNeg).toInt64))) C 43 (fx_at43 _ _ _ _ _) (vp_in_iff.mpr ⟨by decide, by decide⟩) dX1_findAround_74 (fx_st43 _ _ _ _ _ _) ?_
  refine fj_ws (ws' := (fx_w ad ty fx_a0 (va_up (va_up fx_g0 42 (vp_updL (vp_updL (vp_updL (vp_updL (fx_g0 42) 0 ((840 * fx_a0 40 (9 * (j + 0) + (i + 0)).toNatClampNeg).toInt64)) 1 ((840 * fx_a0 40 (9 * (j + 0) + (i + 1)).toNatClampNeg).toInt64)) 2 ((840 * fx_a0 40 (9 * (j + 1) + (i + 1)).toNatClampNeg).toInt64)) 3 ((840 * fx_a0 40 (9 * (j + 1) + (i + 0)).toNatClampNeg).toInt64))) 43 (vp_updL (vp_updL (vp_updL (vp_updL (fx_g0 43) 0 ((840 * fx_a0 41 (9 * (j + 0) + (i + 0)).toNatClampNeg).toInt64)) 1 ((840 * fx_a0 41 (9 * (j + 0) + (i + 1)).toNatClampNeg).toInt64)) 2 ((840 * fx_a0 41 (9 * (j + 1) + (i + 1)).toNatClampNeg).toInt64)) 3 ((840 * fx_a0 41 (9 * (j + 1) + (i + 0)).toNatClampNeg).toInt64))) (va_up (va_up fx_n0 8 (840 * fx_a0 40 (9 * (j + 1) + (i + 0)).toNatClampNeg)) 9 (840 * fx_a0 41 (9 * (j + 1) + (i + 0)).toNatClampNeg)))) rfl ?_
  refine fj_iinc (v := 4) (lv' := [(3, .int 4), (5, .int 1), (4, .int 0), (0, .ref (ad 38)), (1, .int i), (2, .int j)]) C 2 dX1_findAround_75 rfl (by decide) (by decide) rfl ?_
  refine fj_goto (tgt := 2) C dX1_findAround_78 (by decide) ?_
  refine fj_iload_n C 0 dX1_findAround_2 rfl rfl ?_
  refine fj_iconst (v := 4) C dX1_findAround_3 (by decide) ?_
  refine fj_icmp_ge (tgt := 81) C dX1_findAround_4 (by decide) (fun _ => ?_) (fun h => absurd (by decide) h)
  refine fj_iconst (v := 1) C dX1_findAround_81 (by decide) ?_
  exact fj_zret C E9 rfl dX1_findAround_82 ⟨rfl, rfl⟩

set_option maxHeartbeats 4000000 in
set_option maxRecDepth 100000 in
theorem c_X1_crossSum (l : Launch) (D : va_G) (ty : Nat → ClassId) (t0 : Nat) (ad : Nat → Nat) (g : Nat → Nat → Int64) (n : Nat → Int32)   : fc l yX1_crossSum wsX1_crossSum (fj_rm 0 0 0 0) D ty t0 [.ref (ad 38)] (fx_w ad ty fx_a0 g n) 0 0 (fun v w => v = some (.long (fx_cs (g 42) (g 43)))) := by
  refine fc_start (own := RX1) (cc := cX1_crossSum) (maxL := 5) (ret := (some .long)) (by decide) rfl (Nat.le_of_ble_eq_true rfl) rfl ?_
  intro p e s m args below meth c Q A C hmn E9
  have iX1 : ∀ w ∈ u_ws RX1 TX1 7, w ∈ wsX1_crossSum := fun _ h => List.mem_cons_of_mem _ (List.mem_append_right _ h)
  have kX1_20 : Cond.fieldLink RX1 20 "FreeLand$Corners" "aroundX" "[J" ∈ wsX1_crossSum := (by decide +kernel)
  have kX1_24 : Cond.fieldLink RX1 24 "FreeLand$Corners" "aroundY" "[J" ∈ wsX1_crossSum := (by decide +kernel)
  refine fj_lv (lv' := [(0, .ref (ad 38))]) [0] rfl ?_
  refine fj_lconst (v := 0) C dX1_crossSum_0 (by decide) ?_
  refine fj_lstore_n (lv' := [(1, .long 0), (0, .ref (ad 38))]) C dX1_crossSum_1 rfl (by decide) rfl ?_
  refine fj_iconst (v := 0) C dX1_crossSum_2 (by decide) ?_
  refine fj_istore_n (lv' := [(3, .int 0), (1, .long 0), (0, .ref (ad 38))]) C dX1_crossSum_3 rfl (by decide) rfl ?_
  refine fj_iload_n C 0 dX1_crossSum_4 rfl rfl ?_
  refine fj_iconst (v := 4) C dX1_crossSum_5 (by decide) ?_
  refine fj_icmp_ge (tgt := 54) C dX1_crossSum_6 (by decide) (fun h => absurd h (by decide)) (fun _ => ?_)
  refine fj_iload_n C 0 dX1_crossSum_9 rfl rfl ?_
  refine fj_iconst (v := 1) C dX1_crossSum_10 (by decide) ?_
  refine fj_iadd C dX1_crossSum_11 ?_
  refine fj_at (y := 1) (by decide) ?_
  refine fj_iconst (v := 4) C dX1_crossSum_12 (by decide) ?_
  refine fj_irem C dX1_crossSum_13 (by decide) ?_
  refine fj_at (y := 1) (by decide) ?_
  refine fj_istore (lv' := [(4, .int 1), (3, .int 0), (1, .long 0), (0, .ref (ad 38))]) C dX1_crossSum_14 (by decide) rfl ?_
  refine fj_lload_n C 2 dX1_crossSum_16 rfl rfl ?_
  refine fj_aload_n C 3 dX1_crossSum_17 rfl rfl ?_
  refine fj_get (Cn := RX1) (T := TX1) (N := 7) (ci := 1) (v := .ref (ad 42)) C iX1 38 (fx_at38 _ _ _ _ _) rfl 5 (by decide) kX1_20 rfl dX1_crossSum_18 ?_
  refine fj_iload_n C 1 dX1_crossSum_21 rfl rfl ?_
  refine fj_lald (f := (g 42)) C 42 (fx_at42 _ _ _ _ _) (vp_in_iff.mpr ⟨by decide, by decide⟩) dX1_crossSum_22 ?_
  refine fj_aload_n C 3 dX1_crossSum_23 rfl rfl ?_
  refine fj_get (Cn := RX1) (T := TX1) (N := 7) (ci := 1) (v := .ref (ad 43)) C iX1 38 (fx_at38 _ _ _ _ _) rfl 6 (by decide) kX1_24 rfl dX1_crossSum_24 ?_
  refine fj_iload C 0 dX1_crossSum_27 rfl ?_
  refine fj_lald (f := (g 43)) C 43 (fx_at43 _ _ _ _ _) (vp_in_iff.mpr ⟨by decide, by decide⟩) dX1_crossSum_29 ?_
  refine fj_lmul C dX1_crossSum_30 ?_
  refine fj_aload_n C 3 dX1_crossSum_31 rfl rfl ?_
  refine fj_get (Cn := RX1) (T := TX1) (N := 7) (ci := 1) (v := .ref (ad 42)) C iX1 38 (fx_at38 _ _ _ _ _) rfl 5 (by decide) kX1_20 rfl dX1_crossSum_32 ?_
  refine fj_iload C 0 dX1_crossSum_35 rfl ?_
  refine fj_lald (f := (g 42)) C 42 (fx_at42 _ _ _ _ _) (vp_in_iff.mpr ⟨by decide, by decide⟩) dX1_crossSum_37 ?_
  refine fj_aload_n C 3 dX1_crossSum_38 rfl rfl ?_
  refine fj_get (Cn := RX1) (T := TX1) (N := 7) (ci := 1) (v := .ref (ad 43)) C iX1 38 (fx_at38 _ _ _ _ _) rfl 6 (by decide) kX1_24 rfl dX1_crossSum_39 ?_
  refine fj_iload_n C 1 dX1_crossSum_42 rfl rfl ?_
  refine fj_lald (f := (g 43)) C 43 (fx_at43 _ _ _ _ _) (vp_in_iff.mpr ⟨by decide, by decide⟩) dX1_crossSum_43 ?_
  refine fj_lmul C dX1_crossSum_44 ?_
  refine fj_lsub C dX1_crossSum_45 ?_
  refine fj_ladd C dX1_crossSum_46 ?_
  refine fj_lstore_n (lv' := [(1, .long (0 + ((((g 42) 0) * ((g 43) 1)) - (((g 42) 1) * ((g 43) 0))))), (4, .int 1), (3, .int 0), (0, .ref (ad 38))]) C dX1_crossSum_47 rfl (by decide) rfl ?_
  refine fj_iinc (v := 1) (lv' := [(3, .int 1), (1, .long (0 + ((((g 42) 0) * ((g 43) 1)) - (((g 42) 1) * ((g 43) 0))))), (4, .int 1), (0, .ref (ad 38))]) C 2 dX1_crossSum_48 rfl (by decide) (by decide) rfl ?_
  refine fj_goto (tgt := 4) C dX1_crossSum_51 (by decide) ?_
  refine fj_iload_n C 0 dX1_crossSum_4 rfl rfl ?_
  refine fj_iconst (v := 4) C dX1_crossSum_5 (by decide) ?_
  refine fj_icmp_ge (tgt := 54) C dX1_crossSum_6 (by decide) (fun h => absurd h (by decide)) (fun _ => ?_)
  refine fj_iload_n C 0 dX1_crossSum_9 rfl rfl ?_
  refine fj_iconst (v := 1) C dX1_crossSum_10 (by decide) ?_
  refine fj_iadd C dX1_crossSum_11 ?_
  refine fj_at (y := 2) (by decide) ?_
  refine fj_iconst (v := 4) C dX1_crossSum_12 (by decide) ?_
  refine fj_irem C dX1_crossSum_13 (by decide) ?_
  refine fj_at (y := 2) (by decide) ?_
  refine fj_istore (lv' := [(4, .int 2), (3, .int 1), (1, .long (0 + ((((g 42) 0) * ((g 43) 1)) - (((g 42) 1) * ((g 43) 0))))), (0, .ref (ad 38))]) C dX1_crossSum_14 (by decide) rfl ?_
  refine fj_lload_n C 2 dX1_crossSum_16 rfl rfl ?_
  refine fj_aload_n C 3 dX1_crossSum_17 rfl rfl ?_
  refine fj_get (Cn := RX1) (T := TX1) (N := 7) (ci := 1) (v := .ref (ad 42)) C iX1 38 (fx_at38 _ _ _ _ _) rfl 5 (by decide) kX1_20 rfl dX1_crossSum_18 ?_
  refine fj_iload_n C 1 dX1_crossSum_21 rfl rfl ?_
  refine fj_lald (f := (g 42)) C 42 (fx_at42 _ _ _ _ _) (vp_in_iff.mpr ⟨by decide, by decide⟩) dX1_crossSum_22 ?_
  refine fj_aload_n C 3 dX1_crossSum_23 rfl rfl ?_
  refine fj_get (Cn := RX1) (T := TX1) (N := 7) (ci := 1) (v := .ref (ad 43)) C iX1 38 (fx_at38 _ _ _ _ _) rfl 6 (by decide) kX1_24 rfl dX1_crossSum_24 ?_
  refine fj_iload C 0 dX1_crossSum_27 rfl ?_
  refine fj_lald (f := (g 43)) C 43 (fx_at43 _ _ _ _ _) (vp_in_iff.mpr ⟨by decide, by decide⟩) dX1_crossSum_29 ?_
  refine fj_lmul C dX1_crossSum_30 ?_
  refine fj_aload_n C 3 dX1_crossSum_31 rfl rfl ?_
  refine fj_get (Cn := RX1) (T := TX1) (N := 7) (ci := 1) (v := .ref (ad 42)) C iX1 38 (fx_at38 _ _ _ _ _) rfl 5 (by decide) kX1_20 rfl dX1_crossSum_32 ?_
  refine fj_iload C 0 dX1_crossSum_35 rfl ?_
  refine fj_lald (f := (g 42)) C 42 (fx_at42 _ _ _ _ _) (vp_in_iff.mpr ⟨by decide, by decide⟩) dX1_crossSum_37 ?_
  refine fj_aload_n C 3 dX1_crossSum_38 rfl rfl ?_
  refine fj_get (Cn := RX1) (T := TX1) (N := 7) (ci := 1) (v := .ref (ad 43)) C iX1 38 (fx_at38 _ _ _ _ _) rfl 6 (by decide) kX1_24 rfl dX1_crossSum_39 ?_
  refine fj_iload_n C 1 dX1_crossSum_42 rfl rfl ?_
  refine fj_lald (f := (g 43)) C 43 (fx_at43 _ _ _ _ _) (vp_in_iff.mpr ⟨by decide, by decide⟩) dX1_crossSum_43 ?_
  refine fj_lmul C dX1_crossSum_44 ?_
  refine fj_lsub C dX1_crossSum_45 ?_
  refine fj_ladd C dX1_crossSum_46 ?_
  refine fj_lstore_n (lv' := [(1, .long ((0 + ((((g 42) 0) * ((g 43) 1)) - (((g 42) 1) * ((g 43) 0)))) + ((((g 42) 1) * ((g 43) 2)) - (((g 42) 2) * ((g 43) 1))))), (4, .int 2), (3, .int 1), (0, .ref (ad 38))]) C dX1_crossSum_47 rfl (by decide) rfl ?_
  refine fj_iinc (v := 2) (lv' := [(3, .int 2), (1, .long ((0 + ((((g 42) 0) * ((g 43) 1)) - (((g 42) 1) * ((g 43) 0)))) + ((((g 42) 1) * ((g 43) 2)) - (((g 42) 2) * ((g 43) 1))))), (4, .int 2), (0, .ref (ad 38))]) C 2 dX1_crossSum_48 rfl (by decide) (by decide) rfl ?_
  refine fj_goto (tgt := 4) C dX1_crossSum_51 (by decide) ?_
  refine fj_iload_n C 0 dX1_crossSum_4 rfl rfl ?_
  refine fj_iconst (v := 4) C dX1_crossSum_5 (by decide) ?_
  refine fj_icmp_ge (tgt := 54) C dX1_crossSum_6 (by decide) (fun h => absurd h (by decide)) (fun _ => ?_)
  refine fj_iload_n C 0 dX1_crossSum_9 rfl rfl ?_
  refine fj_iconst (v := 1) C dX1_crossSum_10 (by decide) ?_
  refine fj_iadd C dX1_crossSum_11 ?_
  refine fj_at (y := 3) (by decide) ?_
  refine fj_iconst (v := 4) C dX1_crossSum_12 (by decide) ?_
  refine fj_irem C dX1_crossSum_13 (by decide) ?_
  refine fj_at (y := 3) (by decide) ?_
  refine fj_istore (lv' := [(4, .int 3), (3, .int 2), (1, .long ((0 + ((((g 42) 0) * ((g 43) 1)) - (((g 42) 1) * ((g 43) 0)))) + ((((g 42) 1) * ((g 43) 2)) - (((g 42) 2) * ((g 43) 1))))), (0, .ref (ad 38))]) C dX1_crossSum_14 (by decide) rfl ?_
  refine fj_lload_n C 2 dX1_crossSum_16 rfl rfl ?_
  refine fj_aload_n C 3 dX1_crossSum_17 rfl rfl ?_
  refine fj_get (Cn := RX1) (T := TX1) (N := 7) (ci := 1) (v := .ref (ad 42)) C iX1 38 (fx_at38 _ _ _ _ _) rfl 5 (by decide) kX1_20 rfl dX1_crossSum_18 ?_
  refine fj_iload_n C 1 dX1_crossSum_21 rfl rfl ?_
  refine fj_lald (f := (g 42)) C 42 (fx_at42 _ _ _ _ _) (vp_in_iff.mpr ⟨by decide, by decide⟩) dX1_crossSum_22 ?_
  refine fj_aload_n C 3 dX1_crossSum_23 rfl rfl ?_
  refine fj_get (Cn := RX1) (T := TX1) (N := 7) (ci := 1) (v := .ref (ad 43)) C iX1 38 (fx_at38 _ _ _ _ _) rfl 6 (by decide) kX1_24 rfl dX1_crossSum_24 ?_
  refine fj_iload C 0 dX1_crossSum_27 rfl ?_
  refine fj_lald (f := (g 43)) C 43 (fx_at43 _ _ _ _ _) (vp_in_iff.mpr ⟨by decide, by decide⟩) dX1_crossSum_29 ?_
  refine fj_lmul C dX1_crossSum_30 ?_
  refine fj_aload_n C 3 dX1_crossSum_31 rfl rfl ?_
  refine fj_get (Cn := RX1) (T := TX1) (N := 7) (ci := 1) (v := .ref (ad 42)) C iX1 38 (fx_at38 _ _ _ _ _) rfl 5 (by decide) kX1_20 rfl dX1_crossSum_32 ?_
  refine fj_iload C 0 dX1_crossSum_35 rfl ?_
  refine fj_lald (f := (g 42)) C 42 (fx_at42 _ _ _ _ _) (vp_in_iff.mpr ⟨by decide, by decide⟩) dX1_crossSum_37 ?_
  refine fj_aload_n C 3 dX1_crossSum_38 rfl rfl ?_
  refine fj_get (Cn := RX1) (T := TX1) (N := 7) (ci := 1) (v := .ref (ad 43)) C iX1 38 (fx_at38 _ _ _ _ _) rfl 6 (by decide) kX1_24 rfl dX1_crossSum_39 ?_
  refine fj_iload_n C 1 dX1_crossSum_42 rfl rfl ?_
  refine fj_lald (f := (g 43)) C 43 (fx_at43 _ _ _ _ _) (vp_in_iff.mpr ⟨by decide, by decide⟩) dX1_crossSum_43 ?_
  refine fj_lmul C dX1_crossSum_44 ?_
  refine fj_lsub C dX1_crossSum_45 ?_
  refine fj_ladd C dX1_crossSum_46 ?_
  refine fj_lstore_n (lv' := [(1, .long (((0 + ((((g 42) 0) * ((g 43) 1)) - (((g 42) 1) * ((g 43) 0)))) + ((((g 42) 1) * ((g 43) 2)) - (((g 42) 2) * ((g 43) 1)))) + ((((g 42) 2) * ((g 43) 3)) - (((g 42) 3) * ((g 43) 2))))), (4, .int 3), (3, .int 2), (0, .ref (ad 38))]) C dX1_crossSum_47 rfl (by decide) rfl ?_
  refine fj_iinc (v := 3) (lv' := [(3, .int 3), (1, .long (((0 + ((((g 42) 0) * ((g 43) 1)) - (((g 42) 1) * ((g 43) 0)))) + ((((g 42) 1) * ((g 43) 2)) - (((g 42) 2) * ((g 43) 1)))) + ((((g 42) 2) * ((g 43) 3)) - (((g 42) 3) * ((g 43) 2))))), (4, .int 3), (0, .ref (ad 38))]) C 2 dX1_crossSum_48 rfl (by decide) (by decide) rfl ?_
  refine fj_goto (tgt := 4) C dX1_crossSum_51 (by decide) ?_
  refine fj_iload_n C 0 dX1_crossSum_4 rfl rfl ?_
  refine fj_iconst (v := 4) C dX1_crossSum_5 (by decide) ?_
  refine fj_icmp_ge (tgt := 54) C dX1_crossSum_6 (by decide) (fun h => absurd h (by decide)) (fun _ => ?_)
  refine fj_iload_n C 0 dX1_crossSum_9 rfl rfl ?_
  refine fj_iconst (v := 1) C dX1_crossSum_10 (by decide) ?_
  refine fj_iadd C dX1_crossSum_11 ?_
  refine fj_at (y := 4) (by decide) ?_
  refine fj_iconst (v := 4) C dX1_crossSum_12 (by decide) ?_
  refine fj_irem C dX1_crossSum_13 (by decide) ?_
  refine fj_at (y := 0) (by decide) ?_
  refine fj_istore (lv' := [(4, .int 0), (3, .int 3), (1, .long (((0 + ((((g 42) 0) * ((g 43) 1)) - (((g 42) 1) * ((g 43) 0)))) + ((((g 42) 1) * ((g 43) 2)) - (((g 42) 2) * ((g 43) 1)))) + ((((g 42) 2) * ((g 43) 3)) - (((g 42) 3) * ((g 43) 2))))), (0, .ref (ad 38))]) C dX1_crossSum_14 (by decide) rfl ?_
  refine fj_lload_n C 2 dX1_crossSum_16 rfl rfl ?_
  refine fj_aload_n C 3 dX1_crossSum_17 rfl rfl ?_
  refine fj_get (Cn := RX1) (T := TX1) (N := 7) (ci := 1) (v := .ref (ad 42)) C iX1 38 (fx_at38 _ _ _ _ _) rfl 5 (by decide) kX1_20 rfl dX1_crossSum_18 ?_
  refine fj_iload_n C 1 dX1_crossSum_21 rfl rfl ?_
  refine fj_lald (f := (g 42)) C 42 (fx_at42 _ _ _ _ _) (vp_in_iff.mpr ⟨by decide, by decide⟩) dX1_crossSum_22 ?_
  refine fj_aload_n C 3 dX1_crossSum_23 rfl rfl ?_
  refine fj_get (Cn := RX1) (T := TX1) (N := 7) (ci := 1) (v := .ref (ad 43)) C iX1 38 (fx_at38 _ _ _ _ _) rfl 6 (by decide) kX1_24 rfl dX1_crossSum_24 ?_
  refine fj_iload C 0 dX1_crossSum_27 rfl ?_
  refine fj_lald (f := (g 43)) C 43 (fx_at43 _ _ _ _ _) (vp_in_iff.mpr ⟨by decide, by decide⟩) dX1_crossSum_29 ?_
  refine fj_lmul C dX1_crossSum_30 ?_
  refine fj_aload_n C 3 dX1_crossSum_31 rfl rfl ?_
  refine fj_get (Cn := RX1) (T := TX1) (N := 7) (ci := 1) (v := .ref (ad 42)) C iX1 38 (fx_at38 _ _ _ _ _) rfl 5 (by decide) kX1_20 rfl dX1_crossSum_32 ?_
  refine fj_iload C 0 dX1_crossSum_35 rfl ?_
  refine fj_lald (f := (g 42)) C 42 (fx_at42 _ _ _ _ _) (vp_in_iff.mpr ⟨by decide, by decide⟩) dX1_crossSum_37 ?_
  refine fj_aload_n C 3 dX1_crossSum_38 rfl rfl ?_
  refine fj_get (Cn := RX1) (T := TX1) (N := 7) (ci := 1) (v := .ref (ad 43)) C iX1 38 (fx_at38 _ _ _ _ _) rfl 6 (by decide) kX1_24 rfl dX1_crossSum_39 ?_
  refine fj_iload_n C 1 dX1_crossSum_42 rfl rfl ?_
  refine fj_lald (f := (g 43)) C 43 (fx_at43 _ _ _ _ _) (vp_in_iff.mpr ⟨by decide, by decide⟩) dX1_crossSum_43 ?_
  refine fj_lmul C dX1_crossSum_44 ?_
  refine fj_lsub C dX1_crossSum_45 ?_
  refine fj_ladd C dX1_crossSum_46 ?_
  refine fj_lstore_n (lv' := [(1, .long ((((0 + ((((g 42) 0) * ((g 43) 1)) - (((g 42) 1) * ((g 43) 0)))) + ((((g 42) 1) * ((g 43) 2)) - (((g 42) 2) * ((g 43) 1)))) + ((((g 42) 2) * ((g 43) 3)) - (((g 42) 3) * ((g 43) 2)))) + ((((g 42) 3) * ((g 43) 0)) - (((g 42) 0) * ((g 43) 3))))), (4, .int 0), (3, .int 3), (0, .ref (ad 38))]) C dX1_crossSum_47 rfl (by decide) rfl ?_
  refine fj_iinc (v := 4) (lv' := [(3, .int 4), (1, .long ((((0 + ((((g 42) 0) * ((g 43) 1)) - (((g 42) 1) * ((g 43) 0)))) + ((((g 42) 1) * ((g 43) 2)) - (((g 42) 2) * ((g 43) 1)))) + ((((g 42) 2) * ((g 43) 3)) - (((g 42) 3) * ((g 43) 2)))) + ((((g 42) 3) * ((g 43) 0)) - (((g 42) 0) * ((g 43) 3))))), (4, .int 0), (0, .ref (ad 38))]) C 2 dX1_crossSum_48 rfl (by decide) (by decide) rfl ?_
  refine fj_goto (tgt := 4) C dX1_crossSum_51 (by decide) ?_
  refine fj_iload_n C 0 dX1_crossSum_4 rfl rfl ?_
  refine fj_iconst (v := 4) C dX1_crossSum_5 (by decide) ?_
  refine fj_icmp_ge (tgt := 54) C dX1_crossSum_6 (by decide) (fun _ => ?_) (fun h => absurd (by decide) h)
  refine fj_lload_n C 1 dX1_crossSum_54 rfl rfl ?_
  exact fj_lret C E9 dX1_crossSum_55 rfl

set_option maxHeartbeats 4000000 in
set_option maxRecDepth 100000 in
theorem c_X5_area (l : Launch) (D : va_G) (ty : Nat → ClassId) (t0 : Nat) (ad : Nat → Nat) (q : Int32)  : fc l yX5_area wsX5_area (fj_rm 2 48 0 0) D ty t0 [.ref (ad 0), .int q] (fx_w ad ty fx_a0 fx_g0 fx_n0) 0 0 (fun v w => v = some (.long (if (0 ≤ q ∧ q ≤ 63) then fx_ar (q - q / 8 * 8) (q / 8) else -1001))) := by
  refine fc_start (own := RX5) (cc := cX5_area) (maxL := 2) (ret := (some .long)) (by decide) rfl (Nat.le_of_ble_eq_true rfl) rfl ?_
  intro p e s m args below meth c Q A C hmn E9
  have iX5 : ∀ w ∈ u_ws RX5 TX5 5, w ∈ wsX5_area := fun _ h => List.mem_cons_of_mem _ (List.mem_append_left _ (List.mem_append_right _ h))
  have kX5_42 : Cond.fieldLink RX5 42 "FreeLand" "corners" "LFreeLand$Corners;" ∈ wsX5_area := (by decide +kernel)
  have kN195 : (RX5, 195, yX1_findAround) ∈ nw_M := (by decide +kernel)
  have kIX1 : Cond.initialized RX1 ∈ wsX5_area := (by decide +kernel)
  have kVX1_findAround : Cond.instanceMethod yX1_findAround ∈ wsX5_area := (by decide +kernel)
  have kSX1_findAround : Cond.selects RX1 yX1_findAround yX1_findAround ∈ wsX5_area := (by decide +kernel)
  have kN200 : (RX5, 200, yX1_crossSum) ∈ nw_M := (by decide +kernel)
  have kVX1_crossSum : Cond.instanceMethod yX1_crossSum ∈ wsX5_area := (by decide +kernel)
  have kSX1_crossSum : Cond.selects RX1 yX1_crossSum yX1_crossSum ∈ wsX5_area := (by decide +kernel)
  have kL193 : Cond.constantLong RX5 193 (-1001) ∈ wsX5_area := (by decide +kernel)
  refine fj_lv (lv' := [(0, .ref (ad 0)), (1, .int q)]) [0, 1] rfl ?_
  refine fj_iload_n C 1 dX5_area_0 rfl rfl ?_
  refine fj_callSw (As := [.int q]) (rest := []) C (c_X5_isQuarter l D ty t0 (fx_w ad ty fx_a0 fx_g0 fx_n0) q) (va_cwS 1 C.2.2.2.2.1 gX5_area_X5_isQuarter rfl rfl rfl (by decide +kernel) ⟨Nat.le_of_ble_eq_true rfl, Nat.le_of_ble_eq_true rfl⟩)  rfl (Nat.le_of_ble_eq_true rfl) dX5_area_1 ⟨Nat.zero_le _, Nat.zero_le _⟩ (fun v9 w9 hp9 => ?_)
  obtain ⟨rfl, rfl⟩ := hp9
  refine fj_st (st' := .int (if (0 ≤ q ∧ q ≤ 63) then 1 else 0) :: []) rfl ?_
  refine fj_ifb_ne (tgt := 11) C dX5_area_4 (by decide) (fun h4 => ?_) (fun h4 => ?_)
  · refine fj_aload_n C 0 dX5_area_11 rfl rfl ?_
    refine fj_get (Cn := RX5) (T := TX5) (N := 5) (ci := 5) (v := .ref (ad 38)) C iX5 0 (fx_at0 _ _ _ _ _) rfl 4 (by decide) kX5_42 rfl dX5_area_12 ?_
    refine fj_iload_n C 1 dX5_area_15 rfl rfl ?_
    refine fj_bipush (v := 8) C dX5_area_16 (by decide) ?_
    refine fj_irem C dX5_area_18 (by decide) ?_
    refine fj_iload_n C 1 dX5_area_19 rfl rfl ?_
    refine fj_bipush (v := 8) C dX5_area_20 (by decide) ?_
    refine fj_idiv C dX5_area_22 (by decide) ?_
    refine fj_callVNw (As := [.int (q - q / 8 * 8), .int (q / 8)]) (rest := []) C (c_X1_findAround l D ty t0 ad (q - q / 8 * 8) (q / 8) ((fx_q8 h4).1) ((fx_q8 h4).2)) ⟨va_cnB 2 C.2.2.2.2.1 gX5_area_X1_findAround_n195 rfl rfl rfl (C.2.2.2.2.2.2.2.1.1 _ kN195) (C.2.2.2.2.1 _ kIX1) (by decide +kernel) ⟨Nat.le_of_ble_eq_true rfl, Nat.le_of_ble_eq_true rfl⟩, C.2.2.2.2.1 _ kVX1_findAround, C.2.2.2.2.1 _ kSX1_findAround⟩ ⟨38, 1, _, _, fx_at38 _ _ _ _ _, rfl, rfl⟩ rfl (Nat.le_of_ble_eq_true rfl) dX5_area_23 ⟨Nat.zero_le _, Nat.zero_le _⟩ (fun v9 w9 hp9 => ?_)
    obtain ⟨rfl, rfl⟩ := hp9
    refine fj_st (st' := .int 1 :: []) rfl ?_
    refine fj_if_ne (tgt := 33) C dX5_area_26 (by decide) (fun _ => ?_) (fun h => absurd h (by decide))
    refine fj_aload_n C 0 dX5_area_33 rfl rfl ?_
    refine fj_get (Cn := RX5) (T := TX5) (N := 5) (ci := 5) (v := .ref (ad 38)) C iX5 0 (fx_at0 _ _ _ _ _) rfl 4 (by decide) kX5_42 rfl dX5_area_34 ?_
    refine fj_callVNw (As := []) (rest := []) C (c_X1_crossSum l D ty t0 ad (va_up (va_up fx_g0 42 (vp_updL (vp_updL (vp_updL (vp_updL (fx_g0 42) 0 (840 * fx_a0 40 (9 * ((q / 8) + 0) + ((q - q / 8 * 8) + 0)).toNatClampNeg).toInt64) 1 (840 * fx_a0 40 (9 * ((q / 8) + 0) + ((q - q / 8 * 8) + 1)).toNatClampNeg).toInt64) 2 (840 * fx_a0 40 (9 * ((q / 8) + 1) + ((q - q / 8 * 8) + 1)).toNatClampNeg).toInt64) 3 (840 * fx_a0 40 (9 * ((q / 8) + 1) + ((q - q / 8 * 8) + 0)).toNatClampNeg).toInt64)) 43 (vp_updL (vp_updL (vp_updL (vp_updL (fx_g0 43) 0 (840 * fx_a0 41 (9 * ((q / 8) + 0) + ((q - q / 8 * 8) + 0)).toNatClampNeg).toInt64) 1 (840 * fx_a0 41 (9 * ((q / 8) + 0) + ((q - q / 8 * 8) + 1)).toNatClampNeg).toInt64) 2 (840 * fx_a0 41 (9 * ((q / 8) + 1) + ((q - q / 8 * 8) + 1)).toNatClampNeg).toInt64) 3 (840 * fx_a0 41 (9 * ((q / 8) + 1) + ((q - q / 8 * 8) + 0)).toNatClampNeg).toInt64)) (va_up (va_up fx_n0 8 (840 * fx_a0 40 (9 * ((q / 8) + 1) + ((q - q / 8 * 8) + 0)).toNatClampNeg)) 9 (840 * fx_a0 41 (9 * ((q / 8) + 1) + ((q - q / 8 * 8) + 0)).toNatClampNeg))) ⟨va_cnB 0 C.2.2.2.2.1 gX5_area_X1_crossSum_n200 rfl rfl rfl (C.2.2.2.2.2.2.2.1.1 _ kN200) (C.2.2.2.2.1 _ kIX1) (by decide +kernel) ⟨Nat.le_of_ble_eq_true rfl, Nat.le_of_ble_eq_true rfl⟩, C.2.2.2.2.1 _ kVX1_crossSum, C.2.2.2.2.1 _ kSX1_crossSum⟩ ⟨38, 1, _, _, fx_at38 _ _ _ _ _, rfl, rfl⟩ rfl (Nat.le_of_ble_eq_true rfl) dX5_area_37 ⟨Nat.zero_le _, Nat.zero_le _⟩ (fun v9 w9 hp9 => ?_)
    obtain rfl := hp9
    refine fj_st (st' := .long (fx_cs (vp_updL (vp_updL (vp_updL (vp_updL (fx_g0 42) 0 (840 * fx_a0 40 (9 * ((q / 8) + 0) + ((q - q / 8 * 8) + 0)).toNatClampNeg).toInt64) 1 (840 * fx_a0 40 (9 * ((q / 8) + 0) + ((q - q / 8 * 8) + 1)).toNatClampNeg).toInt64) 2 (840 * fx_a0 40 (9 * ((q / 8) + 1) + ((q - q / 8 * 8) + 1)).toNatClampNeg).toInt64) 3 (840 * fx_a0 40 (9 * ((q / 8) + 1) + ((q - q / 8 * 8) + 0)).toNatClampNeg).toInt64) (vp_updL (vp_updL (vp_updL (vp_updL (fx_g0 43) 0 (840 * fx_a0 41 (9 * ((q / 8) + 0) + ((q - q / 8 * 8) + 0)).toNatClampNeg).toInt64) 1 (840 * fx_a0 41 (9 * ((q / 8) + 0) + ((q - q / 8 * 8) + 1)).toNatClampNeg).toInt64) 2 (840 * fx_a0 41 (9 * ((q / 8) + 1) + ((q - q / 8 * 8) + 1)).toNatClampNeg).toInt64) 3 (840 * fx_a0 41 (9 * ((q / 8) + 1) + ((q - q / 8 * 8) + 0)).toNatClampNeg).toInt64)) :: []) rfl ?_
    exact fj_lret C E9 dX5_area_40 (by rw [if_pos h4]; rfl)
  · refine fj_ldc2 (v := (-1001)) C dX5_area_7 kL193 ?_
    exact fj_lret C E9 dX5_area_10 (by rw [if_neg h4])
