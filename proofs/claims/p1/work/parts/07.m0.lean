set_option maxHeartbeats 4000000 in
set_option maxRecDepth 100000 in
theorem c_X6_in (l : Launch) (D : va_G) (ty : Nat → ClassId) (t0 : Nat) (W9 : va_W) (x : Int64) (lo : Int64) (hi : Int64)  : fc l yX6_in wsX6_in (fj_rm 0 0 0 0) D ty t0 [.long x, .long lo, .long hi] W9 0 0 (fun v w => v = some (.int (if (lo ≤ x ∧ x ≤ hi) then 1 else 0)) ∧ w = W9) := by
  refine fc_start (own := RX6) (cc := cX6_in) (maxL := 6) (ret := (some .boolean)) (by decide) rfl (Nat.le_of_ble_eq_true rfl) rfl ?_
  intro p e s m args below meth c Q A C hmn E9
  refine fj_lv (lv' := [(0, .long x), (2, .long lo), (4, .long hi)]) [0, 1, 2] rfl ?_
  refine fj_lload_n C 0 dX6_in_0 rfl rfl ?_
  refine fj_lload_n C 1 dX6_in_1 rfl rfl ?_
  refine fj_lcmp C dX6_in_2 ?_
  refine fj_if_lt (tgt := 17) C dX6_in_3 (by decide) (fun h3 => ?_) (fun h3 => ?_)
  · have t3 := (lg_cmp_lt _ _).mp h3
    refine fj_iconst (v := 0) C dX6_in_17 (by decide) ?_
    exact fj_zret C E9 rfl dX6_in_18 ⟨by (repeat' split) <;> first | rfl | (exfalso; grind) | grind, rfl⟩
  · have t3 : ¬ x < lo := fun q => h3 ((lg_cmp_lt _ _).mpr q)
    refine fj_lload_n C 0 dX6_in_6 rfl rfl ?_
    refine fj_lload C 2 dX6_in_7 rfl ?_
    refine fj_lcmp C dX6_in_9 ?_
    refine fj_if_gt (tgt := 17) C dX6_in_10 (by decide) (fun h10 => ?_) (fun h10 => ?_)
    · have t10 := (lg_cmp_gt _ _).mp h10
      refine fj_iconst (v := 0) C dX6_in_17 (by decide) ?_
      exact fj_zret C E9 rfl dX6_in_18 ⟨by (repeat' split) <;> first | rfl | (exfalso; grind) | grind, rfl⟩
    · have t10 : ¬ hi < x := fun q => h10 ((lg_cmp_gt _ _).mpr q)
      refine fj_iconst (v := 1) C dX6_in_13 (by decide) ?_
      refine fj_goto (tgt := 18) C dX6_in_14 (by decide) ?_
      exact fj_zret C E9 rfl dX6_in_18 ⟨by (repeat' split) <;> first | rfl | (exfalso; grind) | grind, rfl⟩

/-- of ints -/
theorem c_X6_inI (l : Launch) (D : va_G) (ty : Nat → ClassId) (t0 : Nat) (W9 : va_W) (x lo hi : Int32) (lo9 hi9 : Int64) (h1 : lo9 = lo.toInt64) (h2 : hi9 = hi.toInt64) : fc l yX6_in wsX6_in (fj_rm 0 0 0 0) D ty t0 [.long x.toInt64, .long lo9, .long hi9] W9 0 0 (fun v w => v = some (.int (if (lo ≤ x ∧ x ≤ hi) then 1 else 0)) ∧ w = W9) := by
  subst h1 h2
  have h := c_X6_in l D ty t0 W9 x.toInt64 lo.toInt64 hi.toInt64
  have e : (if (lo.toInt64 ≤ x.toInt64 ∧ x.toInt64 ≤ hi.toInt64) then (1 : Int32) else 0) = if (lo ≤ x ∧ x ≤ hi) then 1 else 0 := by
    simp only [Int64.le_iff_toInt_le, Int32.le_iff_toInt_le, Int32.toInt_toInt64]
  rw [e] at h
  exact h

set_option maxHeartbeats 4000000 in
set_option maxRecDepth 100000 in
theorem c_X6_isDay (l : Launch) (D : va_G) (ty : Nat → ClassId) (t0 : Nat) (W9 : va_W) (x : Int32)  : fc l yX6_isDay wsX6_isDay (fj_rm 1 25 0 0) D ty t0 [.int x] W9 0 0 (fun v w => v = some (.int (if (0 ≤ x ∧ x ≤ 20000) then 1 else 0)) ∧ w = W9) := by
  refine fc_start (own := RX6) (cc := cX6_isDay) (maxL := 1) (ret := (some .boolean)) (by decide) rfl (Nat.le_of_ble_eq_true rfl) rfl ?_
  intro p e s m args below meth c Q A C hmn E9
  have kL128 : Cond.constantLong RX6 128 (20000) ∈ wsX6_isDay := (by decide +kernel)
  refine fj_lv (lv' := [(0, .int x)]) [0] rfl ?_
  refine fj_iload_n C 0 dX6_isDay_0 rfl rfl ?_
  refine fj_i2l C dX6_isDay_1 ?_
  refine fj_lconst (v := 0) C dX6_isDay_2 (by decide) ?_
  refine fj_ldc2 (v := 20000) C dX6_isDay_3 kL128 ?_
  refine fj_callSw (As := [.long x.toInt64, .long 0, .long 20000]) (rest := []) C (c_X6_inI l D ty t0 W9 x 0 20000 0 20000 (by decide) (by decide)) (va_cwS 3 C.2.2.2.2.1 gX6_isDay_X6_in rfl rfl rfl (by decide +kernel) ⟨Nat.le_of_ble_eq_true rfl, Nat.le_of_ble_eq_true rfl⟩)  rfl (Nat.le_of_ble_eq_true rfl) dX6_isDay_6 ⟨Nat.zero_le _, Nat.zero_le _⟩ (fun v9 w9 hp9 => ?_)
  obtain ⟨rfl, hw9⟩ := hp9
  rw [hw9]
  refine fj_st (st' := .int (if (0 ≤ x ∧ x ≤ 20000) then 1 else 0) :: []) rfl ?_
  exact fj_zret C E9 (by split <;> rfl) dX6_isDay_9 ⟨rfl, rfl⟩

set_option maxHeartbeats 4000000 in
set_option maxRecDepth 100000 in
theorem c_X6_isQuarter (l : Launch) (D : va_G) (ty : Nat → ClassId) (t0 : Nat) (W9 : va_W) (x : Int32)  : fc l yX6_isQuarter wsX6_isQuarter (fj_rm 1 25 0 0) D ty t0 [.int x] W9 0 0 (fun v w => v = some (.int (if (0 ≤ x ∧ x ≤ 63) then 1 else 0)) ∧ w = W9) := by
  refine fc_start (own := RX6) (cc := cX6_isQuarter) (maxL := 1) (ret := (some .boolean)) (by decide) rfl (Nat.le_of_ble_eq_true rfl) rfl ?_
  intro p e s m args below meth c Q A C hmn E9
  have kL137 : Cond.constantLong RX6 137 (63) ∈ wsX6_isQuarter := (by decide +kernel)
  refine fj_lv (lv' := [(0, .int x)]) [0] rfl ?_
  refine fj_iload_n C 0 dX6_isQuarter_0 rfl rfl ?_
  refine fj_i2l C dX6_isQuarter_1 ?_
  refine fj_lconst (v := 0) C dX6_isQuarter_2 (by decide) ?_
  refine fj_ldc2 (v := 63) C dX6_isQuarter_3 kL137 ?_
  refine fj_callSw (As := [.long x.toInt64, .long 0, .long 63]) (rest := []) C (c_X6_inI l D ty t0 W9 x 0 63 0 63 (by decide) (by decide)) (va_cwS 3 C.2.2.2.2.1 gX6_isQuarter_X6_in rfl rfl rfl (by decide +kernel) ⟨Nat.le_of_ble_eq_true rfl, Nat.le_of_ble_eq_true rfl⟩)  rfl (Nat.le_of_ble_eq_true rfl) dX6_isQuarter_6 ⟨Nat.zero_le _, Nat.zero_le _⟩ (fun v9 w9 hp9 => ?_)
  obtain ⟨rfl, hw9⟩ := hp9
  rw [hw9]
  refine fj_st (st' := .int (if (0 ≤ x ∧ x ≤ 63) then 1 else 0) :: []) rfl ?_
  exact fj_zret C E9 (by split <;> rfl) dX6_isQuarter_9 ⟨rfl, rfl⟩

set_option maxHeartbeats 4000000 in
set_option maxRecDepth 100000 in
theorem c_X6_isCorner (l : Launch) (D : va_G) (ty : Nat → ClassId) (t0 : Nat) (W9 : va_W) (x : Int32) (y : Int32)  : fc l yX6_isCorner wsX6_isCorner (fj_rm 1 25 0 0) D ty t0 [.int x, .int y] W9 0 0 (fun v w => v = some (.int (if (0 ≤ x ∧ x ≤ 8) ∧ (0 ≤ y ∧ y ≤ 8) then 1 else 0)) ∧ w = W9) := by
  refine fc_start (own := RX6) (cc := cX6_isCorner) (maxL := 2) (ret := (some .boolean)) (by decide) rfl (Nat.le_of_ble_eq_true rfl) rfl ?_
  intro p e s m args below meth c Q A C hmn E9
  have kL143 : Cond.constantLong RX6 143 (8) ∈ wsX6_isCorner := (by decide +kernel)
  refine fj_lv (lv' := [(0, .int x), (1, .int y)]) [0, 1] rfl ?_
  refine fj_iload_n C 0 dX6_isCorner_0 rfl rfl ?_
  refine fj_i2l C dX6_isCorner_1 ?_
  refine fj_lconst (v := 0) C dX6_isCorner_2 (by decide) ?_
  refine fj_ldc2 (v := 8) C dX6_isCorner_3 kL143 ?_
  refine fj_callSw (As := [.long x.toInt64, .long 0, .long 8]) (rest := []) C (c_X6_inI l D ty t0 W9 x 0 8 0 8 (by decide) (by decide)) (va_cwS 3 C.2.2.2.2.1 gX6_isCorner_X6_in rfl rfl rfl (by decide +kernel) ⟨Nat.le_of_ble_eq_true rfl, Nat.le_of_ble_eq_true rfl⟩)  rfl (Nat.le_of_ble_eq_true rfl) dX6_isCorner_6 ⟨Nat.zero_le _, Nat.zero_le _⟩ (fun v9 w9 hp9 => ?_)
  obtain ⟨rfl, hw9⟩ := hp9
  rw [hw9]
  refine fj_st (st' := .int (if (0 ≤ x ∧ x ≤ 8) then 1 else 0) :: []) rfl ?_
  refine fj_ifb_eq (tgt := 28) C dX6_isCorner_9 (by decide) (fun h9 => ?_) (fun h9 => ?_)
  · refine fj_iconst (v := 0) C dX6_isCorner_28 (by decide) ?_
    exact fj_zret C E9 rfl dX6_isCorner_29 ⟨by (repeat' split) <;> first | rfl | (exfalso; grind) | grind, rfl⟩
  · refine fj_iload_n C 1 dX6_isCorner_12 rfl rfl ?_
    refine fj_i2l C dX6_isCorner_13 ?_
    refine fj_lconst (v := 0) C dX6_isCorner_14 (by decide) ?_
    refine fj_ldc2 (v := 8) C dX6_isCorner_15 kL143 ?_
    refine fj_callSw (As := [.long y.toInt64, .long 0, .long 8]) (rest := []) C (c_X6_inI l D ty t0 W9 y 0 8 0 8 (by decide) (by decide)) (va_cwS 3 C.2.2.2.2.1 gX6_isCorner_X6_in rfl rfl rfl (by decide +kernel) ⟨Nat.le_of_ble_eq_true rfl, Nat.le_of_ble_eq_true rfl⟩)  rfl (Nat.le_of_ble_eq_true rfl) dX6_isCorner_18 ⟨Nat.zero_le _, Nat.zero_le _⟩ (fun v9 w9 hp9 => ?_)
    obtain ⟨rfl, hw9⟩ := hp9
    rw [hw9]
    refine fj_st (st' := .int (if (0 ≤ y ∧ y ≤ 8) then 1 else 0) :: []) rfl ?_
    refine fj_ifb_eq (tgt := 28) C dX6_isCorner_21 (by decide) (fun h21 => ?_) (fun h21 => ?_)
    · refine fj_iconst (v := 0) C dX6_isCorner_28 (by decide) ?_
      exact fj_zret C E9 rfl dX6_isCorner_29 ⟨by (repeat' split) <;> first | rfl | (exfalso; grind) | grind, rfl⟩
    · refine fj_iconst (v := 1) C dX6_isCorner_24 (by decide) ?_
      refine fj_goto (tgt := 29) C dX6_isCorner_25 (by decide) ?_
      exact fj_zret C E9 rfl dX6_isCorner_29 ⟨by (repeat' split) <;> first | rfl | (exfalso; grind) | grind, rfl⟩

set_option maxHeartbeats 4000000 in
set_option maxRecDepth 100000 in
theorem c_X6_isOdd (l : Launch) (D : va_G) (ty : Nat → ClassId) (t0 : Nat) (W9 : va_W) (q : Int32)  : fc l yX6_isOdd wsX6_isOdd (fj_rm 0 0 0 0) D ty t0 [.int q] W9 0 0 (fun v w => v = some (.int (if ((q - q / 8 * 8) / 2 + q / 8 / 2 - ((q - q / 8 * 8) / 2 + q / 8 / 2) / 2 * 2 = 1) then 1 else 0)) ∧ w = W9) := by
  refine fc_start (own := RX6) (cc := cX6_isOdd) (maxL := 1) (ret := (some .boolean)) (by decide) rfl (Nat.le_of_ble_eq_true rfl) rfl ?_
  intro p e s m args below meth c Q A C hmn E9
  refine fj_lv (lv' := [(0, .int q)]) [0] rfl ?_
  refine fj_iload_n C 0 dX6_isOdd_0 rfl rfl ?_
  refine fj_bipush (v := 8) C dX6_isOdd_1 (by decide) ?_
  refine fj_irem C dX6_isOdd_3 (by decide) ?_
  refine fj_iconst (v := 2) C dX6_isOdd_4 (by decide) ?_
  refine fj_idiv C dX6_isOdd_5 (by decide) ?_
  refine fj_iload_n C 0 dX6_isOdd_6 rfl rfl ?_
  refine fj_bipush (v := 8) C dX6_isOdd_7 (by decide) ?_
  refine fj_idiv C dX6_isOdd_9 (by decide) ?_
  refine fj_iconst (v := 2) C dX6_isOdd_10 (by decide) ?_
  refine fj_idiv C dX6_isOdd_11 (by decide) ?_
  refine fj_iadd C dX6_isOdd_12 ?_
  refine fj_iconst (v := 2) C dX6_isOdd_13 (by decide) ?_
  refine fj_irem C dX6_isOdd_14 (by decide) ?_
  refine fj_iconst (v := 1) C dX6_isOdd_15 (by decide) ?_
  refine fj_icmp_ne (tgt := 23) C dX6_isOdd_16 (by decide) (fun h16 => ?_) (fun h16 => ?_)
  · refine fj_iconst (v := 0) C dX6_isOdd_23 (by decide) ?_
    exact fj_zret C E9 rfl dX6_isOdd_24 ⟨by (repeat' split) <;> first | rfl | (exfalso; grind) | grind, rfl⟩
  · refine fj_iconst (v := 1) C dX6_isOdd_19 (by decide) ?_
    refine fj_goto (tgt := 24) C dX6_isOdd_20 (by decide) ?_
    exact fj_zret C E9 rfl dX6_isOdd_24 ⟨by (repeat' split) <;> first | rfl | (exfalso; grind) | grind, rfl⟩

set_option maxHeartbeats 4000000 in
set_option maxRecDepth 100000 in
theorem c_X6_isPerson (l : Launch) (D : va_G) (ty : Nat → ClassId) (t0 : Nat) (bd : Nat → Nat) (x : Int32)  : fc l yX6_isPerson wsX6_isPerson (fj_rm 1 25 0 0) D ty t0 [.ref (bd 0), .int x] (fm_w bd ty fm_a0 fm_g0 fm_n0) 0 0 (fun v w => v = some (.int 0) ∧ w = fm_w bd ty fm_a0 fm_g0 fm_n0) := by
  refine fc_start (own := RX6) (cc := cX6_isPerson) (maxL := 2) (ret := (some .boolean)) (by decide) rfl (Nat.le_of_ble_eq_true rfl) rfl ?_
  intro p e s m args below meth c Q A C hmn E9
  have iX6 : ∀ w ∈ u_ws RX6 TX6 44, w ∈ wsX6_isPerson := fun _ h => List.mem_cons_of_mem _ (List.mem_append_right _ h)
  have kX6_134 : Cond.fieldLink RX6 134 "FreeLandModel" "persons" "I" ∈ wsX6_isPerson := (by decide +kernel)
  refine fj_lv (lv' := [(0, .ref (bd 0)), (1, .int x)]) [0, 1] rfl ?_
  refine fj_iload_n C 1 dX6_isPerson_0 rfl rfl ?_
  refine fj_i2l C dX6_isPerson_1 ?_
  refine fj_lconst (v := 0) C dX6_isPerson_2 (by decide) ?_
  refine fj_aload_n C 0 dX6_isPerson_3 rfl rfl ?_
  refine fj_get (Cn := RX6) (T := TX6) (N := 44) (ci := 6) (v := .int 0) C iX6 0 (fm_at0 _ _ _ _ _) rfl 0 (by decide) kX6_134 rfl dX6_isPerson_4 ?_
  refine fj_iconst (v := 1) C dX6_isPerson_7 (by decide) ?_
  refine fj_isub C dX6_isPerson_8 ?_
  refine fj_at (y := (-1)) (by decide) ?_
  refine fj_i2l C dX6_isPerson_9 ?_
  refine fj_callSw (As := [.long x.toInt64, .long 0, .long ((-1 : Int32).toInt64)]) (rest := []) C (c_X6_inI l D ty t0 (fm_w bd ty fm_a0 fm_g0 fm_n0) x 0 (-1 : Int32) 0 ((-1 : Int32).toInt64) (by decide) rfl) (va_cwS 3 C.2.2.2.2.1 gX6_isPerson_X6_in rfl rfl rfl (by decide +kernel) ⟨Nat.le_of_ble_eq_true rfl, Nat.le_of_ble_eq_true rfl⟩)  rfl (Nat.le_of_ble_eq_true rfl) dX6_isPerson_10 ⟨Nat.zero_le _, Nat.zero_le _⟩ (fun v9 w9 hp9 => ?_)
  obtain ⟨rfl, rfl⟩ := hp9
  refine fj_st (st' := .int (if (0 ≤ x ∧ x ≤ (-1 : Int32)) then 1 else 0) :: []) rfl ?_
  exact fj_zret C E9 (by split <;> rfl) dX6_isPerson_13 ⟨by rw [if_neg]; intro q; grind, rfl⟩

set_option maxHeartbeats 4000000 in
set_option maxRecDepth 100000 in
theorem c_X6_isLine (l : Launch) (D : va_G) (ty : Nat → ClassId) (t0 : Nat) (bd : Nat → Nat) (x : Int32)  : fc l yX6_isLine wsX6_isLine (fj_rm 1 25 0 0) D ty t0 [.ref (bd 0), .int x] (fm_w bd ty fm_a0 fm_g0 fm_n0) 0 0 (fun v w => v = some (.int 0) ∧ w = fm_w bd ty fm_a0 fm_g0 fm_n0) := by
  refine fc_start (own := RX6) (cc := cX6_isLine) (maxL := 2) (ret := (some .boolean)) (by decide) rfl (Nat.le_of_ble_eq_true rfl) rfl ?_
  intro p e s m args below meth c Q A C hmn E9
  have iX6 : ∀ w ∈ u_ws RX6 TX6 44, w ∈ wsX6_isLine := fun _ h => List.mem_cons_of_mem _ (List.mem_append_right _ h)
  have kX6_197 : Cond.fieldLink RX6 197 "FreeLandModel" "lines" "I" ∈ wsX6_isLine := (by decide +kernel)
  refine fj_lv (lv' := [(0, .ref (bd 0)), (1, .int x)]) [0, 1] rfl ?_
  refine fj_iload_n C 1 dX6_isLine_0 rfl rfl ?_
  refine fj_i2l C dX6_isLine_1 ?_
  refine fj_lconst (v := 0) C dX6_isLine_2 (by decide) ?_
  refine fj_aload_n C 0 dX6_isLine_3 rfl rfl ?_
  refine fj_get (Cn := RX6) (T := TX6) (N := 44) (ci := 6) (v := .int 0) C iX6 0 (fm_at0 _ _ _ _ _) rfl 12 (by decide) kX6_197 rfl dX6_isLine_4 ?_
  refine fj_iconst (v := 1) C dX6_isLine_7 (by decide) ?_
  refine fj_isub C dX6_isLine_8 ?_
  refine fj_at (y := (-1)) (by decide) ?_
  refine fj_i2l C dX6_isLine_9 ?_
  refine fj_callSw (As := [.long x.toInt64, .long 0, .long ((-1 : Int32).toInt64)]) (rest := []) C (c_X6_inI l D ty t0 (fm_w bd ty fm_a0 fm_g0 fm_n0) x 0 (-1 : Int32) 0 ((-1 : Int32).toInt64) (by decide) rfl) (va_cwS 3 C.2.2.2.2.1 gX6_isLine_X6_in rfl rfl rfl (by decide +kernel) ⟨Nat.le_of_ble_eq_true rfl, Nat.le_of_ble_eq_true rfl⟩)  rfl (Nat.le_of_ble_eq_true rfl) dX6_isLine_10 ⟨Nat.zero_le _, Nat.zero_le _⟩ (fun v9 w9 hp9 => ?_)
  obtain ⟨rfl, rfl⟩ := hp9
  refine fj_st (st' := .int (if (0 ≤ x ∧ x ≤ (-1 : Int32)) then 1 else 0) :: []) rfl ?_
  exact fj_zret C E9 (by split <;> rfl) dX6_isLine_13 ⟨by rw [if_neg]; intro q; grind, rfl⟩

set_option maxHeartbeats 4000000 in
set_option maxRecDepth 100000 in
theorem c_X6_isKnown (l : Launch) (D : va_G) (ty : Nat → ClassId) (t0 : Nat) (bd : Nat → Nat) (x : Int32)  : fc l yX6_isKnown wsX6_isKnown (fj_rm 1 25 0 0) D ty t0 [.ref (bd 0), .int x] (fm_w bd ty fm_a0 fm_g0 fm_n0) 0 0 (fun v w => v = some (.int (if (-1 ≤ x ∧ x ≤ 0) then 1 else 0)) ∧ w = fm_w bd ty fm_a0 fm_g0 fm_n0) := by
  refine fc_start (own := RX6) (cc := cX6_isKnown) (maxL := 2) (ret := (some .boolean)) (by decide) rfl (Nat.le_of_ble_eq_true rfl) rfl ?_
  intro p e s m args below meth c Q A C hmn E9
  have kL262 : Cond.constantLong RX6 262 (-1) ∈ wsX6_isKnown := (by decide +kernel)
  have iX6 : ∀ w ∈ u_ws RX6 TX6 44, w ∈ wsX6_isKnown := fun _ h => List.mem_cons_of_mem _ (List.mem_append_right _ h)
  have kX6_197 : Cond.fieldLink RX6 197 "FreeLandModel" "lines" "I" ∈ wsX6_isKnown := (by decide +kernel)
  refine fj_lv (lv' := [(0, .ref (bd 0)), (1, .int x)]) [0, 1] rfl ?_
  refine fj_iload_n C 1 dX6_isKnown_0 rfl rfl ?_
  refine fj_i2l C dX6_isKnown_1 ?_
  refine fj_ldc2 (v := (-1)) C dX6_isKnown_2 kL262 ?_
  refine fj_aload_n C 0 dX6_isKnown_5 rfl rfl ?_
  refine fj_get (Cn := RX6) (T := TX6) (N := 44) (ci := 6) (v := .int 0) C iX6 0 (fm_at0 _ _ _ _ _) rfl 12 (by decide) kX6_197 rfl dX6_isKnown_6 ?_
  refine fj_i2l C dX6_isKnown_9 ?_
  refine fj_callSw (As := [.long x.toInt64, .long (-1), .long ((0 : Int32).toInt64)]) (rest := []) C (c_X6_inI l D ty t0 (fm_w bd ty fm_a0 fm_g0 fm_n0) x (-1) (0 : Int32) (-1) ((0 : Int32).toInt64) (by decide) rfl) (va_cwS 3 C.2.2.2.2.1 gX6_isKnown_X6_in rfl rfl rfl (by decide +kernel) ⟨Nat.le_of_ble_eq_true rfl, Nat.le_of_ble_eq_true rfl⟩)  rfl (Nat.le_of_ble_eq_true rfl) dX6_isKnown_10 ⟨Nat.zero_le _, Nat.zero_le _⟩ (fun v9 w9 hp9 => ?_)
  obtain ⟨rfl, rfl⟩ := hp9
  refine fj_st (st' := .int (if ((-1) ≤ x ∧ x ≤ (0 : Int32)) then 1 else 0) :: []) rfl ?_
  exact fj_zret C E9 (by split <;> rfl) dX6_isKnown_13 ⟨rfl, rfl⟩

set_option maxHeartbeats 4000000 in
set_option maxRecDepth 100000 in
theorem c_X6_first (l : Launch) (D : va_G) (ty : Nat → ClassId) (t0 : Nat) (bd : Nat → Nat) (x : Int32)  : fc l yX6_first wsX6_first (fj_rm 0 0 0 0) D ty t0 [.ref (bd 0), .int x] (fm_w bd ty fm_a0 fm_g0 fm_n0) 0 0 (fun v w => v = some (.int (if x < 0 then 0 else x)) ∧ w = fm_w bd ty fm_a0 fm_g0 fm_n0) := by
  refine fc_start (own := RX6) (cc := cX6_first) (maxL := 2) (ret := (some .int)) (by decide) rfl (Nat.le_of_ble_eq_true rfl) rfl ?_
  intro p e s m args below meth c Q A C hmn E9
  have iX6 : ∀ w ∈ u_ws RX6 TX6 44, w ∈ wsX6_first := fun _ h => List.mem_cons_of_mem _ (List.mem_append_right _ h)
  have kX6_197 : Cond.fieldLink RX6 197 "FreeLandModel" "lines" "I" ∈ wsX6_first := (by decide +kernel)
  refine fj_lv (lv' := [(0, .ref (bd 0)), (1, .int x)]) [0, 1] rfl ?_
  refine fj_iload_n C 1 dX6_first_0 rfl rfl ?_
  refine fj_if_ge (tgt := 11) C dX6_first_1 (by decide) (fun h1 => ?_) (fun h1 => ?_)
  · refine fj_iload_n C 1 dX6_first_11 rfl rfl ?_
    exact fj_iret C E9 dX6_first_12 ⟨by (repeat' split) <;> first | rfl | (exfalso; grind) | grind, rfl⟩
  · refine fj_aload_n C 0 dX6_first_4 rfl rfl ?_
    refine fj_get (Cn := RX6) (T := TX6) (N := 44) (ci := 6) (v := .int 0) C iX6 0 (fm_at0 _ _ _ _ _) rfl 12 (by decide) kX6_197 rfl dX6_first_5 ?_
    refine fj_goto (tgt := 12) C dX6_first_8 (by decide) ?_
    exact fj_iret C E9 dX6_first_12 ⟨by (repeat' split) <;> first | rfl | (exfalso; grind) | grind, rfl⟩

set_option maxHeartbeats 4000000 in
set_option maxRecDepth 100000 in
theorem c_X6_person (l : Launch) (D : va_G) (ty : Nat → ClassId) (t0 : Nat) (bd : Nat → Nat) (x : Int32) (y : Int32)  : fc l yX6_person wsX6_person (fj_rm 1 25 0 0) D ty t0 [.ref (bd 0), .int x, .int y] (fm_w bd ty fm_a0 fm_g0 fm_n0) 0 0 (fun v w => v = some (.int (if (-20000 ≤ x ∧ x ≤ 20000) ∧ (-20000 ≤ y ∧ y ≤ 20001) then 0 else -1002))) := by
  refine fc_start (own := RX6) (cc := cX6_person) (maxL := 3) (ret := (some .int)) (by decide) rfl (Nat.le_of_ble_eq_true rfl) rfl ?_
  intro p e s m args below meth c Q A C hmn E9
  have kL139 : Cond.constantLong RX6 139 (-20000) ∈ wsX6_person := (by decide +kernel)
  have kL128 : Cond.constantLong RX6 128 (20000) ∈ wsX6_person := (by decide +kernel)
  have kL141 : Cond.constantLong RX6 141 (20001) ∈ wsX6_person := (by decide +kernel)
  have iX6 : ∀ w ∈ u_ws RX6 TX6 44, w ∈ wsX6_person := fun _ h => List.mem_cons_of_mem _ (List.mem_append_right _ h)
  have kX6_134 : Cond.fieldLink RX6 134 "FreeLandModel" "persons" "I" ∈ wsX6_person := (by decide +kernel)
  have kX6_7 : Cond.fieldLink RX6 7 "FreeLandModel" "births" "[I" ∈ wsX6_person := (by decide +kernel)
  have kX6_13 : Cond.fieldLink RX6 13 "FreeLandModel" "citizens" "[I" ∈ wsX6_person := (by decide +kernel)
  refine fj_lv (lv' := [(0, .ref (bd 0)), (1, .int x), (2, .int y)]) [0, 1, 2] rfl ?_
  refine fj_iload_n C 1 dX6_person_0 rfl rfl ?_
  refine fj_i2l C dX6_person_1 ?_
  refine fj_ldc2 (v := (-20000)) C dX6_person_2 kL139 ?_
  refine fj_ldc2 (v := 20000) C dX6_person_5 kL128 ?_
  refine fj_callSw (As := [.long x.toInt64, .long (-20000), .long 20000]) (rest := []) C (c_X6_inI l D ty t0 (fm_w bd ty fm_a0 fm_g0 fm_n0) x (-20000) 20000 (-20000) 20000 (by decide) (by decide)) (va_cwS 3 C.2.2.2.2.1 gX6_person_X6_in rfl rfl rfl (by decide +kernel) ⟨Nat.le_of_ble_eq_true rfl, Nat.le_of_ble_eq_true rfl⟩)  rfl (Nat.le_of_ble_eq_true rfl) dX6_person_8 ⟨Nat.zero_le _, Nat.zero_le _⟩ (fun v9 w9 hp9 => ?_)
  obtain ⟨rfl, rfl⟩ := hp9
  refine fj_st (st' := .int (if ((-20000) ≤ x ∧ x ≤ 20000) then 1 else 0) :: []) rfl ?_
  refine fj_ifb_eq (tgt := 28) C dX6_person_11 (by decide) (fun h11 => ?_) (fun h11 => ?_)
  · refine fj_sipush (v := (-1002)) C dX6_person_28 (by decide) ?_
    exact fj_iret C E9 dX6_person_31 (by (repeat' split) <;> first | rfl | (exfalso; grind) | grind)
  · refine fj_iload_n C 2 dX6_person_14 rfl rfl ?_
    refine fj_i2l C dX6_person_15 ?_
    refine fj_ldc2 (v := (-20000)) C dX6_person_16 kL139 ?_
    refine fj_ldc2 (v := 20001) C dX6_person_19 kL141 ?_
    refine fj_callSw (As := [.long y.toInt64, .long (-20000), .long 20001]) (rest := []) C (c_X6_inI l D ty t0 (fm_w bd ty fm_a0 fm_g0 fm_n0) y (-20000) 20001 (-20000) 20001 (by decide) (by decide)) (va_cwS 3 C.2.2.2.2.1 gX6_person_X6_in rfl rfl rfl (by decide +kernel) ⟨Nat.le_of_ble_eq_true rfl, Nat.le_of_ble_eq_true rfl⟩)  rfl (Nat.le_of_ble_eq_true rfl) dX6_person_22 ⟨Nat.zero_le _, Nat.zero_le _⟩ (fun v9 w9 hp9 => ?_)
    obtain ⟨rfl, rfl⟩ := hp9
    refine fj_st (st' := .int (if ((-20000) ≤ y ∧ y ≤ 20001) then 1 else 0) :: []) rfl ?_
    refine fj_ifb_ne (tgt := 32) C dX6_person_25 (by decide) (fun h25 => ?_) (fun h25 => ?_)
    · refine fj_aload_n C 0 dX6_person_32 rfl rfl ?_
      refine fj_get (Cn := RX6) (T := TX6) (N := 44) (ci := 6) (v := .int 0) C iX6 0 (fm_at0 _ _ _ _ _) rfl 0 (by decide) kX6_134 rfl dX6_person_33 ?_
      refine fj_bipush (v := 12) C dX6_person_36 (by decide) ?_
      refine fj_icmp_ne (tgt := 45) C dX6_person_38 (by decide) (fun _ => ?_) (fun h => absurd h (by decide))
      refine fj_aload_n C 0 dX6_person_45 rfl rfl ?_
      refine fj_get (Cn := RX6) (T := TX6) (N := 44) (ci := 6) (v := .ref (bd 1)) C iX6 0 (fm_at0 _ _ _ _ _) rfl 1 (by decide) kX6_7 rfl dX6_person_46 ?_
      refine fj_aload_n C 0 dX6_person_49 rfl rfl ?_
      refine fj_get (Cn := RX6) (T := TX6) (N := 44) (ci := 6) (v := .int 0) C iX6 0 (fm_at0 _ _ _ _ _) rfl 0 (by decide) kX6_134 rfl dX6_person_50 ?_
      refine fj_iload_n C 1 dX6_person_53 rfl rfl ?_
      refine fj_iast (f := (fm_a0 1)) C 1 (fm_at1 _ _ _ _ _) (vp_in_iff.mpr ⟨by decide, by decide⟩) dX6_person_54 (fm_st1 _ _ _ _ _ _) ?_
      refine fj_aload_n C 0 dX6_person_55 rfl rfl ?_
      refine fj_get (Cn := RX6) (T := TX6) (N := 44) (ci := 6) (v := .ref (bd 2)) C iX6 0 (fm_at0 _ _ _ _ _) rfl 2 (by decide) kX6_13 rfl dX6_person_56 ?_
      refine fj_aload_n C 0 dX6_person_59 rfl rfl ?_
      refine fj_get (Cn := RX6) (T := TX6) (N := 44) (ci := 6) (v := .int 0) C iX6 0 (fm_at0 _ _ _ _ _) rfl 0 (by decide) kX6_134 rfl dX6_person_60 ?_
      refine fj_iload_n C 2 dX6_person_63 rfl rfl ?_
      refine fj_iast (f := (fm_a0 2)) C 2 (fm_at2 _ _ _ _ _) (vp_in_iff.mpr ⟨by decide, by decide⟩) dX6_person_64 (fm_st2 _ _ _ _ _ _) ?_
      refine fj_aload_n C 0 dX6_person_65 rfl rfl ?_
      refine fj_dup C dX6_person_66 rfl ?_
      refine fj_get (Cn := RX6) (T := TX6) (N := 44) (ci := 6) (v := .int 0) C iX6 0 (fm_at0 _ _ _ _ _) rfl 0 (by decide) kX6_134 rfl dX6_person_67 ?_
      refine fj_iconst (v := 1) C dX6_person_70 (by decide) ?_
      refine fj_iadd C dX6_person_71 ?_
      refine fj_at (y := 1) (by decide) ?_
      refine fj_put (Cn := RX6) (T := TX6) (N := 44) (ci := 6) C iX6 tyX6 tyX6_ok nmX6 0 (fm_at0 _ _ _ _ _) rfl 0 (by decide) kX6_134 rfl rfl rfl (Nat.le_of_ble_eq_true rfl) dX6_person_72 (fm_si0_0 _ _ _ _ _ _) ?_
      refine fj_aload_n C 0 dX6_person_75 rfl rfl ?_
      refine fj_get (Cn := RX6) (T := TX6) (N := 44) (ci := 6) (v := .int 1) C iX6 0 (fm_at0 _ _ _ _ _) rfl 0 (by decide) kX6_134 rfl dX6_person_76 ?_
      refine fj_iconst (v := 1) C dX6_person_79 (by decide) ?_
      refine fj_isub C dX6_person_80 ?_
      refine fj_at (y := 0) (by decide) ?_
      exact fj_iret C E9 dX6_person_81 (by (repeat' split) <;> first | rfl | (exfalso; grind) | grind)
    · refine fj_sipush (v := (-1002)) C dX6_person_28 (by decide) ?_
      exact fj_iret C E9 dX6_person_31 (by (repeat' split) <;> first | rfl | (exfalso; grind) | grind)

set_option maxHeartbeats 4000000 in
set_option maxRecDepth 100000 in
theorem c_X6_map (l : Launch) (D : va_G) (ty : Nat → ClassId) (t0 : Nat) (bd : Nat → Nat) (x : Int32)  : fc l yX6_map wsX6_map (fj_rm 1 25 0 0) D ty t0 [.ref (bd 0), .int x] (fm_w bd ty fm_a0 fm_g0 fm_n0) 0 0 (fun v w => v = some (.int (if (0 ≤ x ∧ x ≤ 20001) then 20001 else -1002))) := by
  refine fc_start (own := RX6) (cc := cX6_map) (maxL := 3) (ret := (some .int)) (by decide) rfl (Nat.le_of_ble_eq_true rfl) rfl ?_
  intro p e s m args below meth c Q A C hmn E9
  have kL141 : Cond.constantLong RX6 141 (20001) ∈ wsX6_map := (by decide +kernel)
  have iX6 : ∀ w ∈ u_ws RX6 TX6 44, w ∈ wsX6_map := fun _ h => List.mem_cons_of_mem _ (List.mem_append_right _ h)
  have kX6_16 : Cond.fieldLink RX6 16 "FreeLandModel" "mapDay" "I" ∈ wsX6_map := (by decide +kernel)
  refine fj_lv (lv' := [(0, .ref (bd 0)), (1, .int x)]) [0, 1] rfl ?_
  refine fj_iload_n C 1 dX6_map_0 rfl rfl ?_
  refine fj_i2l C dX6_map_1 ?_
  refine fj_lconst (v := 0) C dX6_map_2 (by decide) ?_
  refine fj_ldc2 (v := 20001) C dX6_map_3 kL141 ?_
  refine fj_callSw (As := [.long x.toInt64, .long 0, .long 20001]) (rest := []) C (c_X6_inI l D ty t0 (fm_w bd ty fm_a0 fm_g0 fm_n0) x 0 20001 0 20001 (by decide) (by decide)) (va_cwS 3 C.2.2.2.2.1 gX6_map_X6_in rfl rfl rfl (by decide +kernel) ⟨Nat.le_of_ble_eq_true rfl, Nat.le_of_ble_eq_true rfl⟩)  rfl (Nat.le_of_ble_eq_true rfl) dX6_map_6 ⟨Nat.zero_le _, Nat.zero_le _⟩ (fun v9 w9 hp9 => ?_)
  obtain ⟨rfl, rfl⟩ := hp9
  refine fj_st (st' := .int (if (0 ≤ x ∧ x ≤ 20001) then 1 else 0) :: []) rfl ?_
  refine fj_ifb_ne (tgt := 16) C dX6_map_9 (by decide) (fun h9 => ?_) (fun h9 => ?_)
  · refine fj_aload_n C 0 dX6_map_16 rfl rfl ?_
    refine fj_get (Cn := RX6) (T := TX6) (N := 44) (ci := 6) (v := .int 20001) C iX6 0 (fm_at0 _ _ _ _ _) rfl 3 (by decide) kX6_16 rfl dX6_map_17 ?_
    refine fj_istore_n (lv' := [(2, .int 20001), (0, .ref (bd 0)), (1, .int x)]) C dX6_map_20 rfl (by decide) rfl ?_
    refine fj_aload_n C 1 dX6_map_21 rfl rfl ?_
    refine fj_iload_n C 2 dX6_map_22 rfl rfl ?_
    refine fj_put (Cn := RX6) (T := TX6) (N := 44) (ci := 6) C iX6 tyX6 tyX6_ok nmX6 0 (fm_at0 _ _ _ _ _) rfl 3 (by decide) kX6_16 rfl rfl rfl (Nat.le_of_ble_eq_true rfl) dX6_map_23 (fm_si0_3 _ _ _ _ _ _) ?_
    refine fj_iload_n C 0 dX6_map_26 rfl rfl ?_
    exact fj_iret C E9 dX6_map_27 (by (repeat' split) <;> first | rfl | (exfalso; grind) | grind)
  · refine fj_sipush (v := (-1002)) C dX6_map_12 (by decide) ?_
    exact fj_iret C E9 dX6_map_15 (by (repeat' split) <;> first | rfl | (exfalso; grind) | grind)

set_option maxHeartbeats 4000000 in
set_option maxRecDepth 100000 in
theorem c_X6_place (l : Launch) (D : va_G) (ty : Nat → ClassId) (t0 : Nat) (bd : Nat → Nat)   : fc l yX6_place wsX6_place (fj_rm 0 0 0 0) D ty t0 [.ref (bd 0)] (fm_w bd ty fm_a0 fm_g0 fm_n0) 0 0 (fun v w => v = some (.int (-1))) := by
  refine fc_start (own := RX6) (cc := cX6_place) (maxL := 1) (ret := (some .int)) (by decide) rfl (Nat.le_of_ble_eq_true rfl) rfl ?_
  intro p e s m args below meth c Q A C hmn E9
  have iX6 : ∀ w ∈ u_ws RX6 TX6 44, w ∈ wsX6_place := fun _ h => List.mem_cons_of_mem _ (List.mem_append_right _ h)
  have kX6_23 : Cond.fieldLink RX6 23 "FreeLandModel" "faultPlace" "I" ∈ wsX6_place := (by decide +kernel)
  refine fj_lv (lv' := [(0, .ref (bd 0))]) [0] rfl ?_
  refine fj_aload_n C 0 dX6_place_0 rfl rfl ?_
  refine fj_get (Cn := RX6) (T := TX6) (N := 44) (ci := 6) (v := .int (-1)) C iX6 0 (fm_at0 _ _ _ _ _) rfl 6 (by decide) kX6_23 rfl dX6_place_1 ?_
  exact fj_iret C E9 dX6_place_4 rfl

set_option maxHeartbeats 4000000 in
set_option maxRecDepth 100000 in
theorem c_X6_strike (l : Launch) (D : va_G) (ty : Nat → ClassId) (t0 : Nat) (bd : Nat → Nat) (x : Int32) (y : Int32)  : fc l yX6_strike wsX6_strike (fj_rm 2 46 0 0) D ty t0 [.ref (bd 0), .int x, .int y] (fm_w bd ty fm_a0 fm_g0 fm_n0) 0 0 (fun v w => v = some (.int (-1001))) := by
  refine fc_start (own := RX6) (cc := cX6_strike) (maxL := 4) (ret := (some .int)) (by decide) rfl (Nat.le_of_ble_eq_true rfl) rfl ?_
  intro p e s m args below meth c Q A C hmn E9
  refine fj_lv (lv' := [(0, .ref (bd 0)), (1, .int x), (2, .int y)]) [0, 1, 2] rfl ?_
  refine fj_aload_n C 0 dX6_strike_0 rfl rfl ?_
  refine fj_iload_n C 1 dX6_strike_1 rfl rfl ?_
  refine fj_callVw (As := [.int x]) (rest := []) C (c_X6_isLine l D ty t0 bd x) (cwV 1 C.2.2.2.2.1 gX6_strike_X6_isLine rfl rfl rfl (by decide +kernel) ⟨Nat.le_of_ble_eq_true rfl, Nat.le_of_ble_eq_true rfl⟩) ⟨0, 6, _, _, fm_at0 _ _ _ _ _, rfl, rfl⟩ rfl (Nat.le_of_ble_eq_true rfl) dX6_strike_2 ⟨Nat.zero_le _, Nat.zero_le _⟩ (fun v9 w9 hp9 => ?_)
  obtain ⟨rfl, rfl⟩ := hp9
  refine fj_st (st' := .int 0 :: []) rfl ?_
  refine fj_if_ne (tgt := 12) C dX6_strike_5 (by decide) (fun h => absurd (by decide) h) (fun _ => ?_)
  refine fj_sipush (v := (-1001)) C dX6_strike_8 (by decide) ?_
  exact fj_iret C E9 dX6_strike_11 rfl
