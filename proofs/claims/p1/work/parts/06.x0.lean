set_option maxHeartbeats 4000000 in
set_option maxRecDepth 100000 in
theorem c_X5_within (l : Launch) (D : va_G) (ty : Nat → ClassId) (t0 : Nat) (W9 : va_W) (x : Int32) (lo : Int32) (hi : Int32)  : fc l yX5_within wsX5_within (fj_rm 0 0 0 0) D ty t0 [.int x, .int lo, .int hi] W9 0 0 (fun v w => v = some (.int (if (lo ≤ x ∧ x ≤ hi) then 1 else 0)) ∧ w = W9) := by
  refine fc_start (own := RX5) (cc := cX5_within) (maxL := 3) (ret := (some .boolean)) (by decide) rfl (Nat.le_of_ble_eq_true rfl) rfl ?_
  intro p e s m args below meth c Q A C hmn E9
  refine fj_lv (lv' := [(0, .int x), (1, .int lo), (2, .int hi)]) [0, 1, 2] rfl ?_
  refine fj_iload_n C 0 dX5_within_0 rfl rfl ?_
  refine fj_iload_n C 1 dX5_within_1 rfl rfl ?_
  refine fj_icmp_lt (tgt := 14) C dX5_within_2 (by decide) (fun h2 => ?_) (fun h2 => ?_)
  · refine fj_iconst (v := 0) C dX5_within_14 (by decide) ?_
    exact fj_zret C E9 rfl dX5_within_15 ⟨by (repeat' split) <;> first | rfl | (exfalso; grind) | grind, rfl⟩
  · refine fj_iload_n C 0 dX5_within_5 rfl rfl ?_
    refine fj_iload_n C 2 dX5_within_6 rfl rfl ?_
    refine fj_icmp_gt (tgt := 14) C dX5_within_7 (by decide) (fun h7 => ?_) (fun h7 => ?_)
    · refine fj_iconst (v := 0) C dX5_within_14 (by decide) ?_
      exact fj_zret C E9 rfl dX5_within_15 ⟨by (repeat' split) <;> first | rfl | (exfalso; grind) | grind, rfl⟩
    · refine fj_iconst (v := 1) C dX5_within_10 (by decide) ?_
      refine fj_goto (tgt := 15) C dX5_within_11 (by decide) ?_
      exact fj_zret C E9 rfl dX5_within_15 ⟨by (repeat' split) <;> first | rfl | (exfalso; grind) | grind, rfl⟩

set_option maxHeartbeats 4000000 in
set_option maxRecDepth 100000 in
theorem c_X5_isDay (l : Launch) (D : va_G) (ty : Nat → ClassId) (t0 : Nat) (W9 : va_W) (x : Int32)  : fc l yX5_isDay wsX5_isDay (fj_rm 1 22 0 0) D ty t0 [.int x] W9 0 0 (fun v w => v = some (.int (if (0 ≤ x ∧ x ≤ 20000) then 1 else 0)) ∧ w = W9) := by
  refine fc_start (own := RX5) (cc := cX5_isDay) (maxL := 1) (ret := (some .boolean)) (by decide) rfl (Nat.le_of_ble_eq_true rfl) rfl ?_
  intro p e s m args below meth c Q A C hmn E9
  refine fj_lv (lv' := [(0, .int x)]) [0] rfl ?_
  refine fj_iload_n C 0 dX5_isDay_0 rfl rfl ?_
  refine fj_iconst (v := 0) C dX5_isDay_1 (by decide) ?_
  refine fj_sipush (v := 20000) C dX5_isDay_2 (by decide) ?_
  refine fj_callSw (As := [.int x, .int 0, .int 20000]) (rest := []) C (c_X5_within l D ty t0 W9 x 0 20000) (va_cwS 3 C.2.2.2.2.1 gX5_isDay_X5_within rfl rfl rfl (by decide +kernel) ⟨Nat.le_of_ble_eq_true rfl, Nat.le_of_ble_eq_true rfl⟩)  rfl (Nat.le_of_ble_eq_true rfl) dX5_isDay_5 ⟨Nat.zero_le _, Nat.zero_le _⟩ (fun v9 w9 hp9 => ?_)
  obtain ⟨rfl, hw9⟩ := hp9
  rw [hw9]
  refine fj_st (st' := .int (if (0 ≤ x ∧ x ≤ 20000) then 1 else 0) :: []) rfl ?_
  exact fj_zret C E9 (by split <;> rfl) dX5_isDay_8 ⟨rfl, rfl⟩

set_option maxHeartbeats 4000000 in
set_option maxRecDepth 100000 in
theorem c_X5_isQuarter (l : Launch) (D : va_G) (ty : Nat → ClassId) (t0 : Nat) (W9 : va_W) (x : Int32)  : fc l yX5_isQuarter wsX5_isQuarter (fj_rm 1 22 0 0) D ty t0 [.int x] W9 0 0 (fun v w => v = some (.int (if (0 ≤ x ∧ x ≤ 63) then 1 else 0)) ∧ w = W9) := by
  refine fc_start (own := RX5) (cc := cX5_isQuarter) (maxL := 1) (ret := (some .boolean)) (by decide) rfl (Nat.le_of_ble_eq_true rfl) rfl ?_
  intro p e s m args below meth c Q A C hmn E9
  refine fj_lv (lv' := [(0, .int x)]) [0] rfl ?_
  refine fj_iload_n C 0 dX5_isQuarter_0 rfl rfl ?_
  refine fj_iconst (v := 0) C dX5_isQuarter_1 (by decide) ?_
  refine fj_bipush (v := 63) C dX5_isQuarter_2 (by decide) ?_
  refine fj_callSw (As := [.int x, .int 0, .int 63]) (rest := []) C (c_X5_within l D ty t0 W9 x 0 63) (va_cwS 3 C.2.2.2.2.1 gX5_isQuarter_X5_within rfl rfl rfl (by decide +kernel) ⟨Nat.le_of_ble_eq_true rfl, Nat.le_of_ble_eq_true rfl⟩)  rfl (Nat.le_of_ble_eq_true rfl) dX5_isQuarter_4 ⟨Nat.zero_le _, Nat.zero_le _⟩ (fun v9 w9 hp9 => ?_)
  obtain ⟨rfl, hw9⟩ := hp9
  rw [hw9]
  refine fj_st (st' := .int (if (0 ≤ x ∧ x ≤ 63) then 1 else 0) :: []) rfl ?_
  exact fj_zret C E9 (by split <;> rfl) dX5_isQuarter_7 ⟨rfl, rfl⟩

set_option maxHeartbeats 4000000 in
set_option maxRecDepth 100000 in
theorem c_X5_isCorner (l : Launch) (D : va_G) (ty : Nat → ClassId) (t0 : Nat) (W9 : va_W) (x : Int32) (y : Int32)  : fc l yX5_isCorner wsX5_isCorner (fj_rm 1 22 0 0) D ty t0 [.int x, .int y] W9 0 0 (fun v w => v = some (.int (if (0 ≤ x ∧ x ≤ 8) ∧ (0 ≤ y ∧ y ≤ 8) then 1 else 0)) ∧ w = W9) := by
  refine fc_start (own := RX5) (cc := cX5_isCorner) (maxL := 2) (ret := (some .boolean)) (by decide) rfl (Nat.le_of_ble_eq_true rfl) rfl ?_
  intro p e s m args below meth c Q A C hmn E9
  refine fj_lv (lv' := [(0, .int x), (1, .int y)]) [0, 1] rfl ?_
  refine fj_iload_n C 0 dX5_isCorner_0 rfl rfl ?_
  refine fj_iconst (v := 0) C dX5_isCorner_1 (by decide) ?_
  refine fj_bipush (v := 8) C dX5_isCorner_2 (by decide) ?_
  refine fj_callSw (As := [.int x, .int 0, .int 8]) (rest := []) C (c_X5_within l D ty t0 W9 x 0 8) (va_cwS 3 C.2.2.2.2.1 gX5_isCorner_X5_within rfl rfl rfl (by decide +kernel) ⟨Nat.le_of_ble_eq_true rfl, Nat.le_of_ble_eq_true rfl⟩)  rfl (Nat.le_of_ble_eq_true rfl) dX5_isCorner_4 ⟨Nat.zero_le _, Nat.zero_le _⟩ (fun v9 w9 hp9 => ?_)
  obtain ⟨rfl, hw9⟩ := hp9
  rw [hw9]
  refine fj_st (st' := .int (if (0 ≤ x ∧ x ≤ 8) then 1 else 0) :: []) rfl ?_
  refine fj_ifb_eq (tgt := 24) C dX5_isCorner_7 (by decide) (fun h7 => ?_) (fun h7 => ?_)
  · refine fj_iconst (v := 0) C dX5_isCorner_24 (by decide) ?_
    exact fj_zret C E9 rfl dX5_isCorner_25 ⟨by (repeat' split) <;> first | rfl | (exfalso; grind) | grind, rfl⟩
  · refine fj_iload_n C 1 dX5_isCorner_10 rfl rfl ?_
    refine fj_iconst (v := 0) C dX5_isCorner_11 (by decide) ?_
    refine fj_bipush (v := 8) C dX5_isCorner_12 (by decide) ?_
    refine fj_callSw (As := [.int y, .int 0, .int 8]) (rest := []) C (c_X5_within l D ty t0 W9 y 0 8) (va_cwS 3 C.2.2.2.2.1 gX5_isCorner_X5_within rfl rfl rfl (by decide +kernel) ⟨Nat.le_of_ble_eq_true rfl, Nat.le_of_ble_eq_true rfl⟩)  rfl (Nat.le_of_ble_eq_true rfl) dX5_isCorner_14 ⟨Nat.zero_le _, Nat.zero_le _⟩ (fun v9 w9 hp9 => ?_)
    obtain ⟨rfl, hw9⟩ := hp9
    rw [hw9]
    refine fj_st (st' := .int (if (0 ≤ y ∧ y ≤ 8) then 1 else 0) :: []) rfl ?_
    refine fj_ifb_eq (tgt := 24) C dX5_isCorner_17 (by decide) (fun h17 => ?_) (fun h17 => ?_)
    · refine fj_iconst (v := 0) C dX5_isCorner_24 (by decide) ?_
      exact fj_zret C E9 rfl dX5_isCorner_25 ⟨by (repeat' split) <;> first | rfl | (exfalso; grind) | grind, rfl⟩
    · refine fj_iconst (v := 1) C dX5_isCorner_20 (by decide) ?_
      refine fj_goto (tgt := 25) C dX5_isCorner_21 (by decide) ?_
      exact fj_zret C E9 rfl dX5_isCorner_25 ⟨by (repeat' split) <;> first | rfl | (exfalso; grind) | grind, rfl⟩

set_option maxHeartbeats 4000000 in
set_option maxRecDepth 100000 in
theorem c_X5_isPerson (l : Launch) (D : va_G) (ty : Nat → ClassId) (t0 : Nat) (ad : Nat → Nat) (x : Int32)  : fc l yX5_isPerson wsX5_isPerson (fj_rm 1 22 0 0) D ty t0 [.ref (ad 0), .int x] (fx_w ad ty fx_a0 fx_g0 fx_n0) 0 0 (fun v w => v = some (.int 0) ∧ w = fx_w ad ty fx_a0 fx_g0 fx_n0) := by
  refine fc_start (own := RX5) (cc := cX5_isPerson) (maxL := 2) (ret := (some .boolean)) (by decide) rfl (Nat.le_of_ble_eq_true rfl) rfl ?_
  intro p e s m args below meth c Q A C hmn E9
  have iX5 : ∀ w ∈ u_ws RX5 TX5 5, w ∈ wsX5_isPerson := fun _ h => List.mem_cons_of_mem _ (List.mem_append_left _ (List.mem_append_right _ h))
  have kX5_12 : Cond.fieldLink RX5 12 "FreeLand" "persons" "LFreeLand$Persons;" ∈ wsX5_isPerson := (by decide +kernel)
  have iX3 : ∀ w ∈ u_ws RX3 TX3 3, w ∈ wsX5_isPerson := fun _ h => List.mem_cons_of_mem _ (List.mem_append_right _ h)
  have kX5_50 : (RX5, 50, "FreeLand$Persons", "size", "I") ∈ nw_F := (by decide +kernel)
  refine fj_lv (lv' := [(0, .ref (ad 0)), (1, .int x)]) [0, 1] rfl ?_
  refine fj_iload_n C 1 dX5_isPerson_0 rfl rfl ?_
  refine fj_iconst (v := 0) C dX5_isPerson_1 (by decide) ?_
  refine fj_aload_n C 0 dX5_isPerson_2 rfl rfl ?_
  refine fj_get (Cn := RX5) (T := TX5) (N := 5) (ci := 5) (v := .ref (ad 1)) C iX5 0 (fx_at0 _ _ _ _ _) rfl 0 (by decide) kX5_12 rfl dX5_isPerson_3 ?_
  refine fj_getN (Cn := RX3) (T := TX3) (N := 3) (ci := 3) (v := .int 0) C iX3 1 (fx_at1 _ _ _ _ _) rfl 2 (by decide) kX5_50 rfl dX5_isPerson_6 ?_
  refine fj_iconst (v := 1) C dX5_isPerson_9 (by decide) ?_
  refine fj_isub C dX5_isPerson_10 ?_
  refine fj_at (y := (-1)) (by decide) ?_
  refine fj_callSw (As := [.int x, .int 0, .int (-1)]) (rest := []) C (c_X5_within l D ty t0 (fx_w ad ty fx_a0 fx_g0 fx_n0) x 0 (-1)) (va_cwS 3 C.2.2.2.2.1 gX5_isPerson_X5_within rfl rfl rfl (by decide +kernel) ⟨Nat.le_of_ble_eq_true rfl, Nat.le_of_ble_eq_true rfl⟩)  rfl (Nat.le_of_ble_eq_true rfl) dX5_isPerson_11 ⟨Nat.zero_le _, Nat.zero_le _⟩ (fun v9 w9 hp9 => ?_)
  obtain ⟨rfl, rfl⟩ := hp9
  refine fj_st (st' := .int (if (0 ≤ x ∧ x ≤ (-1)) then 1 else 0) :: []) rfl ?_
  exact fj_zret C E9 (by split <;> rfl) dX5_isPerson_14 ⟨by rw [if_neg]; intro q; grind, rfl⟩

set_option maxHeartbeats 4000000 in
set_option maxRecDepth 100000 in
theorem c_X5_isLine (l : Launch) (D : va_G) (ty : Nat → ClassId) (t0 : Nat) (ad : Nat → Nat) (x : Int32)  : fc l yX5_isLine wsX5_isLine (fj_rm 1 22 0 0) D ty t0 [.ref (ad 0), .int x] (fx_w ad ty fx_a0 fx_g0 fx_n0) 0 0 (fun v w => v = some (.int 0) ∧ w = fx_w ad ty fx_a0 fx_g0 fx_n0) := by
  refine fc_start (own := RX5) (cc := cX5_isLine) (maxL := 2) (ret := (some .boolean)) (by decide) rfl (Nat.le_of_ble_eq_true rfl) rfl ?_
  intro p e s m args below meth c Q A C hmn E9
  have iX5 : ∀ w ∈ u_ws RX5 TX5 5, w ∈ wsX5_isLine := fun _ h => List.mem_cons_of_mem _ (List.mem_append_left _ (List.mem_append_right _ h))
  have kX5_26 : Cond.fieldLink RX5 26 "FreeLand" "book" "LFreeLand$Book;" ∈ wsX5_isLine := (by decide +kernel)
  have iX0 : ∀ w ∈ u_ws RX0 TX0 8, w ∈ wsX5_isLine := fun _ h => List.mem_cons_of_mem _ (List.mem_append_right _ h)
  have kX5_100 : (RX5, 100, "FreeLand$Book", "size", "I") ∈ nw_F := (by decide +kernel)
  refine fj_lv (lv' := [(0, .ref (ad 0)), (1, .int x)]) [0, 1] rfl ?_
  refine fj_iload_n C 1 dX5_isLine_0 rfl rfl ?_
  refine fj_iconst (v := 0) C dX5_isLine_1 (by decide) ?_
  refine fj_aload_n C 0 dX5_isLine_2 rfl rfl ?_
  refine fj_get (Cn := RX5) (T := TX5) (N := 5) (ci := 5) (v := .ref (ad 17)) C iX5 0 (fx_at0 _ _ _ _ _) rfl 2 (by decide) kX5_26 rfl dX5_isLine_3 ?_
  refine fj_getN (Cn := RX0) (T := TX0) (N := 8) (ci := 0) (v := .int 0) C iX0 17 (fx_at17 _ _ _ _ _) rfl 7 (by decide) kX5_100 rfl dX5_isLine_6 ?_
  refine fj_iconst (v := 1) C dX5_isLine_9 (by decide) ?_
  refine fj_isub C dX5_isLine_10 ?_
  refine fj_at (y := (-1)) (by decide) ?_
  refine fj_callSw (As := [.int x, .int 0, .int (-1)]) (rest := []) C (c_X5_within l D ty t0 (fx_w ad ty fx_a0 fx_g0 fx_n0) x 0 (-1)) (va_cwS 3 C.2.2.2.2.1 gX5_isLine_X5_within rfl rfl rfl (by decide +kernel) ⟨Nat.le_of_ble_eq_true rfl, Nat.le_of_ble_eq_true rfl⟩)  rfl (Nat.le_of_ble_eq_true rfl) dX5_isLine_11 ⟨Nat.zero_le _, Nat.zero_le _⟩ (fun v9 w9 hp9 => ?_)
  obtain ⟨rfl, rfl⟩ := hp9
  refine fj_st (st' := .int (if (0 ≤ x ∧ x ≤ (-1)) then 1 else 0) :: []) rfl ?_
  exact fj_zret C E9 (by split <;> rfl) dX5_isLine_14 ⟨by rw [if_neg]; intro q; grind, rfl⟩

set_option maxHeartbeats 4000000 in
set_option maxRecDepth 100000 in
theorem c_X5_isKnownBy (l : Launch) (D : va_G) (ty : Nat → ClassId) (t0 : Nat) (ad : Nat → Nat) (x : Int32)  : fc l yX5_isKnownBy wsX5_isKnownBy (fj_rm 1 22 0 0) D ty t0 [.ref (ad 0), .int x] (fx_w ad ty fx_a0 fx_g0 fx_n0) 0 0 (fun v w => v = some (.int (if (-1 ≤ x ∧ x ≤ 0) then 1 else 0)) ∧ w = fx_w ad ty fx_a0 fx_g0 fx_n0) := by
  refine fc_start (own := RX5) (cc := cX5_isKnownBy) (maxL := 2) (ret := (some .boolean)) (by decide) rfl (Nat.le_of_ble_eq_true rfl) rfl ?_
  intro p e s m args below meth c Q A C hmn E9
  have iX5 : ∀ w ∈ u_ws RX5 TX5 5, w ∈ wsX5_isKnownBy := fun _ h => List.mem_cons_of_mem _ (List.mem_append_left _ (List.mem_append_right _ h))
  have kX5_26 : Cond.fieldLink RX5 26 "FreeLand" "book" "LFreeLand$Book;" ∈ wsX5_isKnownBy := (by decide +kernel)
  have iX0 : ∀ w ∈ u_ws RX0 TX0 8, w ∈ wsX5_isKnownBy := fun _ h => List.mem_cons_of_mem _ (List.mem_append_right _ h)
  have kX5_100 : (RX5, 100, "FreeLand$Book", "size", "I") ∈ nw_F := (by decide +kernel)
  refine fj_lv (lv' := [(0, .ref (ad 0)), (1, .int x)]) [0, 1] rfl ?_
  refine fj_iload_n C 1 dX5_isKnownBy_0 rfl rfl ?_
  refine fj_iconst (v := (-1)) C dX5_isKnownBy_1 (by decide) ?_
  refine fj_aload_n C 0 dX5_isKnownBy_2 rfl rfl ?_
  refine fj_get (Cn := RX5) (T := TX5) (N := 5) (ci := 5) (v := .ref (ad 17)) C iX5 0 (fx_at0 _ _ _ _ _) rfl 2 (by decide) kX5_26 rfl dX5_isKnownBy_3 ?_
  refine fj_getN (Cn := RX0) (T := TX0) (N := 8) (ci := 0) (v := .int 0) C iX0 17 (fx_at17 _ _ _ _ _) rfl 7 (by decide) kX5_100 rfl dX5_isKnownBy_6 ?_
  refine fj_callSw (As := [.int x, .int (-1), .int 0]) (rest := []) C (c_X5_within l D ty t0 (fx_w ad ty fx_a0 fx_g0 fx_n0) x (-1) 0) (va_cwS 3 C.2.2.2.2.1 gX5_isKnownBy_X5_within rfl rfl rfl (by decide +kernel) ⟨Nat.le_of_ble_eq_true rfl, Nat.le_of_ble_eq_true rfl⟩)  rfl (Nat.le_of_ble_eq_true rfl) dX5_isKnownBy_9 ⟨Nat.zero_le _, Nat.zero_le _⟩ (fun v9 w9 hp9 => ?_)
  obtain ⟨rfl, rfl⟩ := hp9
  refine fj_st (st' := .int (if ((-1) ≤ x ∧ x ≤ 0) then 1 else 0) :: []) rfl ?_
  exact fj_zret C E9 (by split <;> rfl) dX5_isKnownBy_12 ⟨rfl, rfl⟩

set_option maxHeartbeats 4000000 in
set_option maxRecDepth 100000 in
theorem c_X5_linesOf (l : Launch) (D : va_G) (ty : Nat → ClassId) (t0 : Nat) (ad : Nat → Nat) (x : Int32)  : fc l yX5_linesOf wsX5_linesOf (fj_rm 0 0 0 0) D ty t0 [.ref (ad 0), .int x] (fx_w ad ty fx_a0 fx_g0 fx_n0) 0 0 (fun v w => v = some (.int (if x = -1 then 0 else x)) ∧ w = fx_w ad ty fx_a0 fx_g0 fx_n0) := by
  refine fc_start (own := RX5) (cc := cX5_linesOf) (maxL := 2) (ret := (some .int)) (by decide) rfl (Nat.le_of_ble_eq_true rfl) rfl ?_
  intro p e s m args below meth c Q A C hmn E9
  have iX5 : ∀ w ∈ u_ws RX5 TX5 5, w ∈ wsX5_linesOf := fun _ h => List.mem_cons_of_mem _ (List.mem_append_left _ (List.mem_append_right _ h))
  have kX5_26 : Cond.fieldLink RX5 26 "FreeLand" "book" "LFreeLand$Book;" ∈ wsX5_linesOf := (by decide +kernel)
  have iX0 : ∀ w ∈ u_ws RX0 TX0 8, w ∈ wsX5_linesOf := fun _ h => List.mem_cons_of_mem _ (List.mem_append_right _ h)
  have kX5_100 : (RX5, 100, "FreeLand$Book", "size", "I") ∈ nw_F := (by decide +kernel)
  refine fj_lv (lv' := [(0, .ref (ad 0)), (1, .int x)]) [0, 1] rfl ?_
  refine fj_iload_n C 1 dX5_linesOf_0 rfl rfl ?_
  refine fj_iconst (v := (-1)) C dX5_linesOf_1 (by decide) ?_
  refine fj_icmp_ne (tgt := 15) C dX5_linesOf_2 (by decide) (fun h2 => ?_) (fun h2 => ?_)
  · refine fj_iload_n C 1 dX5_linesOf_15 rfl rfl ?_
    exact fj_iret C E9 dX5_linesOf_16 ⟨by (repeat' split) <;> first | rfl | (exfalso; grind) | grind, rfl⟩
  · refine fj_aload_n C 0 dX5_linesOf_5 rfl rfl ?_
    refine fj_get (Cn := RX5) (T := TX5) (N := 5) (ci := 5) (v := .ref (ad 17)) C iX5 0 (fx_at0 _ _ _ _ _) rfl 2 (by decide) kX5_26 rfl dX5_linesOf_6 ?_
    refine fj_getN (Cn := RX0) (T := TX0) (N := 8) (ci := 0) (v := .int 0) C iX0 17 (fx_at17 _ _ _ _ _) rfl 7 (by decide) kX5_100 rfl dX5_linesOf_9 ?_
    refine fj_goto (tgt := 16) C dX5_linesOf_12 (by decide) ?_
    exact fj_iret C E9 dX5_linesOf_16 ⟨by (repeat' split) <;> first | rfl | (exfalso; grind) | grind, rfl⟩

set_option maxHeartbeats 4000000 in
set_option maxRecDepth 100000 in
theorem c_X3_add (l : Launch) (D : va_G) (ty : Nat → ClassId) (t0 : Nat) (ad : Nat → Nat) (x : Int32) (y : Int32)  : fc l yX3_add wsX3_add (fj_rm 0 0 0 0) D ty t0 [.ref (ad 1), .int x, .int y] (fx_w ad ty fx_a0 fx_g0 fx_n0) 0 0 (fun v w => v = some (.int 0)) := by
  refine fc_start (own := RX3) (cc := cX3_add) (maxL := 3) (ret := (some .int)) (by decide) rfl (Nat.le_of_ble_eq_true rfl) rfl ?_
  intro p e s m args below meth c Q A C hmn E9
  have iX3 : ∀ w ∈ u_ws RX3 TX3 3, w ∈ wsX3_add := fun _ h => List.mem_cons_of_mem _ (List.mem_append_right _ h)
  have kX3_9 : Cond.fieldLink RX3 9 "FreeLand$Persons" "birth" "[I" ∈ wsX3_add := (by decide +kernel)
  have kX3_18 : Cond.fieldLink RX3 18 "FreeLand$Persons" "size" "I" ∈ wsX3_add := (by decide +kernel)
  have kX3_15 : Cond.fieldLink RX3 15 "FreeLand$Persons" "citizen" "[I" ∈ wsX3_add := (by decide +kernel)
  refine fj_lv (lv' := [(0, .ref (ad 1)), (1, .int x), (2, .int y)]) [0, 1, 2] rfl ?_
  refine fj_aload_n C 0 dX3_add_0 rfl rfl ?_
  refine fj_get (Cn := RX3) (T := TX3) (N := 3) (ci := 3) (v := .ref (ad 2)) C iX3 1 (fx_at1 _ _ _ _ _) rfl 0 (by decide) kX3_9 rfl dX3_add_1 ?_
  refine fj_aload_n C 0 dX3_add_4 rfl rfl ?_
  refine fj_get (Cn := RX3) (T := TX3) (N := 3) (ci := 3) (v := .int 0) C iX3 1 (fx_at1 _ _ _ _ _) rfl 2 (by decide) kX3_18 rfl dX3_add_5 ?_
  refine fj_iload_n C 1 dX3_add_8 rfl rfl ?_
  refine fj_iast (f := (fx_a0 2)) C 2 (fx_at2 _ _ _ _ _) (vp_in_iff.mpr ⟨by decide, by decide⟩) dX3_add_9 (fx_st2 _ _ _ _ _ _) ?_
  refine fj_aload_n C 0 dX3_add_10 rfl rfl ?_
  refine fj_get (Cn := RX3) (T := TX3) (N := 3) (ci := 3) (v := .ref (ad 3)) C iX3 1 (fx_at1 _ _ _ _ _) rfl 1 (by decide) kX3_15 rfl dX3_add_11 ?_
  refine fj_aload_n C 0 dX3_add_14 rfl rfl ?_
  refine fj_get (Cn := RX3) (T := TX3) (N := 3) (ci := 3) (v := .int 0) C iX3 1 (fx_at1 _ _ _ _ _) rfl 2 (by decide) kX3_18 rfl dX3_add_15 ?_
  refine fj_iload_n C 2 dX3_add_18 rfl rfl ?_
  refine fj_iast (f := (fx_a0 3)) C 3 (fx_at3 _ _ _ _ _) (vp_in_iff.mpr ⟨by decide, by decide⟩) dX3_add_19 (fx_st3 _ _ _ _ _ _) ?_
  refine fj_aload_n C 0 dX3_add_20 rfl rfl ?_
  refine fj_dup C dX3_add_21 rfl ?_
  refine fj_get (Cn := RX3) (T := TX3) (N := 3) (ci := 3) (v := .int 0) C iX3 1 (fx_at1 _ _ _ _ _) rfl 2 (by decide) kX3_18 rfl dX3_add_22 ?_
  refine fj_iconst (v := 1) C dX3_add_25 (by decide) ?_
  refine fj_iadd C dX3_add_26 ?_
  refine fj_at (y := 1) (by decide) ?_
  refine fj_put (Cn := RX3) (T := TX3) (N := 3) (ci := 3) C iX3 tyX3 tyX3_ok nmX3 1 (fx_at1 _ _ _ _ _) rfl 2 (by decide) kX3_18 rfl rfl rfl (Nat.le_of_ble_eq_true rfl) dX3_add_27 (fx_si1_2 _ _ _ _ _ _) ?_
  refine fj_aload_n C 0 dX3_add_30 rfl rfl ?_
  refine fj_get (Cn := RX3) (T := TX3) (N := 3) (ci := 3) (v := .int 1) C iX3 1 (fx_at1 _ _ _ _ _) rfl 2 (by decide) kX3_18 rfl dX3_add_31 ?_
  refine fj_iconst (v := 1) C dX3_add_34 (by decide) ?_
  refine fj_isub C dX3_add_35 ?_
  refine fj_at (y := 0) (by decide) ?_
  exact fj_iret C E9 dX3_add_36 rfl

set_option maxHeartbeats 4000000 in
set_option maxRecDepth 100000 in
theorem c_X5_person (l : Launch) (D : va_G) (ty : Nat → ClassId) (t0 : Nat) (ad : Nat → Nat) (x : Int32) (y : Int32)  : fc l yX5_person wsX5_person (fj_rm 1 22 0 0) D ty t0 [.ref (ad 0), .int x, .int y] (fx_w ad ty fx_a0 fx_g0 fx_n0) 0 0 (fun v w => v = some (.int (if (-20000 ≤ x ∧ x ≤ 20000) ∧ (-20000 ≤ y ∧ y ≤ 20001) then 0 else -1002))) := by
  refine fc_start (own := RX5) (cc := cX5_person) (maxL := 3) (ret := (some .int)) (by decide) rfl (Nat.le_of_ble_eq_true rfl) rfl ?_
  intro p e s m args below meth c Q A C hmn E9
  have iX5 : ∀ w ∈ u_ws RX5 TX5 5, w ∈ wsX5_person := fun _ h => List.mem_cons_of_mem _ (List.mem_append_left _ (List.mem_append_right _ h))
  have kX5_12 : Cond.fieldLink RX5 12 "FreeLand" "persons" "LFreeLand$Persons;" ∈ wsX5_person := (by decide +kernel)
  have iX3 : ∀ w ∈ u_ws RX3 TX3 3, w ∈ wsX5_person := fun _ h => List.mem_cons_of_mem _ (List.mem_append_right _ h)
  have kX5_50 : (RX5, 50, "FreeLand$Persons", "size", "I") ∈ nw_F := (by decide +kernel)
  have kN54 : (RX5, 54, yX3_add) ∈ nw_M := (by decide +kernel)
  have kIX3 : Cond.initialized RX3 ∈ wsX5_person := (by decide +kernel)
  have kVX3_add : Cond.instanceMethod yX3_add ∈ wsX5_person := (by decide +kernel)
  have kSX3_add : Cond.selects RX3 yX3_add yX3_add ∈ wsX5_person := (by decide +kernel)
  refine fj_lv (lv' := [(0, .ref (ad 0)), (1, .int x), (2, .int y)]) [0, 1, 2] rfl ?_
  refine fj_iload_n C 1 dX5_person_0 rfl rfl ?_
  refine fj_sipush (v := (-20000)) C dX5_person_1 (by decide) ?_
  refine fj_sipush (v := 20000) C dX5_person_4 (by decide) ?_
  refine fj_callSw (As := [.int x, .int (-20000), .int 20000]) (rest := []) C (c_X5_within l D ty t0 (fx_w ad ty fx_a0 fx_g0 fx_n0) x (-20000) 20000) (va_cwS 3 C.2.2.2.2.1 gX5_person_X5_within rfl rfl rfl (by decide +kernel) ⟨Nat.le_of_ble_eq_true rfl, Nat.le_of_ble_eq_true rfl⟩)  rfl (Nat.le_of_ble_eq_true rfl) dX5_person_7 ⟨Nat.zero_le _, Nat.zero_le _⟩ (fun v9 w9 hp9 => ?_)
  obtain ⟨rfl, rfl⟩ := hp9
  refine fj_st (st' := .int (if ((-20000) ≤ x ∧ x ≤ 20000) then 1 else 0) :: []) rfl ?_
  refine fj_ifb_eq (tgt := 26) C dX5_person_10 (by decide) (fun h10 => ?_) (fun h10 => ?_)
  · refine fj_sipush (v := (-1002)) C dX5_person_26 (by decide) ?_
    exact fj_iret C E9 dX5_person_29 (by (repeat' split) <;> first | rfl | (exfalso; grind) | grind)
  · refine fj_iload_n C 2 dX5_person_13 rfl rfl ?_
    refine fj_sipush (v := (-20000)) C dX5_person_14 (by decide) ?_
    refine fj_sipush (v := 20001) C dX5_person_17 (by decide) ?_
    refine fj_callSw (As := [.int y, .int (-20000), .int 20001]) (rest := []) C (c_X5_within l D ty t0 (fx_w ad ty fx_a0 fx_g0 fx_n0) y (-20000) 20001) (va_cwS 3 C.2.2.2.2.1 gX5_person_X5_within rfl rfl rfl (by decide +kernel) ⟨Nat.le_of_ble_eq_true rfl, Nat.le_of_ble_eq_true rfl⟩)  rfl (Nat.le_of_ble_eq_true rfl) dX5_person_20 ⟨Nat.zero_le _, Nat.zero_le _⟩ (fun v9 w9 hp9 => ?_)
    obtain ⟨rfl, rfl⟩ := hp9
    refine fj_st (st' := .int (if ((-20000) ≤ y ∧ y ≤ 20001) then 1 else 0) :: []) rfl ?_
    refine fj_ifb_ne (tgt := 30) C dX5_person_23 (by decide) (fun h23 => ?_) (fun h23 => ?_)
    · refine fj_aload_n C 0 dX5_person_30 rfl rfl ?_
      refine fj_get (Cn := RX5) (T := TX5) (N := 5) (ci := 5) (v := .ref (ad 1)) C iX5 0 (fx_at0 _ _ _ _ _) rfl 0 (by decide) kX5_12 rfl dX5_person_31 ?_
      refine fj_getN (Cn := RX3) (T := TX3) (N := 3) (ci := 3) (v := .int 0) C iX3 1 (fx_at1 _ _ _ _ _) rfl 2 (by decide) kX5_50 rfl dX5_person_34 ?_
      refine fj_bipush (v := 12) C dX5_person_37 (by decide) ?_
      refine fj_icmp_lt (tgt := 46) C dX5_person_39 (by decide) (fun _ => ?_) (fun h => absurd (by decide) h)
      refine fj_aload_n C 0 dX5_person_46 rfl rfl ?_
      refine fj_get (Cn := RX5) (T := TX5) (N := 5) (ci := 5) (v := .ref (ad 1)) C iX5 0 (fx_at0 _ _ _ _ _) rfl 0 (by decide) kX5_12 rfl dX5_person_47 ?_
      refine fj_iload_n C 1 dX5_person_50 rfl rfl ?_
      refine fj_iload_n C 2 dX5_person_51 rfl rfl ?_
      refine fj_callVNw (As := [.int x, .int y]) (rest := []) C (c_X3_add l D ty t0 ad x y) ⟨va_cnB 2 C.2.2.2.2.1 gX5_person_X3_add_n54 rfl rfl rfl (C.2.2.2.2.2.2.2.1.1 _ kN54) (C.2.2.2.2.1 _ kIX3) (by decide +kernel) ⟨Nat.le_of_ble_eq_true rfl, Nat.le_of_ble_eq_true rfl⟩, C.2.2.2.2.1 _ kVX3_add, C.2.2.2.2.1 _ kSX3_add⟩ ⟨1, 3, _, _, fx_at1 _ _ _ _ _, rfl, rfl⟩ rfl (Nat.le_of_ble_eq_true rfl) dX5_person_52 ⟨Nat.zero_le _, Nat.zero_le _⟩ (fun v9 w9 hp9 => ?_)
      obtain rfl := hp9
      refine fj_st (st' := .int 0 :: []) rfl ?_
      exact fj_iret C E9 dX5_person_55 (by (repeat' split) <;> first | rfl | (exfalso; grind) | grind)
    · refine fj_sipush (v := (-1002)) C dX5_person_26 (by decide) ?_
      exact fj_iret C E9 dX5_person_29 (by (repeat' split) <;> first | rfl | (exfalso; grind) | grind)

set_option maxHeartbeats 4000000 in
set_option maxRecDepth 100000 in
theorem c_X5_map (l : Launch) (D : va_G) (ty : Nat → ClassId) (t0 : Nat) (ad : Nat → Nat) (x : Int32)  : fc l yX5_map wsX5_map (fj_rm 1 22 0 0) D ty t0 [.ref (ad 0), .int x] (fx_w ad ty fx_a0 fx_g0 fx_n0) 0 0 (fun v w => v = some (.int (if (0 ≤ x ∧ x ≤ 20001) then 20001 else -1002))) := by
  refine fc_start (own := RX5) (cc := cX5_map) (maxL := 3) (ret := (some .int)) (by decide) rfl (Nat.le_of_ble_eq_true rfl) rfl ?_
  intro p e s m args below meth c Q A C hmn E9
  have iX5 : ∀ w ∈ u_ws RX5 TX5 5, w ∈ wsX5_map := fun _ h => List.mem_cons_of_mem _ (List.mem_append_left _ (List.mem_append_right _ h))
  have kX5_35 : Cond.fieldLink RX5 35 "FreeLand" "work" "LFreeLand$Work;" ∈ wsX5_map := (by decide +kernel)
  have iX4 : ∀ w ∈ u_ws RX4 TX4 18, w ∈ wsX5_map := fun _ h => List.mem_cons_of_mem _ (List.mem_append_right _ h)
  have kX5_58 : (RX5, 58, "FreeLand$Work", "mapDay", "I") ∈ nw_F := (by decide +kernel)
  refine fj_lv (lv' := [(0, .ref (ad 0)), (1, .int x)]) [0, 1] rfl ?_
  refine fj_iload_n C 1 dX5_map_0 rfl rfl ?_
  refine fj_iconst (v := 0) C dX5_map_1 (by decide) ?_
  refine fj_sipush (v := 20001) C dX5_map_2 (by decide) ?_
  refine fj_callSw (As := [.int x, .int 0, .int 20001]) (rest := []) C (c_X5_within l D ty t0 (fx_w ad ty fx_a0 fx_g0 fx_n0) x 0 20001) (va_cwS 3 C.2.2.2.2.1 gX5_map_X5_within rfl rfl rfl (by decide +kernel) ⟨Nat.le_of_ble_eq_true rfl, Nat.le_of_ble_eq_true rfl⟩)  rfl (Nat.le_of_ble_eq_true rfl) dX5_map_5 ⟨Nat.zero_le _, Nat.zero_le _⟩ (fun v9 w9 hp9 => ?_)
  obtain ⟨rfl, rfl⟩ := hp9
  refine fj_st (st' := .int (if (0 ≤ x ∧ x ≤ 20001) then 1 else 0) :: []) rfl ?_
  refine fj_ifb_ne (tgt := 15) C dX5_map_8 (by decide) (fun h8 => ?_) (fun h8 => ?_)
  · refine fj_aload_n C 0 dX5_map_15 rfl rfl ?_
    refine fj_get (Cn := RX5) (T := TX5) (N := 5) (ci := 5) (v := .ref (ad 25)) C iX5 0 (fx_at0 _ _ _ _ _) rfl 3 (by decide) kX5_35 rfl dX5_map_16 ?_
    refine fj_getN (Cn := RX4) (T := TX4) (N := 18) (ci := 4) (v := .int 20001) C iX4 25 (fx_at25 _ _ _ _ _) rfl 3 (by decide) kX5_58 rfl dX5_map_19 ?_
    refine fj_istore_n (lv' := [(2, .int 20001), (0, .ref (ad 0)), (1, .int x)]) C dX5_map_22 rfl (by decide) rfl ?_
    refine fj_aload_n C 1 dX5_map_23 rfl rfl ?_
    refine fj_get (Cn := RX5) (T := TX5) (N := 5) (ci := 5) (v := .ref (ad 25)) C iX5 0 (fx_at0 _ _ _ _ _) rfl 3 (by decide) kX5_35 rfl dX5_map_24 ?_
    refine fj_iload_n C 2 dX5_map_27 rfl rfl ?_
    refine fj_putN (Cn := RX4) (T := TX4) (N := 18) (ci := 4) C iX4 tyX4 tyX4_ok nmX4 25 (fx_at25 _ _ _ _ _) rfl 3 (by decide) kX5_58 rfl rfl rfl (Nat.le_of_ble_eq_true rfl) dX5_map_28 (fx_si25_3 _ _ _ _ _ _) ?_
    refine fj_iload_n C 0 dX5_map_31 rfl rfl ?_
    exact fj_iret C E9 dX5_map_32 (by (repeat' split) <;> first | rfl | (exfalso; grind) | grind)
  · refine fj_sipush (v := (-1002)) C dX5_map_11 (by decide) ?_
    exact fj_iret C E9 dX5_map_14 (by (repeat' split) <;> first | rfl | (exfalso; grind) | grind)

set_option maxHeartbeats 4000000 in
set_option maxRecDepth 100000 in
theorem c_X5_place (l : Launch) (D : va_G) (ty : Nat → ClassId) (t0 : Nat) (ad : Nat → Nat)   : fc l yX5_place wsX5_place (fj_rm 0 0 0 0) D ty t0 [.ref (ad 0)] (fx_w ad ty fx_a0 fx_g0 fx_n0) 0 0 (fun v w => v = some (.int (-1))) := by
  refine fc_start (own := RX5) (cc := cX5_place) (maxL := 1) (ret := (some .int)) (by decide) rfl (Nat.le_of_ble_eq_true rfl) rfl ?_
  intro p e s m args below meth c Q A C hmn E9
  have iX5 : ∀ w ∈ u_ws RX5 TX5 5, w ∈ wsX5_place := fun _ h => List.mem_cons_of_mem _ (List.mem_append_left _ (List.mem_append_right _ h))
  have kX5_19 : Cond.fieldLink RX5 19 "FreeLand" "laws" "LFreeLand$Laws;" ∈ wsX5_place := (by decide +kernel)
  have iX2 : ∀ w ∈ u_ws RX2 TX2 7, w ∈ wsX5_place := fun _ h => List.mem_cons_of_mem _ (List.mem_append_right _ h)
  have kX5_77 : (RX5, 77, "FreeLand$Laws", "faultAt", "I") ∈ nw_F := (by decide +kernel)
  refine fj_lv (lv' := [(0, .ref (ad 0))]) [0] rfl ?_
  refine fj_aload_n C 0 dX5_place_0 rfl rfl ?_
  refine fj_get (Cn := RX5) (T := TX5) (N := 5) (ci := 5) (v := .ref (ad 4)) C iX5 0 (fx_at0 _ _ _ _ _) rfl 1 (by decide) kX5_19 rfl dX5_place_1 ?_
  refine fj_getN (Cn := RX2) (T := TX2) (N := 7) (ci := 2) (v := .int (-1)) C iX2 4 (fx_at4 _ _ _ _ _) rfl 2 (by decide) kX5_77 rfl dX5_place_4 ?_
  exact fj_iret C E9 dX5_place_7 rfl
