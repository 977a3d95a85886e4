set_option maxHeartbeats 4000000 in
set_option maxRecDepth 100000 in
theorem d_X5_within (l : Launch) (D : va_G) (ty : Nat → ClassId) (t0 : Nat → Nat) (W9 : va_W)  (x : Int32) (lo : Int32) (hi : Int32)  : fc l yX5_within wsX5_within (fj_rm 0 0 0 0) D ty t0 [.int x, .int lo, .int hi] W9 0 0 (fun v w => v = some (.int (if (lo ≤ x ∧ x ≤ hi) then 1 else 0)) ∧ w = W9) := by
  refine fc_start (own := RX5) (cc := cX5_within) (maxL := 3) (ret := (some .boolean)) (by decide) rfl (Nat.le_of_ble_eq_true rfl) rfl ?_
  intro p e s m args below meth c Q A C hmn E9
  refine fj_lv (lv' := [(0, .int x), (1, .int lo), (2, .int hi)]) [0, 1, 2] rfl ?_
  refine fj_iload_n C 0 dX5_within_0 rfl rfl ?_
  refine fj_iload_n C 1 dX5_within_1 rfl rfl ?_
  refine fj_icmp_lt (tgt := 14) C dX5_within_2 (by decide) (fun h2 => ?_) (fun h2 => ?_)
  · refine fj_iconst (v := 0) C dX5_within_14 (by decide) ?_
    exact fj_zret C E9 rfl dX5_within_15 ⟨by (repeat' split) <;> first | rfl | (exfalso; grind) | grind, rfl⟩
  · refine fj_iload_n C 0 dX5_within_5 rfl rfl ?_
    refine fj_iload_n C 2 dX5_within_6 rfl rfl ?_
    refine fj_icmp_gt (tgt := 14) C dX5_within_7 (by decide) (fun h7 => ?_) (fun h7 => ?_)
    · refine fj_iconst (v := 0) C dX5_within_14 (by decide) ?_
      exact fj_zret C E9 rfl dX5_within_15 ⟨by (repeat' split) <;> first | rfl | (exfalso; grind) | grind, rfl⟩
    · refine fj_iconst (v := 1) C dX5_within_10 (by decide) ?_
      refine fj_goto (tgt := 15) C dX5_within_11 (by decide) ?_
      exact fj_zret C E9 rfl dX5_within_15 ⟨by (repeat' split) <;> first | rfl | (exfalso; grind) | grind, rfl⟩

set_option maxHeartbeats 4000000 in
set_option maxRecDepth 100000 in
theorem d_X5_isDay (l : Launch) (D : va_G) (ty : Nat → ClassId) (t0 : Nat → Nat) (W9 : va_W)  (x : Int32)  : fc l yX5_isDay wsX5_isDay (fj_rm 1 22 0 0) D ty t0 [.int x] W9 0 0 (fun v w => v = some (.int (if (0 ≤ x ∧ x ≤ 20000) then 1 else 0)) ∧ w = W9) := by
  refine fc_start (own := RX5) (cc := cX5_isDay) (maxL := 1) (ret := (some .boolean)) (by decide) rfl (Nat.le_of_ble_eq_true rfl) rfl ?_
  intro p e s m args below meth c Q A C hmn E9
  refine fj_lv (lv' := [(0, .int x)]) [0] rfl ?_
  refine fj_iload_n C 0 dX5_isDay_0 rfl rfl ?_
  refine fj_iconst (v := 0) C dX5_isDay_1 (by decide) ?_
  refine fj_sipush (v := 20000) C dX5_isDay_2 (by decide) ?_
  refine fj_callSw (As := [.int x, .int 0, .int 20000]) (rest := []) C (d_X5_within l D ty t0 W9 x 0 20000) (va_cwS 3 C.2.2.2.2.1 gX5_isDay_X5_within rfl rfl rfl (by decide +kernel) ⟨Nat.le_of_ble_eq_true rfl, Nat.le_of_ble_eq_true rfl⟩)  rfl (Nat.le_of_ble_eq_true rfl) dX5_isDay_5 ⟨Nat.zero_le _, Nat.zero_le _⟩ (fun v9 w9 hp9 => ?_)
  obtain ⟨rfl, hw9⟩ := hp9
  rw [hw9]
  refine fj_st (st' := .int (if (0 ≤ x ∧ x ≤ 20000) then 1 else 0) :: []) rfl ?_
  exact fj_zret C E9 (by split <;> rfl) dX5_isDay_8 ⟨rfl, rfl⟩

set_option maxHeartbeats 4000000 in
set_option maxRecDepth 100000 in
theorem d_X5_isQuarter (l : Launch) (D : va_G) (ty : Nat → ClassId) (t0 : Nat → Nat) (W9 : va_W)  (x : Int32)  : fc l yX5_isQuarter wsX5_isQuarter (fj_rm 1 22 0 0) D ty t0 [.int x] W9 0 0 (fun v w => v = some (.int (if (0 ≤ x ∧ x ≤ 63) then 1 else 0)) ∧ w = W9) := by
  refine fc_start (own := RX5) (cc := cX5_isQuarter) (maxL := 1) (ret := (some .boolean)) (by decide) rfl (Nat.le_of_ble_eq_true rfl) rfl ?_
  intro p e s m args below meth c Q A C hmn E9
  refine fj_lv (lv' := [(0, .int x)]) [0] rfl ?_
  refine fj_iload_n C 0 dX5_isQuarter_0 rfl rfl ?_
  refine fj_iconst (v := 0) C dX5_isQuarter_1 (by decide) ?_
  refine fj_bipush (v := 63) C dX5_isQuarter_2 (by decide) ?_
  refine fj_callSw (As := [.int x, .int 0, .int 63]) (rest := []) C (d_X5_within l D ty t0 W9 x 0 63) (va_cwS 3 C.2.2.2.2.1 gX5_isQuarter_X5_within rfl rfl rfl (by decide +kernel) ⟨Nat.le_of_ble_eq_true rfl, Nat.le_of_ble_eq_true rfl⟩)  rfl (Nat.le_of_ble_eq_true rfl) dX5_isQuarter_4 ⟨Nat.zero_le _, Nat.zero_le _⟩ (fun v9 w9 hp9 => ?_)
  obtain ⟨rfl, hw9⟩ := hp9
  rw [hw9]
  refine fj_st (st' := .int (if (0 ≤ x ∧ x ≤ 63) then 1 else 0) :: []) rfl ?_
  exact fj_zret C E9 (by split <;> rfl) dX5_isQuarter_7 ⟨rfl, rfl⟩

set_option maxHeartbeats 4000000 in
set_option maxRecDepth 100000 in
theorem d_X5_isCorner (l : Launch) (D : va_G) (ty : Nat → ClassId) (t0 : Nat → Nat) (W9 : va_W)  (x : Int32) (y : Int32)  : fc l yX5_isCorner wsX5_isCorner (fj_rm 1 22 0 0) D ty t0 [.int x, .int y] W9 0 0 (fun v w => v = some (.int (if (0 ≤ x ∧ x ≤ 8) ∧ (0 ≤ y ∧ y ≤ 8) then 1 else 0)) ∧ w = W9) := by
  refine fc_start (own := RX5) (cc := cX5_isCorner) (maxL := 2) (ret := (some .boolean)) (by decide) rfl (Nat.le_of_ble_eq_true rfl) rfl ?_
  intro p e s m args below meth c Q A C hmn E9
  refine fj_lv (lv' := [(0, .int x), (1, .int y)]) [0, 1] rfl ?_
  refine fj_iload_n C 0 dX5_isCorner_0 rfl rfl ?_
  refine fj_iconst (v := 0) C dX5_isCorner_1 (by decide) ?_
  refine fj_bipush (v := 8) C dX5_isCorner_2 (by decide) ?_
  refine fj_callSw (As := [.int x, .int 0, .int 8]) (rest := []) C (d_X5_within l D ty t0 W9 x 0 8) (va_cwS 3 C.2.2.2.2.1 gX5_isCorner_X5_within rfl rfl rfl (by decide +kernel) ⟨Nat.le_of_ble_eq_true rfl, Nat.le_of_ble_eq_true rfl⟩)  rfl (Nat.le_of_ble_eq_true rfl) dX5_isCorner_4 ⟨Nat.zero_le _, Nat.zero_le _⟩ (fun v9 w9 hp9 => ?_)
  obtain ⟨rfl, hw9⟩ := hp9
  rw [hw9]
  refine fj_st (st' := .int (if (0 ≤ x ∧ x ≤ 8) then 1 else 0) :: []) rfl ?_
  refine fj_ifb_eq (tgt := 24) C dX5_isCorner_7 (by decide) (fun h7 => ?_) (fun h7 => ?_)
  · refine fj_iconst (v := 0) C dX5_isCorner_24 (by decide) ?_
    exact fj_zret C E9 rfl dX5_isCorner_25 ⟨by (repeat' split) <;> first | rfl | (exfalso; grind) | grind, rfl⟩
  · refine fj_iload_n C 1 dX5_isCorner_10 rfl rfl ?_
    refine fj_iconst (v := 0) C dX5_isCorner_11 (by decide) ?_
    refine fj_bipush (v := 8) C dX5_isCorner_12 (by decide) ?_
    refine fj_callSw (As := [.int y, .int 0, .int 8]) (rest := []) C (d_X5_within l D ty t0 W9 y 0 8) (va_cwS 3 C.2.2.2.2.1 gX5_isCorner_X5_within rfl rfl rfl (by decide +kernel) ⟨Nat.le_of_ble_eq_true rfl, Nat.le_of_ble_eq_true rfl⟩)  rfl (Nat.le_of_ble_eq_true rfl) dX5_isCorner_14 ⟨Nat.zero_le _, Nat.zero_le _⟩ (fun v9 w9 hp9 => ?_)
    obtain ⟨rfl, hw9⟩ := hp9
    rw [hw9]
    refine fj_st (st' := .int (if (0 ≤ y ∧ y ≤ 8) then 1 else 0) :: []) rfl ?_
    refine fj_ifb_eq (tgt := 24) C dX5_isCorner_17 (by decide) (fun h17 => ?_) (fun h17 => ?_)
    · refine fj_iconst (v := 0) C dX5_isCorner_24 (by decide) ?_
      exact fj_zret C E9 rfl dX5_isCorner_25 ⟨by (repeat' split) <;> first | rfl | (exfalso; grind) | grind, rfl⟩
    · refine fj_iconst (v := 1) C dX5_isCorner_20 (by decide) ?_
      refine fj_goto (tgt := 25) C dX5_isCorner_21 (by decide) ?_
      exact fj_zret C E9 rfl dX5_isCorner_25 ⟨by (repeat' split) <;> first | rfl | (exfalso; grind) | grind, rfl⟩

set_option maxHeartbeats 4000000 in
set_option maxRecDepth 100000 in
theorem d_X5_fitsSort (l : Launch) (D : va_G) (ty : Nat → ClassId) (t0 : Nat → Nat) (W9 : va_W)  (z : Int32) (x : Int32)  : fc l yX5_fitsSort wsX5_fitsSort (fj_rm 1 22 0 0) D ty t0 [.int z, .int x] W9 0 0 (fun v w => v = some (.int (if (z = 1 → 1 ≤ x ∧ x ≤ 5000) ∧ (z = 2 → 1 ≤ x ∧ x ≤ 160) then 1 else 0)) ∧ w = W9) := by
  refine fc_start (own := RX5) (cc := cX5_fitsSort) (maxL := 2) (ret := (some .boolean)) (by decide) rfl (Nat.le_of_ble_eq_true rfl) rfl ?_
  intro p e s m args below meth c Q A C hmn E9
  refine fj_lv (lv' := [(0, .int z), (1, .int x)]) [0, 1] rfl ?_
  refine fj_iload_n C 0 dX5_fitsSort_0 rfl rfl ?_
  refine fj_iconst (v := 1) C dX5_fitsSort_1 (by decide) ?_
  refine fj_icmp_ne (tgt := 14) C dX5_fitsSort_2 (by decide) (fun h2 => ?_) (fun h2 => ?_)
  · refine fj_iload_n C 0 dX5_fitsSort_14 rfl rfl ?_
    refine fj_iconst (v := 2) C dX5_fitsSort_15 (by decide) ?_
    refine fj_icmp_ne (tgt := 28) C dX5_fitsSort_16 (by decide) (fun h16 => ?_) (fun h16 => ?_)
    · refine fj_iconst (v := 1) C dX5_fitsSort_28 (by decide) ?_
      exact fj_zret C E9 rfl dX5_fitsSort_29 ⟨by (repeat' split) <;> first | rfl | (exfalso; grind) | grind, rfl⟩
    · refine fj_iload_n C 1 dX5_fitsSort_19 rfl rfl ?_
      refine fj_iconst (v := 1) C dX5_fitsSort_20 (by decide) ?_
      refine fj_sipush (v := 160) C dX5_fitsSort_21 (by decide) ?_
      refine fj_callSw (As := [.int x, .int 1, .int 160]) (rest := []) C (d_X5_within l D ty t0 W9 x 1 160) (va_cwS 3 C.2.2.2.2.1 gX5_fitsSort_X5_within rfl rfl rfl (by decide +kernel) ⟨Nat.le_of_ble_eq_true rfl, Nat.le_of_ble_eq_true rfl⟩)  rfl (Nat.le_of_ble_eq_true rfl) dX5_fitsSort_24 ⟨Nat.zero_le _, Nat.zero_le _⟩ (fun v9 w9 hp9 => ?_)
      obtain ⟨rfl, hw9⟩ := hp9
      rw [hw9]
      refine fj_st (st' := .int (if (1 ≤ x ∧ x ≤ 160) then 1 else 0) :: []) rfl ?_
      exact fj_zret C E9 (by split <;> rfl) dX5_fitsSort_27 ⟨by (repeat' split) <;> first | rfl | (exfalso; grind) | grind, rfl⟩
  · refine fj_iload_n C 1 dX5_fitsSort_5 rfl rfl ?_
    refine fj_iconst (v := 1) C dX5_fitsSort_6 (by decide) ?_
    refine fj_sipush (v := 5000) C dX5_fitsSort_7 (by decide) ?_
    refine fj_callSw (As := [.int x, .int 1, .int 5000]) (rest := []) C (d_X5_within l D ty t0 W9 x 1 5000) (va_cwS 3 C.2.2.2.2.1 gX5_fitsSort_X5_within rfl rfl rfl (by decide +kernel) ⟨Nat.le_of_ble_eq_true rfl, Nat.le_of_ble_eq_true rfl⟩)  rfl (Nat.le_of_ble_eq_true rfl) dX5_fitsSort_10 ⟨Nat.zero_le _, Nat.zero_le _⟩ (fun v9 w9 hp9 => ?_)
    obtain ⟨rfl, hw9⟩ := hp9
    rw [hw9]
    refine fj_st (st' := .int (if (1 ≤ x ∧ x ≤ 5000) then 1 else 0) :: []) rfl ?_
    exact fj_zret C E9 (by split <;> rfl) dX5_fitsSort_13 ⟨by (repeat' split) <;> first | rfl | (exfalso; grind) | grind, rfl⟩

set_option maxHeartbeats 4000000 in
set_option maxRecDepth 100000 in
theorem d_X5_isPerson (l : Launch) (D : va_G) (ty : Nat → ClassId) (t0 : Nat → Nat) (ad : Nat → Nat) (a : Nat → Nat → Int32) (g : Nat → Nat → Int64) (n : Nat → Int32) (P : Nat) (S : Nat) (T : Nat) (B : Nat) (I : XI P S T B a n) (x : Int32)  : fc l yX5_isPerson wsX5_isPerson (fj_rm 1 22 0 0) D ty t0 [.ref (ad 0), .int x] (fx_w ad ty a g n) 0 0 (fun v w => v = some (.int (if ib x P then 1 else 0)) ∧ w = fx_w ad ty a g n) := by
  refine fc_start (own := RX5) (cc := cX5_isPerson) (maxL := 2) (ret := (some .boolean)) (by decide) rfl (Nat.le_of_ble_eq_true rfl) rfl ?_
  intro p e s m args below meth c Q A C hmn E9
  obtain ⟨hn0, hP, hn1, hT, hn3, hS, hn4, hB, iLO, iBO, iWho, iSort, iQ, iN⟩ := id I
  have iX5 : ∀ w ∈ u_ws RX5 TX5 5, w ∈ wsX5_isPerson := ptX5_isPerson_wsX50
  have kX5_12 : Cond.fieldLink RX5 12 "FreeLand" "persons" "LFreeLand$Persons;" ∈ wsX5_isPerson := ptX5_isPerson_woX5_isPerson _ (by decide +kernel)
  have iX3 : ∀ w ∈ u_ws RX3 TX3 3, w ∈ wsX5_isPerson := ptX5_isPerson_wsX30
  have kX5_50 : (RX5, 50, "FreeLand$Persons", "size", "I") ∈ nw_F := (by decide +kernel)
  refine fj_lv (lv' := [(0, .ref (ad 0)), (1, .int x)]) [0, 1] rfl ?_
  refine fj_iload_n C 1 dX5_isPerson_0 rfl rfl ?_
  refine fj_iconst (v := 0) C dX5_isPerson_1 (by decide) ?_
  refine fj_aload_n C 0 dX5_isPerson_2 rfl rfl ?_
  refine fj_get (Cn := RX5) (T := TX5) (N := 5) (ci := 5) (v := .ref (ad 1)) C iX5 0 (fx_at0 _ _ _ _ _) rfl 0 (by decide) kX5_12 rfl dX5_isPerson_3 ?_
  refine fj_getN (Cn := RX3) (T := TX3) (N := 3) (ci := 3) (v := .int (n 0)) C iX3 1 (fx_at1 _ _ _ _ _) rfl 2 (by decide) kX5_50 rfl dX5_isPerson_6 ?_
  refine fj_at (y := nI P) hn0 ?_
  refine fj_iconst (v := 1) C dX5_isPerson_9 (by decide) ?_
  refine fj_isub C dX5_isPerson_10 ?_
  refine fj_callSw (As := [.int x, .int 0, .int ((nI P) - 1)]) (rest := []) C (d_X5_within l D ty t0 (fx_w ad ty a g n) x 0 ((nI P) - 1)) (va_cwS 3 C.2.2.2.2.1 gX5_isPerson_X5_within rfl rfl rfl (by decide +kernel) ⟨Nat.le_of_ble_eq_true rfl, Nat.le_of_ble_eq_true rfl⟩)  rfl (Nat.le_of_ble_eq_true rfl) dX5_isPerson_11 ⟨Nat.zero_le _, Nat.zero_le _⟩ (fun v9 w9 hp9 => ?_)
  obtain ⟨rfl, rfl⟩ := hp9
  refine fj_st (st' := .int (if (0 ≤ x ∧ x ≤ ((nI P) - 1)) then 1 else 0) :: []) rfl ?_
  exact fj_zret C E9 (by split <;> rfl) dX5_isPerson_14 ⟨by simp only [ib_m1 (show P < 2 ^ 30 by omega)], rfl⟩

set_option maxHeartbeats 4000000 in
set_option maxRecDepth 100000 in
theorem d_X5_isLine (l : Launch) (D : va_G) (ty : Nat → ClassId) (t0 : Nat → Nat) (ad : Nat → Nat) (a : Nat → Nat → Int32) (g : Nat → Nat → Int64) (n : Nat → Int32) (P : Nat) (S : Nat) (T : Nat) (B : Nat) (I : XI P S T B a n) (x : Int32)  : fc l yX5_isLine wsX5_isLine (fj_rm 1 22 0 0) D ty t0 [.ref (ad 0), .int x] (fx_w ad ty a g n) 0 0 (fun v w => v = some (.int (if ib x B then 1 else 0)) ∧ w = fx_w ad ty a g n) := by
  refine fc_start (own := RX5) (cc := cX5_isLine) (maxL := 2) (ret := (some .boolean)) (by decide) rfl (Nat.le_of_ble_eq_true rfl) rfl ?_
  intro p e s m args below meth c Q A C hmn E9
  obtain ⟨hn0, hP, hn1, hT, hn3, hS, hn4, hB, iLO, iBO, iWho, iSort, iQ, iN⟩ := id I
  have iX5 : ∀ w ∈ u_ws RX5 TX5 5, w ∈ wsX5_isLine := ptX5_isLine_wsX50
  have kX5_26 : Cond.fieldLink RX5 26 "FreeLand" "book" "LFreeLand$Book;" ∈ wsX5_isLine := ptX5_isLine_woX5_isLine _ (by decide +kernel)
  have iX0 : ∀ w ∈ u_ws RX0 TX0 8, w ∈ wsX5_isLine := ptX5_isLine_wsX00
  have kX5_100 : (RX5, 100, "FreeLand$Book", "size", "I") ∈ nw_F := (by decide +kernel)
  refine fj_lv (lv' := [(0, .ref (ad 0)), (1, .int x)]) [0, 1] rfl ?_
  refine fj_iload_n C 1 dX5_isLine_0 rfl rfl ?_
  refine fj_iconst (v := 0) C dX5_isLine_1 (by decide) ?_
  refine fj_aload_n C 0 dX5_isLine_2 rfl rfl ?_
  refine fj_get (Cn := RX5) (T := TX5) (N := 5) (ci := 5) (v := .ref (ad 17)) C iX5 0 (fx_at0 _ _ _ _ _) rfl 2 (by decide) kX5_26 rfl dX5_isLine_3 ?_
  refine fj_getN (Cn := RX0) (T := TX0) (N := 8) (ci := 0) (v := .int (n 4)) C iX0 17 (fx_at17 _ _ _ _ _) rfl 7 (by decide) kX5_100 rfl dX5_isLine_6 ?_
  refine fj_at (y := nI B) hn4 ?_
  refine fj_iconst (v := 1) C dX5_isLine_9 (by decide) ?_
  refine fj_isub C dX5_isLine_10 ?_
  refine fj_callSw (As := [.int x, .int 0, .int ((nI B) - 1)]) (rest := []) C (d_X5_within l D ty t0 (fx_w ad ty a g n) x 0 ((nI B) - 1)) (va_cwS 3 C.2.2.2.2.1 gX5_isLine_X5_within rfl rfl rfl (by decide +kernel) ⟨Nat.le_of_ble_eq_true rfl, Nat.le_of_ble_eq_true rfl⟩)  rfl (Nat.le_of_ble_eq_true rfl) dX5_isLine_11 ⟨Nat.zero_le _, Nat.zero_le _⟩ (fun v9 w9 hp9 => ?_)
  obtain ⟨rfl, rfl⟩ := hp9
  refine fj_st (st' := .int (if (0 ≤ x ∧ x ≤ ((nI B) - 1)) then 1 else 0) :: []) rfl ?_
  exact fj_zret C E9 (by split <;> rfl) dX5_isLine_14 ⟨by simp only [ib_m1 (show B < 2 ^ 30 by omega)], rfl⟩

set_option maxHeartbeats 4000000 in
set_option maxRecDepth 100000 in
theorem d_X5_isKnownBy (l : Launch) (D : va_G) (ty : Nat → ClassId) (t0 : Nat → Nat) (ad : Nat → Nat) (a : Nat → Nat → Int32) (g : Nat → Nat → Int64) (n : Nat → Int32) (P : Nat) (S : Nat) (T : Nat) (B : Nat) (I : XI P S T B a n) (x : Int32)  : fc l yX5_isKnownBy wsX5_isKnownBy (fj_rm 1 22 0 0) D ty t0 [.ref (ad 0), .int x] (fx_w ad ty a g n) 0 0 (fun v w => v = some (.int (if (-1 ≤ x ∧ x ≤ nI B) then 1 else 0)) ∧ w = fx_w ad ty a g n) := by
  refine fc_start (own := RX5) (cc := cX5_isKnownBy) (maxL := 2) (ret := (some .boolean)) (by decide) rfl (Nat.le_of_ble_eq_true rfl) rfl ?_
  intro p e s m args below meth c Q A C hmn E9
  obtain ⟨hn0, hP, hn1, hT, hn3, hS, hn4, hB, iLO, iBO, iWho, iSort, iQ, iN⟩ := id I
  have iX5 : ∀ w ∈ u_ws RX5 TX5 5, w ∈ wsX5_isKnownBy := ptX5_isKnownBy_wsX50
  have kX5_26 : Cond.fieldLink RX5 26 "FreeLand" "book" "LFreeLand$Book;" ∈ wsX5_isKnownBy := ptX5_isKnownBy_woX5_isKnownBy _ (by decide +kernel)
  have iX0 : ∀ w ∈ u_ws RX0 TX0 8, w ∈ wsX5_isKnownBy := ptX5_isKnownBy_wsX00
  have kX5_100 : (RX5, 100, "FreeLand$Book", "size", "I") ∈ nw_F := (by decide +kernel)
  refine fj_lv (lv' := [(0, .ref (ad 0)), (1, .int x)]) [0, 1] rfl ?_
  refine fj_iload_n C 1 dX5_isKnownBy_0 rfl rfl ?_
  refine fj_iconst (v := (-1)) C dX5_isKnownBy_1 (by decide) ?_
  refine fj_aload_n C 0 dX5_isKnownBy_2 rfl rfl ?_
  refine fj_get (Cn := RX5) (T := TX5) (N := 5) (ci := 5) (v := .ref (ad 17)) C iX5 0 (fx_at0 _ _ _ _ _) rfl 2 (by decide) kX5_26 rfl dX5_isKnownBy_3 ?_
  refine fj_getN (Cn := RX0) (T := TX0) (N := 8) (ci := 0) (v := .int (n 4)) C iX0 17 (fx_at17 _ _ _ _ _) rfl 7 (by decide) kX5_100 rfl dX5_isKnownBy_6 ?_
  refine fj_at (y := nI B) hn4 ?_
  refine fj_callSw (As := [.int x, .int (-1), .int (nI B)]) (rest := []) C (d_X5_within l D ty t0 (fx_w ad ty a g n) x (-1) (nI B)) (va_cwS 3 C.2.2.2.2.1 gX5_isKnownBy_X5_within rfl rfl rfl (by decide +kernel) ⟨Nat.le_of_ble_eq_true rfl, Nat.le_of_ble_eq_true rfl⟩)  rfl (Nat.le_of_ble_eq_true rfl) dX5_isKnownBy_9 ⟨Nat.zero_le _, Nat.zero_le _⟩ (fun v9 w9 hp9 => ?_)
  obtain ⟨rfl, rfl⟩ := hp9
  refine fj_st (st' := .int (if ((-1) ≤ x ∧ x ≤ (nI B)) then 1 else 0) :: []) rfl ?_
  exact fj_zret C E9 (by split <;> rfl) dX5_isKnownBy_12 ⟨rfl, rfl⟩

set_option maxHeartbeats 4000000 in
set_option maxRecDepth 100000 in
theorem d_X5_linesOf (l : Launch) (D : va_G) (ty : Nat → ClassId) (t0 : Nat → Nat) (ad : Nat → Nat) (a : Nat → Nat → Int32) (g : Nat → Nat → Int64) (n : Nat → Int32) (P : Nat) (S : Nat) (T : Nat) (B : Nat) (I : XI P S T B a n) (x : Int32)  : fc l yX5_linesOf wsX5_linesOf (fj_rm 0 0 0 0) D ty t0 [.ref (ad 0), .int x] (fx_w ad ty a g n) 0 0 (fun v w => v = some (.int (if x = -1 then nI B else x)) ∧ w = fx_w ad ty a g n) := by
  refine fc_start (own := RX5) (cc := cX5_linesOf) (maxL := 2) (ret := (some .int)) (by decide) rfl (Nat.le_of_ble_eq_true rfl) rfl ?_
  intro p e s m args below meth c Q A C hmn E9
  obtain ⟨hn0, hP, hn1, hT, hn3, hS, hn4, hB, iLO, iBO, iWho, iSort, iQ, iN⟩ := id I
  have iX5 : ∀ w ∈ u_ws RX5 TX5 5, w ∈ wsX5_linesOf := ptX5_linesOf_wsX50
  have kX5_26 : Cond.fieldLink RX5 26 "FreeLand" "book" "LFreeLand$Book;" ∈ wsX5_linesOf := ptX5_linesOf_woX5_linesOf _ (by decide +kernel)
  have iX0 : ∀ w ∈ u_ws RX0 TX0 8, w ∈ wsX5_linesOf := ptX5_linesOf_wsX00
  have kX5_100 : (RX5, 100, "FreeLand$Book", "size", "I") ∈ nw_F := (by decide +kernel)
  refine fj_lv (lv' := [(0, .ref (ad 0)), (1, .int x)]) [0, 1] rfl ?_
  refine fj_iload_n C 1 dX5_linesOf_0 rfl rfl ?_
  refine fj_iconst (v := (-1)) C dX5_linesOf_1 (by decide) ?_
  refine fj_icmp_ne (tgt := 15) C dX5_linesOf_2 (by decide) (fun h2 => ?_) (fun h2 => ?_)
  · refine fj_iload_n C 1 dX5_linesOf_15 rfl rfl ?_
    exact fj_iret C E9 dX5_linesOf_16 ⟨by (repeat' split) <;> first | rfl | (exfalso; grind) | grind, rfl⟩
  · refine fj_aload_n C 0 dX5_linesOf_5 rfl rfl ?_
    refine fj_get (Cn := RX5) (T := TX5) (N := 5) (ci := 5) (v := .ref (ad 17)) C iX5 0 (fx_at0 _ _ _ _ _) rfl 2 (by decide) kX5_26 rfl dX5_linesOf_6 ?_
    refine fj_getN (Cn := RX0) (T := TX0) (N := 8) (ci := 0) (v := .int (n 4)) C iX0 17 (fx_at17 _ _ _ _ _) rfl 7 (by decide) kX5_100 rfl dX5_linesOf_9 ?_
    refine fj_at (y := nI B) hn4 ?_
    refine fj_goto (tgt := 16) C dX5_linesOf_12 (by decide) ?_
    exact fj_iret C E9 dX5_linesOf_16 ⟨by (repeat' split) <;> first | rfl | (exfalso; grind) | grind, rfl⟩

set_option maxHeartbeats 4000000 in
set_option maxRecDepth 100000 in
theorem d_X3_add (l : Launch) (D : va_G) (ty : Nat → ClassId) (t0 : Nat → Nat) (ad : Nat → Nat) (a : Nat → Nat → Int32) (g : Nat → Nat → Int64) (n : Nat → Int32) (P : Nat) (S : Nat) (T : Nat) (B : Nat) (I : XI P S T B a n) (x : Int32) (y : Int32) (h12 : P < 12) : fc l yX3_add wsX3_add (fj_rm 0 0 0 0) D ty t0 [.ref (ad 1), .int x, .int y] (fx_w ad ty a g n) 0 0 (fun v w => v = some (.int (nI P)) ∧ w = fx_w ad ty (va_up (va_up a 2 (upd (a 2) (nI P).toNatClampNeg x)) 3 (upd (a 3) (nI P).toNatClampNeg y)) g (va_up n 0 (nI (P + 1)))) := by
  refine fc_start (own := RX3) (cc := cX3_add) (maxL := 3) (ret := (some .int)) (by decide) rfl (Nat.le_of_ble_eq_true rfl) rfl ?_
  intro p e s m args below meth c Q A C hmn E9
  obtain ⟨hn0, hP, hn1, hT, hn3, hS, hn4, hB, iLO, iBO, iWho, iSort, iQ, iN⟩ := id I
  have iX3 : ∀ w ∈ u_ws RX3 TX3 3, w ∈ wsX3_add := ptX3_add_wsX30
  have kX3_9 : Cond.fieldLink RX3 9 "FreeLand$Persons" "birth" "[I" ∈ wsX3_add := ptX3_add_woX3_add _ (by decide +kernel)
  have kX3_18 : Cond.fieldLink RX3 18 "FreeLand$Persons" "size" "I" ∈ wsX3_add := ptX3_add_woX3_add _ (by decide +kernel)
  have kX3_15 : Cond.fieldLink RX3 15 "FreeLand$Persons" "citizen" "[I" ∈ wsX3_add := ptX3_add_woX3_add _ (by decide +kernel)
  refine fj_lv (lv' := [(0, .ref (ad 1)), (1, .int x), (2, .int y)]) [0, 1, 2] rfl ?_
  refine fj_aload_n C 0 dX3_add_0 rfl rfl ?_
  refine fj_get (Cn := RX3) (T := TX3) (N := 3) (ci := 3) (v := .ref (ad 2)) C iX3 1 (fx_at1 _ _ _ _ _) rfl 0 (by decide) kX3_9 rfl dX3_add_1 ?_
  refine fj_aload_n C 0 dX3_add_4 rfl rfl ?_
  refine fj_get (Cn := RX3) (T := TX3) (N := 3) (ci := 3) (v := .int (n 0)) C iX3 1 (fx_at1 _ _ _ _ _) rfl 2 (by decide) kX3_18 rfl dX3_add_5 ?_
  refine fj_at (y := nI P) hn0 ?_
  refine fj_iload_n C 1 dX3_add_8 rfl rfl ?_
  refine fj_iast (f := (a 2)) C 2 (fx_at2 _ _ _ _ _) (vp_in_nI h12 (by decide)) dX3_add_9 (fx_st2 _ _ _ _ _ _) ?_
  refine fj_aload_n C 0 dX3_add_10 rfl rfl ?_
  refine fj_get (Cn := RX3) (T := TX3) (N := 3) (ci := 3) (v := .ref (ad 3)) C iX3 1 (fx_at1 _ _ _ _ _) rfl 1 (by decide) kX3_15 rfl dX3_add_11 ?_
  refine fj_aload_n C 0 dX3_add_14 rfl rfl ?_
  refine fj_get (Cn := RX3) (T := TX3) (N := 3) (ci := 3) (v := .int (n 0)) C iX3 1 (fx_at1 _ _ _ _ _) rfl 2 (by decide) kX3_18 rfl dX3_add_15 ?_
  refine fj_at (y := nI P) hn0 ?_
  refine fj_iload_n C 2 dX3_add_18 rfl rfl ?_
  refine fj_iast (f := (a 3)) C 3 (fx_at3 _ _ _ _ _) (vp_in_nI h12 (by decide)) dX3_add_19 (fx_st3 _ _ _ _ _ _) ?_
  refine fj_aload_n C 0 dX3_add_20 rfl rfl ?_
  refine fj_dup C dX3_add_21 rfl ?_
  refine fj_get (Cn := RX3) (T := TX3) (N := 3) (ci := 3) (v := .int (n 0)) C iX3 1 (fx_at1 _ _ _ _ _) rfl 2 (by decide) kX3_18 rfl dX3_add_22 ?_
  refine fj_at (y := nI P) hn0 ?_
  refine fj_iconst (v := 1) C dX3_add_25 (by decide) ?_
  refine fj_iadd C dX3_add_26 ?_
  refine fj_at (y := nI (P + 1)) (nI_1 P) ?_
  refine fj_put (Cn := RX3) (T := TX3) (N := 3) (ci := 3) C iX3 tyX3 tyX3_ok nmX3 1 (fx_at1 _ _ _ _ _) rfl 2 (by decide) kX3_18 rfl rfl rfl (Nat.le_of_ble_eq_true rfl) dX3_add_27 (fx_si1_2 _ _ _ _ _ _) ?_
  refine fj_aload_n C 0 dX3_add_30 rfl rfl ?_
  refine fj_get (Cn := RX3) (T := TX3) (N := 3) (ci := 3) (v := .int (nI (P + 1))) C iX3 1 (fx_at1 _ _ _ _ _) rfl 2 (by decide) kX3_18 rfl dX3_add_31 ?_
  refine fj_iconst (v := 1) C dX3_add_34 (by decide) ?_
  refine fj_isub C dX3_add_35 ?_
  refine fj_at (y := nI P) (nI_pred P) ?_
  exact fj_iret C E9 dX3_add_36 ⟨rfl, rfl⟩

set_option maxHeartbeats 4000000 in
set_option maxRecDepth 100000 in
theorem d_X5_person (l : Launch) (D : va_G) (ty : Nat → ClassId) (t0 : Nat → Nat) (ad : Nat → Nat) (a : Nat → Nat → Int32) (g : Nat → Nat → Int64) (n : Nat → Int32) (P : Nat) (S : Nat) (T : Nat) (B : Nat) (I : XI P S T B a n) (x : Int32) (y : Int32)  : fc l yX5_person wsX5_person (fj_rm 1 22 0 0) D ty t0 [.ref (ad 0), .int x, .int y] (fx_w ad ty a g n) 0 0 (fun v w => v = some (.int (if ((-20000 ≤ x ∧ x ≤ 20000) ∧ (-20000 ≤ y ∧ y ≤ 20001)) then (if P < 12 then nI P else -1004) else -1002)) ∧ w = if ((-20000 ≤ x ∧ x ≤ 20000) ∧ (-20000 ≤ y ∧ y ≤ 20001)) ∧ P < 12 then fx_w ad ty (va_up (va_up a 2 (upd (a 2) (nI P).toNatClampNeg x)) 3 (upd (a 3) (nI P).toNatClampNeg y)) g (va_up n 0 (nI (P + 1))) else fx_w ad ty a g n) := by
  refine fc_start (own := RX5) (cc := cX5_person) (maxL := 3) (ret := (some .int)) (by decide) rfl (Nat.le_of_ble_eq_true rfl) rfl ?_
  intro p e s m args below meth c Q A C hmn E9
  obtain ⟨hn0, hP, hn1, hT, hn3, hS, hn4, hB, iLO, iBO, iWho, iSort, iQ, iN⟩ := id I
  have iX5 : ∀ w ∈ u_ws RX5 TX5 5, w ∈ wsX5_person := ptX5_person_wsX50
  have kX5_12 : Cond.fieldLink RX5 12 "FreeLand" "persons" "LFreeLand$Persons;" ∈ wsX5_person := ptX5_person_woX5_person _ (by decide +kernel)
  have iX3 : ∀ w ∈ u_ws RX3 TX3 3, w ∈ wsX5_person := ptX5_person_wsX30
  have kX5_50 : (RX5, 50, "FreeLand$Persons", "size", "I") ∈ nw_F := (by decide +kernel)
  have kN54 : (RX5, 54, yX3_add) ∈ nw_M := (by decide +kernel)
  have kIX3 : Cond.initialized RX3 ∈ wsX5_person := ptX5_person_woX5_person _ (by decide +kernel)
  have kVX3_add : Cond.instanceMethod yX3_add ∈ wsX5_person := ptX5_person_woX5_person _ (by decide +kernel)
  have kSX3_add : Cond.selects RX3 yX3_add yX3_add ∈ wsX5_person := ptX5_person_woX5_person _ (by decide +kernel)
  refine fj_lv (lv' := [(0, .ref (ad 0)), (1, .int x), (2, .int y)]) [0, 1, 2] rfl ?_
  refine fj_iload_n C 1 dX5_person_0 rfl rfl ?_
  refine fj_sipush (v := (-20000)) C dX5_person_1 (by decide) ?_
  refine fj_sipush (v := 20000) C dX5_person_4 (by decide) ?_
  refine fj_callSw (As := [.int x, .int (-20000), .int 20000]) (rest := []) C (d_X5_within l D ty t0 (fx_w ad ty a g n) x (-20000) 20000) (va_cwS 3 C.2.2.2.2.1 gX5_person_X5_within rfl rfl rfl (by decide +kernel) ⟨Nat.le_of_ble_eq_true rfl, Nat.le_of_ble_eq_true rfl⟩)  rfl (Nat.le_of_ble_eq_true rfl) dX5_person_7 ⟨Nat.zero_le _, Nat.zero_le _⟩ (fun v9 w9 hp9 => ?_)
  obtain ⟨rfl, rfl⟩ := hp9
  refine fj_st (st' := .int (if ((-20000) ≤ x ∧ x ≤ 20000) then 1 else 0) :: []) rfl ?_
  refine fj_ifb_eq (tgt := 26) C dX5_person_10 (by decide) (fun h10 => ?_) (fun h10 => ?_)
  · refine fj_sipush (v := (-1002)) C dX5_person_26 (by decide) ?_
    exact fj_iret C E9 dX5_person_29 ⟨by rw [if_neg (by grind)], by rw [if_neg (by grind)]⟩
  · refine fj_iload_n C 2 dX5_person_13 rfl rfl ?_
    refine fj_sipush (v := (-20000)) C dX5_person_14 (by decide) ?_
    refine fj_sipush (v := 20001) C dX5_person_17 (by decide) ?_
    refine fj_callSw (As := [.int y, .int (-20000), .int 20001]) (rest := []) C (d_X5_within l D ty t0 (fx_w ad ty a g n) y (-20000) 20001) (va_cwS 3 C.2.2.2.2.1 gX5_person_X5_within rfl rfl rfl (by decide +kernel) ⟨Nat.le_of_ble_eq_true rfl, Nat.le_of_ble_eq_true rfl⟩)  rfl (Nat.le_of_ble_eq_true rfl) dX5_person_20 ⟨Nat.zero_le _, Nat.zero_le _⟩ (fun v9 w9 hp9 => ?_)
    obtain ⟨rfl, rfl⟩ := hp9
    refine fj_st (st' := .int (if ((-20000) ≤ y ∧ y ≤ 20001) then 1 else 0) :: []) rfl ?_
    refine fj_ifb_ne (tgt := 30) C dX5_person_23 (by decide) (fun h23 => ?_) (fun h23 => ?_)
    · refine fj_aload_n C 0 dX5_person_30 rfl rfl ?_
      refine fj_get (Cn := RX5) (T := TX5) (N := 5) (ci := 5) (v := .ref (ad 1)) C iX5 0 (fx_at0 _ _ _ _ _) rfl 0 (by decide) kX5_12 rfl dX5_person_31 ?_
      refine fj_getN (Cn := RX3) (T := TX3) (N := 3) (ci := 3) (v := .int (n 0)) C iX3 1 (fx_at1 _ _ _ _ _) rfl 2 (by decide) kX5_50 rfl dX5_person_34 ?_
      refine fj_at (y := nI P) hn0 ?_
      refine fj_bipush (v := 12) C dX5_person_37 (by decide) ?_
      refine fj_icmp_lt (tgt := 46) C dX5_person_39 (by decide) (fun h39 => ?_) (fun h39 => ?_)
      · have h12 : P < 12 := (nI_ltI (b := 12) (by omega) (by decide)).mp h39
        refine fj_aload_n C 0 dX5_person_46 rfl rfl ?_
        refine fj_get (Cn := RX5) (T := TX5) (N := 5) (ci := 5) (v := .ref (ad 1)) C iX5 0 (fx_at0 _ _ _ _ _) rfl 0 (by decide) kX5_12 rfl dX5_person_47 ?_
        refine fj_iload_n C 1 dX5_person_50 rfl rfl ?_
        refine fj_iload_n C 2 dX5_person_51 rfl rfl ?_
        refine fj_callVNw (As := [.int x, .int y]) (rest := []) C (d_X3_add l D ty t0 ad a g n P S T B I x y h12) ⟨va_cnB 2 C.2.2.2.2.1 gX5_person_X3_add_n54 rfl rfl rfl (nw_m C.2.2.2.2.2.2.2.1 kN54) (C.2.2.2.2.1 _ kIX3) (by decide +kernel) ⟨Nat.le_of_ble_eq_true rfl, Nat.le_of_ble_eq_true rfl⟩, C.2.2.2.2.1 _ kVX3_add, C.2.2.2.2.1 _ kSX3_add⟩ ⟨1, 3, _, _, fx_at1 _ _ _ _ _, rfl, rfl⟩ rfl (Nat.le_of_ble_eq_true rfl) dX5_person_52 ⟨Nat.zero_le _, Nat.zero_le _⟩ (fun v9 w9 hp9 => ?_)
        obtain ⟨rfl, rfl⟩ := hp9
        refine fj_st (st' := .int (nI P) :: []) rfl ?_
        exact fj_iret C E9 dX5_person_55 ⟨by rw [if_pos (by grind), if_pos h12], by rw [if_pos ⟨by grind, h12⟩]⟩
      · have h12 : ¬ P < 12 := fun q => h39 ((nI_ltI (b := 12) (by omega) (by decide)).mpr q)
        refine fj_sipush (v := (-1004)) C dX5_person_42 (by decide) ?_
        exact fj_iret C E9 dX5_person_45 ⟨by rw [if_pos (by grind), if_neg h12], by rw [if_neg (by grind)]⟩
    · refine fj_sipush (v := (-1002)) C dX5_person_26 (by decide) ?_
      exact fj_iret C E9 dX5_person_29 ⟨by rw [if_neg (by grind)], by rw [if_neg (by grind)]⟩

set_option maxHeartbeats 4000000 in
set_option maxRecDepth 100000 in
theorem d_X5_map (l : Launch) (D : va_G) (ty : Nat → ClassId) (t0 : Nat → Nat) (ad : Nat → Nat) (a : Nat → Nat → Int32) (g : Nat → Nat → Int64) (n : Nat → Int32)  (x : Int32)  : fc l yX5_map wsX5_map (fj_rm 1 22 0 0) D ty t0 [.ref (ad 0), .int x] (fx_w ad ty a g n) 0 0 (fun v w => v = some (.int (if (0 ≤ x ∧ x ≤ 20001) then n 5 else -1002)) ∧ w = if (0 ≤ x ∧ x ≤ 20001) then fx_w ad ty a g (va_up n 5 x) else fx_w ad ty a g n) := by
  refine fc_start (own := RX5) (cc := cX5_map) (maxL := 3) (ret := (some .int)) (by decide) rfl (Nat.le_of_ble_eq_true rfl) rfl ?_
  intro p e s m args below meth c Q A C hmn E9
  have iX5 : ∀ w ∈ u_ws RX5 TX5 5, w ∈ wsX5_map := ptX5_map_wsX50
  have kX5_35 : Cond.fieldLink RX5 35 "FreeLand" "work" "LFreeLand$Work;" ∈ wsX5_map := ptX5_map_woX5_map _ (by decide +kernel)
  have iX4 : ∀ w ∈ u_ws RX4 TX4 18, w ∈ wsX5_map := ptX5_map_wsX40
  have kX5_58 : (RX5, 58, "FreeLand$Work", "mapDay", "I") ∈ nw_F := (by decide +kernel)
  refine fj_lv (lv' := [(0, .ref (ad 0)), (1, .int x)]) [0, 1] rfl ?_
  refine fj_iload_n C 1 dX5_map_0 rfl rfl ?_
  refine fj_iconst (v := 0) C dX5_map_1 (by decide) ?_
  refine fj_sipush (v := 20001) C dX5_map_2 (by decide) ?_
  refine fj_callSw (As := [.int x, .int 0, .int 20001]) (rest := []) C (d_X5_within l D ty t0 (fx_w ad ty a g n) x 0 20001) (va_cwS 3 C.2.2.2.2.1 gX5_map_X5_within rfl rfl rfl (by decide +kernel) ⟨Nat.le_of_ble_eq_true rfl, Nat.le_of_ble_eq_true rfl⟩)  rfl (Nat.le_of_ble_eq_true rfl) dX5_map_5 ⟨Nat.zero_le _, Nat.zero_le _⟩ (fun v9 w9 hp9 => ?_)
  obtain ⟨rfl, rfl⟩ := hp9
  refine fj_st (st' := .int (if (0 ≤ x ∧ x ≤ 20001) then 1 else 0) :: []) rfl ?_
  refine fj_ifb_ne (tgt := 15) C dX5_map_8 (by decide) (fun h8 => ?_) (fun h8 => ?_)
  · refine fj_aload_n C 0 dX5_map_15 rfl rfl ?_
    refine fj_get (Cn := RX5) (T := TX5) (N := 5) (ci := 5) (v := .ref (ad 25)) C iX5 0 (fx_at0 _ _ _ _ _) rfl 3 (by decide) kX5_35 rfl dX5_map_16 ?_
    refine fj_getN (Cn := RX4) (T := TX4) (N := 18) (ci := 4) (v := .int (n 5)) C iX4 25 (fx_at25 _ _ _ _ _) rfl 3 (by decide) kX5_58 rfl dX5_map_19 ?_
    refine fj_istore_n (lv' := [(2, .int (n 5)), (0, .ref (ad 0)), (1, .int x)]) C dX5_map_22 rfl (by decide) rfl ?_
    refine fj_aload_n C 1 dX5_map_23 rfl rfl ?_
    refine fj_get (Cn := RX5) (T := TX5) (N := 5) (ci := 5) (v := .ref (ad 25)) C iX5 0 (fx_at0 _ _ _ _ _) rfl 3 (by decide) kX5_35 rfl dX5_map_24 ?_
    refine fj_iload_n C 2 dX5_map_27 rfl rfl ?_
    refine fj_putN (Cn := RX4) (T := TX4) (N := 18) (ci := 4) C iX4 tyX4 tyX4_ok nmX4 25 (fx_at25 _ _ _ _ _) rfl 3 (by decide) kX5_58 rfl rfl rfl (Nat.le_of_ble_eq_true rfl) dX5_map_28 (fx_si25_3 _ _ _ _ _ _) ?_
    refine fj_iload_n C 0 dX5_map_31 rfl rfl ?_
    exact fj_iret C E9 dX5_map_32 ⟨by first | (rw [if_neg (by assumption)]; done) | (rw [if_pos (by assumption)]; done), by first | (rw [if_neg (by assumption)]; done) | (rw [if_pos (by assumption)]; done)⟩
  · refine fj_sipush (v := (-1002)) C dX5_map_11 (by decide) ?_
    exact fj_iret C E9 dX5_map_14 ⟨by first | (rw [if_neg (by assumption)]; done) | (rw [if_pos (by assumption)]; done), by first | (rw [if_neg (by assumption)]; done) | (rw [if_pos (by assumption)]; done)⟩

set_option maxHeartbeats 4000000 in
set_option maxRecDepth 100000 in
theorem d_X5_place (l : Launch) (D : va_G) (ty : Nat → ClassId) (t0 : Nat → Nat) (ad : Nat → Nat) (a : Nat → Nat → Int32) (g : Nat → Nat → Int64) (n : Nat → Int32)    : fc l yX5_place wsX5_place (fj_rm 0 0 0 0) D ty t0 [.ref (ad 0)] (fx_w ad ty a g n) 0 0 (fun v w => v = some (.int (n 2)) ∧ w = fx_w ad ty a g n) := by
  refine fc_start (own := RX5) (cc := cX5_place) (maxL := 1) (ret := (some .int)) (by decide) rfl (Nat.le_of_ble_eq_true rfl) rfl ?_
  intro p e s m args below meth c Q A C hmn E9
  have iX5 : ∀ w ∈ u_ws RX5 TX5 5, w ∈ wsX5_place := ptX5_place_wsX50
  have kX5_19 : Cond.fieldLink RX5 19 "FreeLand" "laws" "LFreeLand$Laws;" ∈ wsX5_place := ptX5_place_woX5_place _ (by decide +kernel)
  have iX2 : ∀ w ∈ u_ws RX2 TX2 7, w ∈ wsX5_place := ptX5_place_wsX20
  have kX5_77 : (RX5, 77, "FreeLand$Laws", "faultAt", "I") ∈ nw_F := (by decide +kernel)
  refine fj_lv (lv' := [(0, .ref (ad 0))]) [0] rfl ?_
  refine fj_aload_n C 0 dX5_place_0 rfl rfl ?_
  refine fj_get (Cn := RX5) (T := TX5) (N := 5) (ci := 5) (v := .ref (ad 4)) C iX5 0 (fx_at0 _ _ _ _ _) rfl 1 (by decide) kX5_19 rfl dX5_place_1 ?_
  refine fj_getN (Cn := RX2) (T := TX2) (N := 7) (ci := 2) (v := .int (n 2)) C iX2 4 (fx_at4 _ _ _ _ _) rfl 2 (by decide) kX5_77 rfl dX5_place_4 ?_
  exact fj_iret C E9 dX5_place_7 ⟨rfl, rfl⟩

set_option maxHeartbeats 4000000 in
set_option maxRecDepth 100000 in
theorem d_X5_strike (l : Launch) (D : va_G) (ty : Nat → ClassId) (t0 : Nat → Nat) (ad : Nat → Nat) (a : Nat → Nat → Int32) (g : Nat → Nat → Int64) (n : Nat → Int32) (P : Nat) (S : Nat) (T : Nat) (B : Nat) (I : XI P S T B a n) (x : Int32) (y : Int32)  : fc l yX5_strike wsX5_strike (fj_rm 2 43 0 0) D ty t0 [.ref (ad 0), .int x, .int y] (fx_w ad ty a g n) 0 0 (fun v w => v = some (.int (if ib x B then (if a 23 x.toNatClampNeg = 0 then 0 else 1) else -1001)) ∧ w = if ib x B then fx_w ad ty (va_up a 23 (upd (a 23) x.toNatClampNeg (vp_nar .boolean y))) g n else fx_w ad ty a g n) := by
  refine fc_start (own := RX5) (cc := cX5_strike) (maxL := 4) (ret := (some .int)) (by decide) rfl (Nat.le_of_ble_eq_true rfl) rfl ?_
  intro p e s m args below meth c Q A C hmn E9
  obtain ⟨hn0, hP, hn1, hT, hn3, hS, hn4, hB, iLO, iBO, iWho, iSort, iQ, iN⟩ := id I
  have iX5 : ∀ w ∈ u_ws RX5 TX5 5, w ∈ wsX5_strike := ptX5_strike_wsX50
  have kX5_26 : Cond.fieldLink RX5 26 "FreeLand" "book" "LFreeLand$Book;" ∈ wsX5_strike := ptX5_strike_woX5_strike _ (by decide +kernel)
  have iX0 : ∀ w ∈ u_ws RX0 TX0 8, w ∈ wsX5_strike := ptX5_strike_wsX00
  have kX5_114 : (RX5, 114, "FreeLand$Book", "struck", "[Z") ∈ nw_F := (by decide +kernel)
  refine fj_lv (lv' := [(0, .ref (ad 0)), (1, .int x), (2, .int y)]) [0, 1, 2] rfl ?_
  refine fj_aload_n C 0 dX5_strike_0 rfl rfl ?_
  refine fj_iload_n C 1 dX5_strike_1 rfl rfl ?_
  refine fj_callVw (As := [.int x]) (rest := []) C (d_X5_isLine l D ty t0 ad a g n P S T B I x) (cwV 1 C.2.2.2.2.1 gX5_strike_X5_isLine rfl rfl rfl (by decide +kernel) ⟨Nat.le_of_ble_eq_true rfl, Nat.le_of_ble_eq_true rfl⟩) ⟨0, 5, _, _, fx_at0 _ _ _ _ _, rfl, rfl⟩ rfl (Nat.le_of_ble_eq_true rfl) dX5_strike_2 ⟨Nat.zero_le _, Nat.zero_le _⟩ (fun v9 w9 hp9 => ?_)
  obtain ⟨rfl, rfl⟩ := hp9
  refine fj_st (st' := .int (if ib x B then 1 else 0) :: []) rfl ?_
  refine fj_ifb_ne (tgt := 12) C dX5_strike_5 (by decide) (fun h5 => ?_) (fun h5 => ?_)
  · refine fj_aload_n C 0 dX5_strike_12 rfl rfl ?_
    refine fj_get (Cn := RX5) (T := TX5) (N := 5) (ci := 5) (v := .ref (ad 17)) C iX5 0 (fx_at0 _ _ _ _ _) rfl 2 (by decide) kX5_26 rfl dX5_strike_13 ?_
    refine fj_getN (Cn := RX0) (T := TX0) (N := 8) (ci := 0) (v := .ref (ad 23)) C iX0 17 (fx_at17 _ _ _ _ _) rfl 5 (by decide) kX5_114 rfl dX5_strike_16 ?_
    refine fj_iload_n C 1 dX5_strike_19 rfl rfl ?_
    refine fj_zald (f := (a 23)) C 23 (fx_at23 _ _ _ _ _) (by obtain ⟨k, hk, rfl⟩ := ib_nI h5 (by omega); exact vp_in_nI (by omega) (by decide)) dX5_strike_20 ?_
    refine fj_if_eq (tgt := 28) C dX5_strike_21 (by decide) (fun h21 => ?_) (fun h21 => ?_)
    · refine fj_iconst (v := 0) C dX5_strike_28 (by decide) ?_
      refine fj_istore_n (lv' := [(3, .int 0), (0, .ref (ad 0)), (1, .int x), (2, .int y)]) C dX5_strike_29 rfl (by decide) rfl ?_
      refine fj_aload_n C 1 dX5_strike_30 rfl rfl ?_
      refine fj_get (Cn := RX5) (T := TX5) (N := 5) (ci := 5) (v := .ref (ad 17)) C iX5 0 (fx_at0 _ _ _ _ _) rfl 2 (by decide) kX5_26 rfl dX5_strike_31 ?_
      refine fj_getN (Cn := RX0) (T := TX0) (N := 8) (ci := 0) (v := .ref (ad 23)) C iX0 17 (fx_at17 _ _ _ _ _) rfl 5 (by decide) kX5_114 rfl dX5_strike_34 ?_
      refine fj_iload_n C 2 dX5_strike_37 rfl rfl ?_
      refine fj_iload_n C 3 dX5_strike_38 rfl rfl ?_
      refine fj_zast (f := (a 23)) C 23 (fx_at23 _ _ _ _ _) (by obtain ⟨k, hk, rfl⟩ := ib_nI h5 (by omega); exact vp_in_nI (by omega) (by decide)) dX5_strike_39 (fx_st23 _ _ _ _ _ _) ?_
      refine fj_iload_n C 0 dX5_strike_40 rfl rfl ?_
      exact fj_iret C E9 dX5_strike_41 ⟨by first | (rw [if_neg (by assumption)]; done) | (rw [if_pos (by assumption), if_pos (by assumption)]; done) | (rw [if_pos (by assumption), if_neg (by assumption)]; done), by first | (rw [if_neg (by assumption)]; done) | (rw [if_pos (by assumption)]; done)⟩
    · refine fj_iconst (v := 1) C dX5_strike_24 (by decide) ?_
      refine fj_goto (tgt := 29) C dX5_strike_25 (by decide) ?_
      refine fj_istore_n (lv' := [(3, .int 1), (0, .ref (ad 0)), (1, .int x), (2, .int y)]) C dX5_strike_29 rfl (by decide) rfl ?_
      refine fj_aload_n C 1 dX5_strike_30 rfl rfl ?_
      refine fj_get (Cn := RX5) (T := TX5) (N := 5) (ci := 5) (v := .ref (ad 17)) C iX5 0 (fx_at0 _ _ _ _ _) rfl 2 (by decide) kX5_26 rfl dX5_strike_31 ?_
      refine fj_getN (Cn := RX0) (T := TX0) (N := 8) (ci := 0) (v := .ref (ad 23)) C iX0 17 (fx_at17 _ _ _ _ _) rfl 5 (by decide) kX5_114 rfl dX5_strike_34 ?_
      refine fj_iload_n C 2 dX5_strike_37 rfl rfl ?_
      refine fj_iload_n C 3 dX5_strike_38 rfl rfl ?_
      refine fj_zast (f := (a 23)) C 23 (fx_at23 _ _ _ _ _) (by obtain ⟨k, hk, rfl⟩ := ib_nI h5 (by omega); exact vp_in_nI (by omega) (by decide)) dX5_strike_39 (fx_st23 _ _ _ _ _ _) ?_
      refine fj_iload_n C 0 dX5_strike_40 rfl rfl ?_
      exact fj_iret C E9 dX5_strike_41 ⟨by first | (rw [if_neg (by assumption)]; done) | (rw [if_pos (by assumption), if_pos (by assumption)]; done) | (rw [if_pos (by assumption), if_neg (by assumption)]; done), by first | (rw [if_neg (by assumption)]; done) | (rw [if_pos (by assumption)]; done)⟩
  · refine fj_sipush (v := (-1001)) C dX5_strike_8 (by decide) ?_
    exact fj_iret C E9 dX5_strike_11 ⟨by first | (rw [if_neg (by assumption)]; done) | (rw [if_pos (by assumption), if_pos (by assumption)]; done) | (rw [if_pos (by assumption), if_neg (by assumption)]; done), by first | (rw [if_neg (by assumption)]; done) | (rw [if_pos (by assumption)]; done)⟩

set_option maxHeartbeats 4000000 in
set_option maxRecDepth 100000 in
theorem d_X5_told (l : Launch) (D : va_G) (ty : Nat → ClassId) (t0 : Nat → Nat) (ad : Nat → Nat) (a : Nat → Nat → Int32) (g : Nat → Nat → Int64) (n : Nat → Int32) (P : Nat) (S : Nat) (T : Nat) (B : Nat) (I : XI P S T B a n) (x : Int32) (y : Int32)  : fc l yX5_told wsX5_told (fj_rm 2 43 0 0) D ty t0 [.ref (ad 0), .int x, .int y] (fx_w ad ty a g n) 0 0 (fun v w => v = some (.int (if ib x B then (if y = 0 then a 18 x.toNatClampNeg else if y = 1 then a 19 x.toNatClampNeg else if y = 2 then a 20 x.toNatClampNeg else if y = 3 then a 21 x.toNatClampNeg else if y = 4 then a 22 x.toNatClampNeg else if y = 5 then (if a 23 x.toNatClampNeg = 0 then 0 else 1) else -1002) else -1001)) ∧ w = fx_w ad ty a g n) := by
  refine fc_start (own := RX5) (cc := cX5_told) (maxL := 3) (ret := (some .int)) (by decide) rfl (Nat.le_of_ble_eq_true rfl) rfl ?_
  intro p e s m args below meth c Q A C hmn E9
  obtain ⟨hn0, hP, hn1, hT, hn3, hS, hn4, hB, iLO, iBO, iWho, iSort, iQ, iN⟩ := id I
  have iX5 : ∀ w ∈ u_ws RX5 TX5 5, w ∈ wsX5_told := ptX5_told_wsX50
  have kX5_26 : Cond.fieldLink RX5 26 "FreeLand" "book" "LFreeLand$Book;" ∈ wsX5_told := ptX5_told_woX5_told _ (by decide +kernel)
  have iX0 : ∀ w ∈ u_ws RX0 TX0 8, w ∈ wsX5_told := ptX5_told_wsX00
  have kX5_118 : (RX5, 118, "FreeLand$Book", "day", "[I") ∈ nw_F := (by decide +kernel)
  have kX5_121 : (RX5, 121, "FreeLand$Book", "sort", "[I") ∈ nw_F := (by decide +kernel)
  have kX5_102 : (RX5, 102, "FreeLand$Book", "who", "[I") ∈ nw_F := (by decide +kernel)
  have kX5_105 : (RX5, 105, "FreeLand$Book", "where", "[I") ∈ nw_F := (by decide +kernel)
  have kX5_108 : (RX5, 108, "FreeLand$Book", "number", "[I") ∈ nw_F := (by decide +kernel)
  have kX5_114 : (RX5, 114, "FreeLand$Book", "struck", "[Z") ∈ nw_F := (by decide +kernel)
  refine fj_lv (lv' := [(0, .ref (ad 0)), (1, .int x), (2, .int y)]) [0, 1, 2] rfl ?_
  refine fj_aload_n C 0 dX5_told_0 rfl rfl ?_
  refine fj_iload_n C 1 dX5_told_1 rfl rfl ?_
  refine fj_callVw (As := [.int x]) (rest := []) C (d_X5_isLine l D ty t0 ad a g n P S T B I x) (cwV 1 C.2.2.2.2.1 gX5_told_X5_isLine rfl rfl rfl (by decide +kernel) ⟨Nat.le_of_ble_eq_true rfl, Nat.le_of_ble_eq_true rfl⟩) ⟨0, 5, _, _, fx_at0 _ _ _ _ _, rfl, rfl⟩ rfl (Nat.le_of_ble_eq_true rfl) dX5_told_2 ⟨Nat.zero_le _, Nat.zero_le _⟩ (fun v9 w9 hp9 => ?_)
  obtain ⟨rfl, rfl⟩ := hp9
  refine fj_st (st' := .int (if ib x B then 1 else 0) :: []) rfl ?_
  refine fj_ifb_ne (tgt := 12) C dX5_told_5 (by decide) (fun h5 => ?_) (fun h5 => ?_)
  · refine fj_iload_n C 2 dX5_told_12 rfl rfl ?_
    rcases fx_sw y 0 5 with hsw | hsw
    · refine fj_tableOut (tgt := 120) C dX5_told_13 hsw (by decide) ?_
      have ey : ¬ y = 0 ∧ ¬ y = 1 ∧ ¬ y = 2 ∧ ¬ y = 3 ∧ ¬ y = 4 ∧ ¬ y = 5 := ⟨(fun e => by subst e; revert hsw; decide), (fun e => by subst e; revert hsw; decide), (fun e => by subst e; revert hsw; decide), (fun e => by subst e; revert hsw; decide), (fun e => by subst e; revert hsw; decide), (fun e => by subst e; revert hsw; decide)⟩
      refine fj_sipush (v := (-1002)) C dX5_told_120 (by decide) ?_
      exact fj_iret C E9 dX5_told_123 ⟨by first | (rw [if_neg (by assumption)]; done) | (rw [if_pos (by assumption)]; grind) | grind, rfl⟩
    · obtain ⟨hs1, hs2⟩ := hsw
      rcases (show y.toInt = 0 ∨ y.toInt = 1 ∨ y.toInt = 2 ∨ y.toInt = 3 ∨ y.toInt = 4 ∨ y.toInt = 5 by omega) with hsw | hsw | hsw | hsw | hsw | hsw
      · refine fj_tableIn (off := 39) (tgt := 52) C dX5_told_13 (by omega) (by omega) (by rw [hsw]; rfl) (by decide) ?_
        obtain rfl : y = 0 := Int32.toInt_inj.mp (by simp [hsw])
        refine fj_aload_n C 0 dX5_told_52 rfl rfl ?_
        refine fj_get (Cn := RX5) (T := TX5) (N := 5) (ci := 5) (v := .ref (ad 17)) C iX5 0 (fx_at0 _ _ _ _ _) rfl 2 (by decide) kX5_26 rfl dX5_told_53 ?_
        refine fj_getN (Cn := RX0) (T := TX0) (N := 8) (ci := 0) (v := .ref (ad 18)) C iX0 17 (fx_at17 _ _ _ _ _) rfl 0 (by decide) kX5_118 rfl dX5_told_56 ?_
        refine fj_iload_n C 1 dX5_told_59 rfl rfl ?_
        refine fj_iald (f := (a 18)) C 18 (fx_at18 _ _ _ _ _) (by obtain ⟨k, hk, rfl⟩ := ib_nI h5 (by omega); exact vp_in_nI (by omega) (by decide)) dX5_told_60 ?_
        exact fj_iret C E9 dX5_told_61 ⟨by first | (rw [if_neg (by assumption)]; done) | (rw [if_pos (by assumption)]; grind) | grind, rfl⟩
      · refine fj_tableIn (off := 49) (tgt := 62) C dX5_told_13 (by omega) (by omega) (by rw [hsw]; rfl) (by decide) ?_
        obtain rfl : y = 1 := Int32.toInt_inj.mp (by simp [hsw])
        refine fj_aload_n C 0 dX5_told_62 rfl rfl ?_
        refine fj_get (Cn := RX5) (T := TX5) (N := 5) (ci := 5) (v := .ref (ad 17)) C iX5 0 (fx_at0 _ _ _ _ _) rfl 2 (by decide) kX5_26 rfl dX5_told_63 ?_
        refine fj_getN (Cn := RX0) (T := TX0) (N := 8) (ci := 0) (v := .ref (ad 19)) C iX0 17 (fx_at17 _ _ _ _ _) rfl 1 (by decide) kX5_121 rfl dX5_told_66 ?_
        refine fj_iload_n C 1 dX5_told_69 rfl rfl ?_
        refine fj_iald (f := (a 19)) C 19 (fx_at19 _ _ _ _ _) (by obtain ⟨k, hk, rfl⟩ := ib_nI h5 (by omega); exact vp_in_nI (by omega) (by decide)) dX5_told_70 ?_
        exact fj_iret C E9 dX5_told_71 ⟨by first | (rw [if_neg (by assumption)]; done) | (rw [if_pos (by assumption)]; grind) | grind, rfl⟩
      · refine fj_tableIn (off := 59) (tgt := 72) C dX5_told_13 (by omega) (by omega) (by rw [hsw]; rfl) (by decide) ?_
        obtain rfl : y = 2 := Int32.toInt_inj.mp (by simp [hsw])
        refine fj_aload_n C 0 dX5_told_72 rfl rfl ?_
        refine fj_get (Cn := RX5) (T := TX5) (N := 5) (ci := 5) (v := .ref (ad 17)) C iX5 0 (fx_at0 _ _ _ _ _) rfl 2 (by decide) kX5_26 rfl dX5_told_73 ?_
        refine fj_getN (Cn := RX0) (T := TX0) (N := 8) (ci := 0) (v := .ref (ad 20)) C iX0 17 (fx_at17 _ _ _ _ _) rfl 2 (by decide) kX5_102 rfl dX5_told_76 ?_
        refine fj_iload_n C 1 dX5_told_79 rfl rfl ?_
        refine fj_iald (f := (a 20)) C 20 (fx_at20 _ _ _ _ _) (by obtain ⟨k, hk, rfl⟩ := ib_nI h5 (by omega); exact vp_in_nI (by omega) (by decide)) dX5_told_80 ?_
        exact fj_iret C E9 dX5_told_81 ⟨by first | (rw [if_neg (by assumption)]; done) | (rw [if_pos (by assumption)]; grind) | grind, rfl⟩
      · refine fj_tableIn (off := 69) (tgt := 82) C dX5_told_13 (by omega) (by omega) (by rw [hsw]; rfl) (by decide) ?_
        obtain rfl : y = 3 := Int32.toInt_inj.mp (by simp [hsw])
        refine fj_aload_n C 0 dX5_told_82 rfl rfl ?_
        refine fj_get (Cn := RX5) (T := TX5) (N := 5) (ci := 5) (v := .ref (ad 17)) C iX5 0 (fx_at0 _ _ _ _ _) rfl 2 (by decide) kX5_26 rfl dX5_told_83 ?_
        refine fj_getN (Cn := RX0) (T := TX0) (N := 8) (ci := 0) (v := .ref (ad 21)) C iX0 17 (fx_at17 _ _ _ _ _) rfl 3 (by decide) kX5_105 rfl dX5_told_86 ?_
        refine fj_iload_n C 1 dX5_told_89 rfl rfl ?_
        refine fj_iald (f := (a 21)) C 21 (fx_at21 _ _ _ _ _) (by obtain ⟨k, hk, rfl⟩ := ib_nI h5 (by omega); exact vp_in_nI (by omega) (by decide)) dX5_told_90 ?_
        exact fj_iret C E9 dX5_told_91 ⟨by first | (rw [if_neg (by assumption)]; done) | (rw [if_pos (by assumption)]; grind) | grind, rfl⟩
      · refine fj_tableIn (off := 79) (tgt := 92) C dX5_told_13 (by omega) (by omega) (by rw [hsw]; rfl) (by decide) ?_
        obtain rfl : y = 4 := Int32.toInt_inj.mp (by simp [hsw])
        refine fj_aload_n C 0 dX5_told_92 rfl rfl ?_
        refine fj_get (Cn := RX5) (T := TX5) (N := 5) (ci := 5) (v := .ref (ad 17)) C iX5 0 (fx_at0 _ _ _ _ _) rfl 2 (by decide) kX5_26 rfl dX5_told_93 ?_
        refine fj_getN (Cn := RX0) (T := TX0) (N := 8) (ci := 0) (v := .ref (ad 22)) C iX0 17 (fx_at17 _ _ _ _ _) rfl 4 (by decide) kX5_108 rfl dX5_told_96 ?_
        refine fj_iload_n C 1 dX5_told_99 rfl rfl ?_
        refine fj_iald (f := (a 22)) C 22 (fx_at22 _ _ _ _ _) (by obtain ⟨k, hk, rfl⟩ := ib_nI h5 (by omega); exact vp_in_nI (by omega) (by decide)) dX5_told_100 ?_
        exact fj_iret C E9 dX5_told_101 ⟨by first | (rw [if_neg (by assumption)]; done) | (rw [if_pos (by assumption)]; grind) | grind, rfl⟩
      · refine fj_tableIn (off := 89) (tgt := 102) C dX5_told_13 (by omega) (by omega) (by rw [hsw]; rfl) (by decide) ?_
        obtain rfl : y = 5 := Int32.toInt_inj.mp (by simp [hsw])
        refine fj_aload_n C 0 dX5_told_102 rfl rfl ?_
        refine fj_get (Cn := RX5) (T := TX5) (N := 5) (ci := 5) (v := .ref (ad 17)) C iX5 0 (fx_at0 _ _ _ _ _) rfl 2 (by decide) kX5_26 rfl dX5_told_103 ?_
        refine fj_getN (Cn := RX0) (T := TX0) (N := 8) (ci := 0) (v := .ref (ad 23)) C iX0 17 (fx_at17 _ _ _ _ _) rfl 5 (by decide) kX5_114 rfl dX5_told_106 ?_
        refine fj_iload_n C 1 dX5_told_109 rfl rfl ?_
        refine fj_zald (f := (a 23)) C 23 (fx_at23 _ _ _ _ _) (by obtain ⟨k, hk, rfl⟩ := ib_nI h5 (by omega); exact vp_in_nI (by omega) (by decide)) dX5_told_110 ?_
        refine fj_if_eq (tgt := 118) C dX5_told_111 (by decide) (fun h111 => ?_) (fun h111 => ?_)
        · refine fj_iconst (v := 0) C dX5_told_118 (by decide) ?_
          exact fj_iret C E9 dX5_told_119 ⟨by first | (rw [if_neg (by assumption)]; done) | (rw [if_pos (by assumption)]; grind) | grind, rfl⟩
        · refine fj_iconst (v := 1) C dX5_told_114 (by decide) ?_
          refine fj_goto (tgt := 119) C dX5_told_115 (by decide) ?_
          exact fj_iret C E9 dX5_told_119 ⟨by first | (rw [if_neg (by assumption)]; done) | (rw [if_pos (by assumption)]; grind) | grind, rfl⟩
  · refine fj_sipush (v := (-1001)) C dX5_told_8 (by decide) ?_
    exact fj_iret C E9 dX5_told_11 ⟨by first | (rw [if_neg (by assumption)]; done) | (rw [if_pos (by assumption)]; grind) | grind, rfl⟩

set_option maxHeartbeats 4000000 in
set_option maxRecDepth 100000 in
theorem d_X1_set (l : Launch) (D : va_G) (ty : Nat → ClassId) (t0 : Nat → Nat) (ad : Nat → Nat) (a : Nat → Nat → Int32) (g : Nat → Nat → Int64) (n : Nat → Int32)  (i : Int32) (j : Int32) (x : Int32) (y : Int32) (hi : 0 ≤ i ∧ i ≤ 8) (hj : 0 ≤ j ∧ j ≤ 8) : fc l yX1_set wsX1_set (fj_rm 0 0 0 0) D ty t0 [.ref (ad 38), .int i, .int j, .int x, .int y] (fx_w ad ty a g n) 0 0 (fun v w => v = none ∧ w = fx_w ad ty (va_up (va_up (va_up a 39 (upd (a 39) (9 * j + i).toNatClampNeg (vp_nar .boolean 1))) 40 (upd (a 40) (9 * j + i).toNatClampNeg x)) 41 (upd (a 41) (9 * j + i).toNatClampNeg y)) g n) := by
  refine fc_start (own := RX1) (cc := cX1_set) (maxL := 6) (ret := none) (by decide) rfl (Nat.le_of_ble_eq_true rfl) rfl ?_
  intro p e s m args below meth c Q A C hmn E9
  have iX1 : ∀ w ∈ u_ws RX1 TX1 7, w ∈ wsX1_set := ptX1_set_wsX10
  have kX1_9 : Cond.fieldLink RX1 9 "FreeLand$Corners" "known" "[Z" ∈ wsX1_set := ptX1_set_woX1_set _ (by decide +kernel)
  have kX1_13 : Cond.fieldLink RX1 13 "FreeLand$Corners" "x" "[I" ∈ wsX1_set := ptX1_set_woX1_set _ (by decide +kernel)
  have kX1_17 : Cond.fieldLink RX1 17 "FreeLand$Corners" "y" "[I" ∈ wsX1_set := ptX1_set_woX1_set _ (by decide +kernel)
  refine fj_lv (lv' := [(0, .ref (ad 38)), (1, .int i), (2, .int j), (3, .int x), (4, .int y)]) [0, 1, 2, 3, 4] rfl ?_
  refine fj_bipush (v := 9) C dX1_set_0 (by decide) ?_
  refine fj_iload_n C 2 dX1_set_2 rfl rfl ?_
  refine fj_imul C dX1_set_3 ?_
  refine fj_iload_n C 1 dX1_set_4 rfl rfl ?_
  refine fj_iadd C dX1_set_5 ?_
  refine fj_istore (lv' := [(5, .int ((9 * j) + i)), (0, .ref (ad 38)), (1, .int i), (2, .int j), (3, .int x), (4, .int y)]) C dX1_set_6 (by decide) rfl ?_
  refine fj_aload_n C 1 dX1_set_8 rfl rfl ?_
  refine fj_get (Cn := RX1) (T := TX1) (N := 7) (ci := 1) (v := .ref (ad 39)) C iX1 38 (fx_at38 _ _ _ _ _) rfl 0 (by decide) kX1_9 rfl dX1_set_9 ?_
  refine fj_iload C 0 dX1_set_12 rfl ?_
  refine fj_iconst (v := 1) C dX1_set_14 (by decide) ?_
  refine fj_zast (f := (a 39)) C 39 (fx_at39 _ _ _ _ _) (fx_ij hi hj) dX1_set_15 (fx_st39 _ _ _ _ _ _) ?_
  refine fj_aload_n C 1 dX1_set_16 rfl rfl ?_
  refine fj_get (Cn := RX1) (T := TX1) (N := 7) (ci := 1) (v := .ref (ad 40)) C iX1 38 (fx_at38 _ _ _ _ _) rfl 1 (by decide) kX1_13 rfl dX1_set_17 ?_
  refine fj_iload C 0 dX1_set_20 rfl ?_
  refine fj_iload_n C 4 dX1_set_22 rfl rfl ?_
  refine fj_iast (f := (a 40)) C 40 (fx_at40 _ _ _ _ _) (fx_ij hi hj) dX1_set_23 (fx_st40 _ _ _ _ _ _) ?_
  refine fj_aload_n C 1 dX1_set_24 rfl rfl ?_
  refine fj_get (Cn := RX1) (T := TX1) (N := 7) (ci := 1) (v := .ref (ad 41)) C iX1 38 (fx_at38 _ _ _ _ _) rfl 2 (by decide) kX1_17 rfl dX1_set_25 ?_
  refine fj_iload C 0 dX1_set_28 rfl ?_
  refine fj_iload C 5 dX1_set_30 rfl ?_
  refine fj_iast (f := (a 41)) C 41 (fx_at41 _ _ _ _ _) (fx_ij hi hj) dX1_set_32 (fx_st41 _ _ _ _ _ _) ?_
  exact fj_vret C E9 dX1_set_33 ⟨rfl, rfl⟩

set_option maxHeartbeats 4000000 in
set_option maxRecDepth 100000 in
theorem d_X5_corner (l : Launch) (D : va_G) (ty : Nat → ClassId) (t0 : Nat → Nat) (ad : Nat → Nat) (a : Nat → Nat → Int32) (g : Nat → Nat → Int64) (n : Nat → Int32)  (i : Int32) (j : Int32) (x : Int32) (y : Int32)  : fc l yX5_corner wsX5_corner (fj_rm 2 43 0 0) D ty t0 [.ref (ad 0), .int i, .int j, .int x, .int y] (fx_w ad ty a g n) 0 0 (fun v w => v = some (.int (if (((0 ≤ i ∧ i ≤ 8) ∧ (0 ≤ j ∧ j ≤ 8)) ∧ (-10000 ≤ x ∧ x ≤ 10000) ∧ (-10000 ≤ y ∧ y ≤ 10000)) then 1 else -1002)) ∧ w = if (((0 ≤ i ∧ i ≤ 8) ∧ (0 ≤ j ∧ j ≤ 8)) ∧ (-10000 ≤ x ∧ x ≤ 10000) ∧ (-10000 ≤ y ∧ y ≤ 10000)) then fx_w ad ty (va_up (va_up (va_up a 39 (upd (a 39) (9 * j + i).toNatClampNeg (vp_nar .boolean 1))) 40 (upd (a 40) (9 * j + i).toNatClampNeg x)) 41 (upd (a 41) (9 * j + i).toNatClampNeg y)) g n else fx_w ad ty a g n) := by
  refine fc_start (own := RX5) (cc := cX5_corner) (maxL := 5) (ret := (some .int)) (by decide) rfl (Nat.le_of_ble_eq_true rfl) rfl ?_
  intro p e s m args below meth c Q A C hmn E9
  have iX5 : ∀ w ∈ u_ws RX5 TX5 5, w ∈ wsX5_corner := ptX5_corner_wsX50
  have kX5_42 : Cond.fieldLink RX5 42 "FreeLand" "corners" "LFreeLand$Corners;" ∈ wsX5_corner := ptX5_corner_woX5_corner _ (by decide +kernel)
  have kN174 : (RX5, 174, yX1_set) ∈ nw_M := (by decide +kernel)
  have kIX1 : Cond.initialized RX1 ∈ wsX5_corner := ptX5_corner_woX5_corner _ (by decide +kernel)
  have kVX1_set : Cond.instanceMethod yX1_set ∈ wsX5_corner := ptX5_corner_woX5_corner _ (by decide +kernel)
  have kSX1_set : Cond.selects RX1 yX1_set yX1_set ∈ wsX5_corner := ptX5_corner_woX5_corner _ (by decide +kernel)
  refine fj_lv (lv' := [(0, .ref (ad 0)), (1, .int i), (2, .int j), (3, .int x), (4, .int y)]) [0, 1, 2, 3, 4] rfl ?_
  refine fj_iload_n C 1 dX5_corner_0 rfl rfl ?_
  refine fj_iload_n C 2 dX5_corner_1 rfl rfl ?_
  refine fj_callSw (As := [.int i, .int j]) (rest := []) C (d_X5_isCorner l D ty t0 (fx_w ad ty a g n) i j) (va_cwS 2 C.2.2.2.2.1 gX5_corner_X5_isCorner rfl rfl rfl (by decide +kernel) ⟨Nat.le_of_ble_eq_true rfl, Nat.le_of_ble_eq_true rfl⟩)  rfl (Nat.le_of_ble_eq_true rfl) dX5_corner_2 ⟨Nat.zero_le _, Nat.zero_le _⟩ (fun v9 w9 hp9 => ?_)
  obtain ⟨rfl, rfl⟩ := hp9
  refine fj_st (st' := .int (if ((0 ≤ i ∧ i ≤ 8) ∧ (0 ≤ j ∧ j ≤ 8)) then 1 else 0) :: []) rfl ?_
  refine fj_ifb_eq (tgt := 35) C dX5_corner_5 (by decide) (fun h5 => ?_) (fun h5 => ?_)
  · refine fj_sipush (v := (-1002)) C dX5_corner_35 (by decide) ?_
    exact fj_iret C E9 dX5_corner_38 ⟨by first | (rw [if_pos (by grind)]; done) | (rw [if_neg (by grind)]; done), by first | (rw [if_pos (by grind)]; done) | (rw [if_neg (by grind)]; done)⟩
  · refine fj_iload_n C 3 dX5_corner_8 rfl rfl ?_
    refine fj_sipush (v := (-10000)) C dX5_corner_9 (by decide) ?_
    refine fj_sipush (v := 10000) C dX5_corner_12 (by decide) ?_
    refine fj_callSw (As := [.int x, .int (-10000), .int 10000]) (rest := []) C (d_X5_within l D ty t0 (fx_w ad ty a g n) x (-10000) 10000) (va_cwS 3 C.2.2.2.2.1 gX5_corner_X5_within rfl rfl rfl (by decide +kernel) ⟨Nat.le_of_ble_eq_true rfl, Nat.le_of_ble_eq_true rfl⟩)  rfl (Nat.le_of_ble_eq_true rfl) dX5_corner_15 ⟨Nat.zero_le _, Nat.zero_le _⟩ (fun v9 w9 hp9 => ?_)
    obtain ⟨rfl, rfl⟩ := hp9
    refine fj_st (st' := .int (if ((-10000) ≤ x ∧ x ≤ 10000) then 1 else 0) :: []) rfl ?_
    refine fj_ifb_eq (tgt := 35) C dX5_corner_18 (by decide) (fun h18 => ?_) (fun h18 => ?_)
    · refine fj_sipush (v := (-1002)) C dX5_corner_35 (by decide) ?_
      exact fj_iret C E9 dX5_corner_38 ⟨by first | (rw [if_pos (by grind)]; done) | (rw [if_neg (by grind)]; done), by first | (rw [if_pos (by grind)]; done) | (rw [if_neg (by grind)]; done)⟩
    · refine fj_iload C 4 dX5_corner_21 rfl ?_
      refine fj_sipush (v := (-10000)) C dX5_corner_23 (by decide) ?_
      refine fj_sipush (v := 10000) C dX5_corner_26 (by decide) ?_
      refine fj_callSw (As := [.int y, .int (-10000), .int 10000]) (rest := []) C (d_X5_within l D ty t0 (fx_w ad ty a g n) y (-10000) 10000) (va_cwS 3 C.2.2.2.2.1 gX5_corner_X5_within rfl rfl rfl (by decide +kernel) ⟨Nat.le_of_ble_eq_true rfl, Nat.le_of_ble_eq_true rfl⟩)  rfl (Nat.le_of_ble_eq_true rfl) dX5_corner_29 ⟨Nat.zero_le _, Nat.zero_le _⟩ (fun v9 w9 hp9 => ?_)
      obtain ⟨rfl, rfl⟩ := hp9
      refine fj_st (st' := .int (if ((-10000) ≤ y ∧ y ≤ 10000) then 1 else 0) :: []) rfl ?_
      refine fj_ifb_ne (tgt := 39) C dX5_corner_32 (by decide) (fun h32 => ?_) (fun h32 => ?_)
      · refine fj_aload_n C 0 dX5_corner_39 rfl rfl ?_
        refine fj_get (Cn := RX5) (T := TX5) (N := 5) (ci := 5) (v := .ref (ad 38)) C iX5 0 (fx_at0 _ _ _ _ _) rfl 4 (by decide) kX5_42 rfl dX5_corner_40 ?_
        refine fj_iload_n C 1 dX5_corner_43 rfl rfl ?_
        refine fj_iload_n C 2 dX5_corner_44 rfl rfl ?_
        refine fj_iload_n C 3 dX5_corner_45 rfl rfl ?_
        refine fj_iload C 4 dX5_corner_46 rfl ?_
        refine fj_callVNw (As := [.int i, .int j, .int x, .int y]) (rest := []) C (d_X1_set l D ty t0 ad a g n i j x y (by grind) (by grind)) ⟨va_cnB 4 C.2.2.2.2.1 gX5_corner_X1_set_n174 rfl rfl rfl (nw_m C.2.2.2.2.2.2.2.1 kN174) (C.2.2.2.2.1 _ kIX1) (by decide +kernel) ⟨Nat.le_of_ble_eq_true rfl, Nat.le_of_ble_eq_true rfl⟩, C.2.2.2.2.1 _ kVX1_set, C.2.2.2.2.1 _ kSX1_set⟩ ⟨38, 1, _, _, fx_at38 _ _ _ _ _, rfl, rfl⟩ rfl (Nat.le_of_ble_eq_true rfl) dX5_corner_48 ⟨Nat.zero_le _, Nat.zero_le _⟩ (fun v9 w9 hp9 => ?_)
        obtain ⟨rfl, rfl⟩ := hp9
        refine fj_st (st' := []) rfl ?_
        refine fj_iconst (v := 1) C dX5_corner_51 (by decide) ?_
        exact fj_iret C E9 dX5_corner_52 ⟨by first | (rw [if_pos (by grind)]; done) | (rw [if_neg (by grind)]; done), by first | (rw [if_pos (by grind)]; done) | (rw [if_neg (by grind)]; done)⟩
      · refine fj_sipush (v := (-1002)) C dX5_corner_35 (by decide) ?_
        exact fj_iret C E9 dX5_corner_38 ⟨by first | (rw [if_pos (by grind)]; done) | (rw [if_neg (by grind)]; done), by first | (rw [if_pos (by grind)]; done) | (rw [if_neg (by grind)]; done)⟩

set_option maxHeartbeats 4000000 in
set_option maxRecDepth 100000 in
theorem d_X1_isKnown (l : Launch) (D : va_G) (ty : Nat → ClassId) (t0 : Nat → Nat) (ad : Nat → Nat) (a : Nat → Nat → Int32) (g : Nat → Nat → Int64) (n : Nat → Int32)  (i : Int32) (j : Int32) (hi : 0 ≤ i ∧ i ≤ 8) (hj : 0 ≤ j ∧ j ≤ 8) (hz : ∀ k, k < 81 → a 39 k = 0 ∨ a 39 k = 1) : fc l yX1_isKnown wsX1_isKnown (fj_rm 0 0 0 0) D ty t0 [.ref (ad 38), .int i, .int j] (fx_w ad ty a g n) 0 0 (fun v w => v = some (.int (a 39 (9 * j + i).toNatClampNeg)) ∧ w = fx_w ad ty a g n) := by
  refine fc_start (own := RX1) (cc := cX1_isKnown) (maxL := 3) (ret := (some .boolean)) (by decide) rfl (Nat.le_of_ble_eq_true rfl) rfl ?_
  intro p e s m args below meth c Q A C hmn E9
  have iX1 : ∀ w ∈ u_ws RX1 TX1 7, w ∈ wsX1_isKnown := ptX1_isKnown_wsX10
  have kX1_9 : Cond.fieldLink RX1 9 "FreeLand$Corners" "known" "[Z" ∈ wsX1_isKnown := ptX1_isKnown_woX1_isKnown _ (by decide +kernel)
  refine fj_lv (lv' := [(0, .ref (ad 38)), (1, .int i), (2, .int j)]) [0, 1, 2] rfl ?_
  refine fj_aload_n C 0 dX1_isKnown_0 rfl rfl ?_
  refine fj_get (Cn := RX1) (T := TX1) (N := 7) (ci := 1) (v := .ref (ad 39)) C iX1 38 (fx_at38 _ _ _ _ _) rfl 0 (by decide) kX1_9 rfl dX1_isKnown_1 ?_
  refine fj_bipush (v := 9) C dX1_isKnown_4 (by decide) ?_
  refine fj_iload_n C 2 dX1_isKnown_6 rfl rfl ?_
  refine fj_imul C dX1_isKnown_7 ?_
  refine fj_iload_n C 1 dX1_isKnown_8 rfl rfl ?_
  refine fj_iadd C dX1_isKnown_9 ?_
  refine fj_zald (f := (a 39)) C 39 (fx_at39 _ _ _ _ _) (fx_ij hi hj) dX1_isKnown_10 ?_
  exact fj_zret C E9 (fx_z2 (hz _ (fx_ijk hi hj))) dX1_isKnown_11 ⟨rfl, rfl⟩

set_option maxHeartbeats 4000000 in
set_option maxRecDepth 100000 in
theorem d_X1_forget (l : Launch) (D : va_G) (ty : Nat → ClassId) (t0 : Nat → Nat) (ad : Nat → Nat) (a : Nat → Nat → Int32) (g : Nat → Nat → Int64) (n : Nat → Int32)  (i : Int32) (j : Int32) (hi : 0 ≤ i ∧ i ≤ 8) (hj : 0 ≤ j ∧ j ≤ 8) (hz : ∀ k, k < 81 → a 39 k = 0 ∨ a 39 k = 1) : fc l yX1_forget wsX1_forget (fj_rm 1 22 0 0) D ty t0 [.ref (ad 38), .int i, .int j] (fx_w ad ty a g n) 0 0 (fun v w => v = some (.int (a 39 (9 * j + i).toNatClampNeg)) ∧ w = fx_w ad ty (va_up a 39 (upd (a 39) (9 * j + i).toNatClampNeg (vp_nar .boolean 0))) g n) := by
  refine fc_start (own := RX1) (cc := cX1_forget) (maxL := 4) (ret := (some .boolean)) (by decide) rfl (Nat.le_of_ble_eq_true rfl) rfl ?_
  intro p e s m args below meth c Q A C hmn E9
  have iX1 : ∀ w ∈ u_ws RX1 TX1 7, w ∈ wsX1_forget := ptX1_forget_wsX10
  have kX1_9 : Cond.fieldLink RX1 9 "FreeLand$Corners" "known" "[Z" ∈ wsX1_forget := ptX1_forget_woX1_forget _ (by decide +kernel)
  refine fj_lv (lv' := [(0, .ref (ad 38)), (1, .int i), (2, .int j)]) [0, 1, 2] rfl ?_
  refine fj_aload_n C 0 dX1_forget_0 rfl rfl ?_
  refine fj_iload_n C 1 dX1_forget_1 rfl rfl ?_
  refine fj_iload_n C 2 dX1_forget_2 rfl rfl ?_
  refine fj_callVw (As := [.int i, .int j]) (rest := []) C (d_X1_isKnown l D ty t0 ad a g n i j hi hj hz) (cwV 2 C.2.2.2.2.1 gX1_forget_X1_isKnown rfl rfl rfl (by decide +kernel) ⟨Nat.le_of_ble_eq_true rfl, Nat.le_of_ble_eq_true rfl⟩) ⟨38, 1, _, _, fx_at38 _ _ _ _ _, rfl, rfl⟩ rfl (Nat.le_of_ble_eq_true rfl) dX1_forget_3 ⟨Nat.zero_le _, Nat.zero_le _⟩ (fun v9 w9 hp9 => ?_)
  obtain ⟨rfl, rfl⟩ := hp9
  refine fj_st (st' := .int (a 39 (9 * j + i).toNatClampNeg) :: []) rfl ?_
  refine fj_istore_n (lv' := [(3, .int (a 39 (9 * j + i).toNatClampNeg)), (0, .ref (ad 38)), (1, .int i), (2, .int j)]) C dX1_forget_6 rfl (by decide) rfl ?_
  refine fj_aload_n C 1 dX1_forget_7 rfl rfl ?_
  refine fj_get (Cn := RX1) (T := TX1) (N := 7) (ci := 1) (v := .ref (ad 39)) C iX1 38 (fx_at38 _ _ _ _ _) rfl 0 (by decide) kX1_9 rfl dX1_forget_8 ?_
  refine fj_bipush (v := 9) C dX1_forget_11 (by decide) ?_
  refine fj_iload_n C 3 dX1_forget_13 rfl rfl ?_
  refine fj_imul C dX1_forget_14 ?_
  refine fj_iload_n C 2 dX1_forget_15 rfl rfl ?_
  refine fj_iadd C dX1_forget_16 ?_
  refine fj_iconst (v := 0) C dX1_forget_17 (by decide) ?_
  refine fj_zast (f := (a 39)) C 39 (fx_at39 _ _ _ _ _) (fx_ij hi hj) dX1_forget_18 (fx_st39 _ _ _ _ _ _) ?_
  refine fj_iload_n C 0 dX1_forget_19 rfl rfl ?_
  exact fj_zret C E9 (fx_z2 (hz _ (fx_ijk hi hj))) dX1_forget_20 ⟨rfl, rfl⟩

set_option maxHeartbeats 4000000 in
set_option maxRecDepth 100000 in
theorem d_X5_lose (l : Launch) (D : va_G) (ty : Nat → ClassId) (t0 : Nat → Nat) (ad : Nat → Nat) (a : Nat → Nat → Int32) (g : Nat → Nat → Int64) (n : Nat → Int32)  (i : Int32) (j : Int32) (hz : ∀ k, k < 81 → a 39 k = 0 ∨ a 39 k = 1) : fc l yX5_lose wsX5_lose (fj_rm 2 45 0 0) D ty t0 [.ref (ad 0), .int i, .int j] (fx_w ad ty a g n) 0 0 (fun v w => v = some (.int (if ((0 ≤ i ∧ i ≤ 8) ∧ (0 ≤ j ∧ j ≤ 8)) then (if a 39 (9 * j + i).toNatClampNeg = 0 then 0 else 1) else -1002)) ∧ w = if ((0 ≤ i ∧ i ≤ 8) ∧ (0 ≤ j ∧ j ≤ 8)) then fx_w ad ty (va_up a 39 (upd (a 39) (9 * j + i).toNatClampNeg (vp_nar .boolean 0))) g n else fx_w ad ty a g n) := by
  refine fc_start (own := RX5) (cc := cX5_lose) (maxL := 3) (ret := (some .int)) (by decide) rfl (Nat.le_of_ble_eq_true rfl) rfl ?_
  intro p e s m args below meth c Q A C hmn E9
  have iX5 : ∀ w ∈ u_ws RX5 TX5 5, w ∈ wsX5_lose := ptX5_lose_wsX50
  have kX5_42 : Cond.fieldLink RX5 42 "FreeLand" "corners" "LFreeLand$Corners;" ∈ wsX5_lose := ptX5_lose_woX5_lose _ (by decide +kernel)
  have kN178 : (RX5, 178, yX1_forget) ∈ nw_M := (by decide +kernel)
  have kIX1 : Cond.initialized RX1 ∈ wsX5_lose := ptX5_lose_woX5_lose _ (by decide +kernel)
  have kVX1_forget : Cond.instanceMethod yX1_forget ∈ wsX5_lose := ptX5_lose_woX5_lose _ (by decide +kernel)
  have kSX1_forget : Cond.selects RX1 yX1_forget yX1_forget ∈ wsX5_lose := ptX5_lose_woX5_lose _ (by decide +kernel)
  refine fj_lv (lv' := [(0, .ref (ad 0)), (1, .int i), (2, .int j)]) [0, 1, 2] rfl ?_
  refine fj_iload_n C 1 dX5_lose_0 rfl rfl ?_
  refine fj_iload_n C 2 dX5_lose_1 rfl rfl ?_
  refine fj_callSw (As := [.int i, .int j]) (rest := []) C (d_X5_isCorner l D ty t0 (fx_w ad ty a g n) i j) (va_cwS 2 C.2.2.2.2.1 gX5_lose_X5_isCorner rfl rfl rfl (by decide +kernel) ⟨Nat.le_of_ble_eq_true rfl, Nat.le_of_ble_eq_true rfl⟩)  rfl (Nat.le_of_ble_eq_true rfl) dX5_lose_2 ⟨Nat.zero_le _, Nat.zero_le _⟩ (fun v9 w9 hp9 => ?_)
  obtain ⟨rfl, rfl⟩ := hp9
  refine fj_st (st' := .int (if ((0 ≤ i ∧ i ≤ 8) ∧ (0 ≤ j ∧ j ≤ 8)) then 1 else 0) :: []) rfl ?_
  refine fj_ifb_ne (tgt := 12) C dX5_lose_5 (by decide) (fun h5 => ?_) (fun h5 => ?_)
  · refine fj_aload_n C 0 dX5_lose_12 rfl rfl ?_
    refine fj_get (Cn := RX5) (T := TX5) (N := 5) (ci := 5) (v := .ref (ad 38)) C iX5 0 (fx_at0 _ _ _ _ _) rfl 4 (by decide) kX5_42 rfl dX5_lose_13 ?_
    refine fj_iload_n C 1 dX5_lose_16 rfl rfl ?_
    refine fj_iload_n C 2 dX5_lose_17 rfl rfl ?_
    refine fj_callVNw (As := [.int i, .int j]) (rest := []) C (d_X1_forget l D ty t0 ad a g n i j (by grind) (by grind) hz) ⟨va_cnB 2 C.2.2.2.2.1 gX5_lose_X1_forget_n178 rfl rfl rfl (nw_m C.2.2.2.2.2.2.2.1 kN178) (C.2.2.2.2.1 _ kIX1) (by decide +kernel) ⟨Nat.le_of_ble_eq_true rfl, Nat.le_of_ble_eq_true rfl⟩, C.2.2.2.2.1 _ kVX1_forget, C.2.2.2.2.1 _ kSX1_forget⟩ ⟨38, 1, _, _, fx_at38 _ _ _ _ _, rfl, rfl⟩ rfl (Nat.le_of_ble_eq_true rfl) dX5_lose_18 ⟨Nat.zero_le _, Nat.zero_le _⟩ (fun v9 w9 hp9 => ?_)
    obtain ⟨rfl, rfl⟩ := hp9
    refine fj_st (st' := .int (a 39 (9 * j + i).toNatClampNeg) :: []) rfl ?_
    refine fj_if_eq (tgt := 28) C dX5_lose_21 (by decide) (fun h21 => ?_) (fun h21 => ?_)
    · refine fj_iconst (v := 0) C dX5_lose_28 (by decide) ?_
      exact fj_iret C E9 dX5_lose_29 ⟨by first | (rw [if_neg (by grind)]; done) | (rw [if_pos (by grind), if_pos (by assumption)]; done) | (rw [if_pos (by grind), if_neg (by assumption)]; done), by first | (rw [if_neg (by grind)]; done) | (rw [if_pos (by grind)]; done)⟩
    · refine fj_iconst (v := 1) C dX5_lose_24 (by decide) ?_
      refine fj_goto (tgt := 29) C dX5_lose_25 (by decide) ?_
      exact fj_iret C E9 dX5_lose_29 ⟨by first | (rw [if_neg (by grind)]; done) | (rw [if_pos (by grind), if_pos (by assumption)]; done) | (rw [if_pos (by grind), if_neg (by assumption)]; done), by first | (rw [if_neg (by grind)]; done) | (rw [if_pos (by grind)]; done)⟩
  · refine fj_sipush (v := (-1002)) C dX5_lose_8 (by decide) ?_
    exact fj_iret C E9 dX5_lose_11 ⟨by first | (rw [if_neg (by grind)]; done) | (rw [if_pos (by grind), if_pos (by assumption)]; done) | (rw [if_pos (by grind), if_neg (by assumption)]; done), by first | (rw [if_neg (by grind)]; done) | (rw [if_pos (by grind)]; done)⟩
