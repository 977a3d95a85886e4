set_option maxHeartbeats 4000000 in
set_option maxRecDepth 100000 in
theorem d_X5_within (l : Launch) (D : va_G) (ty : Nat → ClassId) (t0 : Nat → Nat) (W9 : va_W)  (x : Int32) (lo : Int32) (hi : Int32)  : fc l yX5_within wsX5_within (fj_rm 0 0 0 0) D ty t0 [.int x, .int lo, .int hi] W9 0 0 (fun v w => v = some (.int (if (lo ≤ x ∧ x ≤ hi) then 1 else 0)) ∧ w = W9) := by
  refine fc_start (own := RX5) (cc := cX5_within) (maxL := 3) (ret := (some .boolean)) (by decide) rfl (Nat.le_of_ble_eq_true rfl) rfl ?_
  intro p e s m args below meth c Q A C hmn E9
  refine fj_lv (lv' := [(0, .int x), (1, .int lo), (2, .int hi)]) [0, 1, 2] rfl ?_
  refine fj_iload_n C 0 dX5_within_0 rfl rfl ?_
  refine fj_iload_n C 1 dX5_within_1 rfl rfl ?_
  refine fj_icmp_lt (tgt := 14) C dX5_within_2 (by decide) (fun h2 => ?_) (fun h2 => ?_)
  · refine fj_iconst (v := 0) C dX5_within_14 (by decide) ?_
    exact fj_zret C E9 rfl dX5_within_15 ⟨by (repeat' split) <;> first | rfl | (exfalso; grind) | grind, rfl⟩
  · refine fj_iload_n C 0 dX5_within_5 rfl rfl ?_
    refine fj_iload_n C 2 dX5_within_6 rfl rfl ?_
    refine fj_icmp_gt (tgt := 14) C dX5_within_7 (by decide) (fun h7 => ?_) (fun h7 => ?_)
    · refine fj_iconst (v := 0) C dX5_within_14 (by decide) ?_
      exact fj_zret C E9 rfl dX5_within_15 ⟨by (repeat' split) <;> first | rfl | (exfalso; grind) | grind, rfl⟩
    · refine fj_iconst (v := 1) C dX5_within_10 (by decide) ?_
      refine fj_goto (tgt := 15) C dX5_within_11 (by decide) ?_
      exact fj_zret C E9 rfl dX5_within_15 ⟨by (repeat' split) <;> first | rfl | (exfalso; grind) | grind, rfl⟩
set_option maxHeartbeats 4000000 in
set_option maxRecDepth 100000 in
theorem d_X5_isDay (l : Launch) (D : va_G) (ty : Nat → ClassId) (t0 : Nat → Nat) (W9 : va_W)  (x : Int32)  : fc l yX5_isDay wsX5_isDay (fj_rm 1 22 0 0) D ty t0 [.int x] W9 0 0 (fun v w => v = some (.int (if (0 ≤ x ∧ x ≤ 20000) then 1 else 0)) ∧ w = W9) := by
  refine fc_start (own := RX5) (cc := cX5_isDay) (maxL := 1) (ret := (some .boolean)) (by decide) rfl (Nat.le_of_ble_eq_true rfl) rfl ?_
  intro p e s m args below meth c Q A C hmn E9
  refine fj_lv (lv' := [(0, .int x)]) [0] rfl ?_
  refine fj_iload_n C 0 dX5_isDay_0 rfl rfl ?_
  refine fj_iconst (v := 0) C dX5_isDay_1 (by decide) ?_
  refine fj_sipush (v := 20000) C dX5_isDay_2 (by decide) ?_
  refine fj_callSw (As := [.int x, .int 0, .int 20000]) (rest := []) C (d_X5_within l D ty t0 W9 x 0 20000) (va_cwS 3 C.2.2.2.2.1 gX5_isDay_X5_within rfl rfl rfl (by decide +kernel) ⟨Nat.le_of_ble_eq_true rfl, Nat.le_of_ble_eq_true rfl⟩)  rfl (Nat.le_of_ble_eq_true rfl) dX5_isDay_5 ⟨Nat.zero_le _, Nat.zero_le _⟩ (fun v9 w9 hp9 => ?_)
  obtain ⟨rfl, hw9⟩ := hp9
  rw [hw9]
  refine fj_st (st' := .int (if (0 ≤ x ∧ x ≤ 20000) then 1 else 0) :: []) rfl ?_
  exact fj_zret C E9 (by split <;> rfl) dX5_isDay_8 ⟨rfl, rfl⟩
set_option maxHeartbeats 4000000 in
set_option maxRecDepth 100000 in
theorem d_X5_isQuarter (l : Launch) (D : va_G) (ty : Nat → ClassId) (t0 : Nat → Nat) (W9 : va_W)  (x : Int32)  : fc l yX5_isQuarter wsX5_isQuarter (fj_rm 1 22 0 0) D ty t0 [.int x] W9 0 0 (fun v w => v = some (.int (if (0 ≤ x ∧ x ≤ 63) then 1 else 0)) ∧ w = W9) := by
  refine fc_start (own := RX5) (cc := cX5_isQuarter) (maxL := 1) (ret := (some .boolean)) (by decide) rfl (Nat.le_of_ble_eq_true rfl) rfl ?_
  intro p e s m args below meth c Q A C hmn E9
  refine fj_lv (lv' := [(0, .int x)]) [0] rfl ?_
  refine fj_iload_n C 0 dX5_isQuarter_0 rfl rfl ?_
  refine fj_iconst (v := 0) C dX5_isQuarter_1 (by decide) ?_
  refine fj_bipush (v := 63) C dX5_isQuarter_2 (by decide) ?_
  refine fj_callSw (As := [.int x, .int 0, .int 63]) (rest := []) C (d_X5_within l D ty t0 W9 x 0 63) (va_cwS 3 C.2.2.2.2.1 gX5_isQuarter_X5_within rfl rfl rfl (by decide +kernel) ⟨Nat.le_of_ble_eq_true rfl, Nat.le_of_ble_eq_true rfl⟩)  rfl (Nat.le_of_ble_eq_true rfl) dX5_isQuarter_4 ⟨Nat.zero_le _, Nat.zero_le _⟩ (fun v9 w9 hp9 => ?_)
  obtain ⟨rfl, hw9⟩ := hp9
  rw [hw9]
  refine fj_st (st' := .int (if (0 ≤ x ∧ x ≤ 63) then 1 else 0) :: []) rfl ?_
  exact fj_zret C E9 (by split <;> rfl) dX5_isQuarter_7 ⟨rfl, rfl⟩
set_option maxHeartbeats 4000000 in
set_option maxRecDepth 100000 in
theorem d_X5_fitsSort (l : Launch) (D : va_G) (ty : Nat → ClassId) (t0 : Nat → Nat) (W9 : va_W)  (z : Int32) (x : Int32)  : fc l yX5_fitsSort wsX5_fitsSort (fj_rm 1 22 0 0) D ty t0 [.int z, .int x] W9 0 0 (fun v w => v = some (.int (if (z = 1 → 1 ≤ x ∧ x ≤ 5000) ∧ (z = 2 → 1 ≤ x ∧ x ≤ 160) then 1 else 0)) ∧ w = W9) := by
  refine fc_start (own := RX5) (cc := cX5_fitsSort) (maxL := 2) (ret := (some .boolean)) (by decide) rfl (Nat.le_of_ble_eq_true rfl) rfl ?_
  intro p e s m args below meth c Q A C hmn E9
  refine fj_lv (lv' := [(0, .int z), (1, .int x)]) [0, 1] rfl ?_
  refine fj_iload_n C 0 dX5_fitsSort_0 rfl rfl ?_
  refine fj_iconst (v := 1) C dX5_fitsSort_1 (by decide) ?_
  refine fj_icmp_ne (tgt := 14) C dX5_fitsSort_2 (by decide) (fun h2 => ?_) (fun h2 => ?_)
  · refine fj_iload_n C 0 dX5_fitsSort_14 rfl rfl ?_
    refine fj_iconst (v := 2) C dX5_fitsSort_15 (by decide) ?_
    refine fj_icmp_ne (tgt := 28) C dX5_fitsSort_16 (by decide) (fun h16 => ?_) (fun h16 => ?_)
    · refine fj_iconst (v := 1) C dX5_fitsSort_28 (by decide) ?_
      exact fj_zret C E9 rfl dX5_fitsSort_29 ⟨by (repeat' split) <;> first | rfl | (exfalso; grind) | grind, rfl⟩
    · refine fj_iload_n C 1 dX5_fitsSort_19 rfl rfl ?_
      refine fj_iconst (v := 1) C dX5_fitsSort_20 (by decide) ?_
      refine fj_sipush (v := 160) C dX5_fitsSort_21 (by decide) ?_
      refine fj_callSw (As := [.int x, .int 1, .int 160]) (rest := []) C (d_X5_within l D ty t0 W9 x 1 160) (va_cwS 3 C.2.2.2.2.1 gX5_fitsSort_X5_within rfl rfl rfl (by decide +kernel) ⟨Nat.le_of_ble_eq_true rfl, Nat.le_of_ble_eq_true rfl⟩)  rfl (Nat.le_of_ble_eq_true rfl) dX5_fitsSort_24 ⟨Nat.zero_le _, Nat.zero_le _⟩ (fun v9 w9 hp9 => ?_)
      obtain ⟨rfl, hw9⟩ := hp9
      rw [hw9]
      refine fj_st (st' := .int (if (1 ≤ x ∧ x ≤ 160) then 1 else 0) :: []) rfl ?_
      exact fj_zret C E9 (by split <;> rfl) dX5_fitsSort_27 ⟨by (repeat' split) <;> first | rfl | (exfalso; grind) | grind, rfl⟩
  · refine fj_iload_n C 1 dX5_fitsSort_5 rfl rfl ?_
    refine fj_iconst (v := 1) C dX5_fitsSort_6 (by decide) ?_
    refine fj_sipush (v := 5000) C dX5_fitsSort_7 (by decide) ?_
    refine fj_callSw (As := [.int x, .int 1, .int 5000]) (rest := []) C (d_X5_within l D ty t0 W9 x 1 5000) (va_cwS 3 C.2.2.2.2.1 gX5_fitsSort_X5_within rfl rfl rfl (by decide +kernel) ⟨Nat.le_of_ble_eq_true rfl, Nat.le_of_ble_eq_true rfl⟩)  rfl (Nat.le_of_ble_eq_true rfl) dX5_fitsSort_10 ⟨Nat.zero_le _, Nat.zero_le _⟩ (fun v9 w9 hp9 => ?_)
    obtain ⟨rfl, hw9⟩ := hp9
    rw [hw9]
    refine fj_st (st' := .int (if (1 ≤ x ∧ x ≤ 5000) then 1 else 0) :: []) rfl ?_
    exact fj_zret C E9 (by split <;> rfl) dX5_fitsSort_13 ⟨by (repeat' split) <;> first | rfl | (exfalso; grind) | grind, rfl⟩
set_option maxHeartbeats 4000000 in
set_option maxRecDepth 100000 in
theorem d_X5_isPerson (l : Launch) (D : va_G) (ty : Nat → ClassId) (t0 : Nat → Nat) (ad : Nat → Nat) (a : Nat → Nat → Int32) (g : Nat → Nat → Int64) (n : Nat → Int32) (P : Nat) (S : Nat) (T : Nat) (B : Nat) (I : XI P S T B a n) (x : Int32)  : fc l yX5_isPerson wsX5_isPerson (fj_rm 1 22 0 0) D ty t0 [.ref (ad 0), .int x] (fx_w ad ty a g n) 0 0 (fun v w => v = some (.int (if ib x P then 1 else 0)) ∧ w = fx_w ad ty a g n) := by
  refine fc_start (own := RX5) (cc := cX5_isPerson) (maxL := 2) (ret := (some .boolean)) (by decide) rfl (Nat.le_of_ble_eq_true rfl) rfl ?_
  intro p e s m args below meth c Q A C hmn E9
  obtain ⟨hn0, hP, hn1, hT, hn3, hS, hn4, hB, iLO, iBO, iWho, iSort, iQ, iN⟩ := id I
  have iX5 : ∀ w ∈ u_ws RX5 TX5 5, w ∈ wsX5_isPerson := ptX5_isPerson_wsX50
  have kX5_12 : Cond.fieldLink RX5 12 "FreeLand" "persons" "LFreeLand$Persons;" ∈ wsX5_isPerson := ptX5_isPerson_woX5_isPerson _ (by decide +kernel)
  have iX3 : ∀ w ∈ u_ws RX3 TX3 3, w ∈ wsX5_isPerson := ptX5_isPerson_wsX30
  have kX5_50 : (RX5, 50, "FreeLand$Persons", "size", "I") ∈ nw_F := (by decide +kernel)
  refine fj_lv (lv' := [(0, .ref (ad 0)), (1, .int x)]) [0, 1] rfl ?_
  refine fj_iload_n C 1 dX5_isPerson_0 rfl rfl ?_
  refine fj_iconst (v := 0) C dX5_isPerson_1 (by decide) ?_
  refine fj_aload_n C 0 dX5_isPerson_2 rfl rfl ?_
  refine fj_get (Cn := RX5) (T := TX5) (N := 5) (ci := 5) (v := .ref (ad 1)) C iX5 0 (fx_at0 _ _ _ _ _) rfl 0 (by decide) kX5_12 rfl dX5_isPerson_3 ?_
  refine fj_getN (Cn := RX3) (T := TX3) (N := 3) (ci := 3) (v := .int (n 0)) C iX3 1 (fx_at1 _ _ _ _ _) rfl 2 (by decide) kX5_50 rfl dX5_isPerson_6 ?_
  refine fj_at (y := nI P) hn0 ?_
  refine fj_iconst (v := 1) C dX5_isPerson_9 (by decide) ?_
  refine fj_isub C dX5_isPerson_10 ?_
  refine fj_callSw (As := [.int x, .int 0, .int ((nI P) - 1)]) (rest := []) C (d_X5_within l D ty t0 (fx_w ad ty a g n) x 0 ((nI P) - 1)) (va_cwS 3 C.2.2.2.2.1 gX5_isPerson_X5_within rfl rfl rfl (by decide +kernel) ⟨Nat.le_of_ble_eq_true rfl, Nat.le_of_ble_eq_true rfl⟩)  rfl (Nat.le_of_ble_eq_true rfl) dX5_isPerson_11 ⟨Nat.zero_le _, Nat.zero_le _⟩ (fun v9 w9 hp9 => ?_)
  obtain ⟨rfl, rfl⟩ := hp9
  refine fj_st (st' := .int (if (0 ≤ x ∧ x ≤ ((nI P) - 1)) then 1 else 0) :: []) rfl ?_
  exact fj_zret C E9 (by split <;> rfl) dX5_isPerson_14 ⟨by simp only [ib_m1 (show P < 2 ^ 30 by omega)], rfl⟩
set_option maxHeartbeats 4000000 in
set_option maxRecDepth 100000 in
theorem d_X5_isLine (l : Launch) (D : va_G) (ty : Nat → ClassId) (t0 : Nat → Nat) (ad : Nat → Nat) (a : Nat → Nat → Int32) (g : Nat → Nat → Int64) (n : Nat → Int32) (P : Nat) (S : Nat) (T : Nat) (B : Nat) (I : XI P S T B a n) (x : Int32)  : fc l yX5_isLine wsX5_isLine (fj_rm 1 22 0 0) D ty t0 [.ref (ad 0), .int x] (fx_w ad ty a g n) 0 0 (fun v w => v = some (.int (if ib x B then 1 else 0)) ∧ w = fx_w ad ty a g n) := by
  refine fc_start (own := RX5) (cc := cX5_isLine) (maxL := 2) (ret := (some .boolean)) (by decide) rfl (Nat.le_of_ble_eq_true rfl) rfl ?_
  intro p e s m args below meth c Q A C hmn E9
  obtain ⟨hn0, hP, hn1, hT, hn3, hS, hn4, hB, iLO, iBO, iWho, iSort, iQ, iN⟩ := id I
  have iX5 : ∀ w ∈ u_ws RX5 TX5 5, w ∈ wsX5_isLine := ptX5_isLine_wsX50
  have kX5_26 : Cond.fieldLink RX5 26 "FreeLand" "book" "LFreeLand$Book;" ∈ wsX5_isLine := ptX5_isLine_woX5_isLine _ (by decide +kernel)
  have iX0 : ∀ w ∈ u_ws RX0 TX0 8, w ∈ wsX5_isLine := ptX5_isLine_wsX00
  have kX5_100 : (RX5, 100, "FreeLand$Book", "size", "I") ∈ nw_F := (by decide +kernel)
  refine fj_lv (lv' := [(0, .ref (ad 0)), (1, .int x)]) [0, 1] rfl ?_
  refine fj_iload_n C 1 dX5_isLine_0 rfl rfl ?_
  refine fj_iconst (v := 0) C dX5_isLine_1 (by decide) ?_
  refine fj_aload_n C 0 dX5_isLine_2 rfl rfl ?_
  refine fj_get (Cn := RX5) (T := TX5) (N := 5) (ci := 5) (v := .ref (ad 17)) C iX5 0 (fx_at0 _ _ _ _ _) rfl 2 (by decide) kX5_26 rfl dX5_isLine_3 ?_
  refine fj_getN (Cn := RX0) (T := TX0) (N := 8) (ci := 0) (v := .int (n 4)) C iX0 17 (fx_at17 _ _ _ _ _) rfl 7 (by decide) kX5_100 rfl dX5_isLine_6 ?_
  refine fj_at (y := nI B) hn4 ?_
  refine fj_iconst (v := 1) C dX5_isLine_9 (by decide) ?_
  refine fj_isub C dX5_isLine_10 ?_
  refine fj_callSw (As := [.int x, .int 0, .int ((nI B) - 1)]) (rest := []) C (d_X5_within l D ty t0 (fx_w ad ty a g n) x 0 ((nI B) - 1)) (va_cwS 3 C.2.2.2.2.1 gX5_isLine_X5_within rfl rfl rfl (by decide +kernel) ⟨Nat.le_of_ble_eq_true rfl, Nat.le_of_ble_eq_true rfl⟩)  rfl (Nat.le_of_ble_eq_true rfl) dX5_isLine_11 ⟨Nat.zero_le _, Nat.zero_le _⟩ (fun v9 w9 hp9 => ?_)
  obtain ⟨rfl, rfl⟩ := hp9
  refine fj_st (st' := .int (if (0 ≤ x ∧ x ≤ ((nI B) - 1)) then 1 else 0) :: []) rfl ?_
  exact fj_zret C E9 (by split <;> rfl) dX5_isLine_14 ⟨by simp only [ib_m1 (show B < 2 ^ 30 by omega)], rfl⟩
set_option maxHeartbeats 4000000 in
set_option maxRecDepth 100000 in
theorem d_X5_isKnownBy (l : Launch) (D : va_G) (ty : Nat → ClassId) (t0 : Nat → Nat) (ad : Nat → Nat) (a : Nat → Nat → Int32) (g : Nat → Nat → Int64) (n : Nat → Int32) (P : Nat) (S : Nat) (T : Nat) (B : Nat) (I : XI P S T B a n) (x : Int32)  : fc l yX5_isKnownBy wsX5_isKnownBy (fj_rm 1 22 0 0) D ty t0 [.ref (ad 0), .int x] (fx_w ad ty a g n) 0 0 (fun v w => v = some (.int (if (-1 ≤ x ∧ x ≤ nI B) then 1 else 0)) ∧ w = fx_w ad ty a g n) := by
  refine fc_start (own := RX5) (cc := cX5_isKnownBy) (maxL := 2) (ret := (some .boolean)) (by decide) rfl (Nat.le_of_ble_eq_true rfl) rfl ?_
  intro p e s m args below meth c Q A C hmn E9
  obtain ⟨hn0, hP, hn1, hT, hn3, hS, hn4, hB, iLO, iBO, iWho, iSort, iQ, iN⟩ := id I
  have iX5 : ∀ w ∈ u_ws RX5 TX5 5, w ∈ wsX5_isKnownBy := ptX5_isKnownBy_wsX50
  have kX5_26 : Cond.fieldLink RX5 26 "FreeLand" "book" "LFreeLand$Book;" ∈ wsX5_isKnownBy := ptX5_isKnownBy_woX5_isKnownBy _ (by decide +kernel)
  have iX0 : ∀ w ∈ u_ws RX0 TX0 8, w ∈ wsX5_isKnownBy := ptX5_isKnownBy_wsX00
  have kX5_100 : (RX5, 100, "FreeLand$Book", "size", "I") ∈ nw_F := (by decide +kernel)
  refine fj_lv (lv' := [(0, .ref (ad 0)), (1, .int x)]) [0, 1] rfl ?_
  refine fj_iload_n C 1 dX5_isKnownBy_0 rfl rfl ?_
  refine fj_iconst (v := (-1)) C dX5_isKnownBy_1 (by decide) ?_
  refine fj_aload_n C 0 dX5_isKnownBy_2 rfl rfl ?_
  refine fj_get (Cn := RX5) (T := TX5) (N := 5) (ci := 5) (v := .ref (ad 17)) C iX5 0 (fx_at0 _ _ _ _ _) rfl 2 (by decide) kX5_26 rfl dX5_isKnownBy_3 ?_
  refine fj_getN (Cn := RX0) (T := TX0) (N := 8) (ci := 0) (v := .int (n 4)) C iX0 17 (fx_at17 _ _ _ _ _) rfl 7 (by decide) kX5_100 rfl dX5_isKnownBy_6 ?_
  refine fj_at (y := nI B) hn4 ?_
  refine fj_callSw (As := [.int x, .int (-1), .int (nI B)]) (rest := []) C (d_X5_within l D ty t0 (fx_w ad ty a g n) x (-1) (nI B)) (va_cwS 3 C.2.2.2.2.1 gX5_isKnownBy_X5_within rfl rfl rfl (by decide +kernel) ⟨Nat.le_of_ble_eq_true rfl, Nat.le_of_ble_eq_true rfl⟩)  rfl (Nat.le_of_ble_eq_true rfl) dX5_isKnownBy_9 ⟨Nat.zero_le _, Nat.zero_le _⟩ (fun v9 w9 hp9 => ?_)
  obtain ⟨rfl, rfl⟩ := hp9
  refine fj_st (st' := .int (if ((-1) ≤ x ∧ x ≤ (nI B)) then 1 else 0) :: []) rfl ?_
  exact fj_zret C E9 (by split <;> rfl) dX5_isKnownBy_12 ⟨rfl, rfl⟩
set_option maxHeartbeats 4000000 in
set_option maxRecDepth 100000 in
theorem d_X5_linesOf (l : Launch) (D : va_G) (ty : Nat → ClassId) (t0 : Nat → Nat) (ad : Nat → Nat) (a : Nat → Nat → Int32) (g : Nat → Nat → Int64) (n : Nat → Int32) (P : Nat) (S : Nat) (T : Nat) (B : Nat) (I : XI P S T B a n) (x : Int32)  : fc l yX5_linesOf wsX5_linesOf (fj_rm 0 0 0 0) D ty t0 [.ref (ad 0), .int x] (fx_w ad ty a g n) 0 0 (fun v w => v = some (.int (if x = -1 then nI B else x)) ∧ w = fx_w ad ty a g n) := by
  refine fc_start (own := RX5) (cc := cX5_linesOf) (maxL := 2) (ret := (some .int)) (by decide) rfl (Nat.le_of_ble_eq_true rfl) rfl ?_
  intro p e s m args below meth c Q A C hmn E9
  obtain ⟨hn0, hP, hn1, hT, hn3, hS, hn4, hB, iLO, iBO, iWho, iSort, iQ, iN⟩ := id I
  have iX5 : ∀ w ∈ u_ws RX5 TX5 5, w ∈ wsX5_linesOf := ptX5_linesOf_wsX50
  have kX5_26 : Cond.fieldLink RX5 26 "FreeLand" "book" "LFreeLand$Book;" ∈ wsX5_linesOf := ptX5_linesOf_woX5_linesOf _ (by decide +kernel)
  have iX0 : ∀ w ∈ u_ws RX0 TX0 8, w ∈ wsX5_linesOf := ptX5_linesOf_wsX00
  have kX5_100 : (RX5, 100, "FreeLand$Book", "size", "I") ∈ nw_F := (by decide +kernel)
  refine fj_lv (lv' := [(0, .ref (ad 0)), (1, .int x)]) [0, 1] rfl ?_
  refine fj_iload_n C 1 dX5_linesOf_0 rfl rfl ?_
  refine fj_iconst (v := (-1)) C dX5_linesOf_1 (by decide) ?_
  refine fj_icmp_ne (tgt := 15) C dX5_linesOf_2 (by decide) (fun h2 => ?_) (fun h2 => ?_)
  · refine fj_iload_n C 1 dX5_linesOf_15 rfl rfl ?_
    exact fj_iret C E9 dX5_linesOf_16 ⟨by (repeat' split) <;> first | rfl | (exfalso; grind) | grind, rfl⟩
  · refine fj_aload_n C 0 dX5_linesOf_5 rfl rfl ?_
    refine fj_get (Cn := RX5) (T := TX5) (N := 5) (ci := 5) (v := .ref (ad 17)) C iX5 0 (fx_at0 _ _ _ _ _) rfl 2 (by decide) kX5_26 rfl dX5_linesOf_6 ?_
    refine fj_getN (Cn := RX0) (T := TX0) (N := 8) (ci := 0) (v := .int (n 4)) C iX0 17 (fx_at17 _ _ _ _ _) rfl 7 (by decide) kX5_100 rfl dX5_linesOf_9 ?_
    refine fj_at (y := nI B) hn4 ?_
    refine fj_goto (tgt := 16) C dX5_linesOf_12 (by decide) ?_
    exact fj_iret C E9 dX5_linesOf_16 ⟨by (repeat' split) <;> first | rfl | (exfalso; grind) | grind, rfl⟩
set_option maxHeartbeats 4000000 in
set_option maxRecDepth 100000 in
theorem d_X3_add (l : Launch) (D : va_G) (ty : Nat → ClassId) (t0 : Nat → Nat) (ad : Nat → Nat) (a : Nat → Nat → Int32) (g : Nat → Nat → Int64) (n : Nat → Int32) (P : Nat) (S : Nat) (T : Nat) (B : Nat) (I : XI P S T B a n) (x : Int32) (y : Int32) (h12 : P < 12) : fc l yX3_add wsX3_add (fj_rm 0 0 0 0) D ty t0 [.ref (ad 1), .int x, .int y] (fx_w ad ty a g n) 0 0 (fun v w => v = some (.int (nI P)) ∧ w = fx_w ad ty (va_up (va_up a 2 (upd (a 2) (nI P).toNatClampNeg x)) 3 (upd (a 3) (nI P).toNatClampNeg y)) g (va_up n 0 (nI (P + 1)))) := by
  refine fc_start (own := RX3) (cc := cX3_add) (maxL := 3) (ret := (some .int)) (by decide) rfl (Nat.le_of_ble_eq_true rfl) rfl ?_
  intro p e s m args below meth c Q A C hmn E9
  obtain ⟨hn0, hP, hn1, hT, hn3, hS, hn4, hB, iLO, iBO, iWho, iSort, iQ, iN⟩ := id I
  have iX3 : ∀ w ∈ u_ws RX3 TX3 3, w ∈ wsX3_add := ptX3_add_wsX30
  have kX3_9 : Cond.fieldLink RX3 9 "FreeLand$Persons" "birth" "[I" ∈ wsX3_add := ptX3_add_woX3_add _ (by decide +kernel)
  have kX3_18 : Cond.fieldLink RX3 18 "FreeLand$Persons" "size" "I" ∈ wsX3_add := ptX3_add_woX3_add _ (by decide +kernel)
  have kX3_15 : Cond.fieldLink RX3 15 "FreeLand$Persons" "citizen" "[I" ∈ wsX3_add := ptX3_add_woX3_add _ (by decide +kernel)
  refine fj_lv (lv' := [(0, .ref (ad 1)), (1, .int x), (2, .int y)]) [0, 1, 2] rfl ?_
  refine fj_aload_n C 0 dX3_add_0 rfl rfl ?_
  refine fj_get (Cn := RX3) (T := TX3) (N := 3) (ci := 3) (v := .ref (ad 2)) C iX3 1 (fx_at1 _ _ _ _ _) rfl 0 (by decide) kX3_9 rfl dX3_add_1 ?_
  refine fj_aload_n C 0 dX3_add_4 rfl rfl ?_
  refine fj_get (Cn := RX3) (T := TX3) (N := 3) (ci := 3) (v := .int (n 0)) C iX3 1 (fx_at1 _ _ _ _ _) rfl 2 (by decide) kX3_18 rfl dX3_add_5 ?_
  refine fj_at (y := nI P) hn0 ?_
  refine fj_iload_n C 1 dX3_add_8 rfl rfl ?_
  refine fj_iast (f := (a 2)) C 2 (fx_at2 _ _ _ _ _) (vp_in_nI h12 (by decide)) dX3_add_9 (fx_st2 _ _ _ _ _ _) ?_
  refine fj_aload_n C 0 dX3_add_10 rfl rfl ?_
  refine fj_get (Cn := RX3) (T := TX3) (N := 3) (ci := 3) (v := .ref (ad 3)) C iX3 1 (fx_at1 _ _ _ _ _) rfl 1 (by decide) kX3_15 rfl dX3_add_11 ?_
  refine fj_aload_n C 0 dX3_add_14 rfl rfl ?_
  refine fj_get (Cn := RX3) (T := TX3) (N := 3) (ci := 3) (v := .int (n 0)) C iX3 1 (fx_at1 _ _ _ _ _) rfl 2 (by decide) kX3_18 rfl dX3_add_15 ?_
  refine fj_at (y := nI P) hn0 ?_
  refine fj_iload_n C 2 dX3_add_18 rfl rfl ?_
  refine fj_iast (f := (a 3)) C 3 (fx_at3 _ _ _ _ _) (vp_in_nI h12 (by decide)) dX3_add_19 (fx_st3 _ _ _ _ _ _) ?_
  refine fj_aload_n C 0 dX3_add_20 rfl rfl ?_
  refine fj_dup C dX3_add_21 rfl ?_
  refine fj_get (Cn := RX3) (T := TX3) (N := 3) (ci := 3) (v := .int (n 0)) C iX3 1 (fx_at1 _ _ _ _ _) rfl 2 (by decide) kX3_18 rfl dX3_add_22 ?_
  refine fj_at (y := nI P) hn0 ?_
  refine fj_iconst (v := 1) C dX3_add_25 (by decide) ?_
  refine fj_iadd C dX3_add_26 ?_
  refine fj_at (y := nI (P + 1)) (nI_1 P) ?_
  refine fj_put (Cn := RX3) (T := TX3) (N := 3) (ci := 3) C iX3 tyX3 tyX3_ok nmX3 1 (fx_at1 _ _ _ _ _) rfl 2 (by decide) kX3_18 rfl rfl rfl (Nat.le_of_ble_eq_true rfl) dX3_add_27 (fx_si1_2 _ _ _ _ _ _) ?_
  refine fj_aload_n C 0 dX3_add_30 rfl rfl ?_
  refine fj_get (Cn := RX3) (T := TX3) (N := 3) (ci := 3) (v := .int (nI (P + 1))) C iX3 1 (fx_at1 _ _ _ _ _) rfl 2 (by decide) kX3_18 rfl dX3_add_31 ?_
  refine fj_iconst (v := 1) C dX3_add_34 (by decide) ?_
  refine fj_isub C dX3_add_35 ?_
  refine fj_at (y := nI P) (nI_pred P) ?_
  exact fj_iret C E9 dX3_add_36 ⟨rfl, rfl⟩
set_option maxHeartbeats 4000000 in
set_option maxRecDepth 100000 in
theorem d_X5_person (l : Launch) (D : va_G) (ty : Nat → ClassId) (t0 : Nat → Nat) (ad : Nat → Nat) (a : Nat → Nat → Int32) (g : Nat → Nat → Int64) (n : Nat → Int32) (P : Nat) (S : Nat) (T : Nat) (B : Nat) (I : XI P S T B a n) (x : Int32) (y : Int32)  : fc l yX5_person wsX5_person (fj_rm 1 22 0 0) D ty t0 [.ref (ad 0), .int x, .int y] (fx_w ad ty a g n) 0 0 (fun v w => v = some (.int (if ((-20000 ≤ x ∧ x ≤ 20000) ∧ (-20000 ≤ y ∧ y ≤ 20001)) then (if P < 12 then nI P else -1004) else -1002)) ∧ w = if ((-20000 ≤ x ∧ x ≤ 20000) ∧ (-20000 ≤ y ∧ y ≤ 20001)) ∧ P < 12 then fx_w ad ty (va_up (va_up a 2 (upd (a 2) (nI P).toNatClampNeg x)) 3 (upd (a 3) (nI P).toNatClampNeg y)) g (va_up n 0 (nI (P + 1))) else fx_w ad ty a g n) := by
  refine fc_start (own := RX5) (cc := cX5_person) (maxL := 3) (ret := (some .int)) (by decide) rfl (Nat.le_of_ble_eq_true rfl) rfl ?_
  intro p e s m args below meth c Q A C hmn E9
  obtain ⟨hn0, hP, hn1, hT, hn3, hS, hn4, hB, iLO, iBO, iWho, iSort, iQ, iN⟩ := id I
  have iX5 : ∀ w ∈ u_ws RX5 TX5 5, w ∈ wsX5_person := ptX5_person_wsX50
  have kX5_12 : Cond.fieldLink RX5 12 "FreeLand" "persons" "LFreeLand$Persons;" ∈ wsX5_person := ptX5_person_woX5_person _ (by decide +kernel)
  have iX3 : ∀ w ∈ u_ws RX3 TX3 3, w ∈ wsX5_person := ptX5_person_wsX30
  have kX5_50 : (RX5, 50, "FreeLand$Persons", "size", "I") ∈ nw_F := (by decide +kernel)
  have kN54 : (RX5, 54, yX3_add) ∈ nw_M := (by decide +kernel)
  have kIX3 : Cond.initialized RX3 ∈ wsX5_person := ptX5_person_woX5_person _ (by decide +kernel)
  have kVX3_add : Cond.instanceMethod yX3_add ∈ wsX5_person := ptX5_person_woX5_person _ (by decide +kernel)
  have kSX3_add : Cond.selects RX3 yX3_add yX3_add ∈ wsX5_person := ptX5_person_woX5_person _ (by decide +kernel)
  refine fj_lv (lv' := [(0, .ref (ad 0)), (1, .int x), (2, .int y)]) [0, 1, 2] rfl ?_
  refine fj_iload_n C 1 dX5_person_0 rfl rfl ?_
  refine fj_sipush (v := (-20000)) C dX5_person_1 (by decide) ?_
  refine fj_sipush (v := 20000) C dX5_person_4 (by decide) ?_
  refine fj_callSw (As := [.int x, .int (-20000), .int 20000]) (rest := []) C (d_X5_within l D ty t0 (fx_w ad ty a g n) x (-20000) 20000) (va_cwS 3 C.2.2.2.2.1 gX5_person_X5_within rfl rfl rfl (by decide +kernel) ⟨Nat.le_of_ble_eq_true rfl, Nat.le_of_ble_eq_true rfl⟩)  rfl (Nat.le_of_ble_eq_true rfl) dX5_person_7 ⟨Nat.zero_le _, Nat.zero_le _⟩ (fun v9 w9 hp9 => ?_)
  obtain ⟨rfl, rfl⟩ := hp9
  refine fj_st (st' := .int (if ((-20000) ≤ x ∧ x ≤ 20000) then 1 else 0) :: []) rfl ?_
  refine fj_ifb_eq (tgt := 26) C dX5_person_10 (by decide) (fun h10 => ?_) (fun h10 => ?_)
  · refine fj_sipush (v := (-1002)) C dX5_person_26 (by decide) ?_
    exact fj_iret C E9 dX5_person_29 ⟨by rw [if_neg (by grind)], by rw [if_neg (by grind)]⟩
  · refine fj_iload_n C 2 dX5_person_13 rfl rfl ?_
    refine fj_sipush (v := (-20000)) C dX5_person_14 (by decide) ?_
    refine fj_sipush (v := 20001) C dX5_person_17 (by decide) ?_
    refine fj_callSw (As := [.int y, .int (-20000), .int 20001]) (rest := []) C (d_X5_within l D ty t0 (fx_w ad ty a g n) y (-20000) 20001) (va_cwS 3 C.2.2.2.2.1 gX5_person_X5_within rfl rfl rfl (by decide +kernel) ⟨Nat.le_of_ble_eq_true rfl, Nat.le_of_ble_eq_true rfl⟩)  rfl (Nat.le_of_ble_eq_true rfl) dX5_person_20 ⟨Nat.zero_le _, Nat.zero_le _⟩ (fun v9 w9 hp9 => ?_)
    obtain ⟨rfl, rfl⟩ := hp9
    refine fj_st (st' := .int (if ((-20000) ≤ y ∧ y ≤ 20001) then 1 else 0) :: []) rfl ?_
    refine fj_ifb_ne (tgt := 30) C dX5_person_23 (by decide) (fun h23 => ?_) (fun h23 => ?_)
    · refine fj_aload_n C 0 dX5_person_30 rfl rfl ?_
      refine fj_get (Cn := RX5) (T := TX5) (N := 5) (ci := 5) (v := .ref (ad 1)) C iX5 0 (fx_at0 _ _ _ _ _) rfl 0 (by decide) kX5_12 rfl dX5_person_31 ?_
      refine fj_getN (Cn := RX3) (T := TX3) (N := 3) (ci := 3) (v := .int (n 0)) C iX3 1 (fx_at1 _ _ _ _ _) rfl 2 (by decide) kX5_50 rfl dX5_person_34 ?_
      refine fj_at (y := nI P) hn0 ?_
      refine fj_bipush (v := 12) C dX5_person_37 (by decide) ?_
      refine fj_icmp_lt (tgt := 46) C dX5_person_39 (by decide) (fun h39 => ?_) (fun h39 => ?_)
      · have h12 : P < 12 := (nI_ltI (b := 12) (by omega) (by decide)).mp h39
        refine fj_aload_n C 0 dX5_person_46 rfl rfl ?_
        refine fj_get (Cn := RX5) (T := TX5) (N := 5) (ci := 5) (v := .ref (ad 1)) C iX5 0 (fx_at0 _ _ _ _ _) rfl 0 (by decide) kX5_12 rfl dX5_person_47 ?_
        refine fj_iload_n C 1 dX5_person_50 rfl rfl ?_
        refine fj_iload_n C 2 dX5_person_51 rfl rfl ?_
        refine fj_callVNw (As := [.int x, .int y]) (rest := []) C (d_X3_add l D ty t0 ad a g n P S T B I x y h12) ⟨va_cnB 2 C.2.2.2.2.1 gX5_person_X3_add_n54 rfl rfl rfl (C.2.2.2.2.2.2.2.1.1 _ kN54) (C.2.2.2.2.1 _ kIX3) (by decide +kernel) ⟨Nat.le_of_ble_eq_true rfl, Nat.le_of_ble_eq_true rfl⟩, C.2.2.2.2.1 _ kVX3_add, C.2.2.2.2.1 _ kSX3_add⟩ ⟨1, 3, _, _, fx_at1 _ _ _ _ _, rfl, rfl⟩ rfl (Nat.le_of_ble_eq_true rfl) dX5_person_52 ⟨Nat.zero_le _, Nat.zero_le _⟩ (fun v9 w9 hp9 => ?_)
        obtain ⟨rfl, rfl⟩ := hp9
        refine fj_st (st' := .int (nI P) :: []) rfl ?_
        exact fj_iret C E9 dX5_person_55 ⟨by rw [if_pos (by grind), if_pos h12], by rw [if_pos ⟨by grind, h12⟩]⟩
      · have h12 : ¬ P < 12 := fun q => h39 ((nI_ltI (b := 12) (by omega) (by decide)).mpr q)
        refine fj_sipush (v := (-1004)) C dX5_person_42 (by decide) ?_
        exact fj_iret C E9 dX5_person_45 ⟨by rw [if_pos (by grind), if_neg h12], by rw [if_neg (by grind)]⟩
    · refine fj_sipush (v := (-1002)) C dX5_person_26 (by decide) ?_
      exact fj_iret C E9 dX5_person_29 ⟨by rw [if_neg (by grind)], by rw [if_neg (by grind)]⟩
set_option maxHeartbeats 4000000 in
set_option maxRecDepth 100000 in
theorem d_X5_strike (l : Launch) (D : va_G) (ty : Nat → ClassId) (t0 : Nat → Nat) (ad : Nat → Nat) (a : Nat → Nat → Int32) (g : Nat → Nat → Int64) (n : Nat → Int32) (P : Nat) (S : Nat) (T : Nat) (B : Nat) (I : XI P S T B a n) (x : Int32) (y : Int32)  : fc l yX5_strike wsX5_strike (fj_rm 2 43 0 0) D ty t0 [.ref (ad 0), .int x, .int y] (fx_w ad ty a g n) 0 0 (fun v w => v = some (.int (if ib x B then (if a 23 x.toNatClampNeg = 0 then 0 else 1) else -1001)) ∧ w = if ib x B then fx_w ad ty (va_up a 23 (upd (a 23) x.toNatClampNeg (vp_nar .boolean y))) g n else fx_w ad ty a g n) := by
  refine fc_start (own := RX5) (cc := cX5_strike) (maxL := 4) (ret := (some .int)) (by decide) rfl (Nat.le_of_ble_eq_true rfl) rfl ?_
  intro p e s m args below meth c Q A C hmn E9
  obtain ⟨hn0, hP, hn1, hT, hn3, hS, hn4, hB, iLO, iBO, iWho, iSort, iQ, iN⟩ := id I
  have iX5 : ∀ w ∈ u_ws RX5 TX5 5, w ∈ wsX5_strike := ptX5_strike_wsX50
  have kX5_26 : Cond.fieldLink RX5 26 "FreeLand" "book" "LFreeLand$Book;" ∈ wsX5_strike := ptX5_strike_woX5_strike _ (by decide +kernel)
  have iX0 : ∀ w ∈ u_ws RX0 TX0 8, w ∈ wsX5_strike := ptX5_strike_wsX00
  have kX5_114 : (RX5, 114, "FreeLand$Book", "struck", "[Z") ∈ nw_F := (by decide +kernel)
  refine fj_lv (lv' := [(0, .ref (ad 0)), (1, .int x), (2, .int y)]) [0, 1, 2] rfl ?_
  refine fj_aload_n C 0 dX5_strike_0 rfl rfl ?_
  refine fj_iload_n C 1 dX5_strike_1 rfl rfl ?_
  refine fj_callVw (As := [.int x]) (rest := []) C (d_X5_isLine l D ty t0 ad a g n P S T B I x) (cwV 1 C.2.2.2.2.1 gX5_strike_X5_isLine rfl rfl rfl (by decide +kernel) ⟨Nat.le_of_ble_eq_true rfl, Nat.le_of_ble_eq_true rfl⟩) ⟨0, 5, _, _, fx_at0 _ _ _ _ _, rfl, rfl⟩ rfl (Nat.le_of_ble_eq_true rfl) dX5_strike_2 ⟨Nat.zero_le _, Nat.zero_le _⟩ (fun v9 w9 hp9 => ?_)
  obtain ⟨rfl, rfl⟩ := hp9
  refine fj_st (st' := .int (if ib x B then 1 else 0) :: []) rfl ?_
  refine fj_ifb_ne (tgt := 12) C dX5_strike_5 (by decide) (fun h5 => ?_) (fun h5 => ?_)
  · refine fj_aload_n C 0 dX5_strike_12 rfl rfl ?_
    refine fj_get (Cn := RX5) (T := TX5) (N := 5) (ci := 5) (v := .ref (ad 17)) C iX5 0 (fx_at0 _ _ _ _ _) rfl 2 (by decide) kX5_26 rfl dX5_strike_13 ?_
    refine fj_getN (Cn := RX0) (T := TX0) (N := 8) (ci := 0) (v := .ref (ad 23)) C iX0 17 (fx_at17 _ _ _ _ _) rfl 5 (by decide) kX5_114 rfl dX5_strike_16 ?_
    refine fj_iload_n C 1 dX5_strike_19 rfl rfl ?_
    refine fj_zald (f := (a 23)) C 23 (fx_at23 _ _ _ _ _) (by obtain ⟨k, hk, rfl⟩ := ib_nI h5 (by omega); exact vp_in_nI (by omega) (by decide)) dX5_strike_20 ?_
    refine fj_if_eq (tgt := 28) C dX5_strike_21 (by decide) (fun h21 => ?_) (fun h21 => ?_)
    · refine fj_iconst (v := 0) C dX5_strike_28 (by decide) ?_
      refine fj_istore_n (lv' := [(3, .int 0), (0, .ref (ad 0)), (1, .int x), (2, .int y)]) C dX5_strike_29 rfl (by decide) rfl ?_
      refine fj_aload_n C 1 dX5_strike_30 rfl rfl ?_
      refine fj_get (Cn := RX5) (T := TX5) (N := 5) (ci := 5) (v := .ref (ad 17)) C iX5 0 (fx_at0 _ _ _ _ _) rfl 2 (by decide) kX5_26 rfl dX5_strike_31 ?_
      refine fj_getN (Cn := RX0) (T := TX0) (N := 8) (ci := 0) (v := .ref (ad 23)) C iX0 17 (fx_at17 _ _ _ _ _) rfl 5 (by decide) kX5_114 rfl dX5_strike_34 ?_
      refine fj_iload_n C 2 dX5_strike_37 rfl rfl ?_
      refine fj_iload_n C 3 dX5_strike_38 rfl rfl ?_
      refine fj_zast (f := (a 23)) C 23 (fx_at23 _ _ _ _ _) (by obtain ⟨k, hk, rfl⟩ := ib_nI h5 (by omega); exact vp_in_nI (by omega) (by decide)) dX5_strike_39 (fx_st23 _ _ _ _ _ _) ?_
      refine fj_iload_n C 0 dX5_strike_40 rfl rfl ?_
      exact fj_iret C E9 dX5_strike_41 ⟨by first | (rw [if_neg (by assumption)]; done) | (rw [if_pos (by assumption), if_pos (by assumption)]; done) | (rw [if_pos (by assumption), if_neg (by assumption)]; done), by first | (rw [if_neg (by assumption)]; done) | (rw [if_pos (by assumption)]; done)⟩
    · refine fj_iconst (v := 1) C dX5_strike_24 (by decide) ?_
      refine fj_goto (tgt := 29) C dX5_strike_25 (by decide) ?_
      refine fj_istore_n (lv' := [(3, .int 1), (0, .ref (ad 0)), (1, .int x), (2, .int y)]) C dX5_strike_29 rfl (by decide) rfl ?_
      refine fj_aload_n C 1 dX5_strike_30 rfl rfl ?_
      refine fj_get (Cn := RX5) (T := TX5) (N := 5) (ci := 5) (v := .ref (ad 17)) C iX5 0 (fx_at0 _ _ _ _ _) rfl 2 (by decide) kX5_26 rfl dX5_strike_31 ?_
      refine fj_getN (Cn := RX0) (T := TX0) (N := 8) (ci := 0) (v := .ref (ad 23)) C iX0 17 (fx_at17 _ _ _ _ _) rfl 5 (by decide) kX5_114 rfl dX5_strike_34 ?_
      refine fj_iload_n C 2 dX5_strike_37 rfl rfl ?_
      refine fj_iload_n C 3 dX5_strike_38 rfl rfl ?_
      refine fj_zast (f := (a 23)) C 23 (fx_at23 _ _ _ _ _) (by obtain ⟨k, hk, rfl⟩ := ib_nI h5 (by omega); exact vp_in_nI (by omega) (by decide)) dX5_strike_39 (fx_st23 _ _ _ _ _ _) ?_
      refine fj_iload_n C 0 dX5_strike_40 rfl rfl ?_
      exact fj_iret C E9 dX5_strike_41 ⟨by first | (rw [if_neg (by assumption)]; done) | (rw [if_pos (by assumption), if_pos (by assumption)]; done) | (rw [if_pos (by assumption), if_neg (by assumption)]; done), by first | (rw [if_neg (by assumption)]; done) | (rw [if_pos (by assumption)]; done)⟩
  · refine fj_sipush (v := (-1001)) C dX5_strike_8 (by decide) ?_
    exact fj_iret C E9 dX5_strike_11 ⟨by first | (rw [if_neg (by assumption)]; done) | (rw [if_pos (by assumption), if_pos (by assumption)]; done) | (rw [if_pos (by assumption), if_neg (by assumption)]; done), by first | (rw [if_neg (by assumption)]; done) | (rw [if_pos (by assumption)]; done)⟩
