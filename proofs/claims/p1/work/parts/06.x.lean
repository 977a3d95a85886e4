def fx_cl (a : Nat → Nat → Int32) : Nat → Nat → Int32 := va_up (va_up (va_up (va_up (va_up (va_up a 26 (fl (-1) (a 26) 120)) 27 (fl 0 (a 27) 120)) 33 (fl (-1) (a 33) 64)) 34 (fl (-1) (a 34) 64)) 36 (fl 0 (a 36) 12)) 37 (fl 0 (a 37) 12)
theorem fl_in {α : Type} {v : α} {f : Nat → α} {i k : Nat} (h : k < i) : fl v f i k = v := if_pos h
theorem fx_cl33 (a : Nat → Nat → Int32) {k : Nat} (h : k < 64) : (fx_cl a) 33 k = -1 := if_pos h
theorem fx_cl34 (a : Nat → Nat → Int32) {k : Nat} (h : k < 64) : (fx_cl a) 34 k = -1 := if_pos h
theorem fx_cl36 (a : Nat → Nat → Int32) {k : Nat} (h : k < 12) : (fx_cl a) 36 k = 0 := if_pos h
theorem fl_nIz (v : Int32) (f : Nat → Int32) {i : Nat} (hi : i < 2 ^ 31) : upd (fl 0 f i) (nI i).toNatClampNeg (vp_nar .boolean 0) = fl 0 f (i + 1) := fl_nI 0 f hi
theorem fx_ix {q : Int32} (h : 0 ≤ q ∧ q ≤ 63) : q.toNatClampNeg < 64 := by
  have h1 := fx_in (n := 64) h.1 h.2 (by decide) (by decide)
  exact Nat.not_le.mp fun z => h1 (Or.inr z)
theorem fx_p0 {k : Nat} (hk : k < 2 ^ 31) (h : nI k - 1 < 0) : k = 0 := by
  cases k with
  | zero => rfl
  | succ k => rw [nI_pred] at h; exact absurd h (nI_pos (by omega))
theorem fx_p1 {k : Nat} (h : ¬ nI k - 1 < 0) : ∃ z, k = z + 1 := by
  cases k with
  | zero => exact absurd (by decide) h
  | succ k => exact ⟨k, rfl⟩
theorem fx_p2 (k : Nat) : nI (k + 1) - 1 + Int32.ofInt (-1) = nI k - 1 := by
  rw [nI_pred, Int32.sub_eq_add_neg]
  rfl
theorem fx_ij {i j : Int32} (hi : 0 ≤ i ∧ i ≤ 8) (hj : 0 ≤ j ∧ j ≤ 8) : vp_in (9 * j + i) 81 := by
  obtain ⟨x, hx, rfl⟩ := nI_of2 (M := 8) (n := 8) (by decide) (x := i) (Int32.not_lt.mpr hi.1) hi.2
  obtain ⟨y, hy, rfl⟩ := nI_of2 (M := 8) (n := 8) (by decide) (x := j) (Int32.not_lt.mpr hj.1) hj.2
  rw [show (9 : Int32) = nI 9 from rfl, pk_mul, nI_add]
  exact vp_in_nI (by omega) (by omega)
theorem fx_kn {i j : Int32} (hi : 0 ≤ i ∧ i ≤ 8) (hj : 0 ≤ j ∧ j ≤ 8) : (fl 1 (fun _ => 0) 81 : Nat → Int32) (9 * j + i).toNatClampNeg = 1 := by
  have h := fx_ij hi hj
  exact fl_in (Nat.not_le.mp fun z => h (Or.inr z))
def fx_dg : Nat → Int32
  | 0 => 7
  | i + 1 => 31 * fx_dg i + (-1)
def fx_cx (i : Nat) : Nat → Int32 := fun j => if j < i then nI (100 * (j % 9)) else 0
def fx_cy (i : Nat) : Nat → Int32 := fun j => if j < i then nI (100 * (j / 9)) else 0
theorem fx_i0 {i : Int32} (h : 0 ≤ i ∧ i ≤ 7) : 0 ≤ i + 0 ∧ i + 0 ≤ 8 := by
  rw [Int32.add_zero]
  grind
theorem fx_i1 {i : Int32} (h : 0 ≤ i ∧ i ≤ 7) : 0 ≤ i + 1 ∧ i + 1 ≤ 8 := by
  obtain ⟨x, hx, rfl⟩ := nI_of2 (M := 7) (n := 7) (by decide) (x := i) (Int32.not_lt.mpr h.1) h.2
  rw [nI_1]
  exact ⟨(nI_leI (a := 0) (by decide) (by omega)).mpr (by omega), (nI_leI (b := 8) (by omega) (by decide)).mpr (by omega)⟩
theorem fx_q8 {q : Int32} (h : 0 ≤ q ∧ q ≤ 63) : (0 ≤ q - q / 8 * 8 ∧ q - q / 8 * 8 ≤ 7) ∧ (0 ≤ q / 8 ∧ q / 8 ≤ 7) := by
  obtain ⟨x, hx, rfl⟩ := nI_of2 (M := 63) (n := 63) (by decide) (x := q) (Int32.not_lt.mpr h.1) h.2
  rw [show (8 : Int32) = nI 8 from rfl, pk_rem (by omega) (by decide) (by decide), pk_div (by omega) (by decide) (by decide)]
  exact ⟨⟨(nI_leI (a := 0) (by decide) (by omega)).mpr (by omega), (nI_leI (b := 7) (by omega) (by decide)).mpr (by omega)⟩, ⟨(nI_leI (a := 0) (by decide) (by omega)).mpr (by omega), (nI_leI (b := 7) (by omega) (by decide)).mpr (by omega)⟩⟩
/-- the arrays and numbers of a new object -/
def fx_a0 : Nat → Nat → Int32 := fun k => if k = 39 then fl 1 (fun _ => 0) 81 else if k = 40 then fx_cx 81 else if k = 41 then fx_cy 81 else (fun _ => 0)
def fx_g0 : Nat → Nat → Int64 := fun _ _ => 0
def fx_n0 : Nat → Int32 := fun k => if k = 2 then -1 else if k = 5 then 20001 else 0
def fx_cs (x y : Nat → Int64) : Int64 := 0 + (x 0 * y 1 - x 1 * y 0) + (x 1 * y 2 - x 2 * y 1) + (x 2 * y 3 - x 3 * y 2) + (x 3 * y 0 - x 0 * y 3)
def fx_ar (i j : Int32) : Int64 := fx_cs (vp_updL (vp_updL (vp_updL (vp_updL (fx_g0 42) 0 (840 * fx_a0 40 (9 * (j + 0) + (i + 0)).toNatClampNeg).toInt64) 1 (840 * fx_a0 40 (9 * (j + 0) + (i + 1)).toNatClampNeg).toInt64) 2 (840 * fx_a0 40 (9 * (j + 1) + (i + 1)).toNatClampNeg).toInt64) 3 (840 * fx_a0 40 (9 * (j + 1) + (i + 0)).toNatClampNeg).toInt64) (vp_updL (vp_updL (vp_updL (vp_updL (fx_g0 43) 0 (840 * fx_a0 41 (9 * (j + 0) + (i + 0)).toNatClampNeg).toInt64) 1 (840 * fx_a0 41 (9 * (j + 0) + (i + 1)).toNatClampNeg).toInt64) 2 (840 * fx_a0 41 (9 * (j + 1) + (i + 1)).toNatClampNeg).toInt64) 3 (840 * fx_a0 41 (9 * (j + 1) + (i + 0)).toNatClampNeg).toInt64)
set_option maxHeartbeats 4000000 in
set_option maxRecDepth 100000 in
theorem c_X5_within (l : Launch) (D : va_G) (ty : Nat → ClassId) (t0 : Nat) (W9 : va_W) (x : Int32) (lo : Int32) (hi : Int32)  : fc l yX5_within wsX5_within (fj_rm 0 0 0 0) D ty t0 [.int x, .int lo, .int hi] W9 0 0 (fun v w => v = some (.int (if (lo ≤ x ∧ x ≤ hi) then 1 else 0)) ∧ w = W9) := by
  refine fc_start (own := RX5) (cc := cX5_within) (maxL := 3) (ret := (some .boolean)) (by decide) rfl (Nat.le_of_ble_eq_true rfl) rfl ?_
  intro p e s m args below meth c Q A C hmn E9
  refine fj_lv (lv' := [(0, .int x), (1, .int lo), (2, .int hi)]) [0, 1, 2] rfl ?_
  refine fj_iload_n C 0 dX5_within_0 rfl rfl ?_
  refine fj_iload_n C 1 dX5_within_1 rfl rfl ?_
  refine fj_icmp_lt (tgt := 14) C dX5_within_2 (by decide) (fun h2 => ?_) (fun h2 => ?_)
  · refine fj_iconst (v := 0) C dX5_within_14 (by decide) ?_
    exact fj_zret C E9 rfl dX5_within_15 ⟨by (repeat' split) <;> first | rfl | (exfalso; grind) | grind, rfl⟩
  · refine fj_iload_n C 0 dX5_within_5 rfl rfl ?_
    refine fj_iload_n C 2 dX5_within_6 rfl rfl ?_
    refine fj_icmp_gt (tgt := 14) C dX5_within_7 (by decide) (fun h7 => ?_) (fun h7 => ?_)
    · refine fj_iconst (v := 0) C dX5_within_14 (by decide) ?_
      exact fj_zret C E9 rfl dX5_within_15 ⟨by (repeat' split) <;> first | rfl | (exfalso; grind) | grind, rfl⟩
    · refine fj_iconst (v := 1) C dX5_within_10 (by decide) ?_
      refine fj_goto (tgt := 15) C dX5_within_11 (by decide) ?_
      exact fj_zret C E9 rfl dX5_within_15 ⟨by (repeat' split) <;> first | rfl | (exfalso; grind) | grind, rfl⟩

set_option maxHeartbeats 4000000 in
set_option maxRecDepth 100000 in
theorem c_X5_isDay (l : Launch) (D : va_G) (ty : Nat → ClassId) (t0 : Nat) (W9 : va_W) (x : Int32)  : fc l yX5_isDay wsX5_isDay (fj_rm 1 22 0 0) D ty t0 [.int x] W9 0 0 (fun v w => v = some (.int (if (0 ≤ x ∧ x ≤ 20000) then 1 else 0)) ∧ w = W9) := by
  refine fc_start (own := RX5) (cc := cX5_isDay) (maxL := 1) (ret := (some .boolean)) (by decide) rfl (Nat.le_of_ble_eq_true rfl) rfl ?_
  intro p e s m args below meth c Q A C hmn E9
  refine fj_lv (lv' := [(0, .int x)]) [0] rfl ?_
  refine fj_iload_n C 0 dX5_isDay_0 rfl rfl ?_
  refine fj_iconst (v := 0) C dX5_isDay_1 (by decide) ?_
  refine fj_sipush (v := 20000) C dX5_isDay_2 (by decide) ?_
  refine fj_callSw (As := [.int x, .int 0, .int 20000]) (rest := []) C (c_X5_within l D ty t0 W9 x 0 20000) (va_cwS 3 C.2.2.2.2.1 gX5_isDay_X5_within rfl rfl rfl (by decide +kernel) ⟨Nat.le_of_ble_eq_true rfl, Nat.le_of_ble_eq_true rfl⟩)  rfl (Nat.le_of_ble_eq_true rfl) dX5_isDay_5 ⟨Nat.zero_le _, Nat.zero_le _⟩ (fun v9 w9 hp9 => ?_)
  obtain ⟨rfl, rfl⟩ := hp9
  refine fj_st (st' := .int (if (0 ≤ x ∧ x ≤ 20000) then 1 else 0) :: []) rfl ?_
  exact fj_zret C E9 (by split <;> rfl) dX5_isDay_8 ⟨rfl, rfl⟩

set_option maxHeartbeats 4000000 in
set_option maxRecDepth 100000 in
theorem c_X5_isQuarter (l : Launch) (D : va_G) (ty : Nat → ClassId) (t0 : Nat) (W9 : va_W) (x : Int32)  : fc l yX5_isQuarter wsX5_isQuarter (fj_rm 1 22 0 0) D ty t0 [.int x] W9 0 0 (fun v w => v = some (.int (if (0 ≤ x ∧ x ≤ 63) then 1 else 0)) ∧ w = W9) := by
  refine fc_start (own := RX5) (cc := cX5_isQuarter) (maxL := 1) (ret := (some .boolean)) (by decide) rfl (Nat.le_of_ble_eq_true rfl) rfl ?_
  intro p e s m args below meth c Q A C hmn E9
  refine fj_lv (lv' := [(0, .int x)]) [0] rfl ?_
  refine fj_iload_n C 0 dX5_isQuarter_0 rfl rfl ?_
  refine fj_iconst (v := 0) C dX5_isQuarter_1 (by decide) ?_
  refine fj_bipush (v := 63) C dX5_isQuarter_2 (by decide) ?_
  refine fj_callSw (As := [.int x, .int 0, .int 63]) (rest := []) C (c_X5_within l D ty t0 W9 x 0 63) (va_cwS 3 C.2.2.2.2.1 gX5_isQuarter_X5_within rfl rfl rfl (by decide +kernel) ⟨Nat.le_of_ble_eq_true rfl, Nat.le_of_ble_eq_true rfl⟩)  rfl (Nat.le_of_ble_eq_true rfl) dX5_isQuarter_4 ⟨Nat.zero_le _, Nat.zero_le _⟩ (fun v9 w9 hp9 => ?_)
  obtain ⟨rfl, rfl⟩ := hp9
  refine fj_st (st' := .int (if (0 ≤ x ∧ x ≤ 63) then 1 else 0) :: []) rfl ?_
  exact fj_zret C E9 (by split <;> rfl) dX5_isQuarter_7 ⟨rfl, rfl⟩

set_option maxHeartbeats 4000000 in
set_option maxRecDepth 100000 in
theorem c_X5_isCorner (l : Launch) (D : va_G) (ty : Nat → ClassId) (t0 : Nat) (W9 : va_W) (x : Int32) (y : Int32)  : fc l yX5_isCorner wsX5_isCorner (fj_rm 1 22 0 0) D ty t0 [.int x, .int y] W9 0 0 (fun v w => v = some (.int (if (0 ≤ x ∧ x ≤ 8) ∧ (0 ≤ y ∧ y ≤ 8) then 1 else 0)) ∧ w = W9) := by
  refine fc_start (own := RX5) (cc := cX5_isCorner) (maxL := 2) (ret := (some .boolean)) (by decide) rfl (Nat.le_of_ble_eq_true rfl) rfl ?_
  intro p e s m args below meth c Q A C hmn E9
  refine fj_lv (lv' := [(0, .int x), (1, .int y)]) [0, 1] rfl ?_
  refine fj_iload_n C 0 dX5_isCorner_0 rfl rfl ?_
  refine fj_iconst (v := 0) C dX5_isCorner_1 (by decide) ?_
  refine fj_bipush (v := 8) C dX5_isCorner_2 (by decide) ?_
  refine fj_callSw (As := [.int x, .int 0, .int 8]) (rest := []) C (c_X5_within l D ty t0 W9 x 0 8) (va_cwS 3 C.2.2.2.2.1 gX5_isCorner_X5_within rfl rfl rfl (by decide +kernel) ⟨Nat.le_of_ble_eq_true rfl, Nat.le_of_ble_eq_true rfl⟩)  rfl (Nat.le_of_ble_eq_true rfl) dX5_isCorner_4 ⟨Nat.zero_le _, Nat.zero_le _⟩ (fun v9 w9 hp9 => ?_)
  obtain ⟨rfl, rfl⟩ := hp9
  refine fj_st (st' := .int (if (0 ≤ x ∧ x ≤ 8) then 1 else 0) :: []) rfl ?_
  refine fj_ifb_eq (tgt := 24) C dX5_isCorner_7 (by decide) (fun h7 => ?_) (fun h7 => ?_)
  · refine fj_iconst (v := 0) C dX5_isCorner_24 (by decide) ?_
    exact fj_zret C E9 rfl dX5_isCorner_25 ⟨by (repeat' split) <;> first | rfl | (exfalso; grind) | grind, rfl⟩
  · refine fj_iload_n C 1 dX5_isCorner_10 rfl rfl ?_
    refine fj_iconst (v := 0) C dX5_isCorner_11 (by decide) ?_
    refine fj_bipush (v := 8) C dX5_isCorner_12 (by decide) ?_
    refine fj_callSw (As := [.int y, .int 0, .int 8]) (rest := []) C (c_X5_within l D ty t0 W9 y 0 8) (va_cwS 3 C.2.2.2.2.1 gX5_isCorner_X5_within rfl rfl rfl (by decide +kernel) ⟨Nat.le_of_ble_eq_true rfl, Nat.le_of_ble_eq_true rfl⟩)  rfl (Nat.le_of_ble_eq_true rfl) dX5_isCorner_14 ⟨Nat.zero_le _, Nat.zero_le _⟩ (fun v9 w9 hp9 => ?_)
    obtain ⟨rfl, rfl⟩ := hp9
    refine fj_st (st' := .int (if (0 ≤ y ∧ y ≤ 8) then 1 else 0) :: []) rfl ?_
    refine fj_ifb_eq (tgt := 24) C dX5_isCorner_17 (by decide) (fun h17 => ?_) (fun h17 => ?_)
    · refine fj_iconst (v := 0) C dX5_isCorner_24 (by decide) ?_
      exact fj_zret C E9 rfl dX5_isCorner_25 ⟨by (repeat' split) <;> first | rfl | (exfalso; grind) | grind, rfl⟩
    · refine fj_iconst (v := 1) C dX5_isCorner_20 (by decide) ?_
      refine fj_goto (tgt := 25) C dX5_isCorner_21 (by decide) ?_
      exact fj_zret C E9 rfl dX5_isCorner_25 ⟨by (repeat' split) <;> first | rfl | (exfalso; grind) | grind, rfl⟩

set_option maxHeartbeats 4000000 in
set_option maxRecDepth 100000 in
theorem c_X5_isPerson (l : Launch) (D : va_G) (ty : Nat → ClassId) (t0 : Nat) (ad : Nat → Nat) (x : Int32)  : fc l yX5_isPerson wsX5_isPerson (fj_rm 1 22 0 0) D ty t0 [.ref (ad 0), .int x] (fx_w ad ty fx_a0 fx_g0 fx_n0) 0 0 (fun v w => v = some (.int 0) ∧ w = fx_w ad ty fx_a0 fx_g0 fx_n0) := by
  refine fc_start (own := RX5) (cc := cX5_isPerson) (maxL := 2) (ret := (some .boolean)) (by decide) rfl (Nat.le_of_ble_eq_true rfl) rfl ?_
  intro p e s m args below meth c Q A C hmn E9
  have iX5 : ∀ w ∈ u_ws RX5 TX5 5, w ∈ wsX5_isPerson := fun _ h => List.mem_cons_of_mem _ (List.mem_append_left _ (List.mem_append_right _ h))
  have kX5_12 : Cond.fieldLink RX5 12 "FreeLand" "persons" "LFreeLand$Persons;" ∈ wsX5_isPerson := (by decide +kernel)
  have iX3 : ∀ w ∈ u_ws RX3 TX3 3, w ∈ wsX5_isPerson := fun _ h => List.mem_cons_of_mem _ (List.mem_append_right _ h)
  have kX5_50 : (RX5, 50, "FreeLand$Persons", "size", "I") ∈ nw_F := (by decide +kernel)
  refine fj_lv (lv' := [(0, .ref (ad 0)), (1, .int x)]) [0, 1] rfl ?_
  refine fj_iload_n C 1 dX5_isPerson_0 rfl rfl ?_
  refine fj_iconst (v := 0) C dX5_isPerson_1 (by decide) ?_
  refine fj_aload_n C 0 dX5_isPerson_2 rfl rfl ?_
  refine fj_get (Cn := RX5) (T := TX5) (N := 5) (ci := 5) (v := .ref (ad 1)) C iX5 0 (fx_at0 _ _ _ _ _) rfl 0 (by decide) kX5_12 rfl dX5_isPerson_3 ?_
  refine fj_getN (Cn := RX3) (T := TX3) (N := 3) (ci := 3) (v := .int 0) C iX3 1 (fx_at1 _ _ _ _ _) rfl 2 (by decide) kX5_50 rfl dX5_isPerson_6 ?_
  refine fj_iconst (v := 1) C dX5_isPerson_9 (by decide) ?_
  refine fj_isub C dX5_isPerson_10 ?_
  refine fj_at (y := (-1)) (by decide) ?_
  refine fj_callSw (As := [.int x, .int 0, .int (-1)]) (rest := []) C (c_X5_within l D ty t0 (fx_w ad ty fx_a0 fx_g0 fx_n0) x 0 (-1)) (va_cwS 3 C.2.2.2.2.1 gX5_isPerson_X5_within rfl rfl rfl (by decide +kernel) ⟨Nat.le_of_ble_eq_true rfl, Nat.le_of_ble_eq_true rfl⟩)  rfl (Nat.le_of_ble_eq_true rfl) dX5_isPerson_11 ⟨Nat.zero_le _, Nat.zero_le _⟩ (fun v9 w9 hp9 => ?_)
  obtain ⟨rfl, rfl⟩ := hp9
  refine fj_st (st' := .int (if (0 ≤ x ∧ x ≤ (-1)) then 1 else 0) :: []) rfl ?_
  exact fj_zret C E9 (by split <;> rfl) dX5_isPerson_14 ⟨by rw [if_neg]; intro q; grind, rfl⟩

set_option maxHeartbeats 4000000 in
set_option maxRecDepth 100000 in
theorem c_X5_isLine (l : Launch) (D : va_G) (ty : Nat → ClassId) (t0 : Nat) (ad : Nat → Nat) (x : Int32)  : fc l yX5_isLine wsX5_isLine (fj_rm 1 22 0 0) D ty t0 [.ref (ad 0), .int x] (fx_w ad ty fx_a0 fx_g0 fx_n0) 0 0 (fun v w => v = some (.int 0) ∧ w = fx_w ad ty fx_a0 fx_g0 fx_n0) := by
  refine fc_start (own := RX5) (cc := cX5_isLine) (maxL := 2) (ret := (some .boolean)) (by decide) rfl (Nat.le_of_ble_eq_true rfl) rfl ?_
  intro p e s m args below meth c Q A C hmn E9
  have iX5 : ∀ w ∈ u_ws RX5 TX5 5, w ∈ wsX5_isLine := fun _ h => List.mem_cons_of_mem _ (List.mem_append_left _ (List.mem_append_right _ h))
  have kX5_26 : Cond.fieldLink RX5 26 "FreeLand" "book" "LFreeLand$Book;" ∈ wsX5_isLine := (by decide +kernel)
  have iX0 : ∀ w ∈ u_ws RX0 TX0 8, w ∈ wsX5_isLine := fun _ h => List.mem_cons_of_mem _ (List.mem_append_right _ h)
  have kX5_100 : (RX5, 100, "FreeLand$Book", "size", "I") ∈ nw_F := (by decide +kernel)
  refine fj_lv (lv' := [(0, .ref (ad 0)), (1, .int x)]) [0, 1] rfl ?_
  refine fj_iload_n C 1 dX5_isLine_0 rfl rfl ?_
  refine fj_iconst (v := 0) C dX5_isLine_1 (by decide) ?_
  refine fj_aload_n C 0 dX5_isLine_2 rfl rfl ?_
  refine fj_get (Cn := RX5) (T := TX5) (N := 5) (ci := 5) (v := .ref (ad 17)) C iX5 0 (fx_at0 _ _ _ _ _) rfl 2 (by decide) kX5_26 rfl dX5_isLine_3 ?_
  refine fj_getN (Cn := RX0) (T := TX0) (N := 8) (ci := 0) (v := .int 0) C iX0 17 (fx_at17 _ _ _ _ _) rfl 7 (by decide) kX5_100 rfl dX5_isLine_6 ?_
  refine fj_iconst (v := 1) C dX5_isLine_9 (by decide) ?_
  refine fj_isub C dX5_isLine_10 ?_
  refine fj_at (y := (-1)) (by decide) ?_
  refine fj_callSw (As := [.int x, .int 0, .int (-1)]) (rest := []) C (c_X5_within l D ty t0 (fx_w ad ty fx_a0 fx_g0 fx_n0) x 0 (-1)) (va_cwS 3 C.2.2.2.2.1 gX5_isLine_X5_within rfl rfl rfl (by decide +kernel) ⟨Nat.le_of_ble_eq_true rfl, Nat.le_of_ble_eq_true rfl⟩)  rfl (Nat.le_of_ble_eq_true rfl) dX5_isLine_11 ⟨Nat.zero_le _, Nat.zero_le _⟩ (fun v9 w9 hp9 => ?_)
  obtain ⟨rfl, rfl⟩ := hp9
  refine fj_st (st' := .int (if (0 ≤ x ∧ x ≤ (-1)) then 1 else 0) :: []) rfl ?_
  exact fj_zret C E9 (by split <;> rfl) dX5_isLine_14 ⟨by rw [if_neg]; intro q; grind, rfl⟩

set_option maxHeartbeats 4000000 in
set_option maxRecDepth 100000 in
theorem c_X5_isKnownBy (l : Launch) (D : va_G) (ty : Nat → ClassId) (t0 : Nat) (ad : Nat → Nat) (x : Int32)  : fc l yX5_isKnownBy wsX5_isKnownBy (fj_rm 1 22 0 0) D ty t0 [.ref (ad 0), .int x] (fx_w ad ty fx_a0 fx_g0 fx_n0) 0 0 (fun v w => v = some (.int (if (-1 ≤ x ∧ x ≤ 0) then 1 else 0)) ∧ w = fx_w ad ty fx_a0 fx_g0 fx_n0) := by
  refine fc_start (own := RX5) (cc := cX5_isKnownBy) (maxL := 2) (ret := (some .boolean)) (by decide) rfl (Nat.le_of_ble_eq_true rfl) rfl ?_
  intro p e s m args below meth c Q A C hmn E9
  have iX5 : ∀ w ∈ u_ws RX5 TX5 5, w ∈ wsX5_isKnownBy := fun _ h => List.mem_cons_of_mem _ (List.mem_append_left _ (List.mem_append_right _ h))
  have kX5_26 : Cond.fieldLink RX5 26 "FreeLand" "book" "LFreeLand$Book;" ∈ wsX5_isKnownBy := (by decide +kernel)
  have iX0 : ∀ w ∈ u_ws RX0 TX0 8, w ∈ wsX5_isKnownBy := fun _ h => List.mem_cons_of_mem _ (List.mem_append_right _ h)
  have kX5_100 : (RX5, 100, "FreeLand$Book", "size", "I") ∈ nw_F := (by decide +kernel)
  refine fj_lv (lv' := [(0, .ref (ad 0)), (1, .int x)]) [0, 1] rfl ?_
  refine fj_iload_n C 1 dX5_isKnownBy_0 rfl rfl ?_
  refine fj_iconst (v := (-1)) C dX5_isKnownBy_1 (by decide) ?_
  refine fj_aload_n C 0 dX5_isKnownBy_2 rfl rfl ?_
  refine fj_get (Cn := RX5) (T := TX5) (N := 5) (ci := 5) (v := .ref (ad 17)) C iX5 0 (fx_at0 _ _ _ _ _) rfl 2 (by decide) kX5_26 rfl dX5_isKnownBy_3 ?_
  refine fj_getN (Cn := RX0) (T := TX0) (N := 8) (ci := 0) (v := .int 0) C iX0 17 (fx_at17 _ _ _ _ _) rfl 7 (by decide) kX5_100 rfl dX5_isKnownBy_6 ?_
  refine fj_callSw (As := [.int x, .int (-1), .int 0]) (rest := []) C (c_X5_within l D ty t0 (fx_w ad ty fx_a0 fx_g0 fx_n0) x (-1) 0) (va_cwS 3 C.2.2.2.2.1 gX5_isKnownBy_X5_within rfl rfl rfl (by decide +kernel) ⟨Nat.le_of_ble_eq_true rfl, Nat.le_of_ble_eq_true rfl⟩)  rfl (Nat.le_of_ble_eq_true rfl) dX5_isKnownBy_9 ⟨Nat.zero_le _, Nat.zero_le _⟩ (fun v9 w9 hp9 => ?_)
  obtain ⟨rfl, rfl⟩ := hp9
  refine fj_st (st' := .int (if ((-1) ≤ x ∧ x ≤ 0) then 1 else 0) :: []) rfl ?_
  exact fj_zret C E9 (by split <;> rfl) dX5_isKnownBy_12 ⟨rfl, rfl⟩

set_option maxHeartbeats 4000000 in
set_option maxRecDepth 100000 in
theorem c_X5_linesOf (l : Launch) (D : va_G) (ty : Nat → ClassId) (t0 : Nat) (ad : Nat → Nat) (x : Int32)  : fc l yX5_linesOf wsX5_linesOf (fj_rm 0 0 0 0) D ty t0 [.ref (ad 0), .int x] (fx_w ad ty fx_a0 fx_g0 fx_n0) 0 0 (fun v w => v = some (.int (if x = -1 then 0 else x)) ∧ w = fx_w ad ty fx_a0 fx_g0 fx_n0) := by
  refine fc_start (own := RX5) (cc := cX5_linesOf) (maxL := 2) (ret := (some .int)) (by decide) rfl (Nat.le_of_ble_eq_true rfl) rfl ?_
  intro p e s m args below meth c Q A C hmn E9
  have iX5 : ∀ w ∈ u_ws RX5 TX5 5, w ∈ wsX5_linesOf := fun _ h => List.mem_cons_of_mem _ (List.mem_append_left _ (List.mem_append_right _ h))
  have kX5_26 : Cond.fieldLink RX5 26 "FreeLand" "book" "LFreeLand$Book;" ∈ wsX5_linesOf := (by decide +kernel)
  have iX0 : ∀ w ∈ u_ws RX0 TX0 8, w ∈ wsX5_linesOf := fun _ h => List.mem_cons_of_mem _ (List.mem_append_right _ h)
  have kX5_100 : (RX5, 100, "FreeLand$Book", "size", "I") ∈ nw_F := (by decide +kernel)
  refine fj_lv (lv' := [(0, .ref (ad 0)), (1, .int x)]) [0, 1] rfl ?_
  refine fj_iload_n C 1 dX5_linesOf_0 rfl rfl ?_
  refine fj_iconst (v := (-1)) C dX5_linesOf_1 (by decide) ?_
  refine fj_icmp_ne (tgt := 15) C dX5_linesOf_2 (by decide) (fun h2 => ?_) (fun h2 => ?_)
  · refine fj_iload_n C 1 dX5_linesOf_15 rfl rfl ?_
    exact fj_iret C E9 dX5_linesOf_16 ⟨by (repeat' split) <;> first | rfl | (exfalso; grind) | grind, rfl⟩
  · refine fj_aload_n C 0 dX5_linesOf_5 rfl rfl ?_
    refine fj_get (Cn := RX5) (T := TX5) (N := 5) (ci := 5) (v := .ref (ad 17)) C iX5 0 (fx_at0 _ _ _ _ _) rfl 2 (by decide) kX5_26 rfl dX5_linesOf_6 ?_
    refine fj_getN (Cn := RX0) (T := TX0) (N := 8) (ci := 0) (v := .int 0) C iX0 17 (fx_at17 _ _ _ _ _) rfl 7 (by decide) kX5_100 rfl dX5_linesOf_9 ?_
    refine fj_goto (tgt := 16) C dX5_linesOf_12 (by decide) ?_
    exact fj_iret C E9 dX5_linesOf_16 ⟨by (repeat' split) <;> first | rfl | (exfalso; grind) | grind, rfl⟩

set_option maxHeartbeats 4000000 in
set_option maxRecDepth 100000 in
theorem c_X3_add (l : Launch) (D : va_G) (ty : Nat → ClassId) (t0 : Nat) (ad : Nat → Nat) (x : Int32) (y : Int32)  : fc l yX3_add wsX3_add (fj_rm 0 0 0 0) D ty t0 [.ref (ad 1), .int x, .int y] (fx_w ad ty fx_a0 fx_g0 fx_n0) 0 0 (fun v w => v = some (.int 0)) := by
  refine fc_start (own := RX3) (cc := cX3_add) (maxL := 3) (ret := (some .int)) (by decide) rfl (Nat.le_of_ble_eq_true rfl) rfl ?_
  intro p e s m args below meth c Q A C hmn E9
  have iX3 : ∀ w ∈ u_ws RX3 TX3 3, w ∈ wsX3_add := fun _ h => List.mem_cons_of_mem _ (List.mem_append_right _ h)
  have kX3_9 : Cond.fieldLink RX3 9 "FreeLand$Persons" "birth" "[I" ∈ wsX3_add := (by decide +kernel)
  have kX3_18 : Cond.fieldLink RX3 18 "FreeLand$Persons" "size" "I" ∈ wsX3_add := (by decide +kernel)
  have kX3_15 : Cond.fieldLink RX3 15 "FreeLand$Persons" "citizen" "[I" ∈ wsX3_add := (by decide +kernel)
  refine fj_lv (lv' := [(0, .ref (ad 1)), (1, .int x), (2, .int y)]) [0, 1, 2] rfl ?_
  refine fj_aload_n C 0 dX3_add_0 rfl rfl ?_
  refine fj_get (Cn := RX3) (T := TX3) (N := 3) (ci := 3) (v := .ref (ad 2)) C iX3 1 (fx_at1 _ _ _ _ _) rfl 0 (by decide) kX3_9 rfl dX3_add_1 ?_
  refine fj_aload_n C 0 dX3_add_4 rfl rfl ?_
  refine fj_get (Cn := RX3) (T := TX3) (N := 3) (ci := 3) (v := .int 0) C iX3 1 (fx_at1 _ _ _ _ _) rfl 2 (by decide) kX3_18 rfl dX3_add_5 ?_
  refine fj_iload_n C 1 dX3_add_8 rfl rfl ?_
  refine fj_iast (f := (fx_a0 2)) C 2 (fx_at2 _ _ _ _ _) (vp_in_iff.mpr ⟨by decide, by decide⟩) dX3_add_9 (fx_st2 _ _ _ _ _ _) ?_
  refine fj_aload_n C 0 dX3_add_10 rfl rfl ?_
  refine fj_get (Cn := RX3) (T := TX3) (N := 3) (ci := 3) (v := .ref (ad 3)) C iX3 1 (fx_at1 _ _ _ _ _) rfl 1 (by decide) kX3_15 rfl dX3_add_11 ?_
  refine fj_aload_n C 0 dX3_add_14 rfl rfl ?_
  refine fj_get (Cn := RX3) (T := TX3) (N := 3) (ci := 3) (v := .int 0) C iX3 1 (fx_at1 _ _ _ _ _) rfl 2 (by decide) kX3_18 rfl dX3_add_15 ?_
  refine fj_iload_n C 2 dX3_add_18 rfl rfl ?_
  refine fj_iast (f := (fx_a0 3)) C 3 (fx_at3 _ _ _ _ _) (vp_in_iff.mpr ⟨by decide, by decide⟩) dX3_add_19 (fx_st3 _ _ _ _ _ _) ?_
  refine fj_aload_n C 0 dX3_add_20 rfl rfl ?_
  refine fj_dup C dX3_add_21 rfl ?_
  refine fj_get (Cn := RX3) (T := TX3) (N := 3) (ci := 3) (v := .int 0) C iX3 1 (fx_at1 _ _ _ _ _) rfl 2 (by decide) kX3_18 rfl dX3_add_22 ?_
  refine fj_iconst (v := 1) C dX3_add_25 (by decide) ?_
  refine fj_iadd C dX3_add_26 ?_
  refine fj_at (y := 1) (by decide) ?_
  refine fj_put (Cn := RX3) (T := TX3) (N := 3) (ci := 3) C iX3 tyX3 tyX3_ok nmX3 1 (fx_at1 _ _ _ _ _) rfl 2 (by decide) kX3_18 rfl rfl rfl (by decide) dX3_add_27 (fx_si1_2 _ _ _ _ _ _) ?_
  refine fj_aload_n C 0 dX3_add_30 rfl rfl ?_
  refine fj_get (Cn := RX3) (T := TX3) (N := 3) (ci := 3) (v := .int 1) C iX3 1 (fx_at1 _ _ _ _ _) rfl 2 (by decide) kX3_18 rfl dX3_add_31 ?_
  refine fj_iconst (v := 1) C dX3_add_34 (by decide) ?_
  refine fj_isub C dX3_add_35 ?_
  refine fj_at (y := 0) (by decide) ?_
  exact fj_iret C E9 dX3_add_36 rfl

set_option maxHeartbeats 4000000 in
set_option maxRecDepth 100000 in
theorem c_X5_person (l : Launch) (D : va_G) (ty : Nat → ClassId) (t0 : Nat) (ad : Nat → Nat) (x : Int32) (y : Int32)  : fc l yX5_person wsX5_person (fj_rm 1 22 0 0) D ty t0 [.ref (ad 0), .int x, .int y] (fx_w ad ty fx_a0 fx_g0 fx_n0) 0 0 (fun v w => v = some (.int (if (-20000 ≤ x ∧ x ≤ 20000) ∧ (-20000 ≤ y ∧ y ≤ 20001) then 0 else -1002))) := by
  refine fc_start (own := RX5) (cc := cX5_person) (maxL := 3) (ret := (some .int)) (by decide) rfl (Nat.le_of_ble_eq_true rfl) rfl ?_
  intro p e s m args below meth c Q A C hmn E9
  have iX5 : ∀ w ∈ u_ws RX5 TX5 5, w ∈ wsX5_person := fun _ h => List.mem_cons_of_mem _ (List.mem_append_left _ (List.mem_append_right _ h))
  have kX5_12 : Cond.fieldLink RX5 12 "FreeLand" "persons" "LFreeLand$Persons;" ∈ wsX5_person := (by decide +kernel)
  have iX3 : ∀ w ∈ u_ws RX3 TX3 3, w ∈ wsX5_person := fun _ h => List.mem_cons_of_mem _ (List.mem_append_right _ h)
  have kX5_50 : (RX5, 50, "FreeLand$Persons", "size", "I") ∈ nw_F := (by decide +kernel)
  have kN54 : (RX5, 54, yX3_add) ∈ nw_M := (by decide +kernel)
  have kIX3 : Cond.initialized RX3 ∈ wsX5_person := (by decide +kernel)
  have kVX3_add : Cond.instanceMethod yX3_add ∈ wsX5_person := (by decide +kernel)
  have kSX3_add : Cond.selects RX3 yX3_add yX3_add ∈ wsX5_person := (by decide +kernel)
  refine fj_lv (lv' := [(0, .ref (ad 0)), (1, .int x), (2, .int y)]) [0, 1, 2] rfl ?_
  refine fj_iload_n C 1 dX5_person_0 rfl rfl ?_
  refine fj_sipush (v := (-20000)) C dX5_person_1 (by decide) ?_
  refine fj_sipush (v := 20000) C dX5_person_4 (by decide) ?_
  refine fj_callSw (As := [.int x, .int (-20000), .int 20000]) (rest := []) C (c_X5_within l D ty t0 (fx_w ad ty fx_a0 fx_g0 fx_n0) x (-20000) 20000) (va_cwS 3 C.2.2.2.2.1 gX5_person_X5_within rfl rfl rfl (by decide +kernel) ⟨Nat.le_of_ble_eq_true rfl, Nat.le_of_ble_eq_true rfl⟩)  rfl (Nat.le_of_ble_eq_true rfl) dX5_person_7 ⟨Nat.zero_le _, Nat.zero_le _⟩ (fun v9 w9 hp9 => ?_)
  obtain ⟨rfl, rfl⟩ := hp9
  refine fj_st (st' := .int (if ((-20000) ≤ x ∧ x ≤ 20000) then 1 else 0) :: []) rfl ?_
  refine fj_ifb_eq (tgt := 26) C dX5_person_10 (by decide) (fun h10 => ?_) (fun h10 => ?_)
  · refine fj_sipush (v := (-1002)) C dX5_person_26 (by decide) ?_
    exact fj_iret C E9 dX5_person_29 (by (repeat' split) <;> first | rfl | (exfalso; grind) | grind)
  · refine fj_iload_n C 2 dX5_person_13 rfl rfl ?_
    refine fj_sipush (v := (-20000)) C dX5_person_14 (by decide) ?_
    refine fj_sipush (v := 20001) C dX5_person_17 (by decide) ?_
    refine fj_callSw (As := [.int y, .int (-20000), .int 20001]) (rest := []) C (c_X5_within l D ty t0 (fx_w ad ty fx_a0 fx_g0 fx_n0) y (-20000) 20001) (va_cwS 3 C.2.2.2.2.1 gX5_person_X5_within rfl rfl rfl (by decide +kernel) ⟨Nat.le_of_ble_eq_true rfl, Nat.le_of_ble_eq_true rfl⟩)  rfl (Nat.le_of_ble_eq_true rfl) dX5_person_20 ⟨Nat.zero_le _, Nat.zero_le _⟩ (fun v9 w9 hp9 => ?_)
    obtain ⟨rfl, rfl⟩ := hp9
    refine fj_st (st' := .int (if ((-20000) ≤ y ∧ y ≤ 20001) then 1 else 0) :: []) rfl ?_
    refine fj_ifb_ne (tgt := 30) C dX5_person_23 (by decide) (fun h23 => ?_) (fun h23 => ?_)
    · refine fj_aload_n C 0 dX5_person_30 rfl rfl ?_
      refine fj_get (Cn := RX5) (T := TX5) (N := 5) (ci := 5) (v := .ref (ad 1)) C iX5 0 (fx_at0 _ _ _ _ _) rfl 0 (by decide) kX5_12 rfl dX5_person_31 ?_
      refine fj_getN (Cn := RX3) (T := TX3) (N := 3) (ci := 3) (v := .int 0) C iX3 1 (fx_at1 _ _ _ _ _) rfl 2 (by decide) kX5_50 rfl dX5_person_34 ?_
      refine fj_bipush (v := 12) C dX5_person_37 (by decide) ?_
      refine fj_icmp_lt (tgt := 46) C dX5_person_39 (by decide) (fun _ => ?_) (fun h => absurd (by decide) h)
      refine fj_aload_n C 0 dX5_person_46 rfl rfl ?_
      refine fj_get (Cn := RX5) (T := TX5) (N := 5) (ci := 5) (v := .ref (ad 1)) C iX5 0 (fx_at0 _ _ _ _ _) rfl 0 (by decide) kX5_12 rfl dX5_person_47 ?_
      refine fj_iload_n C 1 dX5_person_50 rfl rfl ?_
      refine fj_iload_n C 2 dX5_person_51 rfl rfl ?_
      refine fj_callVNw (As := [.int x, .int y]) (rest := []) C (c_X3_add l D ty t0 ad x y) ⟨va_cnB 2 C.2.2.2.2.1 gX5_person_X3_add_n54 rfl rfl rfl (C.2.2.2.2.2.2.2.1.1 _ kN54) (C.2.2.2.2.1 _ kIX3) (by decide +kernel) ⟨Nat.le_of_ble_eq_true rfl, Nat.le_of_ble_eq_true rfl⟩, C.2.2.2.2.1 _ kVX3_add, C.2.2.2.2.1 _ kSX3_add⟩ ⟨1, 3, _, _, fx_at1 _ _ _ _ _, rfl, rfl⟩ rfl (Nat.le_of_ble_eq_true rfl) dX5_person_52 ⟨Nat.zero_le _, Nat.zero_le _⟩ (fun v9 w9 hp9 => ?_)
      obtain rfl := hp9
      refine fj_st (st' := .int 0 :: []) rfl ?_
      exact fj_iret C E9 dX5_person_55 (by (repeat' split) <;> first | rfl | (exfalso; grind) | grind)
    · refine fj_sipush (v := (-1002)) C dX5_person_26 (by decide) ?_
      exact fj_iret C E9 dX5_person_29 (by (repeat' split) <;> first | rfl | (exfalso; grind) | grind)

set_option maxHeartbeats 4000000 in
set_option maxRecDepth 100000 in
theorem c_X5_map (l : Launch) (D : va_G) (ty : Nat → ClassId) (t0 : Nat) (ad : Nat → Nat) (x : Int32)  : fc l yX5_map wsX5_map (fj_rm 1 22 0 0) D ty t0 [.ref (ad 0), .int x] (fx_w ad ty fx_a0 fx_g0 fx_n0) 0 0 (fun v w => v = some (.int (if (0 ≤ x ∧ x ≤ 20001) then 20001 else -1002))) := by
  refine fc_start (own := RX5) (cc := cX5_map) (maxL := 3) (ret := (some .int)) (by decide) rfl (Nat.le_of_ble_eq_true rfl) rfl ?_
  intro p e s m args below meth c Q A C hmn E9
  have iX5 : ∀ w ∈ u_ws RX5 TX5 5, w ∈ wsX5_map := fun _ h => List.mem_cons_of_mem _ (List.mem_append_left _ (List.mem_append_right _ h))
  have kX5_35 : Cond.fieldLink RX5 35 "FreeLand" "work" "LFreeLand$Work;" ∈ wsX5_map := (by decide +kernel)
  have iX4 : ∀ w ∈ u_ws RX4 TX4 18, w ∈ wsX5_map := fun _ h => List.mem_cons_of_mem _ (List.mem_append_right _ h)
  have kX5_58 : (RX5, 58, "FreeLand$Work", "mapDay", "I") ∈ nw_F := (by decide +kernel)
  refine fj_lv (lv' := [(0, .ref (ad 0)), (1, .int x)]) [0, 1] rfl ?_
  refine fj_iload_n C 1 dX5_map_0 rfl rfl ?_
  refine fj_iconst (v := 0) C dX5_map_1 (by decide) ?_
  refine fj_sipush (v := 20001) C dX5_map_2 (by decide) ?_
  refine fj_callSw (As := [.int x, .int 0, .int 20001]) (rest := []) C (c_X5_within l D ty t0 (fx_w ad ty fx_a0 fx_g0 fx_n0) x 0 20001) (va_cwS 3 C.2.2.2.2.1 gX5_map_X5_within rfl rfl rfl (by decide +kernel) ⟨Nat.le_of_ble_eq_true rfl, Nat.le_of_ble_eq_true rfl⟩)  rfl (Nat.le_of_ble_eq_true rfl) dX5_map_5 ⟨Nat.zero_le _, Nat.zero_le _⟩ (fun v9 w9 hp9 => ?_)
  obtain ⟨rfl, rfl⟩ := hp9
  refine fj_st (st' := .int (if (0 ≤ x ∧ x ≤ 20001) then 1 else 0) :: []) rfl ?_
  refine fj_ifb_ne (tgt := 15) C dX5_map_8 (by decide) (fun h8 => ?_) (fun h8 => ?_)
  · refine fj_aload_n C 0 dX5_map_15 rfl rfl ?_
    refine fj_get (Cn := RX5) (T := TX5) (N := 5) (ci := 5) (v := .ref (ad 25)) C iX5 0 (fx_at0 _ _ _ _ _) rfl 3 (by decide) kX5_35 rfl dX5_map_16 ?_
    refine fj_getN (Cn := RX4) (T := TX4) (N := 18) (ci := 4) (v := .int 20001) C iX4 25 (fx_at25 _ _ _ _ _) rfl 3 (by decide) kX5_58 rfl dX5_map_19 ?_
    refine fj_istore_n (lv' := [(2, .int 20001), (0, .ref (ad 0)), (1, .int x)]) C dX5_map_22 rfl (by decide) rfl ?_
    refine fj_aload_n C 1 dX5_map_23 rfl rfl ?_
    refine fj_get (Cn := RX5) (T := TX5) (N := 5) (ci := 5) (v := .ref (ad 25)) C iX5 0 (fx_at0 _ _ _ _ _) rfl 3 (by decide) kX5_35 rfl dX5_map_24 ?_
    refine fj_iload_n C 2 dX5_map_27 rfl rfl ?_
    refine fj_putN (Cn := RX4) (T := TX4) (N := 18) (ci := 4) C iX4 tyX4 tyX4_ok nmX4 25 (fx_at25 _ _ _ _ _) rfl 3 (by decide) kX5_58 rfl rfl rfl (by decide) dX5_map_28 (fx_si25_3 _ _ _ _ _ _) ?_
    refine fj_iload_n C 0 dX5_map_31 rfl rfl ?_
    exact fj_iret C E9 dX5_map_32 (by (repeat' split) <;> first | rfl | (exfalso; grind) | grind)
  · refine fj_sipush (v := (-1002)) C dX5_map_11 (by decide) ?_
    exact fj_iret C E9 dX5_map_14 (by (repeat' split) <;> first | rfl | (exfalso; grind) | grind)

set_option maxHeartbeats 4000000 in
set_option maxRecDepth 100000 in
theorem c_X5_place (l : Launch) (D : va_G) (ty : Nat → ClassId) (t0 : Nat) (ad : Nat → Nat)   : fc l yX5_place wsX5_place (fj_rm 0 0 0 0) D ty t0 [.ref (ad 0)] (fx_w ad ty fx_a0 fx_g0 fx_n0) 0 0 (fun v w => v = some (.int (-1))) := by
  refine fc_start (own := RX5) (cc := cX5_place) (maxL := 1) (ret := (some .int)) (by decide) rfl (Nat.le_of_ble_eq_true rfl) rfl ?_
  intro p e s m args below meth c Q A C hmn E9
  have iX5 : ∀ w ∈ u_ws RX5 TX5 5, w ∈ wsX5_place := fun _ h => List.mem_cons_of_mem _ (List.mem_append_left _ (List.mem_append_right _ h))
  have kX5_19 : Cond.fieldLink RX5 19 "FreeLand" "laws" "LFreeLand$Laws;" ∈ wsX5_place := (by decide +kernel)
  have iX2 : ∀ w ∈ u_ws RX2 TX2 7, w ∈ wsX5_place := fun _ h => List.mem_cons_of_mem _ (List.mem_append_right _ h)
  have kX5_77 : (RX5, 77, "FreeLand$Laws", "faultAt", "I") ∈ nw_F := (by decide +kernel)
  refine fj_lv (lv' := [(0, .ref (ad 0))]) [0] rfl ?_
  refine fj_aload_n C 0 dX5_place_0 rfl rfl ?_
  refine fj_get (Cn := RX5) (T := TX5) (N := 5) (ci := 5) (v := .ref (ad 4)) C iX5 0 (fx_at0 _ _ _ _ _) rfl 1 (by decide) kX5_19 rfl dX5_place_1 ?_
  refine fj_getN (Cn := RX2) (T := TX2) (N := 7) (ci := 2) (v := .int (-1)) C iX2 4 (fx_at4 _ _ _ _ _) rfl 2 (by decide) kX5_77 rfl dX5_place_4 ?_
  exact fj_iret C E9 dX5_place_7 rfl

set_option maxHeartbeats 4000000 in
set_option maxRecDepth 100000 in
theorem c_X5_strike (l : Launch) (D : va_G) (ty : Nat → ClassId) (t0 : Nat) (ad : Nat → Nat) (x : Int32) (y : Int32)  : fc l yX5_strike wsX5_strike (fj_rm 2 43 0 0) D ty t0 [.ref (ad 0), .int x, .int y] (fx_w ad ty fx_a0 fx_g0 fx_n0) 0 0 (fun v w => v = some (.int (-1001))) := by
  refine fc_start (own := RX5) (cc := cX5_strike) (maxL := 4) (ret := (some .int)) (by decide) rfl (Nat.le_of_ble_eq_true rfl) rfl ?_
  intro p e s m args below meth c Q A C hmn E9
  refine fj_lv (lv' := [(0, .ref (ad 0)), (1, .int x), (2, .int y)]) [0, 1, 2] rfl ?_
  refine fj_aload_n C 0 dX5_strike_0 rfl rfl ?_
  refine fj_iload_n C 1 dX5_strike_1 rfl rfl ?_
  refine fj_callVw (As := [.int x]) (rest := []) C (c_X5_isLine l D ty t0 ad x) (cwV 1 C.2.2.2.2.1 gX5_strike_X5_isLine rfl rfl rfl (by decide +kernel) ⟨Nat.le_of_ble_eq_true rfl, Nat.le_of_ble_eq_true rfl⟩) ⟨0, 5, _, _, fx_at0 _ _ _ _ _, rfl, rfl⟩ rfl (Nat.le_of_ble_eq_true rfl) dX5_strike_2 ⟨Nat.zero_le _, Nat.zero_le _⟩ (fun v9 w9 hp9 => ?_)
  obtain ⟨rfl, rfl⟩ := hp9
  refine fj_st (st' := .int 0 :: []) rfl ?_
  refine fj_if_ne (tgt := 12) C dX5_strike_5 (by decide) (fun h => absurd h (by decide)) (fun _ => ?_)
  refine fj_sipush (v := (-1001)) C dX5_strike_8 (by decide) ?_
  exact fj_iret C E9 dX5_strike_11 rfl

set_option maxHeartbeats 4000000 in
set_option maxRecDepth 100000 in
theorem c_X5_told (l : Launch) (D : va_G) (ty : Nat → ClassId) (t0 : Nat) (ad : Nat → Nat) (x : Int32) (y : Int32)  : fc l yX5_told wsX5_told (fj_rm 2 43 0 0) D ty t0 [.ref (ad 0), .int x, .int y] (fx_w ad ty fx_a0 fx_g0 fx_n0) 0 0 (fun v w => v = some (.int (-1001))) := by
  refine fc_start (own := RX5) (cc := cX5_told) (maxL := 3) (ret := (some .int)) (by decide) rfl (Nat.le_of_ble_eq_true rfl) rfl ?_
  intro p e s m args below meth c Q A C hmn E9
  refine fj_lv (lv' := [(0, .ref (ad 0)), (1, .int x), (2, .int y)]) [0, 1, 2] rfl ?_
  refine fj_aload_n C 0 dX5_told_0 rfl rfl ?_
  refine fj_iload_n C 1 dX5_told_1 rfl rfl ?_
  refine fj_callVw (As := [.int x]) (rest := []) C (c_X5_isLine l D ty t0 ad x) (cwV 1 C.2.2.2.2.1 gX5_told_X5_isLine rfl rfl rfl (by decide +kernel) ⟨Nat.le_of_ble_eq_true rfl, Nat.le_of_ble_eq_true rfl⟩) ⟨0, 5, _, _, fx_at0 _ _ _ _ _, rfl, rfl⟩ rfl (Nat.le_of_ble_eq_true rfl) dX5_told_2 ⟨Nat.zero_le _, Nat.zero_le _⟩ (fun v9 w9 hp9 => ?_)
  obtain ⟨rfl, rfl⟩ := hp9
  refine fj_st (st' := .int 0 :: []) rfl ?_
  refine fj_if_ne (tgt := 12) C dX5_told_5 (by decide) (fun h => absurd h (by decide)) (fun _ => ?_)
  refine fj_sipush (v := (-1001)) C dX5_told_8 (by decide) ?_
  exact fj_iret C E9 dX5_told_11 rfl

set_option maxHeartbeats 4000000 in
set_option maxRecDepth 100000 in
theorem c_X5_outcome (l : Launch) (D : va_G) (ty : Nat → ClassId) (t0 : Nat) (ad : Nat → Nat) (x : Int32) (y : Int32)  : fc l yX5_outcome wsX5_outcome (fj_rm 2 43 0 0) D ty t0 [.ref (ad 0), .int x, .int y] (fx_w ad ty fx_a0 fx_g0 fx_n0) 0 0 (fun v w => v = some (.int (-1001))) := by
  refine fc_start (own := RX5) (cc := cX5_outcome) (maxL := 3) (ret := (some .int)) (by decide) rfl (Nat.le_of_ble_eq_true rfl) rfl ?_
  intro p e s m args below meth c Q A C hmn E9
  refine fj_lv (lv' := [(0, .ref (ad 0)), (1, .int x), (2, .int y)]) [0, 1, 2] rfl ?_
  refine fj_aload_n C 0 dX5_outcome_0 rfl rfl ?_
  refine fj_iload_n C 1 dX5_outcome_1 rfl rfl ?_
  refine fj_callVw (As := [.int x]) (rest := []) C (c_X5_isLine l D ty t0 ad x) (cwV 1 C.2.2.2.2.1 gX5_outcome_X5_isLine rfl rfl rfl (by decide +kernel) ⟨Nat.le_of_ble_eq_true rfl, Nat.le_of_ble_eq_true rfl⟩) ⟨0, 5, _, _, fx_at0 _ _ _ _ _, rfl, rfl⟩ rfl (Nat.le_of_ble_eq_true rfl) dX5_outcome_2 ⟨Nat.zero_le _, Nat.zero_le _⟩ (fun v9 w9 hp9 => ?_)
  obtain ⟨rfl, rfl⟩ := hp9
  refine fj_st (st' := .int 0 :: []) rfl ?_
  refine fj_if_ne (tgt := 12) C dX5_outcome_5 (by decide) (fun h => absurd h (by decide)) (fun _ => ?_)
  refine fj_sipush (v := (-1001)) C dX5_outcome_8 (by decide) ?_
  exact fj_iret C E9 dX5_outcome_11 rfl

set_option maxHeartbeats 4000000 in
set_option maxRecDepth 100000 in
theorem c_X5_holdings (l : Launch) (D : va_G) (ty : Nat → ClassId) (t0 : Nat) (ad : Nat → Nat) (x : Int32) (y : Int32)  : fc l yX5_holdings wsX5_holdings (fj_rm 2 43 0 0) D ty t0 [.ref (ad 0), .int x, .int y] (fx_w ad ty fx_a0 fx_g0 fx_n0) 0 0 (fun v w => v = some (.int (-1001))) := by
  refine fc_start (own := RX5) (cc := cX5_holdings) (maxL := 5) (ret := (some .int)) (by decide) rfl (Nat.le_of_ble_eq_true rfl) rfl ?_
  intro p e s m args below meth c Q A C hmn E9
  refine fj_lv (lv' := [(0, .ref (ad 0)), (1, .int x), (2, .int y)]) [0, 1, 2] rfl ?_
  refine fj_aload_n C 0 dX5_holdings_0 rfl rfl ?_
  refine fj_iload_n C 1 dX5_holdings_1 rfl rfl ?_
  refine fj_callVw (As := [.int x]) (rest := []) C (c_X5_isPerson l D ty t0 ad x) (cwV 1 C.2.2.2.2.1 gX5_holdings_X5_isPerson rfl rfl rfl (by decide +kernel) ⟨Nat.le_of_ble_eq_true rfl, Nat.le_of_ble_eq_true rfl⟩) ⟨0, 5, _, _, fx_at0 _ _ _ _ _, rfl, rfl⟩ rfl (Nat.le_of_ble_eq_true rfl) dX5_holdings_2 ⟨Nat.zero_le _, Nat.zero_le _⟩ (fun v9 w9 hp9 => ?_)
  obtain ⟨rfl, rfl⟩ := hp9
  refine fj_st (st' := .int 0 :: []) rfl ?_
  refine fj_if_ne (tgt := 12) C dX5_holdings_5 (by decide) (fun h => absurd h (by decide)) (fun _ => ?_)
  refine fj_sipush (v := (-1001)) C dX5_holdings_8 (by decide) ?_
  exact fj_iret C E9 dX5_holdings_11 rfl

set_option maxHeartbeats 4000000 in
set_option maxRecDepth 100000 in
theorem c_X5_line (l : Launch) (D : va_G) (ty : Nat → ClassId) (t0 : Nat) (ad : Nat → Nat) (x : Int32) (s9 : Int32) (q : Int32) (r : Int32) (u : Int32)  : fc l yX5_line wsX5_line (fj_rm 2 43 0 0) D ty t0 [.ref (ad 0), .int x, .int s9, .int q, .int r, .int u] (fx_w ad ty fx_a0 fx_g0 fx_n0) 0 0 (fun v w => v = some (.int (if (0 ≤ s9 ∧ s9 ≤ 6) then -1001 else -1002))) := by
  refine fc_start (own := RX5) (cc := cX5_line) (maxL := 7) (ret := (some .int)) (by decide) rfl (Nat.le_of_ble_eq_true rfl) rfl ?_
  intro p e s m args below meth c Q A C hmn E9
  refine fj_lv (lv' := [(0, .ref (ad 0)), (1, .int x), (2, .int s9), (3, .int q), (4, .int r), (5, .int u)]) [0, 1, 2, 3, 4, 5] rfl ?_
  refine fj_iload_n C 2 dX5_line_0 rfl rfl ?_
  refine fj_iconst (v := 0) C dX5_line_1 (by decide) ?_
  refine fj_bipush (v := 6) C dX5_line_2 (by decide) ?_
  refine fj_callSw (As := [.int s9, .int 0, .int 6]) (rest := []) C (c_X5_within l D ty t0 (fx_w ad ty fx_a0 fx_g0 fx_n0) s9 0 6) (va_cwS 3 C.2.2.2.2.1 gX5_line_X5_within rfl rfl rfl (by decide +kernel) ⟨Nat.le_of_ble_eq_true rfl, Nat.le_of_ble_eq_true rfl⟩)  rfl (Nat.le_of_ble_eq_true rfl) dX5_line_4 ⟨Nat.zero_le _, Nat.zero_le _⟩ (fun v9 w9 hp9 => ?_)
  obtain ⟨rfl, rfl⟩ := hp9
  refine fj_st (st' := .int (if (0 ≤ s9 ∧ s9 ≤ 6) then 1 else 0) :: []) rfl ?_
  refine fj_ifb_ne (tgt := 14) C dX5_line_7 (by decide) (fun h7 => ?_) (fun h7 => ?_)
  · refine fj_aload_n C 0 dX5_line_14 rfl rfl ?_
    refine fj_iload_n C 3 dX5_line_15 rfl rfl ?_
    refine fj_callVw (As := [.int q]) (rest := []) C (c_X5_isPerson l D ty t0 ad q) (cwV 1 C.2.2.2.2.1 gX5_line_X5_isPerson rfl rfl rfl (by decide +kernel) ⟨Nat.le_of_ble_eq_true rfl, Nat.le_of_ble_eq_true rfl⟩) ⟨0, 5, _, _, fx_at0 _ _ _ _ _, rfl, rfl⟩ rfl (Nat.le_of_ble_eq_true rfl) dX5_line_16 ⟨Nat.zero_le _, Nat.zero_le _⟩ (fun v9 w9 hp9 => ?_)
    obtain ⟨rfl, rfl⟩ := hp9
    refine fj_st (st' := .int 0 :: []) rfl ?_
    refine fj_if_ne (tgt := 26) C dX5_line_19 (by decide) (fun h => absurd h (by decide)) (fun _ => ?_)
    refine fj_sipush (v := (-1001)) C dX5_line_22 (by decide) ?_
    exact fj_iret C E9 dX5_line_25 (by (repeat' split) <;> first | rfl | (exfalso; grind) | grind)
  · refine fj_sipush (v := (-1002)) C dX5_line_10 (by decide) ?_
    exact fj_iret C E9 dX5_line_13 (by (repeat' split) <;> first | rfl | (exfalso; grind) | grind)

set_option maxHeartbeats 4000000 in
set_option maxRecDepth 100000 in
theorem c_X4_clear (l : Launch) (D : va_G) (ty : Nat → ClassId) (t0 : Nat) (ad : Nat → Nat) (a : Nat → Nat → Int32) (g : Nat → Nat → Int64) (n : Nat → Int32)   : fc l yX4_clear wsX4_clear (fj_rm 0 0 0 0) D ty t0 [.ref (ad 25)] (fx_w ad ty a g n) 0 0 (fun v w => v = none ∧ w = fx_w ad ty (fx_cl a) g n) := by
  refine fc_start (own := RX4) (cc := cX4_clear) (maxL := 2) (ret := none) (by decide) rfl (Nat.le_of_ble_eq_true rfl) rfl ?_
  intro p e s m args below meth c Q A C hmn E9
  have iX4 : ∀ w ∈ u_ws RX4 TX4 18, w ∈ wsX4_clear := fun _ h => List.mem_cons_of_mem _ (List.mem_append_right _ h)
  have kX4_46 : Cond.fieldLink RX4 46 "FreeLand$Work" "dead" "[Z" ∈ wsX4_clear := (by decide +kernel)
  have kX4_50 : Cond.fieldLink RX4 50 "FreeLand$Work" "filed" "[I" ∈ wsX4_clear := (by decide +kernel)
  have kX4_37 : Cond.fieldLink RX4 37 "FreeLand$Work" "held" "[I" ∈ wsX4_clear := (by decide +kernel)
  have kX4_40 : Cond.fieldLink RX4 40 "FreeLand$Work" "preferred" "[I" ∈ wsX4_clear := (by decide +kernel)
  have kX4_15 : Cond.fieldLink RX4 15 "FreeLand$Work" "result" "[I" ∈ wsX4_clear := (by decide +kernel)
  have kX4_19 : Cond.fieldLink RX4 19 "FreeLand$Work" "state" "[I" ∈ wsX4_clear := (by decide +kernel)
  refine fj_lv (lv' := [(0, .ref (ad 25))]) [0] rfl ?_
  refine fj_iconst (v := 0) C dX4_clear_0 (by decide) ?_
  refine fj_istore_n (lv' := [(1, .int 0), (0, .ref (ad 25))]) C dX4_clear_1 rfl (by decide) rfl ?_
  refine fj_lv (lv' := [(0, .ref (ad 25)), (1, .int 0)]) [1, 0] rfl ?_
  have lp2 : ∀ (i : Nat), (i ≤ 120) → fj p l e (fj_rm 0 0 0 0) s m args below meth c Q A D 2 0 0 (fx_w ad ty (va_up (va_up a 26 (fl (-1) (a 26) i)) 27 (fl 0 (a 27) i)) g n) [(0, .ref (ad 25)), (1, .int (nI i))] 2 [] := by
    have key : ∀ z : Nat, (fun (i : Nat) => (i ≤ 120) → fj p l e (fj_rm 0 0 0 0) s m args below meth c Q A D 2 0 0 (fx_w ad ty (va_up (va_up a 26 (fl (-1) (a 26) i)) 27 (fl 0 (a 27) i)) g n) [(0, .ref (ad 25)), (1, .int (nI i))] 2 []) z := by
      refine fx_ind (fun (i : Nat) => 120 - i) _ ?_
      rintro i ih ii
      refine fj_iload_n C 1 dX4_clear_2 rfl rfl ?_
      refine fj_bipush (v := 120) C dX4_clear_3 (by decide) ?_
      refine fj_icmp_ge (tgt := 28) C dX4_clear_5 (by decide) (fun h5 => ?_) (fun h5 => ?_)
      · have q5 : 120 ≤ i := (nI_leI (a := 120) (by decide) (by omega)).mp h5
        obtain rfl : i = 120 := by omega
        refine fj_iconst (v := 0) C dX4_clear_28 (by decide) ?_
        refine fj_istore_n (lv' := [(1, .int 0), (0, .ref (ad 25))]) C dX4_clear_29 rfl (by decide) rfl ?_
        refine fj_lv (lv' := [(0, .ref (ad 25)), (1, .int 0)]) [1, 0] rfl ?_
        have lp30 : ∀ (j : Nat), (j ≤ 64) → fj p l e (fj_rm 0 0 0 0) s m args below meth c Q A D 2 0 0 (fx_w ad ty (va_up (va_up (va_up (va_up a 26 (fl (-1) (a 26) 120)) 27 (fl 0 (a 27) 120)) 33 (fl (-1) (a 33) j)) 34 (fl (-1) (a 34) j)) g n) [(0, .ref (ad 25)), (1, .int (nI j))] 30 [] := by
          have key : ∀ z : Nat, (fun (j : Nat) => (j ≤ 64) → fj p l e (fj_rm 0 0 0 0) s m args below meth c Q A D 2 0 0 (fx_w ad ty (va_up (va_up (va_up (va_up a 26 (fl (-1) (a 26) 120)) 27 (fl 0 (a 27) 120)) 33 (fl (-1) (a 33) j)) 34 (fl (-1) (a 34) j)) g n) [(0, .ref (ad 25)), (1, .int (nI j))] 30 []) z := by
            refine fx_ind (fun (j : Nat) => 64 - j) _ ?_
            rintro j ih ij
            refine fj_iload_n C 1 dX4_clear_30 rfl rfl ?_
            refine fj_bipush (v := 64) C dX4_clear_31 (by decide) ?_
            refine fj_icmp_ge (tgt := 56) C dX4_clear_33 (by decide) (fun h33 => ?_) (fun h33 => ?_)
            · have q33 : 64 ≤ j := (nI_leI (a := 64) (by decide) (by omega)).mp h33
              obtain rfl : j = 64 := by omega
              refine fj_iconst (v := 0) C dX4_clear_56 (by decide) ?_
              refine fj_istore_n (lv' := [(1, .int 0), (0, .ref (ad 25))]) C dX4_clear_57 rfl (by decide) rfl ?_
              refine fj_lv (lv' := [(0, .ref (ad 25)), (1, .int 0)]) [1, 0] rfl ?_
              have lp58 : ∀ (k : Nat), (k ≤ 12) → fj p l e (fj_rm 0 0 0 0) s m args below meth c Q A D 2 0 0 (fx_w ad ty (va_up (va_up (va_up (va_up (va_up (va_up a 26 (fl (-1) (a 26) 120)) 27 (fl 0 (a 27) 120)) 33 (fl (-1) (a 33) 64)) 34 (fl (-1) (a 34) 64)) 36 (fl 0 (a 36) k)) 37 (fl 0 (a 37) k)) g n) [(0, .ref (ad 25)), (1, .int (nI k))] 58 [] := by
                have key : ∀ z : Nat, (fun (k : Nat) => (k ≤ 12) → fj p l e (fj_rm 0 0 0 0) s m args below meth c Q A D 2 0 0 (fx_w ad ty (va_up (va_up (va_up (va_up (va_up (va_up a 26 (fl (-1) (a 26) 120)) 27 (fl 0 (a 27) 120)) 33 (fl (-1) (a 33) 64)) 34 (fl (-1) (a 34) 64)) 36 (fl 0 (a 36) k)) 37 (fl 0 (a 37) k)) g n) [(0, .ref (ad 25)), (1, .int (nI k))] 58 []) z := by
                  refine fx_ind (fun (k : Nat) => 12 - k) _ ?_
                  rintro k ih ik
                  refine fj_iload_n C 1 dX4_clear_58 rfl rfl ?_
                  refine fj_bipush (v := 12) C dX4_clear_59 (by decide) ?_
                  refine fj_icmp_ge (tgt := 84) C dX4_clear_61 (by decide) (fun h61 => ?_) (fun h61 => ?_)
                  · have q61 : 12 ≤ k := (nI_leI (a := 12) (by decide) (by omega)).mp h61
                    obtain rfl : k = 12 := by omega
                    exact fj_vret C E9 dX4_clear_84 ⟨rfl, rfl⟩
                  · have q61 : k < 12 := Nat.lt_of_not_le (fun q => h61 ((nI_leI (a := 12) (by decide) (by omega)).mpr q))
                    refine fj_aload_n C 0 dX4_clear_64 rfl rfl ?_
                    refine fj_get (Cn := RX4) (T := TX4) (N := 18) (ci := 4) (v := .ref (ad 36)) C iX4 25 (fx_at25 _ _ _ _ _) rfl 14 (by decide) kX4_46 rfl dX4_clear_65 ?_
                    refine fj_iload_n C 1 dX4_clear_68 rfl rfl ?_
                    refine fj_iconst (v := 0) C dX4_clear_69 (by decide) ?_
                    refine fj_zast (f := (fl 0 (a 36) k)) C 36 (fx_at36 _ _ _ _ _) (vp_in_nI q61 (by decide)) dX4_clear_70 (fx_st36 _ _ _ _ _ _) ?_
                    refine fj_ws (ws' := (fx_w ad ty (va_up (va_up (va_up (va_up (va_up (va_up a 26 (fl (-1) (a 26) 120)) 27 (fl 0 (a 27) 120)) 33 (fl (-1) (a 33) 64)) 34 (fl (-1) (a 34) 64)) 37 (fl 0 (a 37) k)) 36 (upd (fl 0 (a 36) k) (nI k).toNatClampNeg (vp_nar .boolean 0))) g n)) rfl ?_
                    refine fj_ws (ws' := (fx_w ad ty (va_up (va_up (va_up (va_up (va_up (va_up a 26 (fl (-1) (a 26) 120)) 27 (fl 0 (a 27) 120)) 33 (fl (-1) (a 33) 64)) 34 (fl (-1) (a 34) 64)) 37 (fl 0 (a 37) k)) 36 (fl 0 (a 36) (k + 1))) g n)) (by rw [fl_nIz _ _ (by omega)]) ?_
                    refine fj_aload_n C 0 dX4_clear_71 rfl rfl ?_
                    refine fj_get (Cn := RX4) (T := TX4) (N := 18) (ci := 4) (v := .ref (ad 37)) C iX4 25 (fx_at25 _ _ _ _ _) rfl 15 (by decide) kX4_50 rfl dX4_clear_72 ?_
                    refine fj_iload_n C 1 dX4_clear_75 rfl rfl ?_
                    refine fj_iconst (v := 0) C dX4_clear_76 (by decide) ?_
                    refine fj_iast (f := (fl 0 (a 37) k)) C 37 (fx_at37 _ _ _ _ _) (vp_in_nI q61 (by decide)) dX4_clear_77 (fx_st37 _ _ _ _ _ _) ?_
                    refine fj_ws (ws' := (fx_w ad ty (va_up (va_up (va_up (va_up (va_up (va_up a 26 (fl (-1) (a 26) 120)) 27 (fl 0 (a 27) 120)) 33 (fl (-1) (a 33) 64)) 34 (fl (-1) (a 34) 64)) 36 (fl 0 (a 36) (k + 1))) 37 (upd (fl 0 (a 37) k) (nI k).toNatClampNeg 0)) g n)) rfl ?_
                    refine fj_ws (ws' := (fx_w ad ty (va_up (va_up (va_up (va_up (va_up (va_up a 26 (fl (-1) (a 26) 120)) 27 (fl 0 (a 27) 120)) 33 (fl (-1) (a 33) 64)) 34 (fl (-1) (a 34) 64)) 36 (fl 0 (a 36) (k + 1))) 37 (fl 0 (a 37) (k + 1))) g n)) (by rw [fl_nI _ _ (by omega)]) ?_
                    refine fj_iinc (v := nI (k + 1)) (lv' := [(1, .int (nI (k + 1))), (0, .ref (ad 25))]) C 1 dX4_clear_78 rfl (nI_1 k) (by decide) rfl ?_
                    refine fj_goto (tgt := 58) C dX4_clear_81 (by decide) ?_
                    refine fj_lv (lv' := [(0, .ref (ad 25)), (1, .int (nI (k + 1)))]) [1, 0] rfl ?_
                    exact ih (k + 1) (by show 12 - (k + 1) < 12 - k; omega) (by omega)
                intro k
                exact key k
              refine fj_ws (ws' := (fx_w ad ty (va_up (va_up (va_up (va_up (va_up (va_up a 26 (fl (-1) (a 26) 120)) 27 (fl 0 (a 27) 120)) 33 (fl (-1) (a 33) 64)) 34 (fl (-1) (a 34) 64)) 36 (fl 0 (a 36) 0)) 37 (fl 0 (a 37) 0)) g n)) (by rw [fl_0, fl_0]; rfl) ?_
              exact lp58 0 (Nat.zero_le _)
            · have q33 : j < 64 := Nat.lt_of_not_le (fun q => h33 ((nI_leI (a := 64) (by decide) (by omega)).mpr q))
              refine fj_aload_n C 0 dX4_clear_36 rfl rfl ?_
              refine fj_get (Cn := RX4) (T := TX4) (N := 18) (ci := 4) (v := .ref (ad 33)) C iX4 25 (fx_at25 _ _ _ _ _) rfl 11 (by decide) kX4_37 rfl dX4_clear_37 ?_
              refine fj_iload_n C 1 dX4_clear_40 rfl rfl ?_
              refine fj_iconst (v := (-1)) C dX4_clear_41 (by decide) ?_
              refine fj_iast (f := (fl (-1) (a 33) j)) C 33 (fx_at33 _ _ _ _ _) (vp_in_nI q33 (by decide)) dX4_clear_42 (fx_st33 _ _ _ _ _ _) ?_
              refine fj_ws (ws' := (fx_w ad ty (va_up (va_up (va_up (va_up a 26 (fl (-1) (a 26) 120)) 27 (fl 0 (a 27) 120)) 34 (fl (-1) (a 34) j)) 33 (upd (fl (-1) (a 33) j) (nI j).toNatClampNeg (-1))) g n)) rfl ?_
              refine fj_ws (ws' := (fx_w ad ty (va_up (va_up (va_up (va_up a 26 (fl (-1) (a 26) 120)) 27 (fl 0 (a 27) 120)) 34 (fl (-1) (a 34) j)) 33 (fl (-1) (a 33) (j + 1))) g n)) (by rw [fl_nI _ _ (by omega)]) ?_
              refine fj_aload_n C 0 dX4_clear_43 rfl rfl ?_
              refine fj_get (Cn := RX4) (T := TX4) (N := 18) (ci := 4) (v := .ref (ad 34)) C iX4 25 (fx_at25 _ _ _ _ _) rfl 12 (by decide) kX4_40 rfl dX4_clear_44 ?_
              refine fj_iload_n C 1 dX4_clear_47 rfl rfl ?_
              refine fj_iconst (v := (-1)) C dX4_clear_48 (by decide) ?_
              refine fj_iast (f := (fl (-1) (a 34) j)) C 34 (fx_at34 _ _ _ _ _) (vp_in_nI q33 (by decide)) dX4_clear_49 (fx_st34 _ _ _ _ _ _) ?_
              refine fj_ws (ws' := (fx_w ad ty (va_up (va_up (va_up (va_up a 26 (fl (-1) (a 26) 120)) 27 (fl 0 (a 27) 120)) 33 (fl (-1) (a 33) (j + 1))) 34 (upd (fl (-1) (a 34) j) (nI j).toNatClampNeg (-1))) g n)) rfl ?_
              refine fj_ws (ws' := (fx_w ad ty (va_up (va_up (va_up (va_up a 26 (fl (-1) (a 26) 120)) 27 (fl 0 (a 27) 120)) 33 (fl (-1) (a 33) (j + 1))) 34 (fl (-1) (a 34) (j + 1))) g n)) (by rw [fl_nI _ _ (by omega)]) ?_
              refine fj_iinc (v := nI (j + 1)) (lv' := [(1, .int (nI (j + 1))), (0, .ref (ad 25))]) C 1 dX4_clear_50 rfl (nI_1 j) (by decide) rfl ?_
              refine fj_goto (tgt := 30) C dX4_clear_53 (by decide) ?_
              refine fj_lv (lv' := [(0, .ref (ad 25)), (1, .int (nI (j + 1)))]) [1, 0] rfl ?_
              exact ih (j + 1) (by show 64 - (j + 1) < 64 - j; omega) (by omega)
          intro j
          exact key j
        refine fj_ws (ws' := (fx_w ad ty (va_up (va_up (va_up (va_up a 26 (fl (-1) (a 26) 120)) 27 (fl 0 (a 27) 120)) 33 (fl (-1) (a 33) 0)) 34 (fl (-1) (a 34) 0)) g n)) (by rw [fl_0, fl_0]; rfl) ?_
        exact lp30 0 (Nat.zero_le _)
      · have q5 : i < 120 := Nat.lt_of_not_le (fun q => h5 ((nI_leI (a := 120) (by decide) (by omega)).mpr q))
        refine fj_aload_n C 0 dX4_clear_8 rfl rfl ?_
        refine fj_get (Cn := RX4) (T := TX4) (N := 18) (ci := 4) (v := .ref (ad 26)) C iX4 25 (fx_at25 _ _ _ _ _) rfl 4 (by decide) kX4_15 rfl dX4_clear_9 ?_
        refine fj_iload_n C 1 dX4_clear_12 rfl rfl ?_
        refine fj_iconst (v := (-1)) C dX4_clear_13 (by decide) ?_
        refine fj_iast (f := (fl (-1) (a 26) i)) C 26 (fx_at26 _ _ _ _ _) (vp_in_nI q5 (by decide)) dX4_clear_14 (fx_st26 _ _ _ _ _ _) ?_
        refine fj_ws (ws' := (fx_w ad ty (va_up (va_up a 27 (fl 0 (a 27) i)) 26 (upd (fl (-1) (a 26) i) (nI i).toNatClampNeg (-1))) g n)) rfl ?_
        refine fj_ws (ws' := (fx_w ad ty (va_up (va_up a 27 (fl 0 (a 27) i)) 26 (fl (-1) (a 26) (i + 1))) g n)) (by rw [fl_nI _ _ (by omega)]) ?_
        refine fj_aload_n C 0 dX4_clear_15 rfl rfl ?_
        refine fj_get (Cn := RX4) (T := TX4) (N := 18) (ci := 4) (v := .ref (ad 27)) C iX4 25 (fx_at25 _ _ _ _ _) rfl 5 (by decide) kX4_19 rfl dX4_clear_16 ?_
        refine fj_iload_n C 1 dX4_clear_19 rfl rfl ?_
        refine fj_iconst (v := 0) C dX4_clear_20 (by decide) ?_
        refine fj_iast (f := (fl 0 (a 27) i)) C 27 (fx_at27 _ _ _ _ _) (vp_in_nI q5 (by decide)) dX4_clear_21 (fx_st27 _ _ _ _ _ _) ?_
        refine fj_ws (ws' := (fx_w ad ty (va_up (va_up a 26 (fl (-1) (a 26) (i + 1))) 27 (upd (fl 0 (a 27) i) (nI i).toNatClampNeg 0)) g n)) rfl ?_
        refine fj_ws (ws' := (fx_w ad ty (va_up (va_up a 26 (fl (-1) (a 26) (i + 1))) 27 (fl 0 (a 27) (i + 1))) g n)) (by rw [fl_nI _ _ (by omega)]) ?_
        refine fj_iinc (v := nI (i + 1)) (lv' := [(1, .int (nI (i + 1))), (0, .ref (ad 25))]) C 1 dX4_clear_22 rfl (nI_1 i) (by decide) rfl ?_
        refine fj_goto (tgt := 2) C dX4_clear_25 (by decide) ?_
        refine fj_lv (lv' := [(0, .ref (ad 25)), (1, .int (nI (i + 1)))]) [1, 0] rfl ?_
        exact ih (i + 1) (by show 120 - (i + 1) < 120 - i; omega) (by omega)
    intro i
    exact key i
  refine fj_ws (ws' := (fx_w ad ty (va_up (va_up a 26 (fl (-1) (a 26) 0)) 27 (fl 0 (a 27) 0)) g n)) (by rw [fl_0, fl_0]; rfl) ?_
  exact lp2 0 (Nat.zero_le _)

set_option maxHeartbeats 4000000 in
set_option maxRecDepth 100000 in
theorem c_X4_through (l : Launch) (D : va_G) (ty : Nat → ClassId) (t0 : Nat) (ad : Nat → Nat) (x : Int32) (y : Int32)  : fc l yX4_through wsX4_through (fj_rm 1 21 0 0) D ty t0 [.ref (ad 25), .int x, .int y] (fx_w ad ty fx_a0 fx_g0 fx_n0) 0 0 (fun v w => v = none ∧ w = fx_w ad ty (fx_cl fx_a0) fx_g0 fx_n0) := by
  refine fc_start (own := RX4) (cc := cX4_through) (maxL := 5) (ret := none) (by decide) rfl (Nat.le_of_ble_eq_true rfl) rfl ?_
  intro p e s m args below meth c Q A C hmn E9
  have iX4 : ∀ w ∈ u_ws RX4 TX4 18, w ∈ wsX4_through := fun _ h => List.mem_cons_of_mem _ (List.mem_append_left _ (List.mem_append_left _ (List.mem_append_left _ (List.mem_append_right _ h))))
  have kX4_61 : Cond.fieldLink RX4 61 "FreeLand$Work" "book" "LFreeLand$Book;" ∈ wsX4_through := (by decide +kernel)
  have iX0 : ∀ w ∈ u_ws RX0 TX0 8, w ∈ wsX4_through := fun _ h => List.mem_cons_of_mem _ (List.mem_append_left _ (List.mem_append_left _ (List.mem_append_right _ h)))
  have kX4_68 : (RX4, 68, "FreeLand$Book", "size", "I") ∈ nw_F := (by decide +kernel)
  refine fj_lv (lv' := [(0, .ref (ad 25)), (1, .int x), (2, .int y)]) [0, 1, 2] rfl ?_
  refine fj_aload_n C 0 dX4_through_0 rfl rfl ?_
  refine fj_callVw (As := []) (rest := []) C (c_X4_clear l D ty t0 ad fx_a0 fx_g0 fx_n0) (cwV 0 C.2.2.2.2.1 gX4_through_X4_clear rfl rfl rfl (by decide +kernel) ⟨Nat.le_of_ble_eq_true rfl, Nat.le_of_ble_eq_true rfl⟩) ⟨25, 4, _, _, fx_at25 _ _ _ _ _, rfl, rfl⟩ rfl (Nat.le_of_ble_eq_true rfl) dX4_through_1 ⟨Nat.zero_le _, Nat.zero_le _⟩ (fun v9 w9 hp9 => ?_)
  obtain ⟨rfl, rfl⟩ := hp9
  refine fj_st (st' := []) rfl ?_
  refine fj_iconst (v := 0) C dX4_through_4 (by decide) ?_
  refine fj_istore_n (lv' := [(3, .int 0), (0, .ref (ad 25)), (1, .int x), (2, .int y)]) C dX4_through_5 rfl (by decide) rfl ?_
  refine fj_iload_n C 0 dX4_through_6 rfl rfl ?_
  refine fj_aload_n C 1 dX4_through_7 rfl rfl ?_
  refine fj_get (Cn := RX4) (T := TX4) (N := 18) (ci := 4) (v := .ref (ad 17)) C iX4 25 (fx_at25 _ _ _ _ _) rfl 2 (by decide) kX4_61 rfl dX4_through_8 ?_
  refine fj_getN (Cn := RX0) (T := TX0) (N := 8) (ci := 0) (v := .int 0) C iX0 17 (fx_at17 _ _ _ _ _) rfl 7 (by decide) kX4_68 rfl dX4_through_11 ?_
  refine fj_icmp_ge (tgt := 84) C dX4_through_14 (by decide) (fun _ => ?_) (fun h => absurd (by decide) h)
  exact fj_vret C E9 dX4_through_84 ⟨rfl, rfl⟩

set_option maxHeartbeats 4000000 in
set_option maxRecDepth 100000 in
theorem c_X4_holderOf (l : Launch) (D : va_G) (ty : Nat → ClassId) (t0 : Nat) (ad : Nat → Nat) (q : Int32) (hq : 0 ≤ q ∧ q ≤ 63) : fc l yX4_holderOf wsX4_holderOf (fj_rm 0 0 0 0) D ty t0 [.ref (ad 25), .int q] (fx_w ad ty (fx_cl fx_a0) fx_g0 fx_n0) 0 0 (fun v w => v = some (.int (-1)) ∧ w = fx_w ad ty (fx_cl fx_a0) fx_g0 fx_n0) := by
  refine fc_start (own := RX4) (cc := cX4_holderOf) (maxL := 2) (ret := (some .int)) (by decide) rfl (Nat.le_of_ble_eq_true rfl) rfl ?_
  intro p e s m args below meth c Q A C hmn E9
  have iX4 : ∀ w ∈ u_ws RX4 TX4 18, w ∈ wsX4_holderOf := fun _ h => List.mem_cons_of_mem _ (List.mem_append_right _ h)
  have kX4_37 : Cond.fieldLink RX4 37 "FreeLand$Work" "held" "[I" ∈ wsX4_holderOf := (by decide +kernel)
  refine fj_lv (lv' := [(0, .ref (ad 25)), (1, .int q)]) [0, 1] rfl ?_
  refine fj_aload_n C 0 dX4_holderOf_0 rfl rfl ?_
  refine fj_get (Cn := RX4) (T := TX4) (N := 18) (ci := 4) (v := .ref (ad 33)) C iX4 25 (fx_at25 _ _ _ _ _) rfl 11 (by decide) kX4_37 rfl dX4_holderOf_1 ?_
  refine fj_iload_n C 1 dX4_holderOf_4 rfl rfl ?_
  refine fj_iald (f := ((fx_cl fx_a0) 33)) C 33 (fx_at33 _ _ _ _ _) (fx_in hq.1 hq.2 (by decide) (by decide)) dX4_holderOf_5 ?_
  refine fj_at (y := (-1)) (fx_cl33 _ (fx_ix hq)) ?_
  refine fj_iconst (v := (-1)) C dX4_holderOf_6 (by decide) ?_
  refine fj_icmp_ne (tgt := 14) C dX4_holderOf_7 (by decide) (fun h => absurd h (by decide)) (fun _ => ?_)
  refine fj_iconst (v := (-1)) C dX4_holderOf_10 (by decide) ?_
  refine fj_goto (tgt := 25) C dX4_holderOf_11 (by decide) ?_
  exact fj_iret C E9 dX4_holderOf_25 ⟨rfl, rfl⟩

set_option maxHeartbeats 4000000 in
set_option maxRecDepth 100000 in
theorem c_X4_isRailroads (l : Launch) (D : va_G) (ty : Nat → ClassId) (t0 : Nat) (ad : Nat → Nat) (q : Int32) (d : Int32) (hd : 0 ≤ d ∧ d ≤ 20000) : fc l yX4_isRailroads wsX4_isRailroads (fj_rm 0 0 0 0) D ty t0 [.ref (ad 25), .int q, .int d] (fx_w ad ty (fx_cl fx_a0) fx_g0 fx_n0) 0 0 (fun v w => v = some (.int 0) ∧ w = fx_w ad ty (fx_cl fx_a0) fx_g0 fx_n0) := by
  refine fc_start (own := RX4) (cc := cX4_isRailroads) (maxL := 5) (ret := (some .boolean)) (by decide) rfl (Nat.le_of_ble_eq_true rfl) rfl ?_
  intro p e s m args below meth c Q A C hmn E9
  have iX4 : ∀ w ∈ u_ws RX4 TX4 18, w ∈ wsX4_isRailroads := fun _ h => List.mem_cons_of_mem _ (List.mem_append_right _ h)
  have kX4_9 : Cond.fieldLink RX4 9 "FreeLand$Work" "mapDay" "I" ∈ wsX4_isRailroads := (by decide +kernel)
  refine fj_lv (lv' := [(0, .ref (ad 25)), (1, .int q), (2, .int d)]) [0, 1, 2] rfl ?_
  refine fj_iload_n C 1 dX4_isRailroads_0 rfl rfl ?_
  refine fj_bipush (v := 8) C dX4_isRailroads_1 (by decide) ?_
  refine fj_irem C dX4_isRailroads_3 (by decide) ?_
  refine fj_istore_n (lv' := [(3, .int (q - q / 8 * 8)), (0, .ref (ad 25)), (1, .int q), (2, .int d)]) C dX4_isRailroads_4 rfl (by decide) rfl ?_
  refine fj_iload_n C 2 dX4_isRailroads_5 rfl rfl ?_
  refine fj_bipush (v := 8) C dX4_isRailroads_6 (by decide) ?_
  refine fj_idiv C dX4_isRailroads_8 (by decide) ?_
  refine fj_istore (lv' := [(4, .int (q / 8)), (3, .int (q - q / 8 * 8)), (0, .ref (ad 25)), (1, .int q), (2, .int d)]) C dX4_isRailroads_9 (by decide) rfl ?_
  refine fj_iload_n C 4 dX4_isRailroads_11 rfl rfl ?_
  refine fj_aload_n C 2 dX4_isRailroads_12 rfl rfl ?_
  refine fj_get (Cn := RX4) (T := TX4) (N := 18) (ci := 4) (v := .int 20001) C iX4 25 (fx_at25 _ _ _ _ _) rfl 3 (by decide) kX4_9 rfl dX4_isRailroads_13 ?_
  refine fj_icmp_lt (tgt := 37) C dX4_isRailroads_16 (by decide) (fun h16 => ?_) (fun h16 => absurd (by grind) h16)
  refine fj_iconst (v := 0) C dX4_isRailroads_37 (by decide) ?_
  exact fj_zret C E9 rfl dX4_isRailroads_38 ⟨rfl, rfl⟩

set_option maxHeartbeats 4000000 in
set_option maxRecDepth 100000 in
theorem c_X4_standing (l : Launch) (D : va_G) (ty : Nat → ClassId) (t0 : Nat) (ad : Nat → Nat) (q : Int32) (d : Int32) (hq : 0 ≤ q ∧ q ≤ 63) (hd : 0 ≤ d ∧ d ≤ 20000) : fc l yX4_standing wsX4_standing (fj_rm 1 24 0 0) D ty t0 [.ref (ad 25), .int q, .int d] (fx_w ad ty (fx_cl fx_a0) fx_g0 fx_n0) 0 0 (fun v w => v = some (.int 0) ∧ w = fx_w ad ty (fx_cl fx_a0) fx_g0 fx_n0) := by
  refine fc_start (own := RX4) (cc := cX4_standing) (maxL := 4) (ret := (some .int)) (by decide) rfl (Nat.le_of_ble_eq_true rfl) rfl ?_
  intro p e s m args below meth c Q A C hmn E9
  have iX4 : ∀ w ∈ u_ws RX4 TX4 18, w ∈ wsX4_standing := fun _ h => List.mem_cons_of_mem _ (List.mem_append_right _ h)
  have kX4_37 : Cond.fieldLink RX4 37 "FreeLand$Work" "held" "[I" ∈ wsX4_standing := (by decide +kernel)
  refine fj_lv (lv' := [(0, .ref (ad 25)), (1, .int q), (2, .int d)]) [0, 1, 2] rfl ?_
  refine fj_aload_n C 0 dX4_standing_0 rfl rfl ?_
  refine fj_get (Cn := RX4) (T := TX4) (N := 18) (ci := 4) (v := .ref (ad 33)) C iX4 25 (fx_at25 _ _ _ _ _) rfl 11 (by decide) kX4_37 rfl dX4_standing_1 ?_
  refine fj_iload_n C 1 dX4_standing_4 rfl rfl ?_
  refine fj_iald (f := ((fx_cl fx_a0) 33)) C 33 (fx_at33 _ _ _ _ _) (fx_in hq.1 hq.2 (by decide) (by decide)) dX4_standing_5 ?_
  refine fj_at (y := (-1)) (fx_cl33 _ (fx_ix hq)) ?_
  refine fj_istore_n (lv' := [(3, .int (-1)), (0, .ref (ad 25)), (1, .int q), (2, .int d)]) C dX4_standing_6 rfl (by decide) rfl ?_
  refine fj_iload_n C 0 dX4_standing_7 rfl rfl ?_
  refine fj_iconst (v := (-1)) C dX4_standing_8 (by decide) ?_
  refine fj_icmp_ne (tgt := 27) C dX4_standing_9 (by decide) (fun h => absurd h (by decide)) (fun _ => ?_)
  refine fj_aload_n C 1 dX4_standing_12 rfl rfl ?_
  refine fj_iload_n C 2 dX4_standing_13 rfl rfl ?_
  refine fj_iload_n C 3 dX4_standing_14 rfl rfl ?_
  refine fj_callVw (As := [.int q, .int d]) (rest := []) C (c_X4_isRailroads l D ty t0 ad q d hd) (cwV 2 C.2.2.2.2.1 gX4_standing_X4_isRailroads rfl rfl rfl (by decide +kernel) ⟨Nat.le_of_ble_eq_true rfl, Nat.le_of_ble_eq_true rfl⟩) ⟨25, 4, _, _, fx_at25 _ _ _ _ _, rfl, rfl⟩ rfl (Nat.le_of_ble_eq_true rfl) dX4_standing_15 ⟨Nat.zero_le _, Nat.zero_le _⟩ (fun v9 w9 hp9 => ?_)
  obtain ⟨rfl, rfl⟩ := hp9
  refine fj_st (st' := .int 0 :: []) rfl ?_
  refine fj_if_eq (tgt := 25) C dX4_standing_18 (by decide) (fun _ => ?_) (fun h => absurd (by decide) h)
  refine fj_iconst (v := 0) C dX4_standing_25 (by decide) ?_
  exact fj_iret C E9 dX4_standing_26 ⟨rfl, rfl⟩

set_option maxHeartbeats 4000000 in
set_option maxRecDepth 100000 in
theorem c_X4_preferredOn (l : Launch) (D : va_G) (ty : Nat → ClassId) (t0 : Nat) (ad : Nat → Nat) (q : Int32) (d : Int32) (hq : 0 ≤ q ∧ q ≤ 63) : fc l yX4_preferredOn wsX4_preferredOn (fj_rm 0 0 0 0) D ty t0 [.ref (ad 25), .int q, .int d] (fx_w ad ty (fx_cl fx_a0) fx_g0 fx_n0) 0 0 (fun v w => v = some (.int (-1)) ∧ w = fx_w ad ty (fx_cl fx_a0) fx_g0 fx_n0) := by
  refine fc_start (own := RX4) (cc := cX4_preferredOn) (maxL := 3) (ret := (some .int)) (by decide) rfl (Nat.le_of_ble_eq_true rfl) rfl ?_
  intro p e s m args below meth c Q A C hmn E9
  have iX4 : ∀ w ∈ u_ws RX4 TX4 18, w ∈ wsX4_preferredOn := fun _ h => List.mem_cons_of_mem _ (List.mem_append_right _ h)
  have kX4_40 : Cond.fieldLink RX4 40 "FreeLand$Work" "preferred" "[I" ∈ wsX4_preferredOn := (by decide +kernel)
  refine fj_lv (lv' := [(0, .ref (ad 25)), (1, .int q), (2, .int d)]) [0, 1, 2] rfl ?_
  refine fj_aload_n C 0 dX4_preferredOn_0 rfl rfl ?_
  refine fj_get (Cn := RX4) (T := TX4) (N := 18) (ci := 4) (v := .ref (ad 34)) C iX4 25 (fx_at25 _ _ _ _ _) rfl 12 (by decide) kX4_40 rfl dX4_preferredOn_1 ?_
  refine fj_iload_n C 1 dX4_preferredOn_4 rfl rfl ?_
  refine fj_iald (f := ((fx_cl fx_a0) 34)) C 34 (fx_at34 _ _ _ _ _) (fx_in hq.1 hq.2 (by decide) (by decide)) dX4_preferredOn_5 ?_
  refine fj_at (y := (-1)) (fx_cl34 _ (fx_ix hq)) ?_
  refine fj_iconst (v := (-1)) C dX4_preferredOn_6 (by decide) ?_
  refine fj_icmp_eq (tgt := 29) C dX4_preferredOn_7 (by decide) (fun _ => ?_) (fun h => absurd (by decide) h)
  refine fj_iconst (v := (-1)) C dX4_preferredOn_29 (by decide) ?_
  exact fj_iret C E9 dX4_preferredOn_30 ⟨rfl, rfl⟩

set_option maxHeartbeats 4000000 in
set_option maxRecDepth 100000 in
theorem c_X4_daysLived (l : Launch) (D : va_G) (ty : Nat → ClassId) (t0 : Nat) (ad : Nat → Nat) (q : Int32) (d : Int32) (hq : 0 ≤ q ∧ q ≤ 63) : fc l yX4_daysLived wsX4_daysLived (fj_rm 0 0 0 0) D ty t0 [.ref (ad 25), .int q, .int d] (fx_w ad ty (fx_cl fx_a0) fx_g0 fx_n0) 0 0 (fun v w => v = some (.int 0) ∧ w = fx_w ad ty (fx_cl fx_a0) fx_g0 fx_n0) := by
  refine fc_start (own := RX4) (cc := cX4_daysLived) (maxL := 4) (ret := (some .int)) (by decide) rfl (Nat.le_of_ble_eq_true rfl) rfl ?_
  intro p e s m args below meth c Q A C hmn E9
  have iX4 : ∀ w ∈ u_ws RX4 TX4 18, w ∈ wsX4_daysLived := fun _ h => List.mem_cons_of_mem _ (List.mem_append_left _ (List.mem_append_right _ h))
  have kX4_37 : Cond.fieldLink RX4 37 "FreeLand$Work" "held" "[I" ∈ wsX4_daysLived := (by decide +kernel)
  refine fj_lv (lv' := [(0, .ref (ad 25)), (1, .int q), (2, .int d)]) [0, 1, 2] rfl ?_
  refine fj_aload_n C 0 dX4_daysLived_0 rfl rfl ?_
  refine fj_get (Cn := RX4) (T := TX4) (N := 18) (ci := 4) (v := .ref (ad 33)) C iX4 25 (fx_at25 _ _ _ _ _) rfl 11 (by decide) kX4_37 rfl dX4_daysLived_1 ?_
  refine fj_iload_n C 1 dX4_daysLived_4 rfl rfl ?_
  refine fj_iald (f := ((fx_cl fx_a0) 33)) C 33 (fx_at33 _ _ _ _ _) (fx_in hq.1 hq.2 (by decide) (by decide)) dX4_daysLived_5 ?_
  refine fj_at (y := (-1)) (fx_cl33 _ (fx_ix hq)) ?_
  refine fj_istore_n (lv' := [(3, .int (-1)), (0, .ref (ad 25)), (1, .int q), (2, .int d)]) C dX4_daysLived_6 rfl (by decide) rfl ?_
  refine fj_iload_n C 0 dX4_daysLived_7 rfl rfl ?_
  refine fj_iconst (v := (-1)) C dX4_daysLived_8 (by decide) ?_
  refine fj_icmp_ne (tgt := 14) C dX4_daysLived_9 (by decide) (fun h => absurd h (by decide)) (fun _ => ?_)
  refine fj_iconst (v := 0) C dX4_daysLived_12 (by decide) ?_
  exact fj_iret C E9 dX4_daysLived_13 ⟨rfl, rfl⟩

set_option maxHeartbeats 4000000 in
set_option maxRecDepth 100000 in
theorem c_X4_acres (l : Launch) (D : va_G) (ty : Nat → ClassId) (t0 : Nat) (ad : Nat → Nat) (q : Int32) (hq : 0 ≤ q ∧ q ≤ 63) : fc l yX4_acres wsX4_acres (fj_rm 0 0 0 0) D ty t0 [.ref (ad 25), .int q] (fx_w ad ty (fx_cl fx_a0) fx_g0 fx_n0) 0 0 (fun v w => v = some (.int 0) ∧ w = fx_w ad ty (fx_cl fx_a0) fx_g0 fx_n0) := by
  refine fc_start (own := RX4) (cc := cX4_acres) (maxL := 6) (ret := (some .int)) (by decide) rfl (Nat.le_of_ble_eq_true rfl) rfl ?_
  intro p e s m args below meth c Q A C hmn E9
  have iX4 : ∀ w ∈ u_ws RX4 TX4 18, w ∈ wsX4_acres := fun _ h => List.mem_cons_of_mem _ (List.mem_append_left _ (List.mem_append_right _ h))
  have kX4_37 : Cond.fieldLink RX4 37 "FreeLand$Work" "held" "[I" ∈ wsX4_acres := (by decide +kernel)
  refine fj_lv (lv' := [(0, .ref (ad 25)), (1, .int q)]) [0, 1] rfl ?_
  refine fj_aload_n C 0 dX4_acres_0 rfl rfl ?_
  refine fj_get (Cn := RX4) (T := TX4) (N := 18) (ci := 4) (v := .ref (ad 33)) C iX4 25 (fx_at25 _ _ _ _ _) rfl 11 (by decide) kX4_37 rfl dX4_acres_1 ?_
  refine fj_iload_n C 1 dX4_acres_4 rfl rfl ?_
  refine fj_iald (f := ((fx_cl fx_a0) 33)) C 33 (fx_at33 _ _ _ _ _) (fx_in hq.1 hq.2 (by decide) (by decide)) dX4_acres_5 ?_
  refine fj_at (y := (-1)) (fx_cl33 _ (fx_ix hq)) ?_
  refine fj_istore_n (lv' := [(2, .int (-1)), (0, .ref (ad 25)), (1, .int q)]) C dX4_acres_6 rfl (by decide) rfl ?_
  refine fj_iload_n C 0 dX4_acres_7 rfl rfl ?_
  refine fj_iconst (v := (-1)) C dX4_acres_8 (by decide) ?_
  refine fj_icmp_ne (tgt := 14) C dX4_acres_9 (by decide) (fun h => absurd h (by decide)) (fun _ => ?_)
  refine fj_iconst (v := 0) C dX4_acres_12 (by decide) ?_
  exact fj_iret C E9 dX4_acres_13 ⟨rfl, rfl⟩

set_option maxHeartbeats 4000000 in
set_option maxRecDepth 100000 in
theorem c_X4_countEntries (l : Launch) (D : va_G) (ty : Nat → ClassId) (t0 : Nat) (ad : Nat → Nat) (x : Int32)  : fc l yX4_countEntries wsX4_countEntries (fj_rm 0 0 0 0) D ty t0 [.ref (ad 25), .int x] (fx_w ad ty (fx_cl fx_a0) fx_g0 fx_n0) 0 0 (fun v w => v = some (.int 0) ∧ w = fx_w ad ty (fx_cl fx_a0) fx_g0 fx_n0) := by
  refine fc_start (own := RX4) (cc := cX4_countEntries) (maxL := 4) (ret := (some .int)) (by decide) rfl (Nat.le_of_ble_eq_true rfl) rfl ?_
  intro p e s m args below meth c Q A C hmn E9
  have iX4 : ∀ w ∈ u_ws RX4 TX4 18, w ∈ wsX4_countEntries := fun _ h => List.mem_cons_of_mem _ (List.mem_append_left _ (List.mem_append_right _ h))
  have kX4_61 : Cond.fieldLink RX4 61 "FreeLand$Work" "book" "LFreeLand$Book;" ∈ wsX4_countEntries := (by decide +kernel)
  have iX0 : ∀ w ∈ u_ws RX0 TX0 8, w ∈ wsX4_countEntries := fun _ h => List.mem_cons_of_mem _ (List.mem_append_right _ h)
  have kX4_68 : (RX4, 68, "FreeLand$Book", "size", "I") ∈ nw_F := (by decide +kernel)
  refine fj_lv (lv' := [(0, .ref (ad 25)), (1, .int x)]) [0, 1] rfl ?_
  refine fj_iconst (v := 0) C dX4_countEntries_0 (by decide) ?_
  refine fj_istore_n (lv' := [(2, .int 0), (0, .ref (ad 25)), (1, .int x)]) C dX4_countEntries_1 rfl (by decide) rfl ?_
  refine fj_iconst (v := 0) C dX4_countEntries_2 (by decide) ?_
  refine fj_istore_n (lv' := [(3, .int 0), (2, .int 0), (0, .ref (ad 25)), (1, .int x)]) C dX4_countEntries_3 rfl (by decide) rfl ?_
  refine fj_iload_n C 0 dX4_countEntries_4 rfl rfl ?_
  refine fj_aload_n C 2 dX4_countEntries_5 rfl rfl ?_
  refine fj_get (Cn := RX4) (T := TX4) (N := 18) (ci := 4) (v := .ref (ad 17)) C iX4 25 (fx_at25 _ _ _ _ _) rfl 2 (by decide) kX4_61 rfl dX4_countEntries_6 ?_
  refine fj_getN (Cn := RX0) (T := TX0) (N := 8) (ci := 0) (v := .int 0) C iX0 17 (fx_at17 _ _ _ _ _) rfl 7 (by decide) kX4_68 rfl dX4_countEntries_9 ?_
  refine fj_icmp_ge (tgt := 34) C dX4_countEntries_12 (by decide) (fun _ => ?_) (fun h => absurd (by decide) h)
  refine fj_iload_n C 1 dX4_countEntries_34 rfl rfl ?_
  exact fj_iret C E9 dX4_countEntries_35 ⟨rfl, rfl⟩

set_option maxHeartbeats 4000000 in
set_option maxRecDepth 100000 in
theorem c_X4_countNotDone (l : Launch) (D : va_G) (ty : Nat → ClassId) (t0 : Nat) (ad : Nat → Nat)   : fc l yX4_countNotDone wsX4_countNotDone (fj_rm 0 0 0 0) D ty t0 [.ref (ad 25)] (fx_w ad ty (fx_cl fx_a0) fx_g0 fx_n0) 0 0 (fun v w => v = some (.int 0) ∧ w = fx_w ad ty (fx_cl fx_a0) fx_g0 fx_n0) := by
  refine fc_start (own := RX4) (cc := cX4_countNotDone) (maxL := 3) (ret := (some .int)) (by decide) rfl (Nat.le_of_ble_eq_true rfl) rfl ?_
  intro p e s m args below meth c Q A C hmn E9
  have iX4 : ∀ w ∈ u_ws RX4 TX4 18, w ∈ wsX4_countNotDone := fun _ h => List.mem_cons_of_mem _ (List.mem_append_left _ (List.mem_append_right _ h))
  have kX4_61 : Cond.fieldLink RX4 61 "FreeLand$Work" "book" "LFreeLand$Book;" ∈ wsX4_countNotDone := (by decide +kernel)
  have iX0 : ∀ w ∈ u_ws RX0 TX0 8, w ∈ wsX4_countNotDone := fun _ h => List.mem_cons_of_mem _ (List.mem_append_right _ h)
  have kX4_68 : (RX4, 68, "FreeLand$Book", "size", "I") ∈ nw_F := (by decide +kernel)
  refine fj_lv (lv' := [(0, .ref (ad 25))]) [0] rfl ?_
  refine fj_iconst (v := 0) C dX4_countNotDone_0 (by decide) ?_
  refine fj_istore_n (lv' := [(1, .int 0), (0, .ref (ad 25))]) C dX4_countNotDone_1 rfl (by decide) rfl ?_
  refine fj_iconst (v := 0) C dX4_countNotDone_2 (by decide) ?_
  refine fj_istore_n (lv' := [(2, .int 0), (1, .int 0), (0, .ref (ad 25))]) C dX4_countNotDone_3 rfl (by decide) rfl ?_
  refine fj_iload_n C 0 dX4_countNotDone_4 rfl rfl ?_
  refine fj_aload_n C 2 dX4_countNotDone_5 rfl rfl ?_
  refine fj_get (Cn := RX4) (T := TX4) (N := 18) (ci := 4) (v := .ref (ad 17)) C iX4 25 (fx_at25 _ _ _ _ _) rfl 2 (by decide) kX4_61 rfl dX4_countNotDone_6 ?_
  refine fj_getN (Cn := RX0) (T := TX0) (N := 8) (ci := 0) (v := .int 0) C iX0 17 (fx_at17 _ _ _ _ _) rfl 7 (by decide) kX4_68 rfl dX4_countNotDone_9 ?_
  refine fj_icmp_ge (tgt := 33) C dX4_countNotDone_12 (by decide) (fun _ => ?_) (fun h => absurd (by decide) h)
  refine fj_iload_n C 1 dX4_countNotDone_33 rfl rfl ?_
  exact fj_iret C E9 dX4_countNotDone_34 ⟨rfl, rfl⟩

set_option maxHeartbeats 4000000 in
set_option maxRecDepth 100000 in
theorem c_X4_countDead (l : Launch) (D : va_G) (ty : Nat → ClassId) (t0 : Nat) (ad : Nat → Nat)   : fc l yX4_countDead wsX4_countDead (fj_rm 0 0 0 0) D ty t0 [.ref (ad 25)] (fx_w ad ty (fx_cl fx_a0) fx_g0 fx_n0) 0 0 (fun v w => v = some (.int 0) ∧ w = fx_w ad ty (fx_cl fx_a0) fx_g0 fx_n0) := by
  refine fc_start (own := RX4) (cc := cX4_countDead) (maxL := 3) (ret := (some .int)) (by decide) rfl (Nat.le_of_ble_eq_true rfl) rfl ?_
  intro p e s m args below meth c Q A C hmn E9
  have iX4 : ∀ w ∈ u_ws RX4 TX4 18, w ∈ wsX4_countDead := fun _ h => List.mem_cons_of_mem _ (List.mem_append_right _ h)
  have kX4_46 : Cond.fieldLink RX4 46 "FreeLand$Work" "dead" "[Z" ∈ wsX4_countDead := (by decide +kernel)
  refine fj_lv (lv' := [(0, .ref (ad 25))]) [0] rfl ?_
  refine fj_iconst (v := 0) C dX4_countDead_0 (by decide) ?_
  refine fj_istore_n (lv' := [(1, .int 0), (0, .ref (ad 25))]) C dX4_countDead_1 rfl (by decide) rfl ?_
  refine fj_iconst (v := 0) C dX4_countDead_2 (by decide) ?_
  refine fj_istore_n (lv' := [(2, .int 0), (1, .int 0), (0, .ref (ad 25))]) C dX4_countDead_3 rfl (by decide) rfl ?_
  refine fj_lv (lv' := [(0, .ref (ad 25)), (1, .int 0), (2, .int 0)]) [2, 1, 0] rfl ?_
  have lp4 : ∀ (i : Nat), (i ≤ 12) → fj p l e (fj_rm 0 0 0 0) s m args below meth c Q A D 3 0 0 (fx_w ad ty (fx_cl fx_a0) fx_g0 fx_n0) [(0, .ref (ad 25)), (1, .int 0), (2, .int (nI i))] 4 [] := by
    have key : ∀ z : Nat, (fun (i : Nat) => (i ≤ 12) → fj p l e (fj_rm 0 0 0 0) s m args below meth c Q A D 3 0 0 (fx_w ad ty (fx_cl fx_a0) fx_g0 fx_n0) [(0, .ref (ad 25)), (1, .int 0), (2, .int (nI i))] 4 []) z := by
      refine fx_ind (fun (i : Nat) => 12 - i) _ ?_
      rintro i ih ii
      refine fj_iload_n C 2 dX4_countDead_4 rfl rfl ?_
      refine fj_bipush (v := 12) C dX4_countDead_5 (by decide) ?_
      refine fj_icmp_ge (tgt := 28) C dX4_countDead_7 (by decide) (fun h7 => ?_) (fun h7 => ?_)
      · have q7 : 12 ≤ i := (nI_leI (a := 12) (by decide) (by omega)).mp h7
        obtain rfl : i = 12 := by omega
        refine fj_iload_n C 1 dX4_countDead_28 rfl rfl ?_
        exact fj_iret C E9 dX4_countDead_29 ⟨rfl, rfl⟩
      · have q7 : i < 12 := Nat.lt_of_not_le (fun q => h7 ((nI_leI (a := 12) (by decide) (by omega)).mpr q))
        refine fj_aload_n C 0 dX4_countDead_10 rfl rfl ?_
        refine fj_get (Cn := RX4) (T := TX4) (N := 18) (ci := 4) (v := .ref (ad 36)) C iX4 25 (fx_at25 _ _ _ _ _) rfl 14 (by decide) kX4_46 rfl dX4_countDead_11 ?_
        refine fj_iload_n C 2 dX4_countDead_14 rfl rfl ?_
        refine fj_zald (f := ((fx_cl fx_a0) 36)) C 36 (fx_at36 _ _ _ _ _) (vp_in_nI q7 (by decide)) dX4_countDead_15 ?_
        refine fj_at (y := 0) (fx_cl36 _ (by rw [nI_clamp (by omega)]; exact q7)) ?_
        refine fj_if_eq (tgt := 22) C dX4_countDead_16 (by decide) (fun _ => ?_) (fun h => absurd (by decide) h)
        refine fj_iinc (v := nI (i + 1)) (lv' := [(2, .int (nI (i + 1))), (0, .ref (ad 25)), (1, .int 0)]) C 2 dX4_countDead_22 rfl (nI_1 i) (by decide) rfl ?_
        refine fj_goto (tgt := 4) C dX4_countDead_25 (by decide) ?_
        refine fj_lv (lv' := [(0, .ref (ad 25)), (1, .int 0), (2, .int (nI (i + 1)))]) [1, 2, 0] rfl ?_
        exact ih (i + 1) (by show 12 - (i + 1) < 12 - i; omega) (by omega)
    intro i
    exact key i
  exact lp4 0 (Nat.zero_le _)

set_option maxHeartbeats 4000000 in
set_option maxRecDepth 100000 in
theorem c_X0_countStruck (l : Launch) (D : va_G) (ty : Nat → ClassId) (t0 : Nat) (ad : Nat → Nat)   : fc l yX0_countStruck wsX0_countStruck (fj_rm 0 0 0 0) D ty t0 [.ref (ad 17)] (fx_w ad ty fx_a0 fx_g0 fx_n0) 0 0 (fun v w => v = some (.int 0) ∧ w = fx_w ad ty fx_a0 fx_g0 fx_n0) := by
  refine fc_start (own := RX0) (cc := cX0_countStruck) (maxL := 3) (ret := (some .int)) (by decide) rfl (Nat.le_of_ble_eq_true rfl) rfl ?_
  intro p e s m args below meth c Q A C hmn E9
  have iX0 : ∀ w ∈ u_ws RX0 TX0 8, w ∈ wsX0_countStruck := fun _ h => List.mem_cons_of_mem _ (List.mem_append_right _ h)
  have kX0_34 : Cond.fieldLink RX0 34 "FreeLand$Book" "size" "I" ∈ wsX0_countStruck := (by decide +kernel)
  refine fj_lv (lv' := [(0, .ref (ad 17))]) [0] rfl ?_
  refine fj_iconst (v := 0) C dX0_countStruck_0 (by decide) ?_
  refine fj_istore_n (lv' := [(1, .int 0), (0, .ref (ad 17))]) C dX0_countStruck_1 rfl (by decide) rfl ?_
  refine fj_iconst (v := 0) C dX0_countStruck_2 (by decide) ?_
  refine fj_istore_n (lv' := [(2, .int 0), (1, .int 0), (0, .ref (ad 17))]) C dX0_countStruck_3 rfl (by decide) rfl ?_
  refine fj_iload_n C 0 dX0_countStruck_4 rfl rfl ?_
  refine fj_aload_n C 2 dX0_countStruck_5 rfl rfl ?_
  refine fj_get (Cn := RX0) (T := TX0) (N := 8) (ci := 0) (v := .int 0) C iX0 17 (fx_at17 _ _ _ _ _) rfl 7 (by decide) kX0_34 rfl dX0_countStruck_6 ?_
  refine fj_icmp_ge (tgt := 30) C dX0_countStruck_9 (by decide) (fun _ => ?_) (fun h => absurd (by decide) h)
  refine fj_iload_n C 1 dX0_countStruck_30 rfl rfl ?_
  exact fj_iret C E9 dX0_countStruck_31 ⟨rfl, rfl⟩

set_option maxHeartbeats 4000000 in
set_option maxRecDepth 100000 in
theorem c_X5_countOfWork (l : Launch) (D : va_G) (ty : Nat → ClassId) (t0 : Nat) (ad : Nat → Nat) (x : Int32)  : fc l yX5_countOfWork wsX5_countOfWork (fj_rm 2 45 0 0) D ty t0 [.ref (ad 0), .int x] (fx_w ad ty fx_a0 fx_g0 fx_n0) 0 0 (fun v w => v = some (.int (if (5 ≤ x ∧ x ≤ 10) then 0 else -1002))) := by
  refine fc_start (own := RX5) (cc := cX5_countOfWork) (maxL := 2) (ret := (some .int)) (by decide) rfl (Nat.le_of_ble_eq_true rfl) rfl ?_
  intro p e s m args below meth c Q A C hmn E9
  have iX5 : ∀ w ∈ u_ws RX5 TX5 5, w ∈ wsX5_countOfWork := fun _ h => List.mem_cons_of_mem _ (List.mem_append_left _ (List.mem_append_left _ (List.mem_append_left _ (List.mem_append_left _ (List.mem_append_right _ h)))))
  have kX5_35 : Cond.fieldLink RX5 35 "FreeLand" "work" "LFreeLand$Work;" ∈ wsX5_countOfWork := (by decide +kernel)
  have kX5_26 : Cond.fieldLink RX5 26 "FreeLand" "book" "LFreeLand$Book;" ∈ wsX5_countOfWork := (by decide +kernel)
  have iX0 : ∀ w ∈ u_ws RX0 TX0 8, w ∈ wsX5_countOfWork := fun _ h => List.mem_cons_of_mem _ (List.mem_append_left _ (List.mem_append_left _ (List.mem_append_left _ (List.mem_append_right _ h))))
  have kX5_100 : (RX5, 100, "FreeLand$Book", "size", "I") ∈ nw_F := (by decide +kernel)
  have kN130 : (RX5, 130, yX4_through) ∈ nw_M := (by decide +kernel)
  have kIX4 : Cond.initialized RX4 ∈ wsX5_countOfWork := (by decide +kernel)
  have kVX4_through : Cond.instanceMethod yX4_through ∈ wsX5_countOfWork := (by decide +kernel)
  have kSX4_through : Cond.selects RX4 yX4_through yX4_through ∈ wsX5_countOfWork := (by decide +kernel)
  have kN150 : (RX5, 150, yX4_countNotDone) ∈ nw_M := (by decide +kernel)
  have kVX4_countNotDone : Cond.instanceMethod yX4_countNotDone ∈ wsX5_countOfWork := (by decide +kernel)
  have kSX4_countNotDone : Cond.selects RX4 yX4_countNotDone yX4_countNotDone ∈ wsX5_countOfWork := (by decide +kernel)
  have kN144 : (RX5, 144, yX4_countEntries) ∈ nw_M := (by decide +kernel)
  have kVX4_countEntries : Cond.instanceMethod yX4_countEntries ∈ wsX5_countOfWork := (by decide +kernel)
  have kSX4_countEntries : Cond.selects RX4 yX4_countEntries yX4_countEntries ∈ wsX5_countOfWork := (by decide +kernel)
  have kN147 : (RX5, 147, yX4_countDead) ∈ nw_M := (by decide +kernel)
  have kVX4_countDead : Cond.instanceMethod yX4_countDead ∈ wsX5_countOfWork := (by decide +kernel)
  have kSX4_countDead : Cond.selects RX4 yX4_countDead yX4_countDead ∈ wsX5_countOfWork := (by decide +kernel)
  refine fj_lv (lv' := [(0, .ref (ad 0)), (1, .int x)]) [0, 1] rfl ?_
  refine fj_iload_n C 1 dX5_countOfWork_0 rfl rfl ?_
  refine fj_iconst (v := 5) C dX5_countOfWork_1 (by decide) ?_
  refine fj_bipush (v := 10) C dX5_countOfWork_2 (by decide) ?_
  refine fj_callSw (As := [.int x, .int 5, .int 10]) (rest := []) C (c_X5_within l D ty t0 (fx_w ad ty fx_a0 fx_g0 fx_n0) x 5 10) (va_cwS 3 C.2.2.2.2.1 gX5_countOfWork_X5_within rfl rfl rfl (by decide +kernel) ⟨Nat.le_of_ble_eq_true rfl, Nat.le_of_ble_eq_true rfl⟩)  rfl (Nat.le_of_ble_eq_true rfl) dX5_countOfWork_4 ⟨Nat.zero_le _, Nat.zero_le _⟩ (fun v9 w9 hp9 => ?_)
  obtain ⟨rfl, rfl⟩ := hp9
  refine fj_st (st' := .int (if (5 ≤ x ∧ x ≤ 10) then 1 else 0) :: []) rfl ?_
  refine fj_ifb_ne (tgt := 14) C dX5_countOfWork_7 (by decide) (fun h7 => ?_) (fun h7 => ?_)
  · refine fj_aload_n C 0 dX5_countOfWork_14 rfl rfl ?_
    refine fj_get (Cn := RX5) (T := TX5) (N := 5) (ci := 5) (v := .ref (ad 25)) C iX5 0 (fx_at0 _ _ _ _ _) rfl 3 (by decide) kX5_35 rfl dX5_countOfWork_15 ?_
    refine fj_aload_n C 0 dX5_countOfWork_18 rfl rfl ?_
    refine fj_get (Cn := RX5) (T := TX5) (N := 5) (ci := 5) (v := .ref (ad 17)) C iX5 0 (fx_at0 _ _ _ _ _) rfl 2 (by decide) kX5_26 rfl dX5_countOfWork_19 ?_
    refine fj_getN (Cn := RX0) (T := TX0) (N := 8) (ci := 0) (v := .int 0) C iX0 17 (fx_at17 _ _ _ _ _) rfl 7 (by decide) kX5_100 rfl dX5_countOfWork_22 ?_
    refine fj_sipush (v := 20000) C dX5_countOfWork_25 (by decide) ?_
    refine fj_callVNw (As := [.int 0, .int 20000]) (rest := []) C (c_X4_through l D ty t0 ad 0 20000) ⟨va_cnB 2 C.2.2.2.2.1 gX5_countOfWork_X4_through_n130 rfl rfl rfl (C.2.2.2.2.2.2.2.1.1 _ kN130) (C.2.2.2.2.1 _ kIX4) (by decide +kernel) ⟨Nat.le_of_ble_eq_true rfl, Nat.le_of_ble_eq_true rfl⟩, C.2.2.2.2.1 _ kVX4_through, C.2.2.2.2.1 _ kSX4_through⟩ ⟨25, 4, _, _, fx_at25 _ _ _ _ _, rfl, rfl⟩ rfl (Nat.le_of_ble_eq_true rfl) dX5_countOfWork_28 ⟨Nat.zero_le _, Nat.zero_le _⟩ (fun v9 w9 hp9 => ?_)
    obtain ⟨rfl, rfl⟩ := hp9
    refine fj_st (st' := []) rfl ?_
    refine fj_iload_n C 1 dX5_countOfWork_31 rfl rfl ?_
    rcases fx_sw x 5 9 with hsw | hsw
    · refine fj_tableOut (tgt := 130) C dX5_countOfWork_32 hsw (by decide) ?_
      refine fj_aload_n C 0 dX5_countOfWork_130 rfl rfl ?_
      refine fj_get (Cn := RX5) (T := TX5) (N := 5) (ci := 5) (v := .ref (ad 25)) C iX5 0 (fx_at0 _ _ _ _ _) rfl 3 (by decide) kX5_35 rfl dX5_countOfWork_131 ?_
      refine fj_callVNw (As := []) (rest := []) C (c_X4_countNotDone l D ty t0 ad) ⟨va_cnB 0 C.2.2.2.2.1 gX5_countOfWork_X4_countNotDone_n150 rfl rfl rfl (C.2.2.2.2.2.2.2.1.1 _ kN150) (C.2.2.2.2.1 _ kIX4) (by decide +kernel) ⟨Nat.le_of_ble_eq_true rfl, Nat.le_of_ble_eq_true rfl⟩, C.2.2.2.2.1 _ kVX4_countNotDone, C.2.2.2.2.1 _ kSX4_countNotDone⟩ ⟨25, 4, _, _, fx_at25 _ _ _ _ _, rfl, rfl⟩ rfl (Nat.le_of_ble_eq_true rfl) dX5_countOfWork_134 ⟨Nat.zero_le _, Nat.zero_le _⟩ (fun v9 w9 hp9 => ?_)
      obtain ⟨rfl, rfl⟩ := hp9
      refine fj_st (st' := .int 0 :: []) rfl ?_
      exact fj_iret C E9 dX5_countOfWork_137 (by (repeat' split) <;> first | rfl | (exfalso; grind) | grind)
    · obtain ⟨hs1, hs2⟩ := hsw
      rcases (show x.toInt = 5 ∨ x.toInt = 6 ∨ x.toInt = 7 ∨ x.toInt = 8 ∨ x.toInt = 9 by omega) with hsw | hsw | hsw | hsw | hsw
      · refine fj_tableIn (off := 36) (tgt := 68) C dX5_countOfWork_32 (by omega) (by omega) (by rw [hsw]; rfl) (by decide) ?_
        refine fj_aload_n C 0 dX5_countOfWork_68 rfl rfl ?_
        refine fj_get (Cn := RX5) (T := TX5) (N := 5) (ci := 5) (v := .ref (ad 25)) C iX5 0 (fx_at0 _ _ _ _ _) rfl 3 (by decide) kX5_35 rfl dX5_countOfWork_69 ?_
        refine fj_iconst (v := 1) C dX5_countOfWork_72 (by decide) ?_
        refine fj_callVNw (As := [.int 1]) (rest := []) C (c_X4_countEntries l D ty t0 ad 1) ⟨va_cnB 1 C.2.2.2.2.1 gX5_countOfWork_X4_countEntries_n144 rfl rfl rfl (C.2.2.2.2.2.2.2.1.1 _ kN144) (C.2.2.2.2.1 _ kIX4) (by decide +kernel) ⟨Nat.le_of_ble_eq_true rfl, Nat.le_of_ble_eq_true rfl⟩, C.2.2.2.2.1 _ kVX4_countEntries, C.2.2.2.2.1 _ kSX4_countEntries⟩ ⟨25, 4, _, _, fx_at25 _ _ _ _ _, rfl, rfl⟩ rfl (Nat.le_of_ble_eq_true rfl) dX5_countOfWork_73 ⟨Nat.zero_le _, Nat.zero_le _⟩ (fun v9 w9 hp9 => ?_)
        obtain ⟨rfl, rfl⟩ := hp9
        refine fj_st (st' := .int 0 :: []) rfl ?_
        refine fj_aload_n C 0 dX5_countOfWork_76 rfl rfl ?_
        refine fj_get (Cn := RX5) (T := TX5) (N := 5) (ci := 5) (v := .ref (ad 25)) C iX5 0 (fx_at0 _ _ _ _ _) rfl 3 (by decide) kX5_35 rfl dX5_countOfWork_77 ?_
        refine fj_iconst (v := 2) C dX5_countOfWork_80 (by decide) ?_
        refine fj_callVNw (As := [.int 2]) (rest := [.int 0]) C (c_X4_countEntries l D ty t0 ad 2) ⟨va_cnB 1 C.2.2.2.2.1 gX5_countOfWork_X4_countEntries_n144 rfl rfl rfl (C.2.2.2.2.2.2.2.1.1 _ kN144) (C.2.2.2.2.1 _ kIX4) (by decide +kernel) ⟨Nat.le_of_ble_eq_true rfl, Nat.le_of_ble_eq_true rfl⟩, C.2.2.2.2.1 _ kVX4_countEntries, C.2.2.2.2.1 _ kSX4_countEntries⟩ ⟨25, 4, _, _, fx_at25 _ _ _ _ _, rfl, rfl⟩ rfl (Nat.le_of_ble_eq_true rfl) dX5_countOfWork_81 ⟨Nat.zero_le _, Nat.zero_le _⟩ (fun v9 w9 hp9 => ?_)
        obtain ⟨rfl, rfl⟩ := hp9
        refine fj_st (st' := .int 0 :: [.int 0]) rfl ?_
        refine fj_iadd C dX5_countOfWork_84 ?_
        refine fj_at (y := 0) (by decide) ?_
        refine fj_aload_n C 0 dX5_countOfWork_85 rfl rfl ?_
        refine fj_get (Cn := RX5) (T := TX5) (N := 5) (ci := 5) (v := .ref (ad 25)) C iX5 0 (fx_at0 _ _ _ _ _) rfl 3 (by decide) kX5_35 rfl dX5_countOfWork_86 ?_
        refine fj_iconst (v := 3) C dX5_countOfWork_89 (by decide) ?_
        refine fj_callVNw (As := [.int 3]) (rest := [.int 0]) C (c_X4_countEntries l D ty t0 ad 3) ⟨va_cnB 1 C.2.2.2.2.1 gX5_countOfWork_X4_countEntries_n144 rfl rfl rfl (C.2.2.2.2.2.2.2.1.1 _ kN144) (C.2.2.2.2.1 _ kIX4) (by decide +kernel) ⟨Nat.le_of_ble_eq_true rfl, Nat.le_of_ble_eq_true rfl⟩, C.2.2.2.2.1 _ kVX4_countEntries, C.2.2.2.2.1 _ kSX4_countEntries⟩ ⟨25, 4, _, _, fx_at25 _ _ _ _ _, rfl, rfl⟩ rfl (Nat.le_of_ble_eq_true rfl) dX5_countOfWork_90 ⟨Nat.zero_le _, Nat.zero_le _⟩ (fun v9 w9 hp9 => ?_)
        obtain ⟨rfl, rfl⟩ := hp9
        refine fj_st (st' := .int 0 :: [.int 0]) rfl ?_
        refine fj_iadd C dX5_countOfWork_93 ?_
        refine fj_at (y := 0) (by decide) ?_
        exact fj_iret C E9 dX5_countOfWork_94 (by (repeat' split) <;> first | rfl | (exfalso; grind) | grind)
      · refine fj_tableIn (off := 63) (tgt := 95) C dX5_countOfWork_32 (by omega) (by omega) (by rw [hsw]; rfl) (by decide) ?_
        refine fj_aload_n C 0 dX5_countOfWork_95 rfl rfl ?_
        refine fj_get (Cn := RX5) (T := TX5) (N := 5) (ci := 5) (v := .ref (ad 25)) C iX5 0 (fx_at0 _ _ _ _ _) rfl 3 (by decide) kX5_35 rfl dX5_countOfWork_96 ?_
        refine fj_iconst (v := 1) C dX5_countOfWork_99 (by decide) ?_
        refine fj_callVNw (As := [.int 1]) (rest := []) C (c_X4_countEntries l D ty t0 ad 1) ⟨va_cnB 1 C.2.2.2.2.1 gX5_countOfWork_X4_countEntries_n144 rfl rfl rfl (C.2.2.2.2.2.2.2.1.1 _ kN144) (C.2.2.2.2.1 _ kIX4) (by decide +kernel) ⟨Nat.le_of_ble_eq_true rfl, Nat.le_of_ble_eq_true rfl⟩, C.2.2.2.2.1 _ kVX4_countEntries, C.2.2.2.2.1 _ kSX4_countEntries⟩ ⟨25, 4, _, _, fx_at25 _ _ _ _ _, rfl, rfl⟩ rfl (Nat.le_of_ble_eq_true rfl) dX5_countOfWork_100 ⟨Nat.zero_le _, Nat.zero_le _⟩ (fun v9 w9 hp9 => ?_)
        obtain ⟨rfl, rfl⟩ := hp9
        refine fj_st (st' := .int 0 :: []) rfl ?_
        exact fj_iret C E9 dX5_countOfWork_103 (by (repeat' split) <;> first | rfl | (exfalso; grind) | grind)
      · refine fj_tableIn (off := 72) (tgt := 104) C dX5_countOfWork_32 (by omega) (by omega) (by rw [hsw]; rfl) (by decide) ?_
        refine fj_aload_n C 0 dX5_countOfWork_104 rfl rfl ?_
        refine fj_get (Cn := RX5) (T := TX5) (N := 5) (ci := 5) (v := .ref (ad 25)) C iX5 0 (fx_at0 _ _ _ _ _) rfl 3 (by decide) kX5_35 rfl dX5_countOfWork_105 ?_
        refine fj_iconst (v := 2) C dX5_countOfWork_108 (by decide) ?_
        refine fj_callVNw (As := [.int 2]) (rest := []) C (c_X4_countEntries l D ty t0 ad 2) ⟨va_cnB 1 C.2.2.2.2.1 gX5_countOfWork_X4_countEntries_n144 rfl rfl rfl (C.2.2.2.2.2.2.2.1.1 _ kN144) (C.2.2.2.2.1 _ kIX4) (by decide +kernel) ⟨Nat.le_of_ble_eq_true rfl, Nat.le_of_ble_eq_true rfl⟩, C.2.2.2.2.1 _ kVX4_countEntries, C.2.2.2.2.1 _ kSX4_countEntries⟩ ⟨25, 4, _, _, fx_at25 _ _ _ _ _, rfl, rfl⟩ rfl (Nat.le_of_ble_eq_true rfl) dX5_countOfWork_109 ⟨Nat.zero_le _, Nat.zero_le _⟩ (fun v9 w9 hp9 => ?_)
        obtain ⟨rfl, rfl⟩ := hp9
        refine fj_st (st' := .int 0 :: []) rfl ?_
        exact fj_iret C E9 dX5_countOfWork_112 (by (repeat' split) <;> first | rfl | (exfalso; grind) | grind)
      · refine fj_tableIn (off := 81) (tgt := 113) C dX5_countOfWork_32 (by omega) (by omega) (by rw [hsw]; rfl) (by decide) ?_
        refine fj_aload_n C 0 dX5_countOfWork_113 rfl rfl ?_
        refine fj_get (Cn := RX5) (T := TX5) (N := 5) (ci := 5) (v := .ref (ad 25)) C iX5 0 (fx_at0 _ _ _ _ _) rfl 3 (by decide) kX5_35 rfl dX5_countOfWork_114 ?_
        refine fj_iconst (v := 3) C dX5_countOfWork_117 (by decide) ?_
        refine fj_callVNw (As := [.int 3]) (rest := []) C (c_X4_countEntries l D ty t0 ad 3) ⟨va_cnB 1 C.2.2.2.2.1 gX5_countOfWork_X4_countEntries_n144 rfl rfl rfl (C.2.2.2.2.2.2.2.1.1 _ kN144) (C.2.2.2.2.1 _ kIX4) (by decide +kernel) ⟨Nat.le_of_ble_eq_true rfl, Nat.le_of_ble_eq_true rfl⟩, C.2.2.2.2.1 _ kVX4_countEntries, C.2.2.2.2.1 _ kSX4_countEntries⟩ ⟨25, 4, _, _, fx_at25 _ _ _ _ _, rfl, rfl⟩ rfl (Nat.le_of_ble_eq_true rfl) dX5_countOfWork_118 ⟨Nat.zero_le _, Nat.zero_le _⟩ (fun v9 w9 hp9 => ?_)
        obtain ⟨rfl, rfl⟩ := hp9
        refine fj_st (st' := .int 0 :: []) rfl ?_
        exact fj_iret C E9 dX5_countOfWork_121 (by (repeat' split) <;> first | rfl | (exfalso; grind) | grind)
      · refine fj_tableIn (off := 90) (tgt := 122) C dX5_countOfWork_32 (by omega) (by omega) (by rw [hsw]; rfl) (by decide) ?_
        refine fj_aload_n C 0 dX5_countOfWork_122 rfl rfl ?_
        refine fj_get (Cn := RX5) (T := TX5) (N := 5) (ci := 5) (v := .ref (ad 25)) C iX5 0 (fx_at0 _ _ _ _ _) rfl 3 (by decide) kX5_35 rfl dX5_countOfWork_123 ?_
        refine fj_callVNw (As := []) (rest := []) C (c_X4_countDead l D ty t0 ad) ⟨va_cnB 0 C.2.2.2.2.1 gX5_countOfWork_X4_countDead_n147 rfl rfl rfl (C.2.2.2.2.2.2.2.1.1 _ kN147) (C.2.2.2.2.1 _ kIX4) (by decide +kernel) ⟨Nat.le_of_ble_eq_true rfl, Nat.le_of_ble_eq_true rfl⟩, C.2.2.2.2.1 _ kVX4_countDead, C.2.2.2.2.1 _ kSX4_countDead⟩ ⟨25, 4, _, _, fx_at25 _ _ _ _ _, rfl, rfl⟩ rfl (Nat.le_of_ble_eq_true rfl) dX5_countOfWork_126 ⟨Nat.zero_le _, Nat.zero_le _⟩ (fun v9 w9 hp9 => ?_)
        obtain ⟨rfl, rfl⟩ := hp9
        refine fj_st (st' := .int 0 :: []) rfl ?_
        exact fj_iret C E9 dX5_countOfWork_129 (by (repeat' split) <;> first | rfl | (exfalso; grind) | grind)
  · refine fj_sipush (v := (-1002)) C dX5_countOfWork_10 (by decide) ?_
    exact fj_iret C E9 dX5_countOfWork_13 (by (repeat' split) <;> first | rfl | (exfalso; grind) | grind)

set_option maxHeartbeats 4000000 in
set_option maxRecDepth 100000 in
theorem c_X5_count (l : Launch) (D : va_G) (ty : Nat → ClassId) (t0 : Nat) (ad : Nat → Nat) (x : Int32)  : fc l yX5_count wsX5_count (fj_rm 3 66 0 0) D ty t0 [.ref (ad 0), .int x] (fx_w ad ty fx_a0 fx_g0 fx_n0) 0 0 (fun v w => v = some (.int (if (0 ≤ x ∧ x ≤ 10) then 0 else -1002))) := by
  refine fc_start (own := RX5) (cc := cX5_count) (maxL := 2) (ret := (some .int)) (by decide) rfl (Nat.le_of_ble_eq_true rfl) rfl ?_
  intro p e s m args below meth c Q A C hmn E9
  have iX5 : ∀ w ∈ u_ws RX5 TX5 5, w ∈ wsX5_count := fun _ h => List.mem_cons_of_mem _ (List.mem_append_left _ (List.mem_append_left _ (List.mem_append_left _ (List.mem_append_left _ (List.mem_append_right _ h)))))
  have kX5_12 : Cond.fieldLink RX5 12 "FreeLand" "persons" "LFreeLand$Persons;" ∈ wsX5_count := (by decide +kernel)
  have iX3 : ∀ w ∈ u_ws RX3 TX3 3, w ∈ wsX5_count := fun _ h => List.mem_cons_of_mem _ (List.mem_append_left _ (List.mem_append_left _ (List.mem_append_left _ (List.mem_append_right _ h))))
  have kX5_50 : (RX5, 50, "FreeLand$Persons", "size", "I") ∈ nw_F := (by decide +kernel)
  have kX5_19 : Cond.fieldLink RX5 19 "FreeLand" "laws" "LFreeLand$Laws;" ∈ wsX5_count := (by decide +kernel)
  have iX2 : ∀ w ∈ u_ws RX2 TX2 7, w ∈ wsX5_count := fun _ h => List.mem_cons_of_mem _ (List.mem_append_left _ (List.mem_append_left _ (List.mem_append_right _ h)))
  have kX5_72 : (RX5, 72, "FreeLand$Laws", "size", "I") ∈ nw_F := (by decide +kernel)
  have kX5_26 : Cond.fieldLink RX5 26 "FreeLand" "book" "LFreeLand$Book;" ∈ wsX5_count := (by decide +kernel)
  have iX0 : ∀ w ∈ u_ws RX0 TX0 8, w ∈ wsX5_count := fun _ h => List.mem_cons_of_mem _ (List.mem_append_left _ (List.mem_append_right _ h))
  have kX5_100 : (RX5, 100, "FreeLand$Book", "size", "I") ∈ nw_F := (by decide +kernel)
  have kN137 : (RX5, 137, yX0_countStruck) ∈ nw_M := (by decide +kernel)
  have kIX0 : Cond.initialized RX0 ∈ wsX5_count := (by decide +kernel)
  have kVX0_countStruck : Cond.instanceMethod yX0_countStruck ∈ wsX5_count := (by decide +kernel)
  have kSX0_countStruck : Cond.selects RX0 yX0_countStruck yX0_countStruck ∈ wsX5_count := (by decide +kernel)
  have kX5_61 : (RX5, 61, "FreeLand$Laws", "length", "I") ∈ nw_F := (by decide +kernel)
  refine fj_lv (lv' := [(0, .ref (ad 0)), (1, .int x)]) [0, 1] rfl ?_
  refine fj_iload_n C 1 dX5_count_0 rfl rfl ?_
  rcases fx_sw x 0 4 with hsw | hsw
  · refine fj_tableOut (tgt := 76) C dX5_count_1 hsw (by decide) ?_
    have z1 : ¬ (0 ≤ x ∧ x ≤ 4) := (by simp only [Int32.le_iff_toInt_le]; simp; omega)
    refine fj_aload_n C 0 dX5_count_76 rfl rfl ?_
    refine fj_iload_n C 1 dX5_count_77 rfl rfl ?_
    refine fj_callVw (As := [.int x]) (rest := []) C (c_X5_countOfWork l D ty t0 ad x) (cwV 1 C.2.2.2.2.1 gX5_count_X5_countOfWork rfl rfl rfl (by decide +kernel) ⟨Nat.le_of_ble_eq_true rfl, Nat.le_of_ble_eq_true rfl⟩) ⟨0, 5, _, _, fx_at0 _ _ _ _ _, rfl, rfl⟩ rfl (Nat.le_of_ble_eq_true rfl) dX5_count_78 ⟨Nat.zero_le _, Nat.zero_le _⟩ (fun v9 w9 hp9 => ?_)
    obtain rfl := hp9
    refine fj_st (st' := .int (if (5 ≤ x ∧ x ≤ 10) then 0 else -1002) :: []) rfl ?_
    exact fj_iret C E9 dX5_count_81 (by (repeat' split) <;> first | rfl | (exfalso; grind) | grind)
  · obtain ⟨hs1, hs2⟩ := hsw
    rcases (show x.toInt = 0 ∨ x.toInt = 1 ∨ x.toInt = 2 ∨ x.toInt = 3 ∨ x.toInt = 4 by omega) with hsw | hsw | hsw | hsw | hsw
    · refine fj_tableIn (off := 35) (tgt := 36) C dX5_count_1 (by omega) (by omega) (by rw [hsw]; rfl) (by decide) ?_
      have ex : x = 0 := Int32.toInt_inj.mp (by simp [hsw])
      refine fj_aload_n C 0 dX5_count_36 rfl rfl ?_
      refine fj_get (Cn := RX5) (T := TX5) (N := 5) (ci := 5) (v := .ref (ad 1)) C iX5 0 (fx_at0 _ _ _ _ _) rfl 0 (by decide) kX5_12 rfl dX5_count_37 ?_
      refine fj_getN (Cn := RX3) (T := TX3) (N := 3) (ci := 3) (v := .int 0) C iX3 1 (fx_at1 _ _ _ _ _) rfl 2 (by decide) kX5_50 rfl dX5_count_40 ?_
      exact fj_iret C E9 dX5_count_43 (by (repeat' split) <;> first | rfl | (exfalso; grind) | grind)
    · refine fj_tableIn (off := 43) (tgt := 44) C dX5_count_1 (by omega) (by omega) (by rw [hsw]; rfl) (by decide) ?_
      have ex : x = 1 := Int32.toInt_inj.mp (by simp [hsw])
      refine fj_aload_n C 0 dX5_count_44 rfl rfl ?_
      refine fj_get (Cn := RX5) (T := TX5) (N := 5) (ci := 5) (v := .ref (ad 4)) C iX5 0 (fx_at0 _ _ _ _ _) rfl 1 (by decide) kX5_19 rfl dX5_count_45 ?_
      refine fj_getN (Cn := RX2) (T := TX2) (N := 7) (ci := 2) (v := .int 0) C iX2 4 (fx_at4 _ _ _ _ _) rfl 6 (by decide) kX5_72 rfl dX5_count_48 ?_
      exact fj_iret C E9 dX5_count_51 (by (repeat' split) <;> first | rfl | (exfalso; grind) | grind)
    · refine fj_tableIn (off := 51) (tgt := 52) C dX5_count_1 (by omega) (by omega) (by rw [hsw]; rfl) (by decide) ?_
      have ex : x = 2 := Int32.toInt_inj.mp (by simp [hsw])
      refine fj_aload_n C 0 dX5_count_52 rfl rfl ?_
      refine fj_get (Cn := RX5) (T := TX5) (N := 5) (ci := 5) (v := .ref (ad 17)) C iX5 0 (fx_at0 _ _ _ _ _) rfl 2 (by decide) kX5_26 rfl dX5_count_53 ?_
      refine fj_getN (Cn := RX0) (T := TX0) (N := 8) (ci := 0) (v := .int 0) C iX0 17 (fx_at17 _ _ _ _ _) rfl 7 (by decide) kX5_100 rfl dX5_count_56 ?_
      exact fj_iret C E9 dX5_count_59 (by (repeat' split) <;> first | rfl | (exfalso; grind) | grind)
    · refine fj_tableIn (off := 59) (tgt := 60) C dX5_count_1 (by omega) (by omega) (by rw [hsw]; rfl) (by decide) ?_
      have ex : x = 3 := Int32.toInt_inj.mp (by simp [hsw])
      refine fj_aload_n C 0 dX5_count_60 rfl rfl ?_
      refine fj_get (Cn := RX5) (T := TX5) (N := 5) (ci := 5) (v := .ref (ad 17)) C iX5 0 (fx_at0 _ _ _ _ _) rfl 2 (by decide) kX5_26 rfl dX5_count_61 ?_
      refine fj_callVNw (As := []) (rest := []) C (c_X0_countStruck l D ty t0 ad) ⟨va_cnB 0 C.2.2.2.2.1 gX5_count_X0_countStruck_n137 rfl rfl rfl (C.2.2.2.2.2.2.2.1.1 _ kN137) (C.2.2.2.2.1 _ kIX0) (by decide +kernel) ⟨Nat.le_of_ble_eq_true rfl, Nat.le_of_ble_eq_true rfl⟩, C.2.2.2.2.1 _ kVX0_countStruck, C.2.2.2.2.1 _ kSX0_countStruck⟩ ⟨17, 0, _, _, fx_at17 _ _ _ _ _, rfl, rfl⟩ rfl (Nat.le_of_ble_eq_true rfl) dX5_count_64 ⟨Nat.zero_le _, Nat.zero_le _⟩ (fun v9 w9 hp9 => ?_)
      obtain ⟨rfl, rfl⟩ := hp9
      refine fj_st (st' := .int 0 :: []) rfl ?_
      exact fj_iret C E9 dX5_count_67 (by (repeat' split) <;> first | rfl | (exfalso; grind) | grind)
    · refine fj_tableIn (off := 67) (tgt := 68) C dX5_count_1 (by omega) (by omega) (by rw [hsw]; rfl) (by decide) ?_
      have ex : x = 4 := Int32.toInt_inj.mp (by simp [hsw])
      refine fj_aload_n C 0 dX5_count_68 rfl rfl ?_
      refine fj_get (Cn := RX5) (T := TX5) (N := 5) (ci := 5) (v := .ref (ad 4)) C iX5 0 (fx_at0 _ _ _ _ _) rfl 1 (by decide) kX5_19 rfl dX5_count_69 ?_
      refine fj_getN (Cn := RX2) (T := TX2) (N := 7) (ci := 2) (v := .int 0) C iX2 4 (fx_at4 _ _ _ _ _) rfl 1 (by decide) kX5_61 rfl dX5_count_72 ?_
      exact fj_iret C E9 dX5_count_75 (by (repeat' split) <;> first | rfl | (exfalso; grind) | grind)

set_option maxHeartbeats 4000000 in
set_option maxRecDepth 100000 in
theorem c_X5_holds (l : Launch) (D : va_G) (ty : Nat → ClassId) (t0 : Nat) (ad : Nat → Nat) (q : Int32) (d : Int32) (k : Int32) (u : Int32)  : fc l yX5_holds wsX5_holds (fj_rm 2 47 0 0) D ty t0 [.ref (ad 0), .int q, .int d, .int k, .int u] (fx_w ad ty fx_a0 fx_g0 fx_n0) 0 0 (fun v w => v = some (.int (if (0 ≤ q ∧ q ≤ 63) then (if (0 ≤ d ∧ d ≤ 20000) ∧ (-1 ≤ k ∧ k ≤ 0) ∧ (0 ≤ u ∧ u ≤ 5) then (if u = 0 ∨ u = 2 ∨ u = 3 then -1 else 0) else -1002) else -1001))) := by
  refine fc_start (own := RX5) (cc := cX5_holds) (maxL := 5) (ret := (some .int)) (by decide) rfl (Nat.le_of_ble_eq_true rfl) rfl ?_
  intro p e s m args below meth c Q A C hmn E9
  have iX5 : ∀ w ∈ u_ws RX5 TX5 5, w ∈ wsX5_holds := fun _ h => List.mem_cons_of_mem _ (List.mem_append_left _ (List.mem_append_left _ (List.mem_append_left _ (List.mem_append_left _ (List.mem_append_right _ h)))))
  have kX5_35 : Cond.fieldLink RX5 35 "FreeLand" "work" "LFreeLand$Work;" ∈ wsX5_holds := (by decide +kernel)
  have kN130 : (RX5, 130, yX4_through) ∈ nw_M := (by decide +kernel)
  have kIX4 : Cond.initialized RX4 ∈ wsX5_holds := (by decide +kernel)
  have kVX4_through : Cond.instanceMethod yX4_through ∈ wsX5_holds := (by decide +kernel)
  have kSX4_through : Cond.selects RX4 yX4_through yX4_through ∈ wsX5_holds := (by decide +kernel)
  have kN168 : (RX5, 168, yX4_acres) ∈ nw_M := (by decide +kernel)
  have kVX4_acres : Cond.instanceMethod yX4_acres ∈ wsX5_holds := (by decide +kernel)
  have kSX4_acres : Cond.selects RX4 yX4_acres yX4_acres ∈ wsX5_holds := (by decide +kernel)
  have kN153 : (RX5, 153, yX4_holderOf) ∈ nw_M := (by decide +kernel)
  have kVX4_holderOf : Cond.instanceMethod yX4_holderOf ∈ wsX5_holds := (by decide +kernel)
  have kSX4_holderOf : Cond.selects RX4 yX4_holderOf yX4_holderOf ∈ wsX5_holds := (by decide +kernel)
  have kN156 : (RX5, 156, yX4_standing) ∈ nw_M := (by decide +kernel)
  have kVX4_standing : Cond.instanceMethod yX4_standing ∈ wsX5_holds := (by decide +kernel)
  have kSX4_standing : Cond.selects RX4 yX4_standing yX4_standing ∈ wsX5_holds := (by decide +kernel)
  have iX4 : ∀ w ∈ u_ws RX4 TX4 18, w ∈ wsX5_holds := fun _ h => List.mem_cons_of_mem _ (List.mem_append_left _ (List.mem_append_left _ (List.mem_append_left _ (List.mem_append_right _ h))))
  have kX5_159 : (RX5, 159, "FreeLand$Work", "held", "[I") ∈ nw_F := (by decide +kernel)
  have kN162 : (RX5, 162, yX4_preferredOn) ∈ nw_M := (by decide +kernel)
  have kVX4_preferredOn : Cond.instanceMethod yX4_preferredOn ∈ wsX5_holds := (by decide +kernel)
  have kSX4_preferredOn : Cond.selects RX4 yX4_preferredOn yX4_preferredOn ∈ wsX5_holds := (by decide +kernel)
  have kN165 : (RX5, 165, yX4_daysLived) ∈ nw_M := (by decide +kernel)
  have kVX4_daysLived : Cond.instanceMethod yX4_daysLived ∈ wsX5_holds := (by decide +kernel)
  have kSX4_daysLived : Cond.selects RX4 yX4_daysLived yX4_daysLived ∈ wsX5_holds := (by decide +kernel)
  refine fj_lv (lv' := [(0, .ref (ad 0)), (1, .int q), (2, .int d), (3, .int k), (4, .int u)]) [0, 1, 2, 3, 4] rfl ?_
  refine fj_iload_n C 1 dX5_holds_0 rfl rfl ?_
  refine fj_callSw (As := [.int q]) (rest := []) C (c_X5_isQuarter l D ty t0 (fx_w ad ty fx_a0 fx_g0 fx_n0) q) (va_cwS 1 C.2.2.2.2.1 gX5_holds_X5_isQuarter rfl rfl rfl (by decide +kernel) ⟨Nat.le_of_ble_eq_true rfl, Nat.le_of_ble_eq_true rfl⟩)  rfl (Nat.le_of_ble_eq_true rfl) dX5_holds_1 ⟨Nat.zero_le _, Nat.zero_le _⟩ (fun v9 w9 hp9 => ?_)
  obtain ⟨rfl, rfl⟩ := hp9
  refine fj_st (st' := .int (if (0 ≤ q ∧ q ≤ 63) then 1 else 0) :: []) rfl ?_
  refine fj_ifb_ne (tgt := 11) C dX5_holds_4 (by decide) (fun h4 => ?_) (fun h4 => ?_)
  · refine fj_iload_n C 2 dX5_holds_11 rfl rfl ?_
    refine fj_callSw (As := [.int d]) (rest := []) C (c_X5_isDay l D ty t0 (fx_w ad ty fx_a0 fx_g0 fx_n0) d) (va_cwS 1 C.2.2.2.2.1 gX5_holds_X5_isDay rfl rfl rfl (by decide +kernel) ⟨Nat.le_of_ble_eq_true rfl, Nat.le_of_ble_eq_true rfl⟩)  rfl (Nat.le_of_ble_eq_true rfl) dX5_holds_12 ⟨Nat.zero_le _, Nat.zero_le _⟩ (fun v9 w9 hp9 => ?_)
    obtain ⟨rfl, rfl⟩ := hp9
    refine fj_st (st' := .int (if (0 ≤ d ∧ d ≤ 20000) then 1 else 0) :: []) rfl ?_
    refine fj_ifb_eq (tgt := 36) C dX5_holds_15 (by decide) (fun h15 => ?_) (fun h15 => ?_)
    · refine fj_sipush (v := (-1002)) C dX5_holds_36 (by decide) ?_
      exact fj_iret C E9 dX5_holds_39 (by (repeat' split) <;> first | rfl | (exfalso; grind) | grind)
    · refine fj_aload_n C 0 dX5_holds_18 rfl rfl ?_
      refine fj_iload_n C 3 dX5_holds_19 rfl rfl ?_
      refine fj_callVw (As := [.int k]) (rest := []) C (c_X5_isKnownBy l D ty t0 ad k) (cwV 1 C.2.2.2.2.1 gX5_holds_X5_isKnownBy rfl rfl rfl (by decide +kernel) ⟨Nat.le_of_ble_eq_true rfl, Nat.le_of_ble_eq_true rfl⟩) ⟨0, 5, _, _, fx_at0 _ _ _ _ _, rfl, rfl⟩ rfl (Nat.le_of_ble_eq_true rfl) dX5_holds_20 ⟨Nat.zero_le _, Nat.zero_le _⟩ (fun v9 w9 hp9 => ?_)
      obtain ⟨rfl, rfl⟩ := hp9
      refine fj_st (st' := .int (if (-1 ≤ k ∧ k ≤ 0) then 1 else 0) :: []) rfl ?_
      refine fj_ifb_eq (tgt := 36) C dX5_holds_23 (by decide) (fun h23 => ?_) (fun h23 => ?_)
      · refine fj_sipush (v := (-1002)) C dX5_holds_36 (by decide) ?_
        exact fj_iret C E9 dX5_holds_39 (by (repeat' split) <;> first | rfl | (exfalso; grind) | grind)
      · refine fj_iload C 4 dX5_holds_26 rfl ?_
        refine fj_iconst (v := 0) C dX5_holds_28 (by decide) ?_
        refine fj_iconst (v := 5) C dX5_holds_29 (by decide) ?_
        refine fj_callSw (As := [.int u, .int 0, .int 5]) (rest := []) C (c_X5_within l D ty t0 (fx_w ad ty fx_a0 fx_g0 fx_n0) u 0 5) (va_cwS 3 C.2.2.2.2.1 gX5_holds_X5_within rfl rfl rfl (by decide +kernel) ⟨Nat.le_of_ble_eq_true rfl, Nat.le_of_ble_eq_true rfl⟩)  rfl (Nat.le_of_ble_eq_true rfl) dX5_holds_30 ⟨Nat.zero_le _, Nat.zero_le _⟩ (fun v9 w9 hp9 => ?_)
        obtain ⟨rfl, rfl⟩ := hp9
        refine fj_st (st' := .int (if (0 ≤ u ∧ u ≤ 5) then 1 else 0) :: []) rfl ?_
        refine fj_ifb_ne (tgt := 40) C dX5_holds_33 (by decide) (fun h33 => ?_) (fun h33 => ?_)
        · refine fj_aload_n C 0 dX5_holds_40 rfl rfl ?_
          refine fj_get (Cn := RX5) (T := TX5) (N := 5) (ci := 5) (v := .ref (ad 25)) C iX5 0 (fx_at0 _ _ _ _ _) rfl 3 (by decide) kX5_35 rfl dX5_holds_41 ?_
          refine fj_aload_n C 0 dX5_holds_44 rfl rfl ?_
          refine fj_iload_n C 3 dX5_holds_45 rfl rfl ?_
          refine fj_callVw (As := [.int k]) (rest := [.ref (ad 25)]) C (c_X5_linesOf l D ty t0 ad k) (cwV 1 C.2.2.2.2.1 gX5_holds_X5_linesOf rfl rfl rfl (by decide +kernel) ⟨Nat.le_of_ble_eq_true rfl, Nat.le_of_ble_eq_true rfl⟩) ⟨0, 5, _, _, fx_at0 _ _ _ _ _, rfl, rfl⟩ rfl (Nat.le_of_ble_eq_true rfl) dX5_holds_46 ⟨Nat.zero_le _, Nat.zero_le _⟩ (fun v9 w9 hp9 => ?_)
          obtain ⟨rfl, rfl⟩ := hp9
          refine fj_st (st' := .int (if k = -1 then 0 else k) :: [.ref (ad 25)]) rfl ?_
          refine fj_iload_n C 2 dX5_holds_49 rfl rfl ?_
          refine fj_callVNw (As := [.int (if k = -1 then 0 else k), .int d]) (rest := []) C (c_X4_through l D ty t0 ad (if k = -1 then 0 else k) d) ⟨va_cnB 2 C.2.2.2.2.1 gX5_holds_X4_through_n130 rfl rfl rfl (C.2.2.2.2.2.2.2.1.1 _ kN130) (C.2.2.2.2.1 _ kIX4) (by decide +kernel) ⟨Nat.le_of_ble_eq_true rfl, Nat.le_of_ble_eq_true rfl⟩, C.2.2.2.2.1 _ kVX4_through, C.2.2.2.2.1 _ kSX4_through⟩ ⟨25, 4, _, _, fx_at25 _ _ _ _ _, rfl, rfl⟩ rfl (Nat.le_of_ble_eq_true rfl) dX5_holds_50 ⟨Nat.zero_le _, Nat.zero_le _⟩ (fun v9 w9 hp9 => ?_)
          obtain ⟨rfl, rfl⟩ := hp9
          refine fj_st (st' := []) rfl ?_
          refine fj_iload C 4 dX5_holds_53 rfl ?_
          rcases fx_sw u 0 4 with hsw | hsw
          · refine fj_tableOut (tgt := 137) C dX5_holds_55 hsw (by decide) ?_
            have eu : ¬ (u = 0 ∨ u = 2 ∨ u = 3) := by rintro (e | e | e) <;> (subst e; revert hsw; decide)
            refine fj_aload_n C 0 dX5_holds_137 rfl rfl ?_
            refine fj_get (Cn := RX5) (T := TX5) (N := 5) (ci := 5) (v := .ref (ad 25)) C iX5 0 (fx_at0 _ _ _ _ _) rfl 3 (by decide) kX5_35 rfl dX5_holds_138 ?_
            refine fj_iload_n C 1 dX5_holds_141 rfl rfl ?_
            refine fj_callVNw (As := [.int q]) (rest := []) C (c_X4_acres l D ty t0 ad q h4) ⟨va_cnB 1 C.2.2.2.2.1 gX5_holds_X4_acres_n168 rfl rfl rfl (C.2.2.2.2.2.2.2.1.1 _ kN168) (C.2.2.2.2.1 _ kIX4) (by decide +kernel) ⟨Nat.le_of_ble_eq_true rfl, Nat.le_of_ble_eq_true rfl⟩, C.2.2.2.2.1 _ kVX4_acres, C.2.2.2.2.1 _ kSX4_acres⟩ ⟨25, 4, _, _, fx_at25 _ _ _ _ _, rfl, rfl⟩ rfl (Nat.le_of_ble_eq_true rfl) dX5_holds_142 ⟨Nat.zero_le _, Nat.zero_le _⟩ (fun v9 w9 hp9 => ?_)
            obtain ⟨rfl, rfl⟩ := hp9
            refine fj_st (st' := .int 0 :: []) rfl ?_
            exact fj_iret C E9 dX5_holds_145 (by (repeat' split) <;> first | rfl | (exfalso; grind) | grind)
          · obtain ⟨hs1, hs2⟩ := hsw
            rcases (show u.toInt = 0 ∨ u.toInt = 1 ∨ u.toInt = 2 ∨ u.toInt = 3 ∨ u.toInt = 4 by omega) with hsw | hsw | hsw | hsw | hsw
            · refine fj_tableIn (off := 33) (tgt := 88) C dX5_holds_55 (by omega) (by omega) (by rw [hsw]; rfl) (by decide) ?_
              have eu : u = 0 := Int32.toInt_inj.mp (by simp [hsw])
              refine fj_aload_n C 0 dX5_holds_88 rfl rfl ?_
              refine fj_get (Cn := RX5) (T := TX5) (N := 5) (ci := 5) (v := .ref (ad 25)) C iX5 0 (fx_at0 _ _ _ _ _) rfl 3 (by decide) kX5_35 rfl dX5_holds_89 ?_
              refine fj_iload_n C 1 dX5_holds_92 rfl rfl ?_
              refine fj_callVNw (As := [.int q]) (rest := []) C (c_X4_holderOf l D ty t0 ad q h4) ⟨va_cnB 1 C.2.2.2.2.1 gX5_holds_X4_holderOf_n153 rfl rfl rfl (C.2.2.2.2.2.2.2.1.1 _ kN153) (C.2.2.2.2.1 _ kIX4) (by decide +kernel) ⟨Nat.le_of_ble_eq_true rfl, Nat.le_of_ble_eq_true rfl⟩, C.2.2.2.2.1 _ kVX4_holderOf, C.2.2.2.2.1 _ kSX4_holderOf⟩ ⟨25, 4, _, _, fx_at25 _ _ _ _ _, rfl, rfl⟩ rfl (Nat.le_of_ble_eq_true rfl) dX5_holds_93 ⟨Nat.zero_le _, Nat.zero_le _⟩ (fun v9 w9 hp9 => ?_)
              obtain ⟨rfl, rfl⟩ := hp9
              refine fj_st (st' := .int (-1) :: []) rfl ?_
              exact fj_iret C E9 dX5_holds_96 (by (repeat' split) <;> first | rfl | (exfalso; grind) | grind)
            · refine fj_tableIn (off := 42) (tgt := 97) C dX5_holds_55 (by omega) (by omega) (by rw [hsw]; rfl) (by decide) ?_
              have eu : u = 1 := Int32.toInt_inj.mp (by simp [hsw])
              refine fj_aload_n C 0 dX5_holds_97 rfl rfl ?_
              refine fj_get (Cn := RX5) (T := TX5) (N := 5) (ci := 5) (v := .ref (ad 25)) C iX5 0 (fx_at0 _ _ _ _ _) rfl 3 (by decide) kX5_35 rfl dX5_holds_98 ?_
              refine fj_iload_n C 1 dX5_holds_101 rfl rfl ?_
              refine fj_iload_n C 2 dX5_holds_102 rfl rfl ?_
              refine fj_callVNw (As := [.int q, .int d]) (rest := []) C (c_X4_standing l D ty t0 ad q d h4 h15) ⟨va_cnB 2 C.2.2.2.2.1 gX5_holds_X4_standing_n156 rfl rfl rfl (C.2.2.2.2.2.2.2.1.1 _ kN156) (C.2.2.2.2.1 _ kIX4) (by decide +kernel) ⟨Nat.le_of_ble_eq_true rfl, Nat.le_of_ble_eq_true rfl⟩, C.2.2.2.2.1 _ kVX4_standing, C.2.2.2.2.1 _ kSX4_standing⟩ ⟨25, 4, _, _, fx_at25 _ _ _ _ _, rfl, rfl⟩ rfl (Nat.le_of_ble_eq_true rfl) dX5_holds_103 ⟨Nat.zero_le _, Nat.zero_le _⟩ (fun v9 w9 hp9 => ?_)
              obtain ⟨rfl, rfl⟩ := hp9
              refine fj_st (st' := .int 0 :: []) rfl ?_
              exact fj_iret C E9 dX5_holds_106 (by (repeat' split) <;> first | rfl | (exfalso; grind) | grind)
            · refine fj_tableIn (off := 52) (tgt := 107) C dX5_holds_55 (by omega) (by omega) (by rw [hsw]; rfl) (by decide) ?_
              have eu : u = 2 := Int32.toInt_inj.mp (by simp [hsw])
              refine fj_aload_n C 0 dX5_holds_107 rfl rfl ?_
              refine fj_get (Cn := RX5) (T := TX5) (N := 5) (ci := 5) (v := .ref (ad 25)) C iX5 0 (fx_at0 _ _ _ _ _) rfl 3 (by decide) kX5_35 rfl dX5_holds_108 ?_
              refine fj_getN (Cn := RX4) (T := TX4) (N := 18) (ci := 4) (v := .ref (ad 33)) C iX4 25 (fx_at25 _ _ _ _ _) rfl 11 (by decide) kX5_159 rfl dX5_holds_111 ?_
              refine fj_iload_n C 1 dX5_holds_114 rfl rfl ?_
              refine fj_iald (f := ((fx_cl fx_a0) 33)) C 33 (fx_at33 _ _ _ _ _) (fx_in h4.1 h4.2 (by decide) (by decide)) dX5_holds_115 ?_
              refine fj_at (y := (-1)) (fx_cl33 _ (fx_ix h4)) ?_
              exact fj_iret C E9 dX5_holds_116 (by (repeat' split) <;> first | rfl | (exfalso; grind) | grind)
            · refine fj_tableIn (off := 62) (tgt := 117) C dX5_holds_55 (by omega) (by omega) (by rw [hsw]; rfl) (by decide) ?_
              have eu : u = 3 := Int32.toInt_inj.mp (by simp [hsw])
              refine fj_aload_n C 0 dX5_holds_117 rfl rfl ?_
              refine fj_get (Cn := RX5) (T := TX5) (N := 5) (ci := 5) (v := .ref (ad 25)) C iX5 0 (fx_at0 _ _ _ _ _) rfl 3 (by decide) kX5_35 rfl dX5_holds_118 ?_
              refine fj_iload_n C 1 dX5_holds_121 rfl rfl ?_
              refine fj_iload_n C 2 dX5_holds_122 rfl rfl ?_
              refine fj_callVNw (As := [.int q, .int d]) (rest := []) C (c_X4_preferredOn l D ty t0 ad q d h4) ⟨va_cnB 2 C.2.2.2.2.1 gX5_holds_X4_preferredOn_n162 rfl rfl rfl (C.2.2.2.2.2.2.2.1.1 _ kN162) (C.2.2.2.2.1 _ kIX4) (by decide +kernel) ⟨Nat.le_of_ble_eq_true rfl, Nat.le_of_ble_eq_true rfl⟩, C.2.2.2.2.1 _ kVX4_preferredOn, C.2.2.2.2.1 _ kSX4_preferredOn⟩ ⟨25, 4, _, _, fx_at25 _ _ _ _ _, rfl, rfl⟩ rfl (Nat.le_of_ble_eq_true rfl) dX5_holds_123 ⟨Nat.zero_le _, Nat.zero_le _⟩ (fun v9 w9 hp9 => ?_)
              obtain ⟨rfl, rfl⟩ := hp9
              refine fj_st (st' := .int (-1) :: []) rfl ?_
              exact fj_iret C E9 dX5_holds_126 (by (repeat' split) <;> first | rfl | (exfalso; grind) | grind)
            · refine fj_tableIn (off := 72) (tgt := 127) C dX5_holds_55 (by omega) (by omega) (by rw [hsw]; rfl) (by decide) ?_
              have eu : u = 4 := Int32.toInt_inj.mp (by simp [hsw])
              refine fj_aload_n C 0 dX5_holds_127 rfl rfl ?_
              refine fj_get (Cn := RX5) (T := TX5) (N := 5) (ci := 5) (v := .ref (ad 25)) C iX5 0 (fx_at0 _ _ _ _ _) rfl 3 (by decide) kX5_35 rfl dX5_holds_128 ?_
              refine fj_iload_n C 1 dX5_holds_131 rfl rfl ?_
              refine fj_iload_n C 2 dX5_holds_132 rfl rfl ?_
              refine fj_callVNw (As := [.int q, .int d]) (rest := []) C (c_X4_daysLived l D ty t0 ad q d h4) ⟨va_cnB 2 C.2.2.2.2.1 gX5_holds_X4_daysLived_n165 rfl rfl rfl (C.2.2.2.2.2.2.2.1.1 _ kN165) (C.2.2.2.2.1 _ kIX4) (by decide +kernel) ⟨Nat.le_of_ble_eq_true rfl, Nat.le_of_ble_eq_true rfl⟩, C.2.2.2.2.1 _ kVX4_daysLived, C.2.2.2.2.1 _ kSX4_daysLived⟩ ⟨25, 4, _, _, fx_at25 _ _ _ _ _, rfl, rfl⟩ rfl (Nat.le_of_ble_eq_true rfl) dX5_holds_133 ⟨Nat.zero_le _, Nat.zero_le _⟩ (fun v9 w9 hp9 => ?_)
              obtain ⟨rfl, rfl⟩ := hp9
              refine fj_st (st' := .int 0 :: []) rfl ?_
              exact fj_iret C E9 dX5_holds_136 (by (repeat' split) <;> first | rfl | (exfalso; grind) | grind)
        · refine fj_sipush (v := (-1002)) C dX5_holds_36 (by decide) ?_
          exact fj_iret C E9 dX5_holds_39 (by (repeat' split) <;> first | rfl | (exfalso; grind) | grind)
  · refine fj_sipush (v := (-1001)) C dX5_holds_7 (by decide) ?_
    exact fj_iret C E9 dX5_holds_10 (by (repeat' split) <;> first | rfl | (exfalso; grind) | grind)

set_option maxHeartbeats 4000000 in
set_option maxRecDepth 100000 in
theorem c_X5_digest (l : Launch) (D : va_G) (ty : Nat → ClassId) (t0 : Nat) (ad : Nat → Nat) (k : Int32)  : fc l yX5_digest wsX5_digest (fj_rm 2 45 0 0) D ty t0 [.ref (ad 0), .int k] (fx_w ad ty fx_a0 fx_g0 fx_n0) 0 0 (fun v w => v = some (.int (if (-1 ≤ k ∧ k ≤ 0) then fx_dg 64 else -1002))) := by
  refine fc_start (own := RX5) (cc := cX5_digest) (maxL := 5) (ret := (some .int)) (by decide) rfl (Nat.le_of_ble_eq_true rfl) rfl ?_
  intro p e s m args below meth c Q A C hmn E9
  have iX5 : ∀ w ∈ u_ws RX5 TX5 5, w ∈ wsX5_digest := fun _ h => List.mem_cons_of_mem _ (List.mem_append_left _ (List.mem_append_left _ (List.mem_append_left _ (List.mem_append_left _ (List.mem_append_right _ h)))))
  have kX5_35 : Cond.fieldLink RX5 35 "FreeLand" "work" "LFreeLand$Work;" ∈ wsX5_digest := (by decide +kernel)
  have kN130 : (RX5, 130, yX4_through) ∈ nw_M := (by decide +kernel)
  have kIX4 : Cond.initialized RX4 ∈ wsX5_digest := (by decide +kernel)
  have kVX4_through : Cond.instanceMethod yX4_through ∈ wsX5_digest := (by decide +kernel)
  have kSX4_through : Cond.selects RX4 yX4_through yX4_through ∈ wsX5_digest := (by decide +kernel)
  have kN153 : (RX5, 153, yX4_holderOf) ∈ nw_M := (by decide +kernel)
  have kVX4_holderOf : Cond.instanceMethod yX4_holderOf ∈ wsX5_digest := (by decide +kernel)
  have kSX4_holderOf : Cond.selects RX4 yX4_holderOf yX4_holderOf ∈ wsX5_digest := (by decide +kernel)
  refine fj_lv (lv' := [(0, .ref (ad 0)), (1, .int k)]) [0, 1] rfl ?_
  refine fj_aload_n C 0 dX5_digest_0 rfl rfl ?_
  refine fj_iload_n C 1 dX5_digest_1 rfl rfl ?_
  refine fj_callVw (As := [.int k]) (rest := []) C (c_X5_isKnownBy l D ty t0 ad k) (cwV 1 C.2.2.2.2.1 gX5_digest_X5_isKnownBy rfl rfl rfl (by decide +kernel) ⟨Nat.le_of_ble_eq_true rfl, Nat.le_of_ble_eq_true rfl⟩) ⟨0, 5, _, _, fx_at0 _ _ _ _ _, rfl, rfl⟩ rfl (Nat.le_of_ble_eq_true rfl) dX5_digest_2 ⟨Nat.zero_le _, Nat.zero_le _⟩ (fun v9 w9 hp9 => ?_)
  obtain ⟨rfl, rfl⟩ := hp9
  refine fj_st (st' := .int (if (-1 ≤ k ∧ k ≤ 0) then 1 else 0) :: []) rfl ?_
  refine fj_ifb_ne (tgt := 12) C dX5_digest_5 (by decide) (fun h5 => ?_) (fun h5 => ?_)
  · refine fj_aload_n C 0 dX5_digest_12 rfl rfl ?_
    refine fj_iload_n C 1 dX5_digest_13 rfl rfl ?_
    refine fj_callVw (As := [.int k]) (rest := []) C (c_X5_linesOf l D ty t0 ad k) (cwV 1 C.2.2.2.2.1 gX5_digest_X5_linesOf rfl rfl rfl (by decide +kernel) ⟨Nat.le_of_ble_eq_true rfl, Nat.le_of_ble_eq_true rfl⟩) ⟨0, 5, _, _, fx_at0 _ _ _ _ _, rfl, rfl⟩ rfl (Nat.le_of_ble_eq_true rfl) dX5_digest_14 ⟨Nat.zero_le _, Nat.zero_le _⟩ (fun v9 w9 hp9 => ?_)
    obtain ⟨rfl, rfl⟩ := hp9
    refine fj_st (st' := .int (if k = -1 then 0 else k) :: []) rfl ?_
    refine fj_at (y := 0) (by grind) ?_
    refine fj_istore_n (lv' := [(2, .int 0), (0, .ref (ad 0)), (1, .int k)]) C dX5_digest_17 rfl (by decide) rfl ?_
    refine fj_aload_n C 1 dX5_digest_18 rfl rfl ?_
    refine fj_get (Cn := RX5) (T := TX5) (N := 5) (ci := 5) (v := .ref (ad 25)) C iX5 0 (fx_at0 _ _ _ _ _) rfl 3 (by decide) kX5_35 rfl dX5_digest_19 ?_
    refine fj_iload_n C 0 dX5_digest_22 rfl rfl ?_
    refine fj_sipush (v := 20000) C dX5_digest_23 (by decide) ?_
    refine fj_callVNw (As := [.int 0, .int 20000]) (rest := []) C (c_X4_through l D ty t0 ad 0 20000) ⟨va_cnB 2 C.2.2.2.2.1 gX5_digest_X4_through_n130 rfl rfl rfl (C.2.2.2.2.2.2.2.1.1 _ kN130) (C.2.2.2.2.1 _ kIX4) (by decide +kernel) ⟨Nat.le_of_ble_eq_true rfl, Nat.le_of_ble_eq_true rfl⟩, C.2.2.2.2.1 _ kVX4_through, C.2.2.2.2.1 _ kSX4_through⟩ ⟨25, 4, _, _, fx_at25 _ _ _ _ _, rfl, rfl⟩ rfl (Nat.le_of_ble_eq_true rfl) dX5_digest_26 ⟨Nat.zero_le _, Nat.zero_le _⟩ (fun v9 w9 hp9 => ?_)
    obtain ⟨rfl, rfl⟩ := hp9
    refine fj_st (st' := []) rfl ?_
    refine fj_bipush (v := 7) C dX5_digest_29 (by decide) ?_
    refine fj_istore_n (lv' := [(3, .int 7), (2, .int 0), (0, .ref (ad 0)), (1, .int k)]) C dX5_digest_31 rfl (by decide) rfl ?_
    refine fj_iconst (v := 0) C dX5_digest_32 (by decide) ?_
    refine fj_istore (lv' := [(4, .int 0), (3, .int 7), (2, .int 0), (0, .ref (ad 0)), (1, .int k)]) C dX5_digest_33 (by decide) rfl ?_
    refine fj_iload C 0 dX5_digest_35 rfl ?_
    refine fj_iload_n C 2 dX5_digest_37 rfl rfl ?_
    refine fj_icmp_ge (tgt := 63) C dX5_digest_38 (by decide) (fun _ => ?_) (fun h => absurd (by decide) h)
    refine fj_iconst (v := 0) C dX5_digest_63 (by decide) ?_
    refine fj_istore (lv' := [(4, .int 0), (3, .int 7), (2, .int 0), (0, .ref (ad 0)), (1, .int k)]) C dX5_digest_64 (by decide) rfl ?_
    refine fj_lv (lv' := [(0, .ref (ad 0)), (1, .int k), (2, .int 0), (3, .int 7), (4, .int 0)]) [3, 4, 2, 1, 0] rfl ?_
    have lp66 : ∀ (i : Nat), (i ≤ 64) → fj p l e (fj_rm 2 45 0 0) s m args below meth c Q A D 5 0 0 (fx_w ad ty (fx_cl fx_a0) fx_g0 fx_n0) [(0, .ref (ad 0)), (1, .int k), (2, .int 0), (3, .int (fx_dg i)), (4, .int (nI i))] 66 [] := by
      have key : ∀ z : Nat, (fun (i : Nat) => (i ≤ 64) → fj p l e (fj_rm 2 45 0 0) s m args below meth c Q A D 5 0 0 (fx_w ad ty (fx_cl fx_a0) fx_g0 fx_n0) [(0, .ref (ad 0)), (1, .int k), (2, .int 0), (3, .int (fx_dg i)), (4, .int (nI i))] 66 []) z := by
        refine fx_ind (fun (i : Nat) => 64 - i) _ ?_
        rintro i ih ii
        refine fj_iload C 4 dX5_digest_66 rfl ?_
        refine fj_bipush (v := 64) C dX5_digest_68 (by decide) ?_
        refine fj_icmp_ge (tgt := 94) C dX5_digest_70 (by decide) (fun h70 => ?_) (fun h70 => ?_)
        · have q70 : 64 ≤ i := (nI_leI (a := 64) (by decide) (by omega)).mp h70
          obtain rfl : i = 64 := by omega
          refine fj_iload_n C 3 dX5_digest_94 rfl rfl ?_
          exact fj_iret C E9 dX5_digest_95 (by (repeat' split) <;> first | rfl | (exfalso; grind) | grind)
        · have q70 : i < 64 := Nat.lt_of_not_le (fun q => h70 ((nI_leI (a := 64) (by decide) (by omega)).mpr q))
          have hq : 0 ≤ nI i ∧ nI i ≤ 63 := ⟨(nI_leI (a := 0) (by decide) (by omega)).mpr (Nat.zero_le _), (nI_leI (b := 63) (by omega) (by decide)).mpr (by omega)⟩
          refine fj_bipush (v := 31) C dX5_digest_73 (by decide) ?_
          refine fj_iload_n C 3 dX5_digest_75 rfl rfl ?_
          refine fj_imul C dX5_digest_76 ?_
          refine fj_aload_n C 0 dX5_digest_77 rfl rfl ?_
          refine fj_get (Cn := RX5) (T := TX5) (N := 5) (ci := 5) (v := .ref (ad 25)) C iX5 0 (fx_at0 _ _ _ _ _) rfl 3 (by decide) kX5_35 rfl dX5_digest_78 ?_
          refine fj_iload C 4 dX5_digest_81 rfl ?_
          refine fj_callVNw (As := [.int (nI i)]) (rest := [.int (31 * (fx_dg i))]) C (c_X4_holderOf l D ty t0 ad (nI i) hq) ⟨va_cnB 1 C.2.2.2.2.1 gX5_digest_X4_holderOf_n153 rfl rfl rfl (C.2.2.2.2.2.2.2.1.1 _ kN153) (C.2.2.2.2.1 _ kIX4) (by decide +kernel) ⟨Nat.le_of_ble_eq_true rfl, Nat.le_of_ble_eq_true rfl⟩, C.2.2.2.2.1 _ kVX4_holderOf, C.2.2.2.2.1 _ kSX4_holderOf⟩ ⟨25, 4, _, _, fx_at25 _ _ _ _ _, rfl, rfl⟩ rfl (Nat.le_of_ble_eq_true rfl) dX5_digest_83 ⟨Nat.zero_le _, Nat.zero_le _⟩ (fun v9 w9 hp9 => ?_)
          obtain ⟨rfl, rfl⟩ := hp9
          refine fj_st (st' := .int (-1) :: [.int (31 * (fx_dg i))]) rfl ?_
          refine fj_iadd C dX5_digest_86 ?_
          refine fj_at (y := fx_dg (i + 1)) rfl ?_
          refine fj_istore_n (lv' := [(3, .int (fx_dg (i + 1))), (0, .ref (ad 0)), (1, .int k), (2, .int 0), (4, .int (nI i))]) C dX5_digest_87 rfl (by decide) rfl ?_
          refine fj_iinc (v := nI (i + 1)) (lv' := [(4, .int (nI (i + 1))), (3, .int (fx_dg (i + 1))), (0, .ref (ad 0)), (1, .int k), (2, .int 0)]) C 4 dX5_digest_88 rfl (nI_1 i) (by decide) rfl ?_
          refine fj_goto (tgt := 66) C dX5_digest_91 (by decide) ?_
          refine fj_lv (lv' := [(0, .ref (ad 0)), (1, .int k), (2, .int 0), (3, .int (fx_dg (i + 1))), (4, .int (nI (i + 1)))]) [2, 3, 4, 1, 0] rfl ?_
          exact ih (i + 1) (by show 64 - (i + 1) < 64 - i; omega) (by omega)
      intro i
      exact key i
    exact lp66 0 (Nat.zero_le _)
  · refine fj_sipush (v := (-1002)) C dX5_digest_8 (by decide) ?_
    exact fj_iret C E9 dX5_digest_11 (by (repeat' split) <;> first | rfl | (exfalso; grind) | grind)

set_option maxHeartbeats 4000000 in
set_option maxRecDepth 100000 in
theorem c_X2_valueOf (l : Launch) (D : va_G) (ty : Nat → ClassId) (t0 : Nat) (ad : Nat → Nat) (x : Int32) (u : Int32) (hu : 0 ≤ u ∧ u ≤ 8) : fc l yX2_valueOf wsX2_valueOf (fj_rm 0 0 0 0) D ty t0 [.ref (ad 4), .int x, .int u] (fx_w ad ty fx_a0 fx_g0 fx_n0) 0 0 (fun v w => v = some (.int (fx_AF u.toNatClampNeg))) := by
  refine fc_start (own := RX2) (cc := cX2_valueOf) (maxL := 6) (ret := (some .int)) (by decide) rfl (Nat.le_of_ble_eq_true rfl) rfl ?_
  intro p e s m args below meth c Q A C hmn E9
  have iX2 : ∀ w ∈ u_ws RX2 TX2 7, w ∈ wsX2_valueOf := fun _ h => List.mem_cons_of_mem _ (List.mem_append_right _ h)
  have kX2_34 : Cond.fieldLink RX2 34 "FreeLand$Laws" "size" "I" ∈ wsX2_valueOf := (by decide +kernel)
  have kX2_94 : Cond.fieldLink RX2 94 "FreeLand$Laws" "AT_FIRST" "[I" ∈ wsX2_valueOf := (by decide +kernel)
  refine fj_lv (lv' := [(0, .ref (ad 4)), (1, .int x), (2, .int u)]) [0, 1, 2] rfl ?_
  refine fj_iconst (v := 0) C dX2_valueOf_0 (by decide) ?_
  refine fj_istore_n (lv' := [(3, .int 0), (0, .ref (ad 4)), (1, .int x), (2, .int u)]) C dX2_valueOf_1 rfl (by decide) rfl ?_
  refine fj_aload_n C 1 dX2_valueOf_2 rfl rfl ?_
  refine fj_get (Cn := RX2) (T := TX2) (N := 7) (ci := 2) (v := .int 0) C iX2 4 (fx_at4 _ _ _ _ _) rfl 6 (by decide) kX2_34 rfl dX2_valueOf_3 ?_
  refine fj_iconst (v := 1) C dX2_valueOf_6 (by decide) ?_
  refine fj_isub C dX2_valueOf_7 ?_
  refine fj_at (y := (-1)) (by decide) ?_
  refine fj_istore (lv' := [(4, .int (-1)), (3, .int 0), (0, .ref (ad 4)), (1, .int x), (2, .int u)]) C dX2_valueOf_8 (by decide) rfl ?_
  refine fj_iload C 0 dX2_valueOf_10 rfl ?_
  refine fj_if_lt (tgt := 65) C dX2_valueOf_12 (by decide) (fun _ => ?_) (fun h => absurd (by decide) h)
  refine fj_getAF C kX2_94 dX2_valueOf_65 ?_
  refine fj_iload_n C 4 dX2_valueOf_68 rfl rfl ?_
  refine fj_ldAF C (fx_in hu.1 hu.2 (by decide) (by decide)) dX2_valueOf_69 ?_
  exact fj_iret C E9 dX2_valueOf_70 rfl

set_option maxHeartbeats 4000000 in
set_option maxRecDepth 100000 in
theorem c_X5_sets (l : Launch) (D : va_G) (ty : Nat → ClassId) (t0 : Nat) (ad : Nat → Nat) (x : Int32) (u : Int32)  : fc l yX5_sets wsX5_sets (fj_rm 1 25 0 0) D ty t0 [.ref (ad 0), .int x, .int u] (fx_w ad ty fx_a0 fx_g0 fx_n0) 0 0 (fun v w => v = some (.int (if x = -1 then (if (0 ≤ u ∧ u ≤ 9) then (if u = 9 then 0 else fx_AF u.toNatClampNeg) else -1002) else -1001))) := by
  refine fc_start (own := RX5) (cc := cX5_sets) (maxL := 3) (ret := (some .int)) (by decide) rfl (Nat.le_of_ble_eq_true rfl) rfl ?_
  intro p e s m args below meth c Q A C hmn E9
  have iX5 : ∀ w ∈ u_ws RX5 TX5 5, w ∈ wsX5_sets := fun _ h => List.mem_cons_of_mem _ (List.mem_append_left _ (List.mem_append_right _ h))
  have kX5_19 : Cond.fieldLink RX5 19 "FreeLand" "laws" "LFreeLand$Laws;" ∈ wsX5_sets := (by decide +kernel)
  have kN84 : (RX5, 84, yX2_valueOf) ∈ nw_M := (by decide +kernel)
  have kIX2 : Cond.initialized RX2 ∈ wsX5_sets := (by decide +kernel)
  have kVX2_valueOf : Cond.instanceMethod yX2_valueOf ∈ wsX5_sets := (by decide +kernel)
  have kSX2_valueOf : Cond.selects RX2 yX2_valueOf yX2_valueOf ∈ wsX5_sets := (by decide +kernel)
  have iX2 : ∀ w ∈ u_ws RX2 TX2 7, w ∈ wsX5_sets := fun _ h => List.mem_cons_of_mem _ (List.mem_append_right _ h)
  have kX5_80 : (RX5, 80, "FreeLand$Laws", "from", "[I") ∈ nw_F := (by decide +kernel)
  have kX5_72 : (RX5, 72, "FreeLand$Laws", "size", "I") ∈ nw_F := (by decide +kernel)
  refine fj_lv (lv' := [(0, .ref (ad 0)), (1, .int x), (2, .int u)]) [0, 1, 2] rfl ?_
  refine fj_iload_n C 1 dX5_sets_0 rfl rfl ?_
  refine fj_iconst (v := (-1)) C dX5_sets_1 (by decide) ?_
  refine fj_icmp_eq (tgt := 26) C dX5_sets_2 (by decide) (fun h2 => ?_) (fun h2 => ?_)
  · refine fj_iload_n C 2 dX5_sets_26 rfl rfl ?_
    refine fj_iconst (v := 0) C dX5_sets_27 (by decide) ?_
    refine fj_bipush (v := 9) C dX5_sets_28 (by decide) ?_
    refine fj_callSw (As := [.int u, .int 0, .int 9]) (rest := []) C (c_X5_within l D ty t0 (fx_w ad ty fx_a0 fx_g0 fx_n0) u 0 9) (va_cwS 3 C.2.2.2.2.1 gX5_sets_X5_within rfl rfl rfl (by decide +kernel) ⟨Nat.le_of_ble_eq_true rfl, Nat.le_of_ble_eq_true rfl⟩)  rfl (Nat.le_of_ble_eq_true rfl) dX5_sets_30 ⟨Nat.zero_le _, Nat.zero_le _⟩ (fun v9 w9 hp9 => ?_)
    obtain ⟨rfl, rfl⟩ := hp9
    refine fj_st (st' := .int (if (0 ≤ u ∧ u ≤ 9) then 1 else 0) :: []) rfl ?_
    refine fj_ifb_ne (tgt := 40) C dX5_sets_33 (by decide) (fun h33 => ?_) (fun h33 => ?_)
    · refine fj_iload_n C 2 dX5_sets_40 rfl rfl ?_
      refine fj_bipush (v := 9) C dX5_sets_41 (by decide) ?_
      refine fj_icmp_ne (tgt := 65) C dX5_sets_43 (by decide) (fun h43 => ?_) (fun h43 => ?_)
      · refine fj_aload_n C 0 dX5_sets_65 rfl rfl ?_
        refine fj_get (Cn := RX5) (T := TX5) (N := 5) (ci := 5) (v := .ref (ad 4)) C iX5 0 (fx_at0 _ _ _ _ _) rfl 1 (by decide) kX5_19 rfl dX5_sets_66 ?_
        refine fj_iload_n C 1 dX5_sets_69 rfl rfl ?_
        refine fj_iload_n C 2 dX5_sets_70 rfl rfl ?_
        refine fj_callVNw (As := [.int x, .int u]) (rest := []) C (c_X2_valueOf l D ty t0 ad x u (by grind)) ⟨va_cnB 2 C.2.2.2.2.1 gX5_sets_X2_valueOf_n84 rfl rfl rfl (C.2.2.2.2.2.2.2.1.1 _ kN84) (C.2.2.2.2.1 _ kIX2) (by decide +kernel) ⟨Nat.le_of_ble_eq_true rfl, Nat.le_of_ble_eq_true rfl⟩, C.2.2.2.2.1 _ kVX2_valueOf, C.2.2.2.2.1 _ kSX2_valueOf⟩ ⟨4, 2, _, _, fx_at4 _ _ _ _ _, rfl, rfl⟩ rfl (Nat.le_of_ble_eq_true rfl) dX5_sets_71 ⟨Nat.zero_le _, Nat.zero_le _⟩ (fun v9 w9 hp9 => ?_)
        obtain rfl := hp9
        refine fj_st (st' := .int (fx_AF u.toNatClampNeg) :: []) rfl ?_
        exact fj_iret C E9 dX5_sets_74 (by (repeat' split) <;> first | rfl | (exfalso; grind) | grind)
      · refine fj_iload_n C 1 dX5_sets_46 rfl rfl ?_
        refine fj_iconst (v := (-1)) C dX5_sets_47 (by decide) ?_
        refine fj_icmp_ne (tgt := 55) C dX5_sets_48 (by decide) (fun h48 => ?_) (fun h48 => ?_)
        · refine fj_aload_n C 0 dX5_sets_55 rfl rfl ?_
          refine fj_get (Cn := RX5) (T := TX5) (N := 5) (ci := 5) (v := .ref (ad 4)) C iX5 0 (fx_at0 _ _ _ _ _) rfl 1 (by decide) kX5_19 rfl dX5_sets_56 ?_
          refine fj_getN (Cn := RX2) (T := TX2) (N := 7) (ci := 2) (v := .ref (ad 6)) C iX2 4 (fx_at4 _ _ _ _ _) rfl 3 (by decide) kX5_80 rfl dX5_sets_59 ?_
          refine fj_iload_n C 1 dX5_sets_62 rfl rfl ?_
          refine fj_iald (f := (fx_a0 6)) C 6 (fx_at6 _ _ _ _ _) (by assumption) dX5_sets_63 ?_
          exact fj_iret C E9 dX5_sets_64 (by (repeat' split) <;> first | rfl | (exfalso; grind) | grind)
        · exact absurd (by grind) h48
    · refine fj_sipush (v := (-1002)) C dX5_sets_36 (by decide) ?_
      exact fj_iret C E9 dX5_sets_39 (by (repeat' split) <;> first | rfl | (exfalso; grind) | grind)
  · refine fj_iload_n C 1 dX5_sets_5 rfl rfl ?_
    refine fj_iconst (v := 0) C dX5_sets_6 (by decide) ?_
    refine fj_aload_n C 0 dX5_sets_7 rfl rfl ?_
    refine fj_get (Cn := RX5) (T := TX5) (N := 5) (ci := 5) (v := .ref (ad 4)) C iX5 0 (fx_at0 _ _ _ _ _) rfl 1 (by decide) kX5_19 rfl dX5_sets_8 ?_
    refine fj_getN (Cn := RX2) (T := TX2) (N := 7) (ci := 2) (v := .int 0) C iX2 4 (fx_at4 _ _ _ _ _) rfl 6 (by decide) kX5_72 rfl dX5_sets_11 ?_
    refine fj_iconst (v := 1) C dX5_sets_14 (by decide) ?_
    refine fj_isub C dX5_sets_15 ?_
    refine fj_at (y := (-1)) (by decide) ?_
    refine fj_callSw (As := [.int x, .int 0, .int (-1)]) (rest := []) C (c_X5_within l D ty t0 (fx_w ad ty fx_a0 fx_g0 fx_n0) x 0 (-1)) (va_cwS 3 C.2.2.2.2.1 gX5_sets_X5_within rfl rfl rfl (by decide +kernel) ⟨Nat.le_of_ble_eq_true rfl, Nat.le_of_ble_eq_true rfl⟩)  rfl (Nat.le_of_ble_eq_true rfl) dX5_sets_16 ⟨Nat.zero_le _, Nat.zero_le _⟩ (fun v9 w9 hp9 => ?_)
    obtain ⟨rfl, rfl⟩ := hp9
    refine fj_st (st' := .int (if (0 ≤ x ∧ x ≤ (-1)) then 1 else 0) :: []) rfl ?_
    refine fj_if_ne (tgt := 26) C dX5_sets_19 (by decide) (fun h19 => absurd h19 (by grind)) (fun h19 => ?_)
    refine fj_sipush (v := (-1001)) C dX5_sets_22 (by decide) ?_
    exact fj_iret C E9 dX5_sets_25 (by (repeat' split) <;> first | rfl | (exfalso; grind) | grind)

set_option maxHeartbeats 4000000 in
set_option maxRecDepth 100000 in
theorem c_X2_inForce (l : Launch) (D : va_G) (ty : Nat → ClassId) (t0 : Nat) (ad : Nat → Nat) (x : Int32)  : fc l yX2_inForce wsX2_inForce (fj_rm 0 0 0 0) D ty t0 [.ref (ad 4), .int x] (fx_w ad ty fx_a0 fx_g0 fx_n0) 0 0 (fun v w => v = some (.int (-1))) := by
  refine fc_start (own := RX2) (cc := cX2_inForce) (maxL := 3) (ret := (some .int)) (by decide) rfl (Nat.le_of_ble_eq_true rfl) rfl ?_
  intro p e s m args below meth c Q A C hmn E9
  have iX2 : ∀ w ∈ u_ws RX2 TX2 7, w ∈ wsX2_inForce := fun _ h => List.mem_cons_of_mem _ (List.mem_append_right _ h)
  have kX2_34 : Cond.fieldLink RX2 34 "FreeLand$Laws" "size" "I" ∈ wsX2_inForce := (by decide +kernel)
  refine fj_lv (lv' := [(0, .ref (ad 4)), (1, .int x)]) [0, 1] rfl ?_
  refine fj_aload_n C 0 dX2_inForce_0 rfl rfl ?_
  refine fj_get (Cn := RX2) (T := TX2) (N := 7) (ci := 2) (v := .int 0) C iX2 4 (fx_at4 _ _ _ _ _) rfl 6 (by decide) kX2_34 rfl dX2_inForce_1 ?_
  refine fj_iconst (v := 1) C dX2_inForce_4 (by decide) ?_
  refine fj_isub C dX2_inForce_5 ?_
  refine fj_at (y := (-1)) (by decide) ?_
  refine fj_istore_n (lv' := [(2, .int (-1)), (0, .ref (ad 4)), (1, .int x)]) C dX2_inForce_6 rfl (by decide) rfl ?_
  refine fj_iload_n C 0 dX2_inForce_7 rfl rfl ?_
  refine fj_if_lt (tgt := 39) C dX2_inForce_8 (by decide) (fun _ => ?_) (fun h => absurd (by decide) h)
  refine fj_iconst (v := (-1)) C dX2_inForce_39 (by decide) ?_
  exact fj_iret C E9 dX2_inForce_40 rfl

set_option maxHeartbeats 4000000 in
set_option maxRecDepth 100000 in
theorem c_X5_lawOf (l : Launch) (D : va_G) (ty : Nat → ClassId) (t0 : Nat) (ad : Nat → Nat) (x : Int32)  : fc l yX5_lawOf wsX5_lawOf (fj_rm 2 42 0 0) D ty t0 [.ref (ad 0), .int x] (fx_w ad ty fx_a0 fx_g0 fx_n0) 0 0 (fun v w => v = some (.int (if (0 ≤ x ∧ x ≤ 20000) then -1 else -1002))) := by
  refine fc_start (own := RX5) (cc := cX5_lawOf) (maxL := 2) (ret := (some .int)) (by decide) rfl (Nat.le_of_ble_eq_true rfl) rfl ?_
  intro p e s m args below meth c Q A C hmn E9
  have iX5 : ∀ w ∈ u_ws RX5 TX5 5, w ∈ wsX5_lawOf := fun _ h => List.mem_cons_of_mem _ (List.mem_append_left _ (List.mem_append_right _ h))
  have kX5_19 : Cond.fieldLink RX5 19 "FreeLand" "laws" "LFreeLand$Laws;" ∈ wsX5_lawOf := (by decide +kernel)
  have kN87 : (RX5, 87, yX2_inForce) ∈ nw_M := (by decide +kernel)
  have kIX2 : Cond.initialized RX2 ∈ wsX5_lawOf := (by decide +kernel)
  have kVX2_inForce : Cond.instanceMethod yX2_inForce ∈ wsX5_lawOf := (by decide +kernel)
  have kSX2_inForce : Cond.selects RX2 yX2_inForce yX2_inForce ∈ wsX5_lawOf := (by decide +kernel)
  refine fj_lv (lv' := [(0, .ref (ad 0)), (1, .int x)]) [0, 1] rfl ?_
  refine fj_iload_n C 1 dX5_lawOf_0 rfl rfl ?_
  refine fj_callSw (As := [.int x]) (rest := []) C (c_X5_isDay l D ty t0 (fx_w ad ty fx_a0 fx_g0 fx_n0) x) (va_cwS 1 C.2.2.2.2.1 gX5_lawOf_X5_isDay rfl rfl rfl (by decide +kernel) ⟨Nat.le_of_ble_eq_true rfl, Nat.le_of_ble_eq_true rfl⟩)  rfl (Nat.le_of_ble_eq_true rfl) dX5_lawOf_1 ⟨Nat.zero_le _, Nat.zero_le _⟩ (fun v9 w9 hp9 => ?_)
  obtain ⟨rfl, rfl⟩ := hp9
  refine fj_st (st' := .int (if (0 ≤ x ∧ x ≤ 20000) then 1 else 0) :: []) rfl ?_
  refine fj_ifb_ne (tgt := 11) C dX5_lawOf_4 (by decide) (fun h4 => ?_) (fun h4 => ?_)
  · refine fj_aload_n C 0 dX5_lawOf_11 rfl rfl ?_
    refine fj_get (Cn := RX5) (T := TX5) (N := 5) (ci := 5) (v := .ref (ad 4)) C iX5 0 (fx_at0 _ _ _ _ _) rfl 1 (by decide) kX5_19 rfl dX5_lawOf_12 ?_
    refine fj_iload_n C 1 dX5_lawOf_15 rfl rfl ?_
    refine fj_callVNw (As := [.int x]) (rest := []) C (c_X2_inForce l D ty t0 ad x) ⟨va_cnB 1 C.2.2.2.2.1 gX5_lawOf_X2_inForce_n87 rfl rfl rfl (C.2.2.2.2.2.2.2.1.1 _ kN87) (C.2.2.2.2.1 _ kIX2) (by decide +kernel) ⟨Nat.le_of_ble_eq_true rfl, Nat.le_of_ble_eq_true rfl⟩, C.2.2.2.2.1 _ kVX2_inForce, C.2.2.2.2.1 _ kSX2_inForce⟩ ⟨4, 2, _, _, fx_at4 _ _ _ _ _, rfl, rfl⟩ rfl (Nat.le_of_ble_eq_true rfl) dX5_lawOf_16 ⟨Nat.zero_le _, Nat.zero_le _⟩ (fun v9 w9 hp9 => ?_)
    obtain rfl := hp9
    refine fj_st (st' := .int (-1) :: []) rfl ?_
    exact fj_iret C E9 dX5_lawOf_19 (by (repeat' split) <;> first | rfl | (exfalso; grind) | grind)
  · refine fj_sipush (v := (-1002)) C dX5_lawOf_7 (by decide) ?_
    exact fj_iret C E9 dX5_lawOf_10 (by (repeat' split) <;> first | rfl | (exfalso; grind) | grind)

set_option maxHeartbeats 4000000 in
set_option maxRecDepth 100000 in
theorem c_X2_read (l : Launch) (D : va_G) (ty : Nat → ClassId) (t0 : Nat) (ad : Nat → Nat)   : fc l yX2_read wsX2_read (fj_rm 0 0 0 0) D ty t0 [.ref (ad 4), .ref (ad 9)] (fx_w ad ty fx_a0 fx_g0 fx_n0) 0 0 (fun v w => v = some (.int 0) ∧ w = (fx_w ad ty (va_up fx_a0 9 (fl (-1) (fx_a0 9) 9)) fx_g0 (va_up fx_n0 2 (-1)))) := by
  refine fc_start (own := RX2) (cc := cX2_read) (maxL := 6) (ret := (some .int)) (by decide) rfl (Nat.le_of_ble_eq_true rfl) rfl ?_
  intro p e s m args below meth c Q A C hmn E9
  have iX2 : ∀ w ∈ u_ws RX2 TX2 7, w ∈ wsX2_read := fun _ h => List.mem_cons_of_mem _ (List.mem_append_right _ h)
  have kX2_15 : Cond.fieldLink RX2 15 "FreeLand$Laws" "faultAt" "I" ∈ wsX2_read := (by decide +kernel)
  have kX2_31 : Cond.fieldLink RX2 31 "FreeLand$Laws" "length" "I" ∈ wsX2_read := (by decide +kernel)
  refine fj_lv (lv' := [(0, .ref (ad 4)), (1, .ref (ad 9))]) [0, 1] rfl ?_
  refine fj_iconst (v := 0) C dX2_read_0 (by decide) ?_
  refine fj_istore_n (lv' := [(2, .int 0), (0, .ref (ad 4)), (1, .ref (ad 9))]) C dX2_read_1 rfl (by decide) rfl ?_
  refine fj_lv (lv' := [(0, .ref (ad 4)), (1, .ref (ad 9)), (2, .int 0)]) [1, 2, 0] rfl ?_
  have lp2 : ∀ (i : Nat), (i ≤ 9) → fj p l e (fj_rm 0 0 0 0) s m args below meth c Q A D 6 0 0 (fx_w ad ty (va_up fx_a0 9 (fl (-1) (fx_a0 9) i)) fx_g0 fx_n0) [(0, .ref (ad 4)), (1, .ref (ad 9)), (2, .int (nI i))] 2 [] := by
    have key : ∀ z : Nat, (fun (i : Nat) => (i ≤ 9) → fj p l e (fj_rm 0 0 0 0) s m args below meth c Q A D 6 0 0 (fx_w ad ty (va_up fx_a0 9 (fl (-1) (fx_a0 9) i)) fx_g0 fx_n0) [(0, .ref (ad 4)), (1, .ref (ad 9)), (2, .int (nI i))] 2 []) z := by
      refine fx_ind (fun (i : Nat) => 9 - i) _ ?_
      rintro i ih ii
      refine fj_iload_n C 2 dX2_read_2 rfl rfl ?_
      refine fj_bipush (v := 9) C dX2_read_3 (by decide) ?_
      refine fj_icmp_ge (tgt := 18) C dX2_read_5 (by decide) (fun h5 => ?_) (fun h5 => ?_)
      · have q5 : 9 ≤ i := (nI_leI (a := 9) (by decide) (by omega)).mp h5
        obtain rfl : i = 9 := by omega
        refine fj_aload_n C 0 dX2_read_18 rfl rfl ?_
        refine fj_iconst (v := (-1)) C dX2_read_19 (by decide) ?_
        refine fj_put (Cn := RX2) (T := TX2) (N := 7) (ci := 2) C iX2 tyX2 tyX2_ok nmX2 4 (fx_at4 _ _ _ _ _) rfl 2 (by decide) kX2_15 rfl rfl rfl (by decide) dX2_read_20 (fx_si4_2 _ _ _ _ _ _) ?_
        refine fj_iconst (v := (-1)) C dX2_read_23 (by decide) ?_
        refine fj_istore_n (lv' := [(2, .int (-1)), (0, .ref (ad 4)), (1, .ref (ad 9))]) C dX2_read_24 rfl (by decide) rfl ?_
        refine fj_iconst (v := 0) C dX2_read_25 (by decide) ?_
        refine fj_istore_n (lv' := [(3, .int 0), (2, .int (-1)), (0, .ref (ad 4)), (1, .ref (ad 9))]) C dX2_read_26 rfl (by decide) rfl ?_
        refine fj_iload_n C 0 dX2_read_27 rfl rfl ?_
        refine fj_aload_n C 2 dX2_read_28 rfl rfl ?_
        refine fj_get (Cn := RX2) (T := TX2) (N := 7) (ci := 2) (v := .int 0) C iX2 4 (fx_at4 _ _ _ _ _) rfl 1 (by decide) kX2_31 rfl dX2_read_29 ?_
        refine fj_icmp_ge (tgt := 137) C dX2_read_32 (by decide) (fun _ => ?_) (fun h => absurd (by decide) h)
        refine fj_iload_n C 1 dX2_read_137 rfl rfl ?_
        refine fj_iconst (v := (-1)) C dX2_read_138 (by decide) ?_
        refine fj_icmp_ne (tgt := 144) C dX2_read_139 (by decide) (fun h => absurd h (by decide)) (fun _ => ?_)
        refine fj_iconst (v := 0) C dX2_read_142 (by decide) ?_
        exact fj_iret C E9 dX2_read_143 ⟨rfl, rfl⟩
      · have q5 : i < 9 := Nat.lt_of_not_le (fun q => h5 ((nI_leI (a := 9) (by decide) (by omega)).mpr q))
        refine fj_aload_n C 1 dX2_read_8 rfl rfl ?_
        refine fj_iload_n C 2 dX2_read_9 rfl rfl ?_
        refine fj_iconst (v := (-1)) C dX2_read_10 (by decide) ?_
        refine fj_iast (f := (fl (-1) (fx_a0 9) i)) C 9 (fx_at9 _ _ _ _ _) (vp_in_nI q5 (by decide)) dX2_read_11 (fx_st9 _ _ _ _ _ _) ?_
        refine fj_ws (ws' := (fx_w ad ty (va_up fx_a0 9 (upd (fl (-1) (fx_a0 9) i) (nI i).toNatClampNeg (-1))) fx_g0 fx_n0)) rfl ?_
        refine fj_ws (ws' := (fx_w ad ty (va_up fx_a0 9 (fl (-1) (fx_a0 9) (i + 1))) fx_g0 fx_n0)) (by rw [fl_nI _ _ (by omega)]) ?_
        refine fj_iinc (v := nI (i + 1)) (lv' := [(2, .int (nI (i + 1))), (0, .ref (ad 4)), (1, .ref (ad 9))]) C 2 dX2_read_12 rfl (nI_1 i) (by decide) rfl ?_
        refine fj_goto (tgt := 2) C dX2_read_15 (by decide) ?_
        refine fj_lv (lv' := [(0, .ref (ad 4)), (1, .ref (ad 9)), (2, .int (nI (i + 1)))]) [1, 2, 0] rfl ?_
        exact ih (i + 1) (by show 9 - (i + 1) < 9 - i; omega) (by omega)
    intro i
    exact key i
  refine fj_ws (ws' := (fx_w ad ty (va_up fx_a0 9 (fl (-1) (fx_a0 9) 0)) fx_g0 fx_n0)) (by rw [fl_0]; rfl) ?_
  exact lp2 0 (Nat.zero_le _)

set_option maxHeartbeats 4000000 in
set_option maxRecDepth 100000 in
theorem c_X2_enact (l : Launch) (D : va_G) (ty : Nat → ClassId) (t0 : Nat) (ad : Nat → Nat) (x : Int32)  : fc l yX2_enact wsX2_enact (fj_rm 1 25 0 0) D ty t0 [.ref (ad 4), .int x] (fx_w ad ty fx_a0 fx_g0 fx_n0) 0 0 (fun v w => v = some (.int 0)) := by
  refine fc_start (own := RX2) (cc := cX2_enact) (maxL := 4) (ret := (some .int)) (by decide) rfl (Nat.le_of_ble_eq_true rfl) rfl ?_
  intro p e s m args below meth c Q A C hmn E9
  have iX2 : ∀ w ∈ u_ws RX2 TX2 7, w ∈ wsX2_enact := fun _ h => List.mem_cons_of_mem _ (List.mem_append_right _ h)
  have kX2_25 : Cond.fieldLink RX2 25 "FreeLand$Laws" "value" "[[I" ∈ wsX2_enact := (by decide +kernel)
  have kX2_34 : Cond.fieldLink RX2 34 "FreeLand$Laws" "size" "I" ∈ wsX2_enact := (by decide +kernel)
  have kX2_31 : Cond.fieldLink RX2 31 "FreeLand$Laws" "length" "I" ∈ wsX2_enact := (by decide +kernel)
  have kX2_19 : Cond.fieldLink RX2 19 "FreeLand$Laws" "from" "[I" ∈ wsX2_enact := (by decide +kernel)
  have kX2_28 : Cond.fieldLink RX2 28 "FreeLand$Laws" "order" "[I" ∈ wsX2_enact := (by decide +kernel)
  refine fj_lv (lv' := [(0, .ref (ad 4)), (1, .int x)]) [0, 1] rfl ?_
  refine fj_aload_n C 0 dX2_enact_0 rfl rfl ?_
  refine fj_aload_n C 0 dX2_enact_1 rfl rfl ?_
  refine fj_get (Cn := RX2) (T := TX2) (N := 7) (ci := 2) (v := .ref (ad 7)) C iX2 4 (fx_at4 _ _ _ _ _) rfl 4 (by decide) kX2_25 rfl dX2_enact_2 ?_
  refine fj_aload_n C 0 dX2_enact_5 rfl rfl ?_
  refine fj_get (Cn := RX2) (T := TX2) (N := 7) (ci := 2) (v := .int 0) C iX2 4 (fx_at4 _ _ _ _ _) rfl 6 (by decide) kX2_34 rfl dX2_enact_6 ?_
  refine fj_aald (r := ad 9) C 7 (fx_at7 _ _ _ _ _) (vp_in_iff.mpr ⟨by decide, by decide⟩) rfl dX2_enact_9 ?_
  refine fj_callVw (As := [.ref (ad 9)]) (rest := []) C (c_X2_read l D ty t0 ad) (cwV 1 C.2.2.2.2.1 gX2_enact_X2_read rfl rfl rfl (by decide +kernel) ⟨Nat.le_of_ble_eq_true rfl, Nat.le_of_ble_eq_true rfl⟩) ⟨4, 2, _, _, fx_at4 _ _ _ _ _, rfl, rfl⟩ rfl (Nat.le_of_ble_eq_true rfl) dX2_enact_10 ⟨Nat.zero_le _, Nat.zero_le _⟩ (fun v9 w9 hp9 => ?_)
  obtain ⟨rfl, rfl⟩ := hp9
  refine fj_st (st' := .int 0 :: []) rfl ?_
  refine fj_istore_n (lv' := [(2, .int 0), (0, .ref (ad 4)), (1, .int x)]) C dX2_enact_13 rfl (by decide) rfl ?_
  refine fj_aload_n C 1 dX2_enact_14 rfl rfl ?_
  refine fj_iconst (v := 0) C dX2_enact_15 (by decide) ?_
  refine fj_put (Cn := RX2) (T := TX2) (N := 7) (ci := 2) C iX2 tyX2 tyX2_ok nmX2 4 (fx_at4 _ _ _ _ _) rfl 1 (by decide) kX2_31 rfl rfl rfl (by decide) dX2_enact_16 (fx_si4_1 _ _ _ _ _ _) ?_
  refine fj_iload_n C 0 dX2_enact_19 rfl rfl ?_
  refine fj_if_eq (tgt := 28) C dX2_enact_20 (by decide) (fun _ => ?_) (fun h => absurd (by decide) h)
  refine fj_aload_n C 1 dX2_enact_28 rfl rfl ?_
  refine fj_get (Cn := RX2) (T := TX2) (N := 7) (ci := 2) (v := .ref (ad 6)) C iX2 4 (fx_at4 _ _ _ _ _) rfl 3 (by decide) kX2_19 rfl dX2_enact_29 ?_
  refine fj_aload_n C 1 dX2_enact_32 rfl rfl ?_
  refine fj_get (Cn := RX2) (T := TX2) (N := 7) (ci := 2) (v := .int 0) C iX2 4 (fx_at4 _ _ _ _ _) rfl 6 (by decide) kX2_34 rfl dX2_enact_33 ?_
  refine fj_iload_n C 2 dX2_enact_36 rfl rfl ?_
  refine fj_iast (f := (fx_a0 6)) C 6 (fx_at6 _ _ _ _ _) (vp_in_iff.mpr ⟨by decide, by decide⟩) dX2_enact_37 (fx_st6 _ _ _ _ _ _) ?_
  refine fj_aload_n C 1 dX2_enact_38 rfl rfl ?_
  refine fj_get (Cn := RX2) (T := TX2) (N := 7) (ci := 2) (v := .int 0) C iX2 4 (fx_at4 _ _ _ _ _) rfl 6 (by decide) kX2_34 rfl dX2_enact_39 ?_
  refine fj_istore_n (lv' := [(3, .int 0), (2, .int 0), (0, .ref (ad 4)), (1, .int x)]) C dX2_enact_42 rfl (by decide) rfl ?_
  refine fj_iload_n C 0 dX2_enact_43 rfl rfl ?_
  refine fj_if_le (tgt := 84) C dX2_enact_44 (by decide) (fun _ => ?_) (fun h => absurd (by decide) h)
  refine fj_aload_n C 2 dX2_enact_84 rfl rfl ?_
  refine fj_get (Cn := RX2) (T := TX2) (N := 7) (ci := 2) (v := .ref (ad 8)) C iX2 4 (fx_at4 _ _ _ _ _) rfl 5 (by decide) kX2_28 rfl dX2_enact_85 ?_
  refine fj_iload_n C 0 dX2_enact_88 rfl rfl ?_
  refine fj_aload_n C 2 dX2_enact_89 rfl rfl ?_
  refine fj_get (Cn := RX2) (T := TX2) (N := 7) (ci := 2) (v := .int 0) C iX2 4 (fx_at4 _ _ _ _ _) rfl 6 (by decide) kX2_34 rfl dX2_enact_90 ?_
  refine fj_iast (f := (fx_a0 8)) C 8 (fx_at8 _ _ _ _ _) (vp_in_iff.mpr ⟨by decide, by decide⟩) dX2_enact_93 (fx_st8 _ _ _ _ _ _) ?_
  refine fj_aload_n C 2 dX2_enact_94 rfl rfl ?_
  refine fj_dup C dX2_enact_95 rfl ?_
  refine fj_get (Cn := RX2) (T := TX2) (N := 7) (ci := 2) (v := .int 0) C iX2 4 (fx_at4 _ _ _ _ _) rfl 6 (by decide) kX2_34 rfl dX2_enact_96 ?_
  refine fj_iconst (v := 1) C dX2_enact_99 (by decide) ?_
  refine fj_iadd C dX2_enact_100 ?_
  refine fj_at (y := 1) (by decide) ?_
  refine fj_put (Cn := RX2) (T := TX2) (N := 7) (ci := 2) C iX2 tyX2 tyX2_ok nmX2 4 (fx_at4 _ _ _ _ _) rfl 6 (by decide) kX2_34 rfl rfl rfl (by decide) dX2_enact_101 (fx_si4_6 _ _ _ _ _ _) ?_
  refine fj_aload_n C 2 dX2_enact_104 rfl rfl ?_
  refine fj_get (Cn := RX2) (T := TX2) (N := 7) (ci := 2) (v := .int 1) C iX2 4 (fx_at4 _ _ _ _ _) rfl 6 (by decide) kX2_34 rfl dX2_enact_105 ?_
  refine fj_iconst (v := 1) C dX2_enact_108 (by decide) ?_
  refine fj_isub C dX2_enact_109 ?_
  refine fj_at (y := 0) (by decide) ?_
  exact fj_iret C E9 dX2_enact_110 rfl

set_option maxHeartbeats 4000000 in
set_option maxRecDepth 100000 in
theorem c_X5_law (l : Launch) (D : va_G) (ty : Nat → ClassId) (t0 : Nat) (ad : Nat → Nat) (x : Int32)  : fc l yX5_law wsX5_law (fj_rm 2 48 0 0) D ty t0 [.ref (ad 0), .int x] (fx_w ad ty fx_a0 fx_g0 fx_n0) 0 0 (fun v w => v = some (.int (if (0 ≤ x ∧ x ≤ 20000) then 0 else -1002))) := by
  refine fc_start (own := RX5) (cc := cX5_law) (maxL := 2) (ret := (some .int)) (by decide) rfl (Nat.le_of_ble_eq_true rfl) rfl ?_
  intro p e s m args below meth c Q A C hmn E9
  have iX5 : ∀ w ∈ u_ws RX5 TX5 5, w ∈ wsX5_law := fun _ h => List.mem_cons_of_mem _ (List.mem_append_left _ (List.mem_append_right _ h))
  have kX5_19 : Cond.fieldLink RX5 19 "FreeLand" "laws" "LFreeLand$Laws;" ∈ wsX5_law := (by decide +kernel)
  have iX2 : ∀ w ∈ u_ws RX2 TX2 7, w ∈ wsX5_law := fun _ h => List.mem_cons_of_mem _ (List.mem_append_right _ h)
  have kX5_72 : (RX5, 72, "FreeLand$Laws", "size", "I") ∈ nw_F := (by decide +kernel)
  have kN73 : (RX5, 73, yX2_enact) ∈ nw_M := (by decide +kernel)
  have kIX2 : Cond.initialized RX2 ∈ wsX5_law := (by decide +kernel)
  have kVX2_enact : Cond.instanceMethod yX2_enact ∈ wsX5_law := (by decide +kernel)
  have kSX2_enact : Cond.selects RX2 yX2_enact yX2_enact ∈ wsX5_law := (by decide +kernel)
  refine fj_lv (lv' := [(0, .ref (ad 0)), (1, .int x)]) [0, 1] rfl ?_
  refine fj_iload_n C 1 dX5_law_0 rfl rfl ?_
  refine fj_callSw (As := [.int x]) (rest := []) C (c_X5_isDay l D ty t0 (fx_w ad ty fx_a0 fx_g0 fx_n0) x) (va_cwS 1 C.2.2.2.2.1 gX5_law_X5_isDay rfl rfl rfl (by decide +kernel) ⟨Nat.le_of_ble_eq_true rfl, Nat.le_of_ble_eq_true rfl⟩)  rfl (Nat.le_of_ble_eq_true rfl) dX5_law_1 ⟨Nat.zero_le _, Nat.zero_le _⟩ (fun v9 w9 hp9 => ?_)
  obtain ⟨rfl, rfl⟩ := hp9
  refine fj_st (st' := .int (if (0 ≤ x ∧ x ≤ 20000) then 1 else 0) :: []) rfl ?_
  refine fj_ifb_ne (tgt := 11) C dX5_law_4 (by decide) (fun h4 => ?_) (fun h4 => ?_)
  · refine fj_aload_n C 0 dX5_law_11 rfl rfl ?_
    refine fj_get (Cn := RX5) (T := TX5) (N := 5) (ci := 5) (v := .ref (ad 4)) C iX5 0 (fx_at0 _ _ _ _ _) rfl 1 (by decide) kX5_19 rfl dX5_law_12 ?_
    refine fj_getN (Cn := RX2) (T := TX2) (N := 7) (ci := 2) (v := .int 0) C iX2 4 (fx_at4 _ _ _ _ _) rfl 6 (by decide) kX5_72 rfl dX5_law_15 ?_
    refine fj_bipush (v := 8) C dX5_law_18 (by decide) ?_
    refine fj_icmp_lt (tgt := 27) C dX5_law_20 (by decide) (fun _ => ?_) (fun h => absurd (by decide) h)
    refine fj_aload_n C 0 dX5_law_27 rfl rfl ?_
    refine fj_get (Cn := RX5) (T := TX5) (N := 5) (ci := 5) (v := .ref (ad 4)) C iX5 0 (fx_at0 _ _ _ _ _) rfl 1 (by decide) kX5_19 rfl dX5_law_28 ?_
    refine fj_iload_n C 1 dX5_law_31 rfl rfl ?_
    refine fj_callVNw (As := [.int x]) (rest := []) C (c_X2_enact l D ty t0 ad x) ⟨va_cnB 1 C.2.2.2.2.1 gX5_law_X2_enact_n73 rfl rfl rfl (C.2.2.2.2.2.2.2.1.1 _ kN73) (C.2.2.2.2.1 _ kIX2) (by decide +kernel) ⟨Nat.le_of_ble_eq_true rfl, Nat.le_of_ble_eq_true rfl⟩, C.2.2.2.2.1 _ kVX2_enact, C.2.2.2.2.1 _ kSX2_enact⟩ ⟨4, 2, _, _, fx_at4 _ _ _ _ _, rfl, rfl⟩ rfl (Nat.le_of_ble_eq_true rfl) dX5_law_32 ⟨Nat.zero_le _, Nat.zero_le _⟩ (fun v9 w9 hp9 => ?_)
    obtain rfl := hp9
    refine fj_st (st' := .int 0 :: []) rfl ?_
    exact fj_iret C E9 dX5_law_35 (by (repeat' split) <;> first | rfl | (exfalso; grind) | grind)
  · refine fj_sipush (v := (-1002)) C dX5_law_7 (by decide) ?_
    exact fj_iret C E9 dX5_law_10 (by (repeat' split) <;> first | rfl | (exfalso; grind) | grind)

set_option maxHeartbeats 4000000 in
set_option maxRecDepth 100000 in
theorem c_X2_append (l : Launch) (D : va_G) (ty : Nat → ClassId) (t0 : Nat) (ad : Nat → Nat) (x : Int32) (b9 : Int64) (N : Nat) (hN : N ≤ 8) (eN : x = nI N) : fc l yX2_append wsX2_append (fj_rm 0 0 0 0) D ty t0 [.ref (ad 4), .int x, .long b9] (fx_w ad ty fx_a0 fx_g0 fx_n0) 0 0 (fun v w => v = some (.int x)) := by
  subst eN
  refine fc_start (own := RX2) (cc := cX2_append) (maxL := 5) (ret := (some .int)) (by decide) rfl (Nat.le_of_ble_eq_true rfl) rfl ?_
  intro p e s m args below meth c Q A C hmn E9
  have iX2 : ∀ w ∈ u_ws RX2 TX2 7, w ∈ wsX2_append := fun _ h => List.mem_cons_of_mem _ (List.mem_append_right _ h)
  have kX2_31 : Cond.fieldLink RX2 31 "FreeLand$Laws" "length" "I" ∈ wsX2_append := (by decide +kernel)
  have kX2_9 : Cond.fieldLink RX2 9 "FreeLand$Laws" "text" "[B" ∈ wsX2_append := (by decide +kernel)
  refine fj_lv (lv' := [(0, .ref (ad 4)), (1, .int (nI N)), (2, .long b9)]) [0, 1, 2] rfl ?_
  refine fj_iload_n C 1 dX2_append_0 rfl rfl ?_
  refine fj_iconst (v := 1) C dX2_append_1 (by decide) ?_
  refine fj_isub C dX2_append_2 ?_
  refine fj_istore (lv' := [(4, .int ((nI N) - 1)), (0, .ref (ad 4)), (1, .int (nI N)), (2, .long b9)]) C dX2_append_3 (by decide) rfl ?_
  refine fj_lv (lv' := [(0, .ref (ad 4)), (1, .int (nI N)), (2, .long b9), (4, .int ((nI N) - 1))]) [1, 2, 3, 0] rfl ?_
  have lp5 : ∀ (k : Nat) (j : Nat) (t : Nat → Int32), (k + j = N) → fj p l e (fj_rm 0 0 0 0) s m args below meth c Q A D 5 0 0 (fx_w ad ty (va_up fx_a0 5 t) fx_g0 (va_up fx_n0 1 (nI j))) [(0, .ref (ad 4)), (1, .int (nI N)), (2, .long b9), (4, .int (nI k - 1))] 5 [] := by
    have key : ∀ z : Nat × Nat × Nat → Int32, (fun (z : Nat × Nat × Nat → Int32) => match z with | (k, j, t) => (k + j = N) → fj p l e (fj_rm 0 0 0 0) s m args below meth c Q A D 5 0 0 (fx_w ad ty (va_up fx_a0 5 t) fx_g0 (va_up fx_n0 1 (nI j))) [(0, .ref (ad 4)), (1, .int (nI N)), (2, .long b9), (4, .int (nI k - 1))] 5 []) z := by
      refine fx_ind (fun (z : Nat × Nat × Nat → Int32) => match z with | (k, j, t) => k) _ ?_
      rintro ⟨k, j, t⟩ ih ik
      refine fj_iload C 3 dX2_append_5 rfl ?_
      refine fj_if_lt (tgt := 44) C dX2_append_7 (by decide) (fun h7 => ?_) (fun h7 => ?_)
      · obtain rfl : k = 0 := fx_p0 (by omega) h7
        refine fj_aload_n C 0 dX2_append_44 rfl rfl ?_
        refine fj_get (Cn := RX2) (T := TX2) (N := 7) (ci := 2) (v := .int (nI j)) C iX2 4 (fx_at4 _ _ _ _ _) rfl 1 (by decide) kX2_31 rfl dX2_append_45 ?_
        exact fj_iret C E9 dX2_append_48 (by rw [show j = N by omega])
      · obtain ⟨k, rfl⟩ : ∃ z, k = z + 1 := fx_p1 h7
        refine fj_aload_n C 0 dX2_append_10 rfl rfl ?_
        refine fj_get (Cn := RX2) (T := TX2) (N := 7) (ci := 2) (v := .ref (ad 5)) C iX2 4 (fx_at4 _ _ _ _ _) rfl 0 (by decide) kX2_9 rfl dX2_append_11 ?_
        refine fj_aload_n C 0 dX2_append_14 rfl rfl ?_
        refine fj_get (Cn := RX2) (T := TX2) (N := 7) (ci := 2) (v := .int (nI j)) C iX2 4 (fx_at4 _ _ _ _ _) rfl 1 (by decide) kX2_31 rfl dX2_append_15 ?_
        refine fj_lload_n C 2 dX2_append_18 rfl rfl ?_
        refine fj_bipush (v := 8) C dX2_append_19 (by decide) ?_
        refine fj_iload C 3 dX2_append_21 rfl ?_
        refine fj_imul C dX2_append_23 ?_
        refine fj_lshr C dX2_append_24 ?_
        refine fj_l2i C dX2_append_25 ?_
        refine fj_i2b C dX2_append_26 ?_
        refine fj_bast (f := t) C 5 (fx_at5 _ _ _ _ _) (vp_in_nI (by omega) (by decide)) dX2_append_27 (fx_st5 _ _ _ _ _ _) ?_
        refine fj_ws (ws' := (fx_w ad ty (va_up fx_a0 5 (upd t (nI j).toNatClampNeg (vp_nar .byte (((b9 >>> ((8 * (nI (k + 1) - 1)).toInt64 &&& 63)).toInt32).toInt8.toInt32)))) fx_g0 (va_up fx_n0 1 (nI j)))) rfl ?_
        refine fj_aload_n C 0 dX2_append_28 rfl rfl ?_
        refine fj_dup C dX2_append_29 rfl ?_
        refine fj_get (Cn := RX2) (T := TX2) (N := 7) (ci := 2) (v := .int (nI j)) C iX2 4 (fx_at4 _ _ _ _ _) rfl 1 (by decide) kX2_31 rfl dX2_append_30 ?_
        refine fj_iconst (v := 1) C dX2_append_33 (by decide) ?_
        refine fj_iadd C dX2_append_34 ?_
        refine fj_at (y := nI (j + 1)) (nI_1 j) ?_
        refine fj_put (Cn := RX2) (T := TX2) (N := 7) (ci := 2) C iX2 tyX2 tyX2_ok nmX2 4 (fx_at4 _ _ _ _ _) rfl 1 (by decide) kX2_31 rfl rfl rfl (by decide) dX2_append_35 (fx_si4_1 _ _ _ _ _ _) ?_
        refine fj_ws (ws' := (fx_w ad ty (va_up fx_a0 5 (upd t (nI j).toNatClampNeg (vp_nar .byte (((b9 >>> ((8 * (nI (k + 1) - 1)).toInt64 &&& 63)).toInt32).toInt8.toInt32)))) fx_g0 (va_up fx_n0 1 (nI (j + 1))))) rfl ?_
        refine fj_iinc (v := nI k - 1) (lv' := [(4, .int (nI k - 1)), (0, .ref (ad 4)), (1, .int (nI N)), (2, .long b9)]) C 3 dX2_append_38 rfl (fx_p2 k) (by decide) rfl ?_
        refine fj_goto (tgt := 5) C dX2_append_41 (by decide) ?_
        refine fj_lv (lv' := [(0, .ref (ad 4)), (1, .int (nI N)), (2, .long b9), (4, .int (nI k - 1))]) [1, 2, 3, 0] rfl ?_
        exact ih ⟨k, (j + 1), (upd t (nI j).toNatClampNeg (vp_nar .byte (((b9 >>> ((8 * (nI (k + 1) - 1)).toInt64 &&& 63)).toInt32).toInt8.toInt32)))⟩ (by show k < k + 1; omega) (by omega)
    intro k j t
    exact key ⟨k, j, t⟩
  exact lp5 N 0 (fx_a0 5) (by omega)

set_option maxHeartbeats 4000000 in
set_option maxRecDepth 100000 in
theorem c_X5_feed (l : Launch) (D : va_G) (ty : Nat → ClassId) (t0 : Nat) (ad : Nat → Nat) (x : Int32) (b9 : Int64)  : fc l yX5_feed wsX5_feed (fj_rm 1 24 0 0) D ty t0 [.ref (ad 0), .int x, .long b9] (fx_w ad ty fx_a0 fx_g0 fx_n0) 0 0 (fun v w => v = some (.int (if (1 ≤ x ∧ x ≤ 8) then x else -1002))) := by
  refine fc_start (own := RX5) (cc := cX5_feed) (maxL := 4) (ret := (some .int)) (by decide) rfl (Nat.le_of_ble_eq_true rfl) rfl ?_
  intro p e s m args below meth c Q A C hmn E9
  have iX5 : ∀ w ∈ u_ws RX5 TX5 5, w ∈ wsX5_feed := fun _ h => List.mem_cons_of_mem _ (List.mem_append_left _ (List.mem_append_right _ h))
  have kX5_19 : Cond.fieldLink RX5 19 "FreeLand" "laws" "LFreeLand$Laws;" ∈ wsX5_feed := (by decide +kernel)
  have iX2 : ∀ w ∈ u_ws RX2 TX2 7, w ∈ wsX5_feed := fun _ h => List.mem_cons_of_mem _ (List.mem_append_right _ h)
  have kX5_61 : (RX5, 61, "FreeLand$Laws", "length", "I") ∈ nw_F := (by decide +kernel)
  have kN64 : (RX5, 64, yX2_append) ∈ nw_M := (by decide +kernel)
  have kIX2 : Cond.initialized RX2 ∈ wsX5_feed := (by decide +kernel)
  have kVX2_append : Cond.instanceMethod yX2_append ∈ wsX5_feed := (by decide +kernel)
  have kSX2_append : Cond.selects RX2 yX2_append yX2_append ∈ wsX5_feed := (by decide +kernel)
  refine fj_lv (lv' := [(0, .ref (ad 0)), (1, .int x), (2, .long b9)]) [0, 1, 2] rfl ?_
  refine fj_iload_n C 1 dX5_feed_0 rfl rfl ?_
  refine fj_iconst (v := 1) C dX5_feed_1 (by decide) ?_
  refine fj_bipush (v := 8) C dX5_feed_2 (by decide) ?_
  refine fj_callSw (As := [.int x, .int 1, .int 8]) (rest := []) C (c_X5_within l D ty t0 (fx_w ad ty fx_a0 fx_g0 fx_n0) x 1 8) (va_cwS 3 C.2.2.2.2.1 gX5_feed_X5_within rfl rfl rfl (by decide +kernel) ⟨Nat.le_of_ble_eq_true rfl, Nat.le_of_ble_eq_true rfl⟩)  rfl (Nat.le_of_ble_eq_true rfl) dX5_feed_4 ⟨Nat.zero_le _, Nat.zero_le _⟩ (fun v9 w9 hp9 => ?_)
  obtain ⟨rfl, rfl⟩ := hp9
  refine fj_st (st' := .int (if (1 ≤ x ∧ x ≤ 8) then 1 else 0) :: []) rfl ?_
  refine fj_ifb_ne (tgt := 14) C dX5_feed_7 (by decide) (fun h7 => ?_) (fun h7 => ?_)
  · obtain ⟨N, hN, eN⟩ := nI_of2 (M := 8) (n := 8) (by decide) (x := x) (by grind) (by grind)
    refine fj_aload_n C 0 dX5_feed_14 rfl rfl ?_
    refine fj_get (Cn := RX5) (T := TX5) (N := 5) (ci := 5) (v := .ref (ad 4)) C iX5 0 (fx_at0 _ _ _ _ _) rfl 1 (by decide) kX5_19 rfl dX5_feed_15 ?_
    refine fj_getN (Cn := RX2) (T := TX2) (N := 7) (ci := 2) (v := .int 0) C iX2 4 (fx_at4 _ _ _ _ _) rfl 1 (by decide) kX5_61 rfl dX5_feed_18 ?_
    refine fj_iload_n C 1 dX5_feed_21 rfl rfl ?_
    refine fj_iadd C dX5_feed_22 ?_
    refine fj_bipush (v := 120) C dX5_feed_23 (by decide) ?_
    refine fj_icmp_le (tgt := 32) C dX5_feed_25 (by decide) (fun h25 => ?_) (fun h25 => absurd (by rw [Int32.zero_add]; grind) h25)
    refine fj_aload_n C 0 dX5_feed_32 rfl rfl ?_
    refine fj_get (Cn := RX5) (T := TX5) (N := 5) (ci := 5) (v := .ref (ad 4)) C iX5 0 (fx_at0 _ _ _ _ _) rfl 1 (by decide) kX5_19 rfl dX5_feed_33 ?_
    refine fj_iload_n C 1 dX5_feed_36 rfl rfl ?_
    refine fj_lload_n C 2 dX5_feed_37 rfl rfl ?_
    refine fj_callVNw (As := [.int x, .long b9]) (rest := []) C (c_X2_append l D ty t0 ad x b9 N hN eN) ⟨va_cnB 2 C.2.2.2.2.1 gX5_feed_X2_append_n64 rfl rfl rfl (C.2.2.2.2.2.2.2.1.1 _ kN64) (C.2.2.2.2.1 _ kIX2) (by decide +kernel) ⟨Nat.le_of_ble_eq_true rfl, Nat.le_of_ble_eq_true rfl⟩, C.2.2.2.2.1 _ kVX2_append, C.2.2.2.2.1 _ kSX2_append⟩ ⟨4, 2, _, _, fx_at4 _ _ _ _ _, rfl, rfl⟩ rfl (Nat.le_of_ble_eq_true rfl) dX5_feed_38 ⟨Nat.zero_le _, Nat.zero_le _⟩ (fun v9 w9 hp9 => ?_)
    obtain rfl := hp9
    refine fj_st (st' := .int x :: []) rfl ?_
    exact fj_iret C E9 dX5_feed_41 (by (repeat' split) <;> first | rfl | (exfalso; grind) | grind)
  · refine fj_sipush (v := (-1002)) C dX5_feed_10 (by decide) ?_
    exact fj_iret C E9 dX5_feed_13 (by (repeat' split) <;> first | rfl | (exfalso; grind) | grind)

set_option maxHeartbeats 4000000 in
set_option maxRecDepth 100000 in
theorem c_X1_set (l : Launch) (D : va_G) (ty : Nat → ClassId) (t0 : Nat) (ad : Nat → Nat) (i : Int32) (j : Int32) (x : Int32) (y : Int32) (hi : 0 ≤ i ∧ i ≤ 8) (hj : 0 ≤ j ∧ j ≤ 8) : fc l yX1_set wsX1_set (fj_rm 0 0 0 0) D ty t0 [.ref (ad 38), .int i, .int j, .int x, .int y] (fx_w ad ty fx_a0 fx_g0 fx_n0) 0 0 (fun v w => v = none) := by
  refine fc_start (own := RX1) (cc := cX1_set) (maxL := 6) (ret := none) (by decide) rfl (Nat.le_of_ble_eq_true rfl) rfl ?_
  intro p e s m args below meth c Q A C hmn E9
  have iX1 : ∀ w ∈ u_ws RX1 TX1 7, w ∈ wsX1_set := fun _ h => List.mem_cons_of_mem _ (List.mem_append_right _ h)
  have kX1_9 : Cond.fieldLink RX1 9 "FreeLand$Corners" "known" "[Z" ∈ wsX1_set := (by decide +kernel)
  have kX1_13 : Cond.fieldLink RX1 13 "FreeLand$Corners" "x" "[I" ∈ wsX1_set := (by decide +kernel)
  have kX1_17 : Cond.fieldLink RX1 17 "FreeLand$Corners" "y" "[I" ∈ wsX1_set := (by decide +kernel)
  refine fj_lv (lv' := [(0, .ref (ad 38)), (1, .int i), (2, .int j), (3, .int x), (4, .int y)]) [0, 1, 2, 3, 4] rfl ?_
  refine fj_bipush (v := 9) C dX1_set_0 (by decide) ?_
  refine fj_iload_n C 2 dX1_set_2 rfl rfl ?_
  refine fj_imul C dX1_set_3 ?_
  refine fj_iload_n C 1 dX1_set_4 rfl rfl ?_
  refine fj_iadd C dX1_set_5 ?_
  refine fj_istore (lv' := [(5, .int ((9 * j) + i)), (0, .ref (ad 38)), (1, .int i), (2, .int j), (3, .int x), (4, .int y)]) C dX1_set_6 (by decide) rfl ?_
  refine fj_aload_n C 1 dX1_set_8 rfl rfl ?_
  refine fj_get (Cn := RX1) (T := TX1) (N := 7) (ci := 1) (v := .ref (ad 39)) C iX1 38 (fx_at38 _ _ _ _ _) rfl 0 (by decide) kX1_9 rfl dX1_set_9 ?_
  refine fj_iload C 0 dX1_set_12 rfl ?_
  refine fj_iconst (v := 1) C dX1_set_14 (by decide) ?_
  refine fj_zast (f := (fx_a0 39)) C 39 (fx_at39 _ _ _ _ _) (fx_ij hi hj) dX1_set_15 (fx_st39 _ _ _ _ _ _) ?_
  refine fj_aload_n C 1 dX1_set_16 rfl rfl ?_
  refine fj_get (Cn := RX1) (T := TX1) (N := 7) (ci := 1) (v := .ref (ad 40)) C iX1 38 (fx_at38 _ _ _ _ _) rfl 1 (by decide) kX1_13 rfl dX1_set_17 ?_
  refine fj_iload C 0 dX1_set_20 rfl ?_
  refine fj_iload_n C 4 dX1_set_22 rfl rfl ?_
  refine fj_iast (f := (fx_a0 40)) C 40 (fx_at40 _ _ _ _ _) (fx_ij hi hj) dX1_set_23 (fx_st40 _ _ _ _ _ _) ?_
  refine fj_aload_n C 1 dX1_set_24 rfl rfl ?_
  refine fj_get (Cn := RX1) (T := TX1) (N := 7) (ci := 1) (v := .ref (ad 41)) C iX1 38 (fx_at38 _ _ _ _ _) rfl 2 (by decide) kX1_17 rfl dX1_set_25 ?_
  refine fj_iload C 0 dX1_set_28 rfl ?_
  refine fj_iload C 5 dX1_set_30 rfl ?_
  refine fj_iast (f := (fx_a0 41)) C 41 (fx_at41 _ _ _ _ _) (fx_ij hi hj) dX1_set_32 (fx_st41 _ _ _ _ _ _) ?_
  exact fj_vret C E9 dX1_set_33 rfl

set_option maxHeartbeats 4000000 in
set_option maxRecDepth 100000 in
theorem c_X5_corner (l : Launch) (D : va_G) (ty : Nat → ClassId) (t0 : Nat) (ad : Nat → Nat) (i : Int32) (j : Int32) (x : Int32) (y : Int32)  : fc l yX5_corner wsX5_corner (fj_rm 2 43 0 0) D ty t0 [.ref (ad 0), .int i, .int j, .int x, .int y] (fx_w ad ty fx_a0 fx_g0 fx_n0) 0 0 (fun v w => v = some (.int (if ((0 ≤ i ∧ i ≤ 8) ∧ (0 ≤ j ∧ j ≤ 8)) ∧ (-10000 ≤ x ∧ x ≤ 10000) ∧ (-10000 ≤ y ∧ y ≤ 10000) then 1 else -1002))) := by
  refine fc_start (own := RX5) (cc := cX5_corner) (maxL := 5) (ret := (some .int)) (by decide) rfl (Nat.le_of_ble_eq_true rfl) rfl ?_
  intro p e s m args below meth c Q A C hmn E9
  have iX5 : ∀ w ∈ u_ws RX5 TX5 5, w ∈ wsX5_corner := fun _ h => List.mem_cons_of_mem _ (List.mem_append_left _ (List.mem_append_right _ h))
  have kX5_42 : Cond.fieldLink RX5 42 "FreeLand" "corners" "LFreeLand$Corners;" ∈ wsX5_corner := (by decide +kernel)
  have kN174 : (RX5, 174, yX1_set) ∈ nw_M := (by decide +kernel)
  have kIX1 : Cond.initialized RX1 ∈ wsX5_corner := (by decide +kernel)
  have kVX1_set : Cond.instanceMethod yX1_set ∈ wsX5_corner := (by decide +kernel)
  have kSX1_set : Cond.selects RX1 yX1_set yX1_set ∈ wsX5_corner := (by decide +kernel)
  refine fj_lv (lv' := [(0, .ref (ad 0)), (1, .int i), (2, .int j), (3, .int x), (4, .int y)]) [0, 1, 2, 3, 4] rfl ?_
  refine fj_iload_n C 1 dX5_corner_0 rfl rfl ?_
  refine fj_iload_n C 2 dX5_corner_1 rfl rfl ?_
  refine fj_callSw (As := [.int i, .int j]) (rest := []) C (c_X5_isCorner l D ty t0 (fx_w ad ty fx_a0 fx_g0 fx_n0) i j) (va_cwS 2 C.2.2.2.2.1 gX5_corner_X5_isCorner rfl rfl rfl (by decide +kernel) ⟨Nat.le_of_ble_eq_true rfl, Nat.le_of_ble_eq_true rfl⟩)  rfl (Nat.le_of_ble_eq_true rfl) dX5_corner_2 ⟨Nat.zero_le _, Nat.zero_le _⟩ (fun v9 w9 hp9 => ?_)
  obtain ⟨rfl, rfl⟩ := hp9
  refine fj_st (st' := .int (if ((0 ≤ i ∧ i ≤ 8) ∧ (0 ≤ j ∧ j ≤ 8)) then 1 else 0) :: []) rfl ?_
  refine fj_ifb_eq (tgt := 35) C dX5_corner_5 (by decide) (fun h5 => ?_) (fun h5 => ?_)
  · refine fj_sipush (v := (-1002)) C dX5_corner_35 (by decide) ?_
    exact fj_iret C E9 dX5_corner_38 (by (repeat' split) <;> first | rfl | (exfalso; grind) | grind)
  · refine fj_iload_n C 3 dX5_corner_8 rfl rfl ?_
    refine fj_sipush (v := (-10000)) C dX5_corner_9 (by decide) ?_
    refine fj_sipush (v := 10000) C dX5_corner_12 (by decide) ?_
    refine fj_callSw (As := [.int x, .int (-10000), .int 10000]) (rest := []) C (c_X5_within l D ty t0 (fx_w ad ty fx_a0 fx_g0 fx_n0) x (-10000) 10000) (va_cwS 3 C.2.2.2.2.1 gX5_corner_X5_within rfl rfl rfl (by decide +kernel) ⟨Nat.le_of_ble_eq_true rfl, Nat.le_of_ble_eq_true rfl⟩)  rfl (Nat.le_of_ble_eq_true rfl) dX5_corner_15 ⟨Nat.zero_le _, Nat.zero_le _⟩ (fun v9 w9 hp9 => ?_)
    obtain ⟨rfl, rfl⟩ := hp9
    refine fj_st (st' := .int (if ((-10000) ≤ x ∧ x ≤ 10000) then 1 else 0) :: []) rfl ?_
    refine fj_ifb_eq (tgt := 35) C dX5_corner_18 (by decide) (fun h18 => ?_) (fun h18 => ?_)
    · refine fj_sipush (v := (-1002)) C dX5_corner_35 (by decide) ?_
      exact fj_iret C E9 dX5_corner_38 (by (repeat' split) <;> first | rfl | (exfalso; grind) | grind)
    · refine fj_iload C 4 dX5_corner_21 rfl ?_
      refine fj_sipush (v := (-10000)) C dX5_corner_23 (by decide) ?_
      refine fj_sipush (v := 10000) C dX5_corner_26 (by decide) ?_
      refine fj_callSw (As := [.int y, .int (-10000), .int 10000]) (rest := []) C (c_X5_within l D ty t0 (fx_w ad ty fx_a0 fx_g0 fx_n0) y (-10000) 10000) (va_cwS 3 C.2.2.2.2.1 gX5_corner_X5_within rfl rfl rfl (by decide +kernel) ⟨Nat.le_of_ble_eq_true rfl, Nat.le_of_ble_eq_true rfl⟩)  rfl (Nat.le_of_ble_eq_true rfl) dX5_corner_29 ⟨Nat.zero_le _, Nat.zero_le _⟩ (fun v9 w9 hp9 => ?_)
      obtain ⟨rfl, rfl⟩ := hp9
      refine fj_st (st' := .int (if ((-10000) ≤ y ∧ y ≤ 10000) then 1 else 0) :: []) rfl ?_
      refine fj_ifb_ne (tgt := 39) C dX5_corner_32 (by decide) (fun h32 => ?_) (fun h32 => ?_)
      · refine fj_aload_n C 0 dX5_corner_39 rfl rfl ?_
        refine fj_get (Cn := RX5) (T := TX5) (N := 5) (ci := 5) (v := .ref (ad 38)) C iX5 0 (fx_at0 _ _ _ _ _) rfl 4 (by decide) kX5_42 rfl dX5_corner_40 ?_
        refine fj_iload_n C 1 dX5_corner_43 rfl rfl ?_
        refine fj_iload_n C 2 dX5_corner_44 rfl rfl ?_
        refine fj_iload_n C 3 dX5_corner_45 rfl rfl ?_
        refine fj_iload C 4 dX5_corner_46 rfl ?_
        refine fj_callVNw (As := [.int i, .int j, .int x, .int y]) (rest := []) C (c_X1_set l D ty t0 ad i j x y (by grind) (by grind)) ⟨va_cnB 4 C.2.2.2.2.1 gX5_corner_X1_set_n174 rfl rfl rfl (C.2.2.2.2.2.2.2.1.1 _ kN174) (C.2.2.2.2.1 _ kIX1) (by decide +kernel) ⟨Nat.le_of_ble_eq_true rfl, Nat.le_of_ble_eq_true rfl⟩, C.2.2.2.2.1 _ kVX1_set, C.2.2.2.2.1 _ kSX1_set⟩ ⟨38, 1, _, _, fx_at38 _ _ _ _ _, rfl, rfl⟩ rfl (Nat.le_of_ble_eq_true rfl) dX5_corner_48 ⟨Nat.zero_le _, Nat.zero_le _⟩ (fun v9 w9 hp9 => ?_)
        obtain rfl := hp9
        refine fj_st (st' := []) rfl ?_
        refine fj_iconst (v := 1) C dX5_corner_51 (by decide) ?_
        exact fj_iret C E9 dX5_corner_52 (by (repeat' split) <;> first | rfl | (exfalso; grind) | grind)
      · refine fj_sipush (v := (-1002)) C dX5_corner_35 (by decide) ?_
        exact fj_iret C E9 dX5_corner_38 (by (repeat' split) <;> first | rfl | (exfalso; grind) | grind)

set_option maxHeartbeats 4000000 in
set_option maxRecDepth 100000 in
theorem c_X1_isKnown (l : Launch) (D : va_G) (ty : Nat → ClassId) (t0 : Nat) (ad : Nat → Nat) (g : Nat → Nat → Int64) (n : Nat → Int32) (i : Int32) (j : Int32) (hi : 0 ≤ i ∧ i ≤ 8) (hj : 0 ≤ j ∧ j ≤ 8) : fc l yX1_isKnown wsX1_isKnown (fj_rm 0 0 0 0) D ty t0 [.ref (ad 38), .int i, .int j] (fx_w ad ty fx_a0 g n) 0 0 (fun v w => v = some (.int 1) ∧ w = fx_w ad ty fx_a0 g n) := by
  refine fc_start (own := RX1) (cc := cX1_isKnown) (maxL := 3) (ret := (some .boolean)) (by decide) rfl (Nat.le_of_ble_eq_true rfl) rfl ?_
  intro p e s m args below meth c Q A C hmn E9
  have iX1 : ∀ w ∈ u_ws RX1 TX1 7, w ∈ wsX1_isKnown := fun _ h => List.mem_cons_of_mem _ (List.mem_append_right _ h)
  have kX1_9 : Cond.fieldLink RX1 9 "FreeLand$Corners" "known" "[Z" ∈ wsX1_isKnown := (by decide +kernel)
  refine fj_lv (lv' := [(0, .ref (ad 38)), (1, .int i), (2, .int j)]) [0, 1, 2] rfl ?_
  refine fj_aload_n C 0 dX1_isKnown_0 rfl rfl ?_
  refine fj_get (Cn := RX1) (T := TX1) (N := 7) (ci := 1) (v := .ref (ad 39)) C iX1 38 (fx_at38 _ _ _ _ _) rfl 0 (by decide) kX1_9 rfl dX1_isKnown_1 ?_
  refine fj_bipush (v := 9) C dX1_isKnown_4 (by decide) ?_
  refine fj_iload_n C 2 dX1_isKnown_6 rfl rfl ?_
  refine fj_imul C dX1_isKnown_7 ?_
  refine fj_iload_n C 1 dX1_isKnown_8 rfl rfl ?_
  refine fj_iadd C dX1_isKnown_9 ?_
  refine fj_zald (f := (fx_a0 39)) C 39 (fx_at39 _ _ _ _ _) (fx_ij hi hj) dX1_isKnown_10 ?_
  refine fj_at (y := 1) (fx_kn hi hj) ?_
  exact fj_zret C E9 rfl dX1_isKnown_11 ⟨rfl, rfl⟩

set_option maxHeartbeats 4000000 in
set_option maxRecDepth 100000 in
theorem c_X1_forget (l : Launch) (D : va_G) (ty : Nat → ClassId) (t0 : Nat) (ad : Nat → Nat) (i : Int32) (j : Int32) (hi : 0 ≤ i ∧ i ≤ 8) (hj : 0 ≤ j ∧ j ≤ 8) : fc l yX1_forget wsX1_forget (fj_rm 1 22 0 0) D ty t0 [.ref (ad 38), .int i, .int j] (fx_w ad ty fx_a0 fx_g0 fx_n0) 0 0 (fun v w => v = some (.int 1)) := by
  refine fc_start (own := RX1) (cc := cX1_forget) (maxL := 4) (ret := (some .boolean)) (by decide) rfl (Nat.le_of_ble_eq_true rfl) rfl ?_
  intro p e s m args below meth c Q A C hmn E9
  have iX1 : ∀ w ∈ u_ws RX1 TX1 7, w ∈ wsX1_forget := fun _ h => List.mem_cons_of_mem _ (List.mem_append_right _ h)
  have kX1_9 : Cond.fieldLink RX1 9 "FreeLand$Corners" "known" "[Z" ∈ wsX1_forget := (by decide +kernel)
  refine fj_lv (lv' := [(0, .ref (ad 38)), (1, .int i), (2, .int j)]) [0, 1, 2] rfl ?_
  refine fj_aload_n C 0 dX1_forget_0 rfl rfl ?_
  refine fj_iload_n C 1 dX1_forget_1 rfl rfl ?_
  refine fj_iload_n C 2 dX1_forget_2 rfl rfl ?_
  refine fj_callVw (As := [.int i, .int j]) (rest := []) C (c_X1_isKnown l D ty t0 ad fx_g0 fx_n0 i j hi hj) (cwV 2 C.2.2.2.2.1 gX1_forget_X1_isKnown rfl rfl rfl (by decide +kernel) ⟨Nat.le_of_ble_eq_true rfl, Nat.le_of_ble_eq_true rfl⟩) ⟨38, 1, _, _, fx_at38 _ _ _ _ _, rfl, rfl⟩ rfl (Nat.le_of_ble_eq_true rfl) dX1_forget_3 ⟨Nat.zero_le _, Nat.zero_le _⟩ (fun v9 w9 hp9 => ?_)
  obtain ⟨rfl, rfl⟩ := hp9
  refine fj_st (st' := .int 1 :: []) rfl ?_
  refine fj_istore_n (lv' := [(3, .int 1), (0, .ref (ad 38)), (1, .int i), (2, .int j)]) C dX1_forget_6 rfl (by decide) rfl ?_
  refine fj_aload_n C 1 dX1_forget_7 rfl rfl ?_
  refine fj_get (Cn := RX1) (T := TX1) (N := 7) (ci := 1) (v := .ref (ad 39)) C iX1 38 (fx_at38 _ _ _ _ _) rfl 0 (by decide) kX1_9 rfl dX1_forget_8 ?_
  refine fj_bipush (v := 9) C dX1_forget_11 (by decide) ?_
  refine fj_iload_n C 3 dX1_forget_13 rfl rfl ?_
  refine fj_imul C dX1_forget_14 ?_
  refine fj_iload_n C 2 dX1_forget_15 rfl rfl ?_
  refine fj_iadd C dX1_forget_16 ?_
  refine fj_iconst (v := 0) C dX1_forget_17 (by decide) ?_
  refine fj_zast (f := (fx_a0 39)) C 39 (fx_at39 _ _ _ _ _) (fx_ij hi hj) dX1_forget_18 (fx_st39 _ _ _ _ _ _) ?_
  refine fj_iload_n C 0 dX1_forget_19 rfl rfl ?_
  exact fj_zret C E9 rfl dX1_forget_20 rfl

set_option maxHeartbeats 4000000 in
set_option maxRecDepth 100000 in
theorem c_X5_lose (l : Launch) (D : va_G) (ty : Nat → ClassId) (t0 : Nat) (ad : Nat → Nat) (i : Int32) (j : Int32)  : fc l yX5_lose wsX5_lose (fj_rm 2 45 0 0) D ty t0 [.ref (ad 0), .int i, .int j] (fx_w ad ty fx_a0 fx_g0 fx_n0) 0 0 (fun v w => v = some (.int (if ((0 ≤ i ∧ i ≤ 8) ∧ (0 ≤ j ∧ j ≤ 8)) then 1 else -1002))) := by
  refine fc_start (own := RX5) (cc := cX5_lose) (maxL := 3) (ret := (some .int)) (by decide) rfl (Nat.le_of_ble_eq_true rfl) rfl ?_
  intro p e s m args below meth c Q A C hmn E9
  have iX5 : ∀ w ∈ u_ws RX5 TX5 5, w ∈ wsX5_lose := fun _ h => List.mem_cons_of_mem _ (List.mem_append_left _ (List.mem_append_right _ h))
  have kX5_42 : Cond.fieldLink RX5 42 "FreeLand" "corners" "LFreeLand$Corners;" ∈ wsX5_lose := (by decide +kernel)
  have kN178 : (RX5, 178, yX1_forget) ∈ nw_M := (by decide +kernel)
  have kIX1 : Cond.initialized RX1 ∈ wsX5_lose := (by decide +kernel)
  have kVX1_forget : Cond.instanceMethod yX1_forget ∈ wsX5_lose := (by decide +kernel)
  have kSX1_forget : Cond.selects RX1 yX1_forget yX1_forget ∈ wsX5_lose := (by decide +kernel)
  refine fj_lv (lv' := [(0, .ref (ad 0)), (1, .int i), (2, .int j)]) [0, 1, 2] rfl ?_
  refine fj_iload_n C 1 dX5_lose_0 rfl rfl ?_
  refine fj_iload_n C 2 dX5_lose_1 rfl rfl ?_
  refine fj_callSw (As := [.int i, .int j]) (rest := []) C (c_X5_isCorner l D ty t0 (fx_w ad ty fx_a0 fx_g0 fx_n0) i j) (va_cwS 2 C.2.2.2.2.1 gX5_lose_X5_isCorner rfl rfl rfl (by decide +kernel) ⟨Nat.le_of_ble_eq_true rfl, Nat.le_of_ble_eq_true rfl⟩)  rfl (Nat.le_of_ble_eq_true rfl) dX5_lose_2 ⟨Nat.zero_le _, Nat.zero_le _⟩ (fun v9 w9 hp9 => ?_)
  obtain ⟨rfl, rfl⟩ := hp9
  refine fj_st (st' := .int (if ((0 ≤ i ∧ i ≤ 8) ∧ (0 ≤ j ∧ j ≤ 8)) then 1 else 0) :: []) rfl ?_
  refine fj_ifb_ne (tgt := 12) C dX5_lose_5 (by decide) (fun h5 => ?_) (fun h5 => ?_)
  · refine fj_aload_n C 0 dX5_lose_12 rfl rfl ?_
    refine fj_get (Cn := RX5) (T := TX5) (N := 5) (ci := 5) (v := .ref (ad 38)) C iX5 0 (fx_at0 _ _ _ _ _) rfl 4 (by decide) kX5_42 rfl dX5_lose_13 ?_
    refine fj_iload_n C 1 dX5_lose_16 rfl rfl ?_
    refine fj_iload_n C 2 dX5_lose_17 rfl rfl ?_
    refine fj_callVNw (As := [.int i, .int j]) (rest := []) C (c_X1_forget l D ty t0 ad i j (by grind) (by grind)) ⟨va_cnB 2 C.2.2.2.2.1 gX5_lose_X1_forget_n178 rfl rfl rfl (C.2.2.2.2.2.2.2.1.1 _ kN178) (C.2.2.2.2.1 _ kIX1) (by decide +kernel) ⟨Nat.le_of_ble_eq_true rfl, Nat.le_of_ble_eq_true rfl⟩, C.2.2.2.2.1 _ kVX1_forget, C.2.2.2.2.1 _ kSX1_forget⟩ ⟨38, 1, _, _, fx_at38 _ _ _ _ _, rfl, rfl⟩ rfl (Nat.le_of_ble_eq_true rfl) dX5_lose_18 ⟨Nat.zero_le _, Nat.zero_le _⟩ (fun v9 w9 hp9 => ?_)
    obtain rfl := hp9
    refine fj_st (st' := .int 1 :: []) rfl ?_
    refine fj_if_eq (tgt := 28) C dX5_lose_21 (by decide) (fun h => absurd h (by decide)) (fun _ => ?_)
    refine fj_iconst (v := 1) C dX5_lose_24 (by decide) ?_
    refine fj_goto (tgt := 29) C dX5_lose_25 (by decide) ?_
    exact fj_iret C E9 dX5_lose_29 (by (repeat' split) <;> first | rfl | (exfalso; grind) | grind)
  · refine fj_sipush (v := (-1002)) C dX5_lose_8 (by decide) ?_
    exact fj_iret C E9 dX5_lose_11 (by (repeat' split) <;> first | rfl | (exfalso; grind) | grind)

set_option maxHeartbeats 4000000 in
set_option maxRecDepth 100000 in
theorem c_X1_find (l : Launch) (D : va_G) (ty : Nat → ClassId) (t0 : Nat) (ad : Nat → Nat) (g : Nat → Nat → Int64) (n : Nat → Int32) (i : Int32) (j : Int32) (hi : 0 ≤ i ∧ i ≤ 8) (hj : 0 ≤ j ∧ j ≤ 8) : fc l yX1_find wsX1_find (fj_rm 0 0 0 0) D ty t0 [.ref (ad 38), .int i, .int j] (fx_w ad ty fx_a0 g n) 0 0 (fun v w => v = some (.int 1) ∧ w = (fx_w ad ty fx_a0 g (va_up (va_up n 8 (840 * fx_a0 40 (9 * j + i).toNatClampNeg)) 9 (840 * fx_a0 41 (9 * j + i).toNatClampNeg)))) := by
  refine fc_start (own := RX1) (cc := cX1_find) (maxL := 4) (ret := (some .boolean)) (by decide) rfl (Nat.le_of_ble_eq_true rfl) rfl ?_
  intro p e s m args below meth c Q A C hmn E9
  have iX1 : ∀ w ∈ u_ws RX1 TX1 7, w ∈ wsX1_find := fun _ h => List.mem_cons_of_mem _ (List.mem_append_right _ h)
  have kX1_9 : Cond.fieldLink RX1 9 "FreeLand$Corners" "known" "[Z" ∈ wsX1_find := (by decide +kernel)
  have kX1_13 : Cond.fieldLink RX1 13 "FreeLand$Corners" "x" "[I" ∈ wsX1_find := (by decide +kernel)
  have kX1_31 : Cond.fieldLink RX1 31 "FreeLand$Corners" "foundX" "I" ∈ wsX1_find := (by decide +kernel)
  have kX1_17 : Cond.fieldLink RX1 17 "FreeLand$Corners" "y" "[I" ∈ wsX1_find := (by decide +kernel)
  have kX1_35 : Cond.fieldLink RX1 35 "FreeLand$Corners" "foundY" "I" ∈ wsX1_find := (by decide +kernel)
  refine fj_lv (lv' := [(0, .ref (ad 38)), (1, .int i), (2, .int j)]) [0, 1, 2] rfl ?_
  refine fj_bipush (v := 9) C dX1_find_0 (by decide) ?_
  refine fj_iload_n C 2 dX1_find_2 rfl rfl ?_
  refine fj_imul C dX1_find_3 ?_
  refine fj_iload_n C 1 dX1_find_4 rfl rfl ?_
  refine fj_iadd C dX1_find_5 ?_
  refine fj_istore_n (lv' := [(3, .int ((9 * j) + i)), (0, .ref (ad 38)), (1, .int i), (2, .int j)]) C dX1_find_6 rfl (by decide) rfl ?_
  refine fj_aload_n C 1 dX1_find_7 rfl rfl ?_
  refine fj_get (Cn := RX1) (T := TX1) (N := 7) (ci := 1) (v := .ref (ad 39)) C iX1 38 (fx_at38 _ _ _ _ _) rfl 0 (by decide) kX1_9 rfl dX1_find_8 ?_
  refine fj_iload_n C 0 dX1_find_11 rfl rfl ?_
  refine fj_zald (f := (fx_a0 39)) C 39 (fx_at39 _ _ _ _ _) (fx_ij hi hj) dX1_find_12 ?_
  refine fj_at (y := 1) (fx_kn hi hj) ?_
  refine fj_if_eq (tgt := 46) C dX1_find_13 (by decide) (fun h => absurd h (by decide)) (fun _ => ?_)
  refine fj_aload_n C 1 dX1_find_16 rfl rfl ?_
  refine fj_sipush (v := 840) C dX1_find_17 (by decide) ?_
  refine fj_aload_n C 1 dX1_find_20 rfl rfl ?_
  refine fj_get (Cn := RX1) (T := TX1) (N := 7) (ci := 1) (v := .ref (ad 40)) C iX1 38 (fx_at38 _ _ _ _ _) rfl 1 (by decide) kX1_13 rfl dX1_find_21 ?_
  refine fj_iload_n C 0 dX1_find_24 rfl rfl ?_
  refine fj_iald (f := (fx_a0 40)) C 40 (fx_at40 _ _ _ _ _) (fx_ij hi hj) dX1_find_25 ?_
  refine fj_imul C dX1_find_26 ?_
  refine fj_put (Cn := RX1) (T := TX1) (N := 7) (ci := 1) C iX1 tyX1 tyX1_ok nmX1 38 (fx_at38 _ _ _ _ _) rfl 3 (by decide) kX1_31 rfl rfl rfl (by decide) dX1_find_27 (fx_si38_3 _ _ _ _ _ _) ?_
  refine fj_aload_n C 1 dX1_find_30 rfl rfl ?_
  refine fj_sipush (v := 840) C dX1_find_31 (by decide) ?_
  refine fj_aload_n C 1 dX1_find_34 rfl rfl ?_
  refine fj_get (Cn := RX1) (T := TX1) (N := 7) (ci := 1) (v := .ref (ad 41)) C iX1 38 (fx_at38 _ _ _ _ _) rfl 2 (by decide) kX1_17 rfl dX1_find_35 ?_
  refine fj_iload_n C 0 dX1_find_38 rfl rfl ?_
  refine fj_iald (f := (fx_a0 41)) C 41 (fx_at41 _ _ _ _ _) (fx_ij hi hj) dX1_find_39 ?_
  refine fj_imul C dX1_find_40 ?_
  refine fj_put (Cn := RX1) (T := TX1) (N := 7) (ci := 1) C iX1 tyX1 tyX1_ok nmX1 38 (fx_at38 _ _ _ _ _) rfl 4 (by decide) kX1_35 rfl rfl rfl (by decide) dX1_find_41 (fx_si38_4 _ _ _ _ _ _) ?_
  refine fj_iconst (v := 1) C dX1_find_44 (by decide) ?_
  exact fj_zret C E9 rfl dX1_find_45 ⟨rfl, rfl⟩

set_option maxHeartbeats 4000000 in
set_option maxRecDepth 100000 in
theorem c_X5_lies (l : Launch) (D : va_G) (ty : Nat → ClassId) (t0 : Nat) (ad : Nat → Nat) (i : Int32) (j : Int32) (u : Int32)  : fc l yX5_lies wsX5_lies (fj_rm 2 43 0 0) D ty t0 [.ref (ad 0), .int i, .int j, .int u] (fx_w ad ty fx_a0 fx_g0 fx_n0) 0 0 (fun v w => v = some (.int (if ((0 ≤ i ∧ i ≤ 8) ∧ (0 ≤ j ∧ j ≤ 8)) ∧ (0 ≤ u ∧ u ≤ 2) then (if u = 0 then 840 * fx_a0 40 (9 * j + i).toNatClampNeg else if u = 1 then 840 * fx_a0 41 (9 * j + i).toNatClampNeg else 1) else -1002))) := by
  refine fc_start (own := RX5) (cc := cX5_lies) (maxL := 4) (ret := (some .int)) (by decide) rfl (Nat.le_of_ble_eq_true rfl) rfl ?_
  intro p e s m args below meth c Q A C hmn E9
  have iX5 : ∀ w ∈ u_ws RX5 TX5 5, w ∈ wsX5_lies := fun _ h => List.mem_cons_of_mem _ (List.mem_append_left _ (List.mem_append_right _ h))
  have kX5_42 : Cond.fieldLink RX5 42 "FreeLand" "corners" "LFreeLand$Corners;" ∈ wsX5_lies := (by decide +kernel)
  have kN181 : (RX5, 181, yX1_find) ∈ nw_M := (by decide +kernel)
  have kIX1 : Cond.initialized RX1 ∈ wsX5_lies := (by decide +kernel)
  have kVX1_find : Cond.instanceMethod yX1_find ∈ wsX5_lies := (by decide +kernel)
  have kSX1_find : Cond.selects RX1 yX1_find yX1_find ∈ wsX5_lies := (by decide +kernel)
  have iX1 : ∀ w ∈ u_ws RX1 TX1 7, w ∈ wsX5_lies := fun _ h => List.mem_cons_of_mem _ (List.mem_append_right _ h)
  have kX5_184 : (RX5, 184, "FreeLand$Corners", "foundX", "I") ∈ nw_F := (by decide +kernel)
  have kX5_187 : (RX5, 187, "FreeLand$Corners", "foundY", "I") ∈ nw_F := (by decide +kernel)
  have kN190 : (RX5, 190, yX1_isKnown) ∈ nw_M := (by decide +kernel)
  have kVX1_isKnown : Cond.instanceMethod yX1_isKnown ∈ wsX5_lies := (by decide +kernel)
  have kSX1_isKnown : Cond.selects RX1 yX1_isKnown yX1_isKnown ∈ wsX5_lies := (by decide +kernel)
  refine fj_lv (lv' := [(0, .ref (ad 0)), (1, .int i), (2, .int j), (3, .int u)]) [0, 1, 2, 3] rfl ?_
  refine fj_iload_n C 1 dX5_lies_0 rfl rfl ?_
  refine fj_iload_n C 2 dX5_lies_1 rfl rfl ?_
  refine fj_callSw (As := [.int i, .int j]) (rest := []) C (c_X5_isCorner l D ty t0 (fx_w ad ty fx_a0 fx_g0 fx_n0) i j) (va_cwS 2 C.2.2.2.2.1 gX5_lies_X5_isCorner rfl rfl rfl (by decide +kernel) ⟨Nat.le_of_ble_eq_true rfl, Nat.le_of_ble_eq_true rfl⟩)  rfl (Nat.le_of_ble_eq_true rfl) dX5_lies_2 ⟨Nat.zero_le _, Nat.zero_le _⟩ (fun v9 w9 hp9 => ?_)
  obtain ⟨rfl, rfl⟩ := hp9
  refine fj_st (st' := .int (if ((0 ≤ i ∧ i ≤ 8) ∧ (0 ≤ j ∧ j ≤ 8)) then 1 else 0) :: []) rfl ?_
  refine fj_ifb_eq (tgt := 17) C dX5_lies_5 (by decide) (fun h5 => ?_) (fun h5 => ?_)
  · refine fj_sipush (v := (-1002)) C dX5_lies_17 (by decide) ?_
    exact fj_iret C E9 dX5_lies_20 (by (repeat' split) <;> first | rfl | (exfalso; grind) | grind)
  · refine fj_iload_n C 3 dX5_lies_8 rfl rfl ?_
    refine fj_iconst (v := 0) C dX5_lies_9 (by decide) ?_
    refine fj_iconst (v := 2) C dX5_lies_10 (by decide) ?_
    refine fj_callSw (As := [.int u, .int 0, .int 2]) (rest := []) C (c_X5_within l D ty t0 (fx_w ad ty fx_a0 fx_g0 fx_n0) u 0 2) (va_cwS 3 C.2.2.2.2.1 gX5_lies_X5_within rfl rfl rfl (by decide +kernel) ⟨Nat.le_of_ble_eq_true rfl, Nat.le_of_ble_eq_true rfl⟩)  rfl (Nat.le_of_ble_eq_true rfl) dX5_lies_11 ⟨Nat.zero_le _, Nat.zero_le _⟩ (fun v9 w9 hp9 => ?_)
    obtain ⟨rfl, rfl⟩ := hp9
    refine fj_st (st' := .int (if (0 ≤ u ∧ u ≤ 2) then 1 else 0) :: []) rfl ?_
    refine fj_ifb_ne (tgt := 21) C dX5_lies_14 (by decide) (fun h14 => ?_) (fun h14 => ?_)
    · refine fj_aload_n C 0 dX5_lies_21 rfl rfl ?_
      refine fj_get (Cn := RX5) (T := TX5) (N := 5) (ci := 5) (v := .ref (ad 38)) C iX5 0 (fx_at0 _ _ _ _ _) rfl 4 (by decide) kX5_42 rfl dX5_lies_22 ?_
      refine fj_iload_n C 1 dX5_lies_25 rfl rfl ?_
      refine fj_iload_n C 2 dX5_lies_26 rfl rfl ?_
      refine fj_callVNw (As := [.int i, .int j]) (rest := []) C (c_X1_find l D ty t0 ad fx_g0 fx_n0 i j (by grind) (by grind)) ⟨va_cnB 2 C.2.2.2.2.1 gX5_lies_X1_find_n181 rfl rfl rfl (C.2.2.2.2.2.2.2.1.1 _ kN181) (C.2.2.2.2.1 _ kIX1) (by decide +kernel) ⟨Nat.le_of_ble_eq_true rfl, Nat.le_of_ble_eq_true rfl⟩, C.2.2.2.2.1 _ kVX1_find, C.2.2.2.2.1 _ kSX1_find⟩ ⟨38, 1, _, _, fx_at38 _ _ _ _ _, rfl, rfl⟩ rfl (Nat.le_of_ble_eq_true rfl) dX5_lies_27 ⟨Nat.zero_le _, Nat.zero_le _⟩ (fun v9 w9 hp9 => ?_)
      obtain ⟨rfl, rfl⟩ := hp9
      refine fj_ws (ws' := (fx_w ad ty fx_a0 fx_g0 (va_up (va_up fx_n0 8 (840 * fx_a0 40 (9 * j + i).toNatClampNeg)) 9 (840 * fx_a0 41 (9 * j + i).toNatClampNeg)))) rfl ?_
      refine fj_st (st' := .int 1 :: []) rfl ?_
      refine fj_if_ne (tgt := 37) C dX5_lies_30 (by decide) (fun _ => ?_) (fun h => absurd (by decide) h)
      refine fj_iload_n C 3 dX5_lies_37 rfl rfl ?_
      rcases (show u.toInt = 0 ∨ u.toInt = 1 ∨ (¬ (0 : Int) = u.toInt ∧ ¬ (1 : Int) = u.toInt) by omega) with hsw | hsw | hsw
      · refine fj_lookup (off := 26) (tgt := 64) C dX5_lies_38 (by decide) (by rw [hsw]; rfl) (by decide) ?_
        have eu : u = 0 := Int32.toInt_inj.mp (by simp [hsw])
        refine fj_aload_n C 0 dX5_lies_64 rfl rfl ?_
        refine fj_get (Cn := RX5) (T := TX5) (N := 5) (ci := 5) (v := .ref (ad 38)) C iX5 0 (fx_at0 _ _ _ _ _) rfl 4 (by decide) kX5_42 rfl dX5_lies_65 ?_
        refine fj_getN (Cn := RX1) (T := TX1) (N := 7) (ci := 1) (v := .int (840 * fx_a0 40 (9 * j + i).toNatClampNeg)) C iX1 38 (fx_at38 _ _ _ _ _) rfl 3 (by decide) kX5_184 rfl dX5_lies_68 ?_
        exact fj_iret C E9 dX5_lies_71 (by (repeat' split) <;> first | rfl | (exfalso; grind) | grind)
      · refine fj_lookup (off := 34) (tgt := 72) C dX5_lies_38 (by decide) (by rw [hsw]; rfl) (by decide) ?_
        have eu : u = 1 := Int32.toInt_inj.mp (by simp [hsw])
        refine fj_aload_n C 0 dX5_lies_72 rfl rfl ?_
        refine fj_get (Cn := RX5) (T := TX5) (N := 5) (ci := 5) (v := .ref (ad 38)) C iX5 0 (fx_at0 _ _ _ _ _) rfl 4 (by decide) kX5_42 rfl dX5_lies_73 ?_
        refine fj_getN (Cn := RX1) (T := TX1) (N := 7) (ci := 1) (v := .int (840 * fx_a0 41 (9 * j + i).toNatClampNeg)) C iX1 38 (fx_at38 _ _ _ _ _) rfl 4 (by decide) kX5_187 rfl dX5_lies_76 ?_
        exact fj_iret C E9 dX5_lies_79 (by (repeat' split) <;> first | rfl | (exfalso; grind) | grind)
      · refine fj_lookup (off := 42) (tgt := 80) C dX5_lies_38 (by decide) (by simp [Op.lookupswitch.offset, hsw]) (by decide) ?_
        have eu : ¬ u = 0 := by intro e; subst e; exact hsw.1 (by decide)
        have eu2 : ¬ u = 1 := by intro e; subst e; exact hsw.2 (by decide)
        refine fj_aload_n C 0 dX5_lies_80 rfl rfl ?_
        refine fj_get (Cn := RX5) (T := TX5) (N := 5) (ci := 5) (v := .ref (ad 38)) C iX5 0 (fx_at0 _ _ _ _ _) rfl 4 (by decide) kX5_42 rfl dX5_lies_81 ?_
        refine fj_iload_n C 1 dX5_lies_84 rfl rfl ?_
        refine fj_iload_n C 2 dX5_lies_85 rfl rfl ?_
        refine fj_callVNw (As := [.int i, .int j]) (rest := []) C (c_X1_isKnown l D ty t0 ad fx_g0 (va_up (va_up fx_n0 8 (840 * fx_a0 40 (9 * j + i).toNatClampNeg)) 9 (840 * fx_a0 41 (9 * j + i).toNatClampNeg)) i j (by grind) (by grind)) ⟨va_cnB 2 C.2.2.2.2.1 gX5_lies_X1_isKnown_n190 rfl rfl rfl (C.2.2.2.2.2.2.2.1.1 _ kN190) (C.2.2.2.2.1 _ kIX1) (by decide +kernel) ⟨Nat.le_of_ble_eq_true rfl, Nat.le_of_ble_eq_true rfl⟩, C.2.2.2.2.1 _ kVX1_isKnown, C.2.2.2.2.1 _ kSX1_isKnown⟩ ⟨38, 1, _, _, fx_at38 _ _ _ _ _, rfl, rfl⟩ rfl (Nat.le_of_ble_eq_true rfl) dX5_lies_86 ⟨Nat.zero_le _, Nat.zero_le _⟩ (fun v9 w9 hp9 => ?_)
        obtain ⟨rfl, rfl⟩ := hp9
        refine fj_st (st' := .int 1 :: []) rfl ?_
        refine fj_if_eq (tgt := 96) C dX5_lies_89 (by decide) (fun h => absurd h (by decide)) (fun _ => ?_)
        refine fj_iconst (v := 1) C dX5_lies_92 (by decide) ?_
        refine fj_goto (tgt := 97) C dX5_lies_93 (by decide) ?_
        exact fj_iret C E9 dX5_lies_97 (by (repeat' split) <;> first | rfl | (exfalso; grind) | grind)
    · refine fj_sipush (v := (-1002)) C dX5_lies_17 (by decide) ?_
      exact fj_iret C E9 dX5_lies_20 (by (repeat' split) <;> first | rfl | (exfalso; grind) | grind)

set_option maxHeartbeats 4000000 in
set_option maxRecDepth 100000 in
theorem c_X1_findAround (l : Launch) (D : va_G) (ty : Nat → ClassId) (t0 : Nat) (ad : Nat → Nat) (i : Int32) (j : Int32) (hi : 0 ≤ i ∧ i ≤ 7) (hj : 0 ≤ j ∧ j ≤ 7) : fc l yX1_findAround wsX1_findAround (fj_rm 1 23 0 0) D ty t0 [.ref (ad 38), .int i, .int j] (fx_w ad ty fx_a0 fx_g0 fx_n0) 0 0 (fun v w => v = some (.int 1) ∧ w = (fx_w ad ty fx_a0 (va_up (va_up fx_g0 42 (vp_updL (vp_updL (vp_updL (vp_updL (fx_g0 42) 0 (840 * fx_a0 40 (9 * (j + 0) + (i + 0)).toNatClampNeg).toInt64) 1 (840 * fx_a0 40 (9 * (j + 0) + (i + 1)).toNatClampNeg).toInt64) 2 (840 * fx_a0 40 (9 * (j + 1) + (i + 1)).toNatClampNeg).toInt64) 3 (840 * fx_a0 40 (9 * (j + 1) + (i + 0)).toNatClampNeg).toInt64)) 43 (vp_updL (vp_updL (vp_updL (vp_updL (fx_g0 43) 0 (840 * fx_a0 41 (9 * (j + 0) + (i + 0)).toNatClampNeg).toInt64) 1 (840 * fx_a0 41 (9 * (j + 0) + (i + 1)).toNatClampNeg).toInt64) 2 (840 * fx_a0 41 (9 * (j + 1) + (i + 1)).toNatClampNeg).toInt64) 3 (840 * fx_a0 41 (9 * (j + 1) + (i + 0)).toNatClampNeg).toInt64)) (va_up (va_up fx_n0 8 (840 * fx_a0 40 (9 * (j + 1) + (i + 0)).toNatClampNeg)) 9 (840 * fx_a0 41 (9 * (j + 1) + (i + 0)).toNatClampNeg)))) := by
  refine fc_start (own := RX1) (cc := cX1_findAround) (maxL := 6) (ret := (some .boolean)) (by decide) rfl (Nat.le_of_ble_eq_true rfl) rfl ?_
  intro p e s m args below meth c Q A C hmn E9
  have iX1 : ∀ w ∈ u_ws RX1 TX1 7, w ∈ wsX1_findAround := fun _ h => List.mem_cons_of_mem _ (List.mem_append_right _ h)
  have kX1_20 : Cond.fieldLink RX1 20 "FreeLand$Corners" "aroundX" "[J" ∈ wsX1_findAround := (by decide +kernel)
  have kX1_31 : Cond.fieldLink RX1 31 "FreeLand$Corners" "foundX" "I" ∈ wsX1_findAround := (by decide +kernel)
  have kX1_24 : Cond.fieldLink RX1 24 "FreeLand$Corners" "aroundY" "[J" ∈ wsX1_findAround := (by decide +kernel)
  have kX1_35 : Cond.fieldLink RX1 35 "FreeLand$Corners" "foundY" "I" ∈ wsX1_findAround := (by decide +kernel)
  refine fj_lv (lv' := [(0, .ref (ad 38)), (1, .int i), (2, .int j)]) [0, 1, 2] rfl ?_
  refine fj_iconst (v := 0) C dX1_findAround_0 (by decide) ?_
  refine fj_istore_n (lv' := [(3, .int 0), (0, .ref (ad 38)), (1, .int i), (2, .int j)]) C dX1_findAround_1 rfl (by decide) rfl ?_
  refine fj_iload_n C 0 dX1_findAround_2 rfl rfl ?_
  refine fj_iconst (v := 4) C dX1_findAround_3 (by decide) ?_
  refine fj_icmp_ge (tgt := 81) C dX1_findAround_4 (by decide) (fun h => absurd h (by decide)) (fun _ => ?_)
  refine fj_iload_n C 0 dX1_findAround_7 rfl rfl ?_
  refine fj_iconst (v := 1) C dX1_findAround_8 (by decide) ?_
  refine fj_icmp_eq (tgt := 17) C dX1_findAround_9 (by decide) (fun h => absurd h (by decide)) (fun _ => ?_)
  refine fj_iload_n C 0 dX1_findAround_12 rfl rfl ?_
  refine fj_iconst (v := 2) C dX1_findAround_13 (by decide) ?_
  refine fj_icmp_ne (tgt := 21) C dX1_findAround_14 (by decide) (fun _ => ?_) (fun h => absurd (by decide) h)
  refine fj_iconst (v := 0) C dX1_findAround_21 (by decide) ?_
  refine fj_istore (lv' := [(4, .int 0), (3, .int 0), (0, .ref (ad 38)), (1, .int i), (2, .int j)]) C dX1_findAround_22 (by decide) rfl ?_
  refine fj_iload_n C 1 dX1_findAround_24 rfl rfl ?_
  refine fj_iconst (v := 2) C dX1_findAround_25 (by decide) ?_
  refine fj_icmp_lt (tgt := 33) C dX1_findAround_26 (by decide) (fun _ => ?_) (fun h => absurd (by decide) h)
  refine fj_iconst (v := 0) C dX1_findAround_33 (by decide) ?_
  refine fj_istore (lv' := [(5, .int 0), (4, .int 0), (3, .int 0), (0, .ref (ad 38)), (1, .int i), (2, .int j)]) C dX1_findAround_34 (by decide) rfl ?_
  refine fj_aload_n C 3 dX1_findAround_36 rfl rfl ?_
  refine fj_iload_n C 4 dX1_findAround_37 rfl rfl ?_
  refine fj_iload C 1 dX1_findAround_38 rfl ?_
  refine fj_iadd C dX1_findAround_40 ?_
  refine fj_iload_n C 5 dX1_findAround_41 rfl rfl ?_
  refine fj_iload C 0 dX1_findAround_42 rfl ?_
  refine fj_iadd C dX1_findAround_44 ?_
  refine fj_callVw (As := [.int (i + 0), .int (j + 0)]) (rest := []) C (c_X1_find l D ty t0 ad fx_g0 fx_n0 (i + 0) (j + 0) (fx_i0 hi) (fx_i0 hj)) (cwV 2 C.2.2.2.2.1 gX1_findAround_X1_find rfl rfl rfl (by decide +kernel) ⟨Nat.le_of_ble_eq_true rfl, Nat.le_of_ble_eq_true rfl⟩) ⟨38, 1, _, _, fx_at38 _ _ _ _ _, rfl, rfl⟩ rfl (Nat.le_of_ble_eq_true rfl) dX1_findAround_45 ⟨Nat.zero_le _, Nat.zero_le _⟩ (fun v9 w9 hp9 => ?_)
  obtain ⟨rfl, rfl⟩ := hp9
  refine fj_ws (ws' := (fx_w ad ty fx_a0 fx_g0 (va_up (va_up fx_n0 8 (840 * fx_a0 40 (9 * (j + 0) + (i + 0)).toNatClampNeg)) 9 (840 * fx_a0 41 (9 * (j + 0) + (i + 0)).toNatClampNeg)))) rfl ?_
  refine fj_st (st' := .int 1 :: []) rfl ?_
  refine fj_if_ne (tgt := 53) C dX1_findAround_48 (by decide) (fun _ => ?_) (fun h => absurd (by decide) h)
  refine fj_aload_n C 3 dX1_findAround_53 rfl rfl ?_
  refine fj_get (Cn := RX1) (T := TX1) (N := 7) (ci := 1) (v := .ref (ad 42)) C iX1 38 (fx_at38 _ _ _ _ _) rfl 5 (by decide) kX1_20 rfl dX1_findAround_54 ?_
  refine fj_iload_n C 2 dX1_findAround_57 rfl rfl ?_
  refine fj_aload_n C 3 dX1_findAround_58 rfl rfl ?_
  refine fj_get (Cn := RX1) (T := TX1) (N := 7) (ci := 1) (v := .int (840 * fx_a0 40 (9 * (j + 0) + (i + 0)).toNatClampNeg)) C iX1 38 (fx_at38 _ _ _ _ _) rfl 3 (by decide) kX1_31 rfl dX1_findAround_59 ?_
  refine fj_i2l C dX1_findAround_62 ?_
  refine fj_last (f := (fx_g0 42)) C 42 (fx_at42 _ _ _ _ _) (vp_in_iff.mpr ⟨by decide, by decide⟩) dX1_findAround_63 (fx_st42 _ _ _ _ _ _) ?_
  refine fj_aload_n C 3 dX1_findAround_64 rfl rfl ?_
  refine fj_get (Cn := RX1) (T := TX1) (N := 7) (ci := 1) (v := .ref (ad 43)) C iX1 38 (fx_at38 _ _ _ _ _) rfl 6 (by decide) kX1_24 rfl dX1_findAround_65 ?_
  refine fj_iload_n C 2 dX1_findAround_68 rfl rfl ?_
  refine fj_aload_n C 3 dX1_findAround_69 rfl rfl ?_
  refine fj_get (Cn := RX1) (T := TX1) (N := 7) (ci := 1) (v := .int (840 * fx_a0 41 (9 * (j + 0) + (i + 0)).toNatClampNeg)) C iX1 38 (fx_at38 _ _ _ _ _) rfl 4 (by decide) kX1_35 rfl dX1_findAround_70 ?_
  refine fj_i2l C dX1_findAround_73 ?_
  refine fj_last (f := (fx_g0 43)) C 43 (fx_at43 _ _ _ _ _) (vp_in_iff.mpr ⟨by decide, by decide⟩) dX1_findAround_74 (fx_st43 _ _ _ _ _ _) ?_
  refine fj_iinc (v := 1) (lv' := [(3, .int 1), (5, .int 0), (4, .int 0), (0, .ref (ad 38)), (1, .int i), (2, .int j)]) C 2 dX1_findAround_75 rfl (by decide) (by decide) rfl ?_
  refine fj_goto (tgt := 2) C dX1_findAround_78 (by decide) ?_
  refine fj_iload_n C 0 dX1_findAround_2 rfl rfl ?_
  refine fj_iconst (v := 4) C dX1_findAround_3 (by decide) ?_
  refine fj_icmp_ge (tgt := 81) C dX1_findAround_4 (by decide) (fun h => absurd h (by decide)) (fun _ => ?_)
  refine fj_iload_n C 0 dX1_findAround_7 rfl rfl ?_
  refine fj_iconst (v := 1) C dX1_findAround_8 (by decide) ?_
  refine fj_icmp_eq (tgt := 17) C dX1_findAround_9 (by decide) (fun _ => ?_) (fun h => absurd (by decide) h)
  refine fj_iconst (v := 1) C dX1_findAround_17 (by decide) ?_
  refine fj_goto (tgt := 22) C dX1_findAround_18 (by decide) ?_
  refine fj_istore (lv' := [(4, .int 1), (3, .int 1), (5, .int 0), (0, .ref (ad 38)), (1, .int i), (2, .int j)]) C dX1_findAround_22 (by decide) rfl ?_
  refine fj_iload_n C 1 dX1_findAround_24 rfl rfl ?_
  refine fj_iconst (v := 2) C dX1_findAround_25 (by decide) ?_
  refine fj_icmp_lt (tgt := 33) C dX1_findAround_26 (by decide) (fun _ => ?_) (fun h => absurd (by decide) h)
  refine fj_iconst (v := 0) C dX1_findAround_33 (by decide) ?_
  refine fj_istore (lv' := [(5, .int 0), (4, .int 1), (3, .int 1), (0, .ref (ad 38)), (1, .int i), (2, .int j)]) C dX1_findAround_34 (by decide) rfl ?_
  refine fj_aload_n C 3 dX1_findAround_36 rfl rfl ?_
  refine fj_iload_n C 4 dX1_findAround_37 rfl rfl ?_
  refine fj_iload C 1 dX1_findAround_38 rfl ?_
  refine fj_iadd C dX1_findAround_40 ?_
  refine fj_iload_n C 5 dX1_findAround_41 rfl rfl ?_
  refine fj_iload C 0 dX1_findAround_42 rfl ?_
  refine fj_iadd C dX1_findAround_44 ?_
  refine fj_callVw (As := [.int (i + 1), .int (j + 0)]) (rest := []) C (c_X1_find l D ty t0 ad (va_up (va_up fx_g0 42 (vp_updL (fx_g0 42) 0 ((840 * fx_a0 40 (9 * (j + 0) + (i + 0)).toNatClampNeg).toInt64))) 43 (vp_updL (fx_g0 43) 0 ((840 * fx_a0 41 (9 * (j + 0) + (i + 0)).toNatClampNeg).toInt64))) (va_up (va_up fx_n0 8 (840 * fx_a0 40 (9 * (j + 0) + (i + 0)).toNatClampNeg)) 9 (840 * fx_a0 41 (9 * (j + 0) + (i + 0)).toNatClampNeg)) (i + 1) (j + 0) (fx_i1 hi) (fx_i0 hj)) (cwV 2 C.2.2.2.2.1 gX1_findAround_X1_find rfl rfl rfl (by decide +kernel) ⟨Nat.le_of_ble_eq_true rfl, Nat.le_of_ble_eq_true rfl⟩) ⟨38, 1, _, _, fx_at38 _ _ _ _ _, rfl, rfl⟩ rfl (Nat.le_of_ble_eq_true rfl) dX1_findAround_45 ⟨Nat.zero_le _, Nat.zero_le _⟩ (fun v9 w9 hp9 => ?_)
  obtain ⟨rfl, rfl⟩ := hp9
  refine fj_ws (ws' := (fx_w ad ty fx_a0 (va_up (va_up fx_g0 42 (vp_updL (fx_g0 42) 0 ((840 * fx_a0 40 (9 * (j + 0) + (i + 0)).toNatClampNeg).toInt64))) 43 (vp_updL (fx_g0 43) 0 ((840 * fx_a0 41 (9 * (j + 0) + (i + 0)).toNatClampNeg).toInt64))) (va_up (va_up fx_n0 8 (840 * fx_a0 40 (9 * (j + 0) + (i + 1)).toNatClampNeg)) 9 (840 * fx_a0 41 (9 * (j + 0) + (i + 1)).toNatClampNeg)))) rfl ?_
  refine fj_st (st' := .int 1 :: []) rfl ?_
  refine fj_if_ne (tgt := 53) C dX1_findAround_48 (by decide) (fun _ => ?_) (fun h => absurd (by decide) h)
  refine fj_aload_n C 3 dX1_findAround_53 rfl rfl ?_
  refine fj_get (Cn := RX1) (T := TX1) (N := 7) (ci := 1) (v := .ref (ad 42)) C iX1 38 (fx_at38 _ _ _ _ _) rfl 5 (by decide) kX1_20 rfl dX1_findAround_54 ?_
  refine fj_iload_n C 2 dX1_findAround_57 rfl rfl ?_
  refine fj_aload_n C 3 dX1_findAround_58 rfl rfl ?_
  refine fj_get (Cn := RX1) (T := TX1) (N := 7) (ci := 1) (v := .int (840 * fx_a0 40 (9 * (j + 0) + (i + 1)).toNatClampNeg)) C iX1 38 (fx_at38 _ _ _ _ _) rfl 3 (by decide) kX1_31 rfl dX1_findAround_59 ?_
  refine fj_i2l C dX1_findAround_62 ?_
  refine fj_last (f := (vp_updL (fx_g0 42) 0 ((840 * fx_a0 40 (9 * (j + 0) + (i + 0)).toNatClampNeg).toInt64))) C 42 (fx_at42 _ _ _ _ _) (vp_in_iff.mpr ⟨by decide, by decide⟩) dX1_findAround_63 (fx_st42 _ _ _ _ _ _) ?_
  refine fj_ws (ws' := (fx_w ad ty fx_a0 (va_up (va_up fx_g0 43 (vp_updL (fx_g0 43) 0 ((840 * fx_a0 41 (9 * (j + 0) + (i + 0)).toNatClampNeg).toInt64))) 42 (vp_updL (vp_updL (fx_g0 42) 0 ((840 * fx_a0 40 (9 * (j + 0) + (i + 0)).toNatClampNeg).toInt64)) 1 ((840 * fx_a0 40 (9 * (j + 0) + (i + 1)).toNatClampNeg).toInt64))) (va_up (va_up fx_n0 8 (840 * fx_a0 40 (9 * (j + 0) + (i + 1)).toNatClampNeg)) 9 (840 * fx_a0 41 (9 * (j + 0) + (i + 1)).toNatClampNeg)))) rfl ?_
  refine fj_aload_n C 3 dX1_findAround_64 rfl rfl ?_
  refine fj_get (Cn := RX1) (T := TX1) (N := 7) (ci := 1) (v := .ref (ad 43)) C iX1 38 (fx_at38 _ _ _ _ _) rfl 6 (by decide) kX1_24 rfl dX1_findAround_65 ?_
  refine fj_iload_n C 2 dX1_findAround_68 rfl rfl ?_
  refine fj_aload_n C 3 dX1_findAround_69 rfl rfl ?_
  refine fj_get (Cn := RX1) (T := TX1) (N := 7) (ci := 1) (v := .int (840 * fx_a0 41 (9 * (j + 0) + (i + 1)).toNatClampNeg)) C iX1 38 (fx_at38 _ _ _ _ _) rfl 4 (by decide) kX1_35 rfl dX1_findAround_70 ?_
  refine fj_i2l C dX1_findAround_73 ?_
  refine fj_last (f := (vp_updL (fx_g0 43) 0 ((840 * fx_a0 41 (9 * (j + 0) + (i + 0)).toNatClampNeg).toInt64))) C 43 (fx_at43 _ _ _ _ _) (vp_in_iff.mpr ⟨by decide, by decide⟩) dX1_findAround_74 (fx_st43 _ _ _ _ _ _) ?_
  refine fj_ws (ws' := (fx_w ad ty fx_a0 (va_up (va_up fx_g0 42 (vp_updL (vp_updL (fx_g0 42) 0 ((840 * fx_a0 40 (9 * (j + 0) + (i + 0)).toNatClampNeg).toInt64)) 1 ((840 * fx_a0 40 (9 * (j + 0) + (i + 1)).toNatClampNeg).toInt64))) 43 (vp_updL (vp_updL (fx_g0 43) 0 ((840 * fx_a0 41 (9 * (j + 0) + (i + 0)).toNatClampNeg).toInt64)) 1 ((840 * fx_a0 41 (9 * (j + 0) + (i + 1)).toNatClampNeg).toInt64))) (va_up (va_up fx_n0 8 (840 * fx_a0 40 (9 * (j + 0) + (i + 1)).toNatClampNeg)) 9 (840 * fx_a0 41 (9 * (j + 0) + (i + 1)).toNatClampNeg)))) rfl ?_
  refine fj_iinc (v := 2) (lv' := [(3, .int 2), (5, .int 0), (4, .int 1), (0, .ref (ad 38)), (1, .int i), (2, .int j)]) C 2 dX1_findAround_75 rfl (by decide) (by decide) rfl ?_
  refine fj_goto (tgt := 2) C dX1_findAround_78 (by decide) ?_
  refine fj_iload_n C 0 dX1_findAround_2 rfl rfl ?_
  refine fj_iconst (v := 4) C dX1_findAround_3 (by decide) ?_
  refine fj_icmp_ge (tgt := 81) C dX1_findAround_4 (by decide) (fun h => absurd h (by decide)) (fun _ => ?_)
  refine fj_iload_n C 0 dX1_findAround_7 rfl rfl ?_
  refine fj_iconst (v := 1) C dX1_findAround_8 (by decide) ?_
  refine fj_icmp_eq (tgt := 17) C dX1_findAround_9 (by decide) (fun h => absurd h (by decide)) (fun _ => ?_)
  refine fj_iload_n C 0 dX1_findAround_12 rfl rfl ?_
  refine fj_iconst (v := 2) C dX1_findAround_13 (by decide) ?_
  refine fj_icmp_ne (tgt := 21) C dX1_findAround_14 (by decide) (fun h => absurd h (by decide)) (fun _ => ?_)
  refine fj_iconst (v := 1) C dX1_findAround_17 (by decide) ?_
  refine fj_goto (tgt := 22) C dX1_findAround_18 (by decide) ?_
  refine fj_istore (lv' := [(4, .int 1), (3, .int 2), (5, .int 0), (0, .ref (ad 38)), (1, .int i), (2, .int j)]) C dX1_findAround_22 (by decide) rfl ?_
  refine fj_iload_n C 1 dX1_findAround_24 rfl rfl ?_
  refine fj_iconst (v := 2) C dX1_findAround_25 (by decide) ?_
  refine fj_icmp_lt (tgt := 33) C dX1_findAround_26 (by decide) (fun h => absurd h (by decide)) (fun _ => ?_)
  refine fj_iconst (v := 1) C dX1_findAround_29 (by decide) ?_
  refine fj_goto (tgt := 34) C dX1_findAround_30 (by decide) ?_
  refine fj_istore (lv' := [(5, .int 1), (4, .int 1), (3, .int 2), (0, .ref (ad 38)), (1, .int i), (2, .int j)]) C dX1_findAround_34 (by decide) rfl ?_
  refine fj_aload_n C 3 dX1_findAround_36 rfl rfl ?_
  refine fj_iload_n C 4 dX1_findAround_37 rfl rfl ?_
  refine fj_iload C 1 dX1_findAround_38 rfl ?_
  refine fj_iadd C dX1_findAround_40 ?_
  refine fj_iload_n C 5 dX1_findAround_41 rfl rfl ?_
  refine fj_iload C 0 dX1_findAround_42 rfl ?_
  refine fj_iadd C dX1_findAround_44 ?_
  refine fj_callVw (As := [.int (i + 1), .int (j + 1)]) (rest := []) C (c_X1_find l D ty t0 ad (va_up (va_up fx_g0 42 (vp_updL (vp_updL (fx_g0 42) 0 ((840 * fx_a0 40 (9 * (j + 0) + (i + 0)).toNatClampNeg).toInt64)) 1 ((840 * fx_a0 40 (9 * (j + 0) + (i + 1)).toNatClampNeg).toInt64))) 43 (vp_updL (vp_updL (fx_g0 43) 0 ((840 * fx_a0 41 (9 * (j + 0) + (i + 0)).toNatClampNeg).toInt64)) 1 ((840 * fx_a0 41 (9 * (j + 0) + (i + 1)).toNatClampNeg).toInt64))) (va_up (va_up fx_n0 8 (840 * fx_a0 40 (9 * (j + 0) + (i + 1)).toNatClampNeg)) 9 (840 * fx_a0 41 (9 * (j + 0) + (i + 1)).toNatClampNeg)) (i + 1) (j + 1) (fx_i1 hi) (fx_i1 hj)) (cwV 2 C.2.2.2.2.1 gX1_findAround_X1_find rfl rfl rfl (by decide +kernel) ⟨Nat.le_of_ble_eq_true rfl, Nat.le_of_ble_eq_true rfl⟩) ⟨38, 1, _, _, fx_at38 _ _ _ _ _, rfl, rfl⟩ rfl (Nat.le_of_ble_eq_true rfl) dX1_findAround_45 ⟨Nat.zero_le _, Nat.zero_le _⟩ (fun v9 w9 hp9 => ?_)
  obtain ⟨rfl, rfl⟩ := hp9
  refine fj_ws (ws' := (fx_w ad ty fx_a0 (va_up (va_up fx_g0 42 (vp_updL (vp_updL (fx_g0 42) 0 ((840 * fx_a0 40 (9 * (j + 0) + (i + 0)).toNatClampNeg).toInt64)) 1 ((840 * fx_a0 40 (9 * (j + 0) + (i + 1)).toNatClampNeg).toInt64))) 43 (vp_updL (vp_updL (fx_g0 43) 0 ((840 * fx_a0 41 (9 * (j + 0) + (i + 0)).toNatClampNeg).toInt64)) 1 ((840 * fx_a0 41 (9 * (j + 0) + (i + 1)).toNatClampNeg).toInt64))) (va_up (va_up fx_n0 8 (840 * fx_a0 40 (9 * (j + 1) + (i + 1)).toNatClampNeg)) 9 (840 * fx_a0 41 (9 * (j + 1) + (i + 1)).toNatClampNeg)))) rfl ?_
  refine fj_st (st' := .int 1 :: []) rfl ?_
  refine fj_if_ne (tgt := 53) C dX1_findAround_48 (by decide) (fun _ => ?_) (fun h => absurd (by decide) h)
  refine fj_aload_n C 3 dX1_findAround_53 rfl rfl ?_
  refine fj_get (Cn := RX1) (T := TX1) (N := 7) (ci := 1) (v := .ref (ad 42)) C iX1 38 (fx_at38 _ _ _ _ _) rfl 5 (by decide) kX1_20 rfl dX1_findAround_54 ?_
  refine fj_iload_n C 2 dX1_findAround_57 rfl rfl ?_
  refine fj_aload_n C 3 dX1_findAround_58 rfl rfl ?_
  refine fj_get (Cn := RX1) (T := TX1) (N := 7) (ci := 1) (v := .int (840 * fx_a0 40 (9 * (j + 1) + (i + 1)).toNatClampNeg)) C iX1 38 (fx_at38 _ _ _ _ _) rfl 3 (by decide) kX1_31 rfl dX1_findAround_59 ?_
  refine fj_i2l C dX1_findAround_62 ?_
  refine fj_last (f := (vp_updL (vp_updL (fx_g0 42) 0 ((840 * fx_a0 40 (9 * (j + 0) + (i + 0)).toNatClampNeg).toInt64)) 1 ((840 * fx_a0 40 (9 * (j + 0) + (i + 1)).toNatClampNeg).toInt64))) C 42 (fx_at42 _ _ _ _ _) (vp_in_iff.mpr ⟨by decide, by decide⟩) dX1_findAround_63 (fx_st42 _ _ _ _ _ _) ?_
  refine fj_ws (ws' := (fx_w ad ty fx_a0 (va_up (va_up fx_g0 43 (vp_updL (vp_updL (fx_g0 43) 0 ((840 * fx_a0 41 (9 * (j + 0) + (i + 0)).toNatClampNeg).toInt64)) 1 ((840 * fx_a0 41 (9 * (j + 0) + (i + 1)).toNatClampNeg).toInt64))) 42 (vp_updL (vp_updL (vp_updL (fx_g0 42) 0 ((840 * fx_a0 40 (9 * (j + 0) + (i + 0)).toNatClampNeg).toInt64)) 1 ((840 * fx_a0 40 (9 * (j + 0) + (i + 1)).toNatClampNeg).toInt64)) 2 ((840 * fx_a0 40 (9 * (j + 1) + (i + 1)).toNatClampNeg).toInt64))) (va_up (va_up fx_n0 8 (840 * fx_a0 40 (9 * (j + 1) + (i + 1)).toNatClampNeg)) 9 (840 * fx_a0 41 (9 * (j + 1) + (i + 1)).toNatClampNeg)))) rfl ?_
  refine fj_aload_n C 3 dX1_findAround_64 rfl rfl ?_
  refine fj_get (Cn := RX1) (T := TX1) (N := 7) (ci := 1) (v := .ref (ad 43)) C iX1 38 (fx_at38 _ _ _ _ _) rfl 6 (by decide) kX1_24 rfl dX1_findAround_65 ?_
  refine fj_iload_n C 2 dX1_findAround_68 rfl rfl ?_
  refine fj_aload_n C 3 dX1_findAround_69 rfl rfl ?_
  refine fj_get (Cn := RX1) (T := TX1) (N := 7) (ci := 1) (v := .int (840 * fx_a0 41 (9 * (j + 1) + (i + 1)).toNatClampNeg)) C iX1 38 (fx_at38 _ _ _ _ _) rfl 4 (by decide) kX1_35 rfl dX1_findAround_70 ?_
  refine fj_i2l C dX1_findAround_73 ?_
  refine fj_last (f := (vp_updL (vp_updL (fx_g0 43) 0 ((840 * fx_a0 41 (9 * (j + 0) + (i + 0)).toNatClampNeg).toInt64)) 1 ((840 * fx_a0 41 (9 * (j + 0) + (i + 1)).toNatClampNeg).toInt64))) C 43 (fx_at43 _ _ _ _ _) (vp_in_iff.mpr ⟨by decide, by decide⟩) dX1_findAround_74 (fx_st43 _ _ _ _ _ _) ?_
  refine fj_ws (ws' := (fx_w ad ty fx_a0 (va_up (va_up fx_g0 42 (vp_updL (vp_updL (vp_updL (fx_g0 42) 0 ((840 * fx_a0 40 (9 * (j + 0) + (i + 0)).toNatClampNeg).toInt64)) 1 ((840 * fx_a0 40 (9 * (j + 0) + (i + 1)).toNatClampNeg).toInt64)) 2 ((840 * fx_a0 40 (9 * (j + 1) + (i + 1)).toNatClampNeg).toInt64))) 43 (vp_updL (vp_updL (vp_updL (fx_g0 43) 0 ((840 * fx_a0 41 (9 * (j + 0) + (i + 0)).toNatClampNeg).toInt64)) 1 ((840 * fx_a0 41 (9 * (j + 0) + (i + 1)).toNatClampNeg).toInt64)) 2 ((840 * fx_a0 41 (9 * (j + 1) + (i + 1)).toNatClampNeg).toInt64))) (va_up (va_up fx_n0 8 (840 * fx_a0 40 (9 * (j + 1) + (i + 1)).toNatClampNeg)) 9 (840 * fx_a0 41 (9 * (j + 1) + (i + 1)).toNatClampNeg)))) rfl ?_
  refine fj_iinc (v := 3) (lv' := [(3, .int 3), (5, .int 1), (4, .int 1), (0, .ref (ad 38)), (1, .int i), (2, .int j)]) C 2 dX1_findAround_75 rfl (by decide) (by decide) rfl ?_
  refine fj_goto (tgt := 2) C dX1_findAround_78 (by decide) ?_
  refine fj_iload_n C 0 dX1_findAround_2 rfl rfl ?_
  refine fj_iconst (v := 4) C dX1_findAround_3 (by decide) ?_
  refine fj_icmp_ge (tgt := 81) C dX1_findAround_4 (by decide) (fun h => absurd h (by decide)) (fun _ => ?_)
  refine fj_iload_n C 0 dX1_findAround_7 rfl rfl ?_
  refine fj_iconst (v := 1) C dX1_findAround_8 (by decide) ?_
  refine fj_icmp_eq (tgt := 17) C dX1_findAround_9 (by decide) (fun h => absurd h (by decide)) (fun _ => ?_)
  refine fj_iload_n C 0 dX1_findAround_12 rfl rfl ?_
  refine fj_iconst (v := 2) C dX1_findAround_13 (by decide) ?_
  refine fj_icmp_ne (tgt := 21) C dX1_findAround_14 (by decide) (fun _ => ?_) (fun h => absurd (by decide) h)
  refine fj_iconst (v := 0) C dX1_findAround_21 (by decide) ?_
  refine fj_istore (lv' := [(4, .int 0), (3, .int 3), (5, .int 1), (0, .ref (ad 38)), (1, .int i), (2, .int j)]) C dX1_findAround_22 (by decide) rfl ?_
  refine fj_iload_n C 1 dX1_findAround_24 rfl rfl ?_
  refine fj_iconst (v := 2) C dX1_findAround_25 (by decide) ?_
  refine fj_icmp_lt (tgt := 33) C dX1_findAround_26 (by decide) (fun h => absurd h (by decide)) (fun _ => ?_)
  refine fj_iconst (v := 1) C dX1_findAround_29 (by decide) ?_
  refine fj_goto (tgt := 34) C dX1_findAround_30 (by decide) ?_
  refine fj_istore (lv' := [(5, .int 1), (4, .int 0), (3, .int 3), (0, .ref (ad 38)), (1, .int i), (2, .int j)]) C dX1_findAround_34 (by decide) rfl ?_
  refine fj_aload_n C 3 dX1_findAround_36 rfl rfl ?_
  refine fj_iload_n C 4 dX1_findAround_37 rfl rfl ?_
  refine fj_iload C 1 dX1_findAround_38 rfl ?_
  refine fj_iadd C dX1_findAround_40 ?_
  refine fj_iload_n C 5 dX1_findAround_41 rfl rfl ?_
  refine fj_iload C 0 dX1_findAround_42 rfl ?_
  refine fj_iadd C dX1_findAround_44 ?_
  refine fj_callVw (As := [.int (i + 0), .int (j + 1)]) (rest := []) C (c_X1_find l D ty t0 ad (va_up (va_up fx_g0 42 (vp_updL (vp_updL (vp_updL (fx_g0 42) 0 ((840 * fx_a0 40 (9 * (j + 0) + (i + 0)).toNatClampNeg).toInt64)) 1 ((840 * fx_a0 40 (9 * (j + 0) + (i + 1)).toNatClampNeg).toInt64)) 2 ((840 * fx_a0 40 (9 * (j + 1) + (i + 1)).toNatClampNeg).toInt64))) 43 (vp_updL (vp_updL (vp_updL (fx_g0 43) 0 ((840 * fx_a0 41 (9 * (j + 0) + (i + 0)).toNatClampNeg).toInt64)) 1 ((840 * fx_a0 41 (9 * (j + 0) + (i + 1)).toNatClampNeg).toInt64)) 2 ((840 * fx_a0 41 (9 * (j + 1) + (i + 1)).toNatClampNeg).toInt64))) (va_up (va_up fx_n0 8 (840 * fx_a0 40 (9 * (j + 1) + (i + 1)).toNatClampNeg)) 9 (840 * fx_a0 41 (9 * (j + 1) + (i + 1)).toNatClampNeg)) (i + 0) (j + 1) (fx_i0 hi) (fx_i1 hj)) (cwV 2 C.2.2.2.2.1 gX1_findAround_X1_find rfl rfl rfl (by decide +kernel) ⟨Nat.le_of_ble_eq_true rfl, Nat.le_of_ble_eq_true rfl⟩) ⟨38, 1, _, _, fx_at38 _ _ _ _ _, rfl, rfl⟩ rfl (Nat.le_of_ble_eq_true rfl) dX1_findAround_45 ⟨Nat.zero_le _, Nat.zero_le _⟩ (fun v9 w9 hp9 => ?_)
  obtain ⟨rfl, rfl⟩ := hp9
  refine fj_ws (ws' := (fx_w ad ty fx_a0 (va_up (va_up fx_g0 42 (vp_updL (vp_updL (vp_updL (fx_g0 42) 0 ((840 * fx_a0 40 (9 * (j + 0) + (i + 0)).toNatClampNeg).toInt64)) 1 ((840 * fx_a0 40 (9 * (j + 0) + (i + 1)).toNatClampNeg).toInt64)) 2 ((840 * fx_a0 40 (9 * (j + 1) + (i + 1)).toNatClampNeg).toInt64))) 43 (vp_updL (vp_updL (vp_updL (fx_g0 43) 0 ((840 * fx_a0 41 (9 * (j + 0) + (i + 0)).toNatClampNeg).toInt64)) 1 ((840 * fx_a0 41 (9 * (j + 0) + (i + 1)).toNatClampNeg).toInt64)) 2 ((840 * fx_a0 41 (9 * (j + 1) + (i + 1)).toNatClampNeg).toInt64))) (va_up (va_up fx_n0 8 (840 * fx_a0 40 (9 * (j + 1) + (i + 0)).toNatClampNeg)) 9 (840 * fx_a0 41 (9 * (j + 1) + (i + 0)).toNatClampNeg)))) rfl ?_
  refine fj_st (st' := .int 1 :: []) rfl ?_
  refine fj_if_ne (tgt := 53) C dX1_findAround_48 (by decide) (fun _ => ?_) (fun h => absurd (by decide) h)
  refine fj_aload_n C 3 dX1_findAround_53 rfl rfl ?_
  refine fj_get (Cn := RX1) (T := TX1) (N := 7) (ci := 1) (v := .ref (ad 42)) C iX1 38 (fx_at38 _ _ _ _ _) rfl 5 (by decide) kX1_20 rfl dX1_findAround_54 ?_
  refine fj_iload_n C 2 dX1_findAround_57 rfl rfl ?_
  refine fj_aload_n C 3 dX1_findAround_58 rfl rfl ?_
  refine fj_get (Cn := RX1) (T := TX1) (N := 7) (ci := 1) (v := .int (840 * fx_a0 40 (9 * (j + 1) + (i + 0)).toNatClampNeg)) C iX1 38 (fx_at38 _ _ _ _ _) rfl 3 (by decide) kX1_31 rfl dX1_findAround_59 ?_
  refine fj_i2l C dX1_findAround_62 ?_
  refine fj_last (f := (vp_updL (vp_updL (vp_updL (fx_g0 42) 0 ((840 * fx_a0 40 (9 * (j + 0) + (i + 0)).toNatClampNeg).toInt64)) 1 ((840 * fx_a0 40 (9 * (j + 0) + (i + 1)).toNatClampNeg).toInt64)) 2 ((840 * fx_a0 40 (9 * (j + 1) + (i + 1)).toNatClampNeg).toInt64))) C 42 (fx_at42 _ _ _ _ _) (vp_in_iff.mpr ⟨by decide, by decide⟩) dX1_findAround_63 (fx_st42 _ _ _ _ _ _) ?_
  refine fj_ws (ws' := (fx_w ad ty fx_a0 (va_up (va_up fx_g0 43 (vp_updL (vp_updL (vp_updL (fx_g0 43) 0 ((840 * fx_a0 41 (9 * (j + 0) + (i + 0)).toNatClampNeg).toInt64)) 1 ((840 * fx_a0 41 (9 * (j + 0) + (i + 1)).toNatClampNeg).toInt64)) 2 ((840 * fx_a0 41 (9 * (j + 1) + (i + 1)).toNatClampNeg).toInt64))) 42 (vp_updL (vp_updL (vp_updL (vp_updL (fx_g0 42) 0 ((840 * fx_a0 40 (9 * (j + 0) + (i + 0)).toNatClampNeg).toInt64)) 1 ((840 * fx_a0 40 (9 * (j + 0) + (i + 1)).toNatClampNeg).toInt64)) 2 ((840 * fx_a0 40 (9 * (j + 1) + (i + 1)).toNatClampNeg).toInt64)) 3 ((840 * fx_a0 40 (9 * (j + 1) + (i + 0)).toNatClampNeg).toInt64))) (va_up (va_up fx_n0 8 (840 * fx_a0 40 (9 * (j + 1) + (i + 0)).toNatClampNeg)) 9 (840 * fx_a0 41 (9 * (j + 1) + (i + 0)).toNatClampNeg)))) rfl ?_
  refine fj_aload_n C 3 dX1_findAround_64 rfl rfl ?_
  refine fj_get (Cn := RX1) (T := TX1) (N := 7) (ci := 1) (v := .ref (ad 43)) C iX1 38 (fx_at38 _ _ _ _ _) rfl 6 (by decide) kX1_24 rfl dX1_findAround_65 ?_
  refine fj_iload_n C 2 dX1_findAround_68 rfl rfl ?_
  refine fj_aload_n C 3 dX1_findAround_69 rfl rfl ?_
  refine fj_get (Cn := RX1) (T := TX1) (N := 7) (ci := 1) (v := .int (840 * fx_a0 41 (9 * (j + 1) + (i + 0)).toNatClampNeg)) C iX1 38 (fx_at38 _ _ _ _ _) rfl 4 (by decide) kX1_35 rfl dX1_findAround_70 ?_
  refine fj_i2l C dX1_findAround_73 ?_
  refine fj_last (f := (vp_updL (vp_updL (vp_updL (fx_g0 43) 0 ((840 * fx_a0 41 (9 * (j + 0) + (i + 0)).toNatClampNeg).toInt64)) 1 ((840 * fx_a0 41 (9 * (j + 0) + (i + 1)).toNatClampNeg).toInt64)) 2 ((840 * fx_a0 41 (9 * (j + 1) + (i + 1)).toNatClampNeg).toInt64))) C 43 (fx_at43 _ _ _ _ _) (vp_in_iff.mpr ⟨by decide, by decide⟩) dX1_findAround_74 (fx_st43 _ _ _ _ _ _) ?_
  refine fj_ws (ws' := (fx_w ad ty fx_a0 (va_up (va_up fx_g0 42 (vp_updL (vp_updL (vp_updL (vp_updL (fx_g0 42) 0 ((840 * fx_a0 40 (9 * (j + 0) + (i + 0)).toNatClampNeg).toInt64)) 1 ((840 * fx_a0 40 (9 * (j + 0) + (i + 1)).toNatClampNeg).toInt64)) 2 ((840 * fx_a0 40 (9 * (j + 1) + (i + 1)).toNatClampNeg).toInt64)) 3 ((840 * fx_a0 40 (9 * (j + 1) + (i + 0)).toNatClampNeg).toInt64))) 43 (vp_updL (vp_updL (vp_updL (vp_updL (fx_g0 43) 0 ((840 * fx_a0 41 (9 * (j + 0) + (i + 0)).toNatClampNeg).toInt64)) 1 ((840 * fx_a0 41 (9 * (j + 0) + (i + 1)).toNatClampNeg).toInt64)) 2 ((840 * fx_a0 41 (9 * (j + 1) + (i + 1)).toNatClampNeg).toInt64)) 3 ((840 * fx_a0 41 (9 * (j + 1) + (i + 0)).toNatClampNeg).toInt64))) (va_up (va_up fx_n0 8 (840 * fx_a0 40 (9 * (j + 1) + (i + 0)).toNatClampNeg)) 9 (840 * fx_a0 41 (9 * (j + 1) + (i + 0)).toNatClampNeg)))) rfl ?_
  refine fj_iinc (v := 4) (lv' := [(3, .int 4), (5, .int 1), (4, .int 0), (0, .ref (ad 38)), (1, .int i), (2, .int j)]) C 2 dX1_findAround_75 rfl (by decide) (by decide) rfl ?_
  refine fj_goto (tgt := 2) C dX1_findAround_78 (by decide) ?_
  refine fj_iload_n C 0 dX1_findAround_2 rfl rfl ?_
  refine fj_iconst (v := 4) C dX1_findAround_3 (by decide) ?_
  refine fj_icmp_ge (tgt := 81) C dX1_findAround_4 (by decide) (fun _ => ?_) (fun h => absurd (by decide) h)
  refine fj_iconst (v := 1) C dX1_findAround_81 (by decide) ?_
  exact fj_zret C E9 rfl dX1_findAround_82 ⟨rfl, rfl⟩

set_option maxHeartbeats 4000000 in
set_option maxRecDepth 100000 in
theorem c_X1_crossSum (l : Launch) (D : va_G) (ty : Nat → ClassId) (t0 : Nat) (ad : Nat → Nat) (g : Nat → Nat → Int64) (n : Nat → Int32)   : fc l yX1_crossSum wsX1_crossSum (fj_rm 0 0 0 0) D ty t0 [.ref (ad 38)] (fx_w ad ty fx_a0 g n) 0 0 (fun v w => v = some (.long (fx_cs (g 42) (g 43)))) := by
  refine fc_start (own := RX1) (cc := cX1_crossSum) (maxL := 5) (ret := (some .long)) (by decide) rfl (Nat.le_of_ble_eq_true rfl) rfl ?_
  intro p e s m args below meth c Q A C hmn E9
  have iX1 : ∀ w ∈ u_ws RX1 TX1 7, w ∈ wsX1_crossSum := fun _ h => List.mem_cons_of_mem _ (List.mem_append_right _ h)
  have kX1_20 : Cond.fieldLink RX1 20 "FreeLand$Corners" "aroundX" "[J" ∈ wsX1_crossSum := (by decide +kernel)
  have kX1_24 : Cond.fieldLink RX1 24 "FreeLand$Corners" "aroundY" "[J" ∈ wsX1_crossSum := (by decide +kernel)
  refine fj_lv (lv' := [(0, .ref (ad 38))]) [0] rfl ?_
  refine fj_lconst (v := 0) C dX1_crossSum_0 (by decide) ?_
  refine fj_lstore_n (lv' := [(1, .long 0), (0, .ref (ad 38))]) C dX1_crossSum_1 rfl (by decide) rfl ?_
  refine fj_iconst (v := 0) C dX1_crossSum_2 (by decide) ?_
  refine fj_istore_n (lv' := [(3, .int 0), (1, .long 0), (0, .ref (ad 38))]) C dX1_crossSum_3 rfl (by decide) rfl ?_
  refine fj_iload_n C 0 dX1_crossSum_4 rfl rfl ?_
  refine fj_iconst (v := 4) C dX1_crossSum_5 (by decide) ?_
  refine fj_icmp_ge (tgt := 54) C dX1_crossSum_6 (by decide) (fun h => absurd h (by decide)) (fun _ => ?_)
  refine fj_iload_n C 0 dX1_crossSum_9 rfl rfl ?_
  refine fj_iconst (v := 1) C dX1_crossSum_10 (by decide) ?_
  refine fj_iadd C dX1_crossSum_11 ?_
  refine fj_at (y := 1) (by decide) ?_
  refine fj_iconst (v := 4) C dX1_crossSum_12 (by decide) ?_
  refine fj_irem C dX1_crossSum_13 (by decide) ?_
  refine fj_at (y := 1) (by decide) ?_
  refine fj_istore (lv' := [(4, .int 1), (3, .int 0), (1, .long 0), (0, .ref (ad 38))]) C dX1_crossSum_14 (by decide) rfl ?_
  refine fj_lload_n C 2 dX1_crossSum_16 rfl rfl ?_
  refine fj_aload_n C 3 dX1_crossSum_17 rfl rfl ?_
  refine fj_get (Cn := RX1) (T := TX1) (N := 7) (ci := 1) (v := .ref (ad 42)) C iX1 38 (fx_at38 _ _ _ _ _) rfl 5 (by decide) kX1_20 rfl dX1_crossSum_18 ?_
  refine fj_iload_n C 1 dX1_crossSum_21 rfl rfl ?_
  refine fj_lald (f := (g 42)) C 42 (fx_at42 _ _ _ _ _) (vp_in_iff.mpr ⟨by decide, by decide⟩) dX1_crossSum_22 ?_
  refine fj_aload_n C 3 dX1_crossSum_23 rfl rfl ?_
  refine fj_get (Cn := RX1) (T := TX1) (N := 7) (ci := 1) (v := .ref (ad 43)) C iX1 38 (fx_at38 _ _ _ _ _) rfl 6 (by decide) kX1_24 rfl dX1_crossSum_24 ?_
  refine fj_iload C 0 dX1_crossSum_27 rfl ?_
  refine fj_lald (f := (g 43)) C 43 (fx_at43 _ _ _ _ _) (vp_in_iff.mpr ⟨by decide, by decide⟩) dX1_crossSum_29 ?_
  refine fj_lmul C dX1_crossSum_30 ?_
  refine fj_aload_n C 3 dX1_crossSum_31 rfl rfl ?_
  refine fj_get (Cn := RX1) (T := TX1) (N := 7) (ci := 1) (v := .ref (ad 42)) C iX1 38 (fx_at38 _ _ _ _ _) rfl 5 (by decide) kX1_20 rfl dX1_crossSum_32 ?_
  refine fj_iload C 0 dX1_crossSum_35 rfl ?_
  refine fj_lald (f := (g 42)) C 42 (fx_at42 _ _ _ _ _) (vp_in_iff.mpr ⟨by decide, by decide⟩) dX1_crossSum_37 ?_
  refine fj_aload_n C 3 dX1_crossSum_38 rfl rfl ?_
  refine fj_get (Cn := RX1) (T := TX1) (N := 7) (ci := 1) (v := .ref (ad 43)) C iX1 38 (fx_at38 _ _ _ _ _) rfl 6 (by decide) kX1_24 rfl dX1_crossSum_39 ?_
  refine fj_iload_n C 1 dX1_crossSum_42 rfl rfl ?_
  refine fj_lald (f := (g 43)) C 43 (fx_at43 _ _ _ _ _) (vp_in_iff.mpr ⟨by decide, by decide⟩) dX1_crossSum_43 ?_
  refine fj_lmul C dX1_crossSum_44 ?_
  refine fj_lsub C dX1_crossSum_45 ?_
  refine fj_ladd C dX1_crossSum_46 ?_
  refine fj_lstore_n (lv' := [(1, .long (0 + ((((g 42) 0) * ((g 43) 1)) - (((g 42) 1) * ((g 43) 0))))), (4, .int 1), (3, .int 0), (0, .ref (ad 38))]) C dX1_crossSum_47 rfl (by decide) rfl ?_
  refine fj_iinc (v := 1) (lv' := [(3, .int 1), (1, .long (0 + ((((g 42) 0) * ((g 43) 1)) - (((g 42) 1) * ((g 43) 0))))), (4, .int 1), (0, .ref (ad 38))]) C 2 dX1_crossSum_48 rfl (by decide) (by decide) rfl ?_
  refine fj_goto (tgt := 4) C dX1_crossSum_51 (by decide) ?_
  refine fj_iload_n C 0 dX1_crossSum_4 rfl rfl ?_
  refine fj_iconst (v := 4) C dX1_crossSum_5 (by decide) ?_
  refine fj_icmp_ge (tgt := 54) C dX1_crossSum_6 (by decide) (fun h => absurd h (by decide)) (fun _ => ?_)
  refine fj_iload_n C 0 dX1_crossSum_9 rfl rfl ?_
  refine fj_iconst (v := 1) C dX1_crossSum_10 (by decide) ?_
  refine fj_iadd C dX1_crossSum_11 ?_
  refine fj_at (y := 2) (by decide) ?_
  refine fj_iconst (v := 4) C dX1_crossSum_12 (by decide) ?_
  refine fj_irem C dX1_crossSum_13 (by decide) ?_
  refine fj_at (y := 2) (by decide) ?_
  refine fj_istore (lv' := [(4, .int 2), (3, .int 1), (1, .long (0 + ((((g 42) 0) * ((g 43) 1)) - (((g 42) 1) * ((g 43) 0))))), (0, .ref (ad 38))]) C dX1_crossSum_14 (by decide) rfl ?_
  refine fj_lload_n C 2 dX1_crossSum_16 rfl rfl ?_
  refine fj_aload_n C 3 dX1_crossSum_17 rfl rfl ?_
  refine fj_get (Cn := RX1) (T := TX1) (N := 7) (ci := 1) (v := .ref (ad 42)) C iX1 38 (fx_at38 _ _ _ _ _) rfl 5 (by decide) kX1_20 rfl dX1_crossSum_18 ?_
  refine fj_iload_n C 1 dX1_crossSum_21 rfl rfl ?_
  refine fj_lald (f := (g 42)) C 42 (fx_at42 _ _ _ _ _) (vp_in_iff.mpr ⟨by decide, by decide⟩) dX1_crossSum_22 ?_
  refine fj_aload_n C 3 dX1_crossSum_23 rfl rfl ?_
  refine fj_get (Cn := RX1) (T := TX1) (N := 7) (ci := 1) (v := .ref (ad 43)) C iX1 38 (fx_at38 _ _ _ _ _) rfl 6 (by decide) kX1_24 rfl dX1_crossSum_24 ?_
  refine fj_iload C 0 dX1_crossSum_27 rfl ?_
  refine fj_lald (f := (g 43)) C 43 (fx_at43 _ _ _ _ _) (vp_in_iff.mpr ⟨by decide, by decide⟩) dX1_crossSum_29 ?_
  refine fj_lmul C dX1_crossSum_30 ?_
  refine fj_aload_n C 3 dX1_crossSum_31 rfl rfl ?_
  refine fj_get (Cn := RX1) (T := TX1) (N := 7) (ci := 1) (v := .ref (ad 42)) C iX1 38 (fx_at38 _ _ _ _ _) rfl 5 (by decide) kX1_20 rfl dX1_crossSum_32 ?_
  refine fj_iload C 0 dX1_crossSum_35 rfl ?_
  refine fj_lald (f := (g 42)) C 42 (fx_at42 _ _ _ _ _) (vp_in_iff.mpr ⟨by decide, by decide⟩) dX1_crossSum_37 ?_
  refine fj_aload_n C 3 dX1_crossSum_38 rfl rfl ?_
  refine fj_get (Cn := RX1) (T := TX1) (N := 7) (ci := 1) (v := .ref (ad 43)) C iX1 38 (fx_at38 _ _ _ _ _) rfl 6 (by decide) kX1_24 rfl dX1_crossSum_39 ?_
  refine fj_iload_n C 1 dX1_crossSum_42 rfl rfl ?_
  refine fj_lald (f := (g 43)) C 43 (fx_at43 _ _ _ _ _) (vp_in_iff.mpr ⟨by decide, by decide⟩) dX1_crossSum_43 ?_
  refine fj_lmul C dX1_crossSum_44 ?_
  refine fj_lsub C dX1_crossSum_45 ?_
  refine fj_ladd C dX1_crossSum_46 ?_
  refine fj_lstore_n (lv' := [(1, .long ((0 + ((((g 42) 0) * ((g 43) 1)) - (((g 42) 1) * ((g 43) 0)))) + ((((g 42) 1) * ((g 43) 2)) - (((g 42) 2) * ((g 43) 1))))), (4, .int 2), (3, .int 1), (0, .ref (ad 38))]) C dX1_crossSum_47 rfl (by decide) rfl ?_
  refine fj_iinc (v := 2) (lv' := [(3, .int 2), (1, .long ((0 + ((((g 42) 0) * ((g 43) 1)) - (((g 42) 1) * ((g 43) 0)))) + ((((g 42) 1) * ((g 43) 2)) - (((g 42) 2) * ((g 43) 1))))), (4, .int 2), (0, .ref (ad 38))]) C 2 dX1_crossSum_48 rfl (by decide) (by decide) rfl ?_
  refine fj_goto (tgt := 4) C dX1_crossSum_51 (by decide) ?_
  refine fj_iload_n C 0 dX1_crossSum_4 rfl rfl ?_
  refine fj_iconst (v := 4) C dX1_crossSum_5 (by decide) ?_
  refine fj_icmp_ge (tgt := 54) C dX1_crossSum_6 (by decide) (fun h => absurd h (by decide)) (fun _ => ?_)
  refine fj_iload_n C 0 dX1_crossSum_9 rfl rfl ?_
  refine fj_iconst (v := 1) C dX1_crossSum_10 (by decide) ?_
  refine fj_iadd C dX1_crossSum_11 ?_
  refine fj_at (y := 3) (by decide) ?_
  refine fj_iconst (v := 4) C dX1_crossSum_12 (by decide) ?_
  refine fj_irem C dX1_crossSum_13 (by decide) ?_
  refine fj_at (y := 3) (by decide) ?_
  refine fj_istore (lv' := [(4, .int 3), (3, .int 2), (1, .long ((0 + ((((g 42) 0) * ((g 43) 1)) - (((g 42) 1) * ((g 43) 0)))) + ((((g 42) 1) * ((g 43) 2)) - (((g 42) 2) * ((g 43) 1))))), (0, .ref (ad 38))]) C dX1_crossSum_14 (by decide) rfl ?_
  refine fj_lload_n C 2 dX1_crossSum_16 rfl rfl ?_
  refine fj_aload_n C 3 dX1_crossSum_17 rfl rfl ?_
  refine fj_get (Cn := RX1) (T := TX1) (N := 7) (ci := 1) (v := .ref (ad 42)) C iX1 38 (fx_at38 _ _ _ _ _) rfl 5 (by decide) kX1_20 rfl dX1_crossSum_18 ?_
  refine fj_iload_n C 1 dX1_crossSum_21 rfl rfl ?_
  refine fj_lald (f := (g 42)) C 42 (fx_at42 _ _ _ _ _) (vp_in_iff.mpr ⟨by decide, by decide⟩) dX1_crossSum_22 ?_
  refine fj_aload_n C 3 dX1_crossSum_23 rfl rfl ?_
  refine fj_get (Cn := RX1) (T := TX1) (N := 7) (ci := 1) (v := .ref (ad 43)) C iX1 38 (fx_at38 _ _ _ _ _) rfl 6 (by decide) kX1_24 rfl dX1_crossSum_24 ?_
  refine fj_iload C 0 dX1_crossSum_27 rfl ?_
  refine fj_lald (f := (g 43)) C 43 (fx_at43 _ _ _ _ _) (vp_in_iff.mpr ⟨by decide, by decide⟩) dX1_crossSum_29 ?_
  refine fj_lmul C dX1_crossSum_30 ?_
  refine fj_aload_n C 3 dX1_crossSum_31 rfl rfl ?_
  refine fj_get (Cn := RX1) (T := TX1) (N := 7) (ci := 1) (v := .ref (ad 42)) C iX1 38 (fx_at38 _ _ _ _ _) rfl 5 (by decide) kX1_20 rfl dX1_crossSum_32 ?_
  refine fj_iload C 0 dX1_crossSum_35 rfl ?_
  refine fj_lald (f := (g 42)) C 42 (fx_at42 _ _ _ _ _) (vp_in_iff.mpr ⟨by decide, by decide⟩) dX1_crossSum_37 ?_
  refine fj_aload_n C 3 dX1_crossSum_38 rfl rfl ?_
  refine fj_get (Cn := RX1) (T := TX1) (N := 7) (ci := 1) (v := .ref (ad 43)) C iX1 38 (fx_at38 _ _ _ _ _) rfl 6 (by decide) kX1_24 rfl dX1_crossSum_39 ?_
  refine fj_iload_n C 1 dX1_crossSum_42 rfl rfl ?_
  refine fj_lald (f := (g 43)) C 43 (fx_at43 _ _ _ _ _) (vp_in_iff.mpr ⟨by decide, by decide⟩) dX1_crossSum_43 ?_
  refine fj_lmul C dX1_crossSum_44 ?_
  refine fj_lsub C dX1_crossSum_45 ?_
  refine fj_ladd C dX1_crossSum_46 ?_
  refine fj_lstore_n (lv' := [(1, .long (((0 + ((((g 42) 0) * ((g 43) 1)) - (((g 42) 1) * ((g 43) 0)))) + ((((g 42) 1) * ((g 43) 2)) - (((g 42) 2) * ((g 43) 1)))) + ((((g 42) 2) * ((g 43) 3)) - (((g 42) 3) * ((g 43) 2))))), (4, .int 3), (3, .int 2), (0, .ref (ad 38))]) C dX1_crossSum_47 rfl (by decide) rfl ?_
  refine fj_iinc (v := 3) (lv' := [(3, .int 3), (1, .long (((0 + ((((g 42) 0) * ((g 43) 1)) - (((g 42) 1) * ((g 43) 0)))) + ((((g 42) 1) * ((g 43) 2)) - (((g 42) 2) * ((g 43) 1)))) + ((((g 42) 2) * ((g 43) 3)) - (((g 42) 3) * ((g 43) 2))))), (4, .int 3), (0, .ref (ad 38))]) C 2 dX1_crossSum_48 rfl (by decide) (by decide) rfl ?_
  refine fj_goto (tgt := 4) C dX1_crossSum_51 (by decide) ?_
  refine fj_iload_n C 0 dX1_crossSum_4 rfl rfl ?_
  refine fj_iconst (v := 4) C dX1_crossSum_5 (by decide) ?_
  refine fj_icmp_ge (tgt := 54) C dX1_crossSum_6 (by decide) (fun h => absurd h (by decide)) (fun _ => ?_)
  refine fj_iload_n C 0 dX1_crossSum_9 rfl rfl ?_
  refine fj_iconst (v := 1) C dX1_crossSum_10 (by decide) ?_
  refine fj_iadd C dX1_crossSum_11 ?_
  refine fj_at (y := 4) (by decide) ?_
  refine fj_iconst (v := 4) C dX1_crossSum_12 (by decide) ?_
  refine fj_irem C dX1_crossSum_13 (by decide) ?_
  refine fj_at (y := 0) (by decide) ?_
  refine fj_istore (lv' := [(4, .int 0), (3, .int 3), (1, .long (((0 + ((((g 42) 0) * ((g 43) 1)) - (((g 42) 1) * ((g 43) 0)))) + ((((g 42) 1) * ((g 43) 2)) - (((g 42) 2) * ((g 43) 1)))) + ((((g 42) 2) * ((g 43) 3)) - (((g 42) 3) * ((g 43) 2))))), (0, .ref (ad 38))]) C dX1_crossSum_14 (by decide) rfl ?_
  refine fj_lload_n C 2 dX1_crossSum_16 rfl rfl ?_
  refine fj_aload_n C 3 dX1_crossSum_17 rfl rfl ?_
  refine fj_get (Cn := RX1) (T := TX1) (N := 7) (ci := 1) (v := .ref (ad 42)) C iX1 38 (fx_at38 _ _ _ _ _) rfl 5 (by decide) kX1_20 rfl dX1_crossSum_18 ?_
  refine fj_iload_n C 1 dX1_crossSum_21 rfl rfl ?_
  refine fj_lald (f := (g 42)) C 42 (fx_at42 _ _ _ _ _) (vp_in_iff.mpr ⟨by decide, by decide⟩) dX1_crossSum_22 ?_
  refine fj_aload_n C 3 dX1_crossSum_23 rfl rfl ?_
  refine fj_get (Cn := RX1) (T := TX1) (N := 7) (ci := 1) (v := .ref (ad 43)) C iX1 38 (fx_at38 _ _ _ _ _) rfl 6 (by decide) kX1_24 rfl dX1_crossSum_24 ?_
  refine fj_iload C 0 dX1_crossSum_27 rfl ?_
  refine fj_lald (f := (g 43)) C 43 (fx_at43 _ _ _ _ _) (vp_in_iff.mpr ⟨by decide, by decide⟩) dX1_crossSum_29 ?_
  refine fj_lmul C dX1_crossSum_30 ?_
  refine fj_aload_n C 3 dX1_crossSum_31 rfl rfl ?_
  refine fj_get (Cn := RX1) (T := TX1) (N := 7) (ci := 1) (v := .ref (ad 42)) C iX1 38 (fx_at38 _ _ _ _ _) rfl 5 (by decide) kX1_20 rfl dX1_crossSum_32 ?_
  refine fj_iload C 0 dX1_crossSum_35 rfl ?_
  refine fj_lald (f := (g 42)) C 42 (fx_at42 _ _ _ _ _) (vp_in_iff.mpr ⟨by decide, by decide⟩) dX1_crossSum_37 ?_
  refine fj_aload_n C 3 dX1_crossSum_38 rfl rfl ?_
  refine fj_get (Cn := RX1) (T := TX1) (N := 7) (ci := 1) (v := .ref (ad 43)) C iX1 38 (fx_at38 _ _ _ _ _) rfl 6 (by decide) kX1_24 rfl dX1_crossSum_39 ?_
  refine fj_iload_n C 1 dX1_crossSum_42 rfl rfl ?_
  refine fj_lald (f := (g 43)) C 43 (fx_at43 _ _ _ _ _) (vp_in_iff.mpr ⟨by decide, by decide⟩) dX1_crossSum_43 ?_
  refine fj_lmul C dX1_crossSum_44 ?_
  refine fj_lsub C dX1_crossSum_45 ?_
  refine fj_ladd C dX1_crossSum_46 ?_
  refine fj_lstore_n (lv' := [(1, .long ((((0 + ((((g 42) 0) * ((g 43) 1)) - (((g 42) 1) * ((g 43) 0)))) + ((((g 42) 1) * ((g 43) 2)) - (((g 42) 2) * ((g 43) 1)))) + ((((g 42) 2) * ((g 43) 3)) - (((g 42) 3) * ((g 43) 2)))) + ((((g 42) 3) * ((g 43) 0)) - (((g 42) 0) * ((g 43) 3))))), (4, .int 0), (3, .int 3), (0, .ref (ad 38))]) C dX1_crossSum_47 rfl (by decide) rfl ?_
  refine fj_iinc (v := 4) (lv' := [(3, .int 4), (1, .long ((((0 + ((((g 42) 0) * ((g 43) 1)) - (((g 42) 1) * ((g 43) 0)))) + ((((g 42) 1) * ((g 43) 2)) - (((g 42) 2) * ((g 43) 1)))) + ((((g 42) 2) * ((g 43) 3)) - (((g 42) 3) * ((g 43) 2)))) + ((((g 42) 3) * ((g 43) 0)) - (((g 42) 0) * ((g 43) 3))))), (4, .int 0), (0, .ref (ad 38))]) C 2 dX1_crossSum_48 rfl (by decide) (by decide) rfl ?_
  refine fj_goto (tgt := 4) C dX1_crossSum_51 (by decide) ?_
  refine fj_iload_n C 0 dX1_crossSum_4 rfl rfl ?_
  refine fj_iconst (v := 4) C dX1_crossSum_5 (by decide) ?_
  refine fj_icmp_ge (tgt := 54) C dX1_crossSum_6 (by decide) (fun _ => ?_) (fun h => absurd (by decide) h)
  refine fj_lload_n C 1 dX1_crossSum_54 rfl rfl ?_
  exact fj_lret C E9 dX1_crossSum_55 rfl

set_option maxHeartbeats 4000000 in
set_option maxRecDepth 100000 in
theorem c_X5_area (l : Launch) (D : va_G) (ty : Nat → ClassId) (t0 : Nat) (ad : Nat → Nat) (q : Int32)  : fc l yX5_area wsX5_area (fj_rm 2 48 0 0) D ty t0 [.ref (ad 0), .int q] (fx_w ad ty fx_a0 fx_g0 fx_n0) 0 0 (fun v w => v = some (.long (if (0 ≤ q ∧ q ≤ 63) then fx_ar (q - q / 8 * 8) (q / 8) else -1001))) := by
  refine fc_start (own := RX5) (cc := cX5_area) (maxL := 2) (ret := (some .long)) (by decide) rfl (Nat.le_of_ble_eq_true rfl) rfl ?_
  intro p e s m args below meth c Q A C hmn E9
  have iX5 : ∀ w ∈ u_ws RX5 TX5 5, w ∈ wsX5_area := fun _ h => List.mem_cons_of_mem _ (List.mem_append_left _ (List.mem_append_right _ h))
  have kX5_42 : Cond.fieldLink RX5 42 "FreeLand" "corners" "LFreeLand$Corners;" ∈ wsX5_area := (by decide +kernel)
  have kN195 : (RX5, 195, yX1_findAround) ∈ nw_M := (by decide +kernel)
  have kIX1 : Cond.initialized RX1 ∈ wsX5_area := (by decide +kernel)
  have kVX1_findAround : Cond.instanceMethod yX1_findAround ∈ wsX5_area := (by decide +kernel)
  have kSX1_findAround : Cond.selects RX1 yX1_findAround yX1_findAround ∈ wsX5_area := (by decide +kernel)
  have kN200 : (RX5, 200, yX1_crossSum) ∈ nw_M := (by decide +kernel)
  have kVX1_crossSum : Cond.instanceMethod yX1_crossSum ∈ wsX5_area := (by decide +kernel)
  have kSX1_crossSum : Cond.selects RX1 yX1_crossSum yX1_crossSum ∈ wsX5_area := (by decide +kernel)
  have kL193 : Cond.constantLong RX5 193 (-1001) ∈ wsX5_area := (by decide +kernel)
  refine fj_lv (lv' := [(0, .ref (ad 0)), (1, .int q)]) [0, 1] rfl ?_
  refine fj_iload_n C 1 dX5_area_0 rfl rfl ?_
  refine fj_callSw (As := [.int q]) (rest := []) C (c_X5_isQuarter l D ty t0 (fx_w ad ty fx_a0 fx_g0 fx_n0) q) (va_cwS 1 C.2.2.2.2.1 gX5_area_X5_isQuarter rfl rfl rfl (by decide +kernel) ⟨Nat.le_of_ble_eq_true rfl, Nat.le_of_ble_eq_true rfl⟩)  rfl (Nat.le_of_ble_eq_true rfl) dX5_area_1 ⟨Nat.zero_le _, Nat.zero_le _⟩ (fun v9 w9 hp9 => ?_)
  obtain ⟨rfl, rfl⟩ := hp9
  refine fj_st (st' := .int (if (0 ≤ q ∧ q ≤ 63) then 1 else 0) :: []) rfl ?_
  refine fj_ifb_ne (tgt := 11) C dX5_area_4 (by decide) (fun h4 => ?_) (fun h4 => ?_)
  · refine fj_aload_n C 0 dX5_area_11 rfl rfl ?_
    refine fj_get (Cn := RX5) (T := TX5) (N := 5) (ci := 5) (v := .ref (ad 38)) C iX5 0 (fx_at0 _ _ _ _ _) rfl 4 (by decide) kX5_42 rfl dX5_area_12 ?_
    refine fj_iload_n C 1 dX5_area_15 rfl rfl ?_
    refine fj_bipush (v := 8) C dX5_area_16 (by decide) ?_
    refine fj_irem C dX5_area_18 (by decide) ?_
    refine fj_iload_n C 1 dX5_area_19 rfl rfl ?_
    refine fj_bipush (v := 8) C dX5_area_20 (by decide) ?_
    refine fj_idiv C dX5_area_22 (by decide) ?_
    refine fj_callVNw (As := [.int (q - q / 8 * 8), .int (q / 8)]) (rest := []) C (c_X1_findAround l D ty t0 ad (q - q / 8 * 8) (q / 8) ((fx_q8 h4).1) ((fx_q8 h4).2)) ⟨va_cnB 2 C.2.2.2.2.1 gX5_area_X1_findAround_n195 rfl rfl rfl (C.2.2.2.2.2.2.2.1.1 _ kN195) (C.2.2.2.2.1 _ kIX1) (by decide +kernel) ⟨Nat.le_of_ble_eq_true rfl, Nat.le_of_ble_eq_true rfl⟩, C.2.2.2.2.1 _ kVX1_findAround, C.2.2.2.2.1 _ kSX1_findAround⟩ ⟨38, 1, _, _, fx_at38 _ _ _ _ _, rfl, rfl⟩ rfl (Nat.le_of_ble_eq_true rfl) dX5_area_23 ⟨Nat.zero_le _, Nat.zero_le _⟩ (fun v9 w9 hp9 => ?_)
    obtain ⟨rfl, rfl⟩ := hp9
    refine fj_st (st' := .int 1 :: []) rfl ?_
    refine fj_if_ne (tgt := 33) C dX5_area_26 (by decide) (fun _ => ?_) (fun h => absurd (by decide) h)
    refine fj_aload_n C 0 dX5_area_33 rfl rfl ?_
    refine fj_get (Cn := RX5) (T := TX5) (N := 5) (ci := 5) (v := .ref (ad 38)) C iX5 0 (fx_at0 _ _ _ _ _) rfl 4 (by decide) kX5_42 rfl dX5_area_34 ?_
    refine fj_callVNw (As := []) (rest := []) C (c_X1_crossSum l D ty t0 ad (va_up (va_up fx_g0 42 (vp_updL (vp_updL (vp_updL (vp_updL (fx_g0 42) 0 (840 * fx_a0 40 (9 * ((q / 8) + 0) + ((q - q / 8 * 8) + 0)).toNatClampNeg).toInt64) 1 (840 * fx_a0 40 (9 * ((q / 8) + 0) + ((q - q / 8 * 8) + 1)).toNatClampNeg).toInt64) 2 (840 * fx_a0 40 (9 * ((q / 8) + 1) + ((q - q / 8 * 8) + 1)).toNatClampNeg).toInt64) 3 (840 * fx_a0 40 (9 * ((q / 8) + 1) + ((q - q / 8 * 8) + 0)).toNatClampNeg).toInt64)) 43 (vp_updL (vp_updL (vp_updL (vp_updL (fx_g0 43) 0 (840 * fx_a0 41 (9 * ((q / 8) + 0) + ((q - q / 8 * 8) + 0)).toNatClampNeg).toInt64) 1 (840 * fx_a0 41 (9 * ((q / 8) + 0) + ((q - q / 8 * 8) + 1)).toNatClampNeg).toInt64) 2 (840 * fx_a0 41 (9 * ((q / 8) + 1) + ((q - q / 8 * 8) + 1)).toNatClampNeg).toInt64) 3 (840 * fx_a0 41 (9 * ((q / 8) + 1) + ((q - q / 8 * 8) + 0)).toNatClampNeg).toInt64)) (va_up (va_up fx_n0 8 (840 * fx_a0 40 (9 * ((q / 8) + 1) + ((q - q / 8 * 8) + 0)).toNatClampNeg)) 9 (840 * fx_a0 41 (9 * ((q / 8) + 1) + ((q - q / 8 * 8) + 0)).toNatClampNeg))) ⟨va_cnB 0 C.2.2.2.2.1 gX5_area_X1_crossSum_n200 rfl rfl rfl (C.2.2.2.2.2.2.2.1.1 _ kN200) (C.2.2.2.2.1 _ kIX1) (by decide +kernel) ⟨Nat.le_of_ble_eq_true rfl, Nat.le_of_ble_eq_true rfl⟩, C.2.2.2.2.1 _ kVX1_crossSum, C.2.2.2.2.1 _ kSX1_crossSum⟩ ⟨38, 1, _, _, fx_at38 _ _ _ _ _, rfl, rfl⟩ rfl (Nat.le_of_ble_eq_true rfl) dX5_area_37 ⟨Nat.zero_le _, Nat.zero_le _⟩ (fun v9 w9 hp9 => ?_)
    obtain rfl := hp9
    refine fj_st (st' := .long (fx_cs (vp_updL (vp_updL (vp_updL (vp_updL (fx_g0 42) 0 (840 * fx_a0 40 (9 * ((q / 8) + 0) + ((q - q / 8 * 8) + 0)).toNatClampNeg).toInt64) 1 (840 * fx_a0 40 (9 * ((q / 8) + 0) + ((q - q / 8 * 8) + 1)).toNatClampNeg).toInt64) 2 (840 * fx_a0 40 (9 * ((q / 8) + 1) + ((q - q / 8 * 8) + 1)).toNatClampNeg).toInt64) 3 (840 * fx_a0 40 (9 * ((q / 8) + 1) + ((q - q / 8 * 8) + 0)).toNatClampNeg).toInt64) (vp_updL (vp_updL (vp_updL (vp_updL (fx_g0 43) 0 (840 * fx_a0 41 (9 * ((q / 8) + 0) + ((q - q / 8 * 8) + 0)).toNatClampNeg).toInt64) 1 (840 * fx_a0 41 (9 * ((q / 8) + 0) + ((q - q / 8 * 8) + 1)).toNatClampNeg).toInt64) 2 (840 * fx_a0 41 (9 * ((q / 8) + 1) + ((q - q / 8 * 8) + 1)).toNatClampNeg).toInt64) 3 (840 * fx_a0 41 (9 * ((q / 8) + 1) + ((q - q / 8 * 8) + 0)).toNatClampNeg).toInt64)) :: []) rfl ?_
    exact fj_lret C E9 dX5_area_40 (by rw [if_pos h4]; rfl)
  · refine fj_ldc2 (v := (-1001)) C dX5_area_7 kL193 ?_
    exact fj_lret C E9 dX5_area_10 (by rw [if_neg h4])
