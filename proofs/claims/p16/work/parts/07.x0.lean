/-- what holds of the reference's state between calls -/
def YI (P S T B : Nat) (a : Nat → Nat → Int32) (n : Nat → Int32) : Prop :=
  n 0 = nI P ∧ P ≤ 12 ∧ n 2 = nI T ∧ T ≤ 120 ∧ n 4 = nI S ∧ S ≤ 8 ∧ n 5 = nI B ∧ B ≤ 120 ∧ (∀ l, l < B → ∃ p, p < P ∧ a 10 l = nI p) ∧ (∀ l, l < B → ∃ z, z < 7 ∧ a 9 l = nI z) ∧ (∀ l, l < B → a 9 l ≠ nI 6 → ∃ q, q < 64 ∧ a 11 l = nI q) ∧ (∀ l, l < B → a 9 l = nI 6 → ∃ p, p < P ∧ a 12 l = nI p) ∧ (∀ l, l < B → ∃ d, d ≤ 20000 ∧ a 8 l = nI d) ∧ (∀ l, l < B → a 9 l = nI 1 → ∃ d, d ≤ 5000 ∧ a 12 l = nI d)
def byM (u : Int64) (j : Nat) : Int32 := ((u >>> ((nI (8 * j)).toInt64 &&& 63)) &&& 255).toInt32
def apM (f : Nat → Int32) (T : Nat) (u : Int64) (k : Nat) : Nat → Nat → Int32
  | 0 => f
  | d + 1 => upd (apM f T u k d) (T + d) (byM u (k - (d + 1)))
theorem apM_s {f : Nat → Int32} {T : Nat} {u : Int64} {k d r : Nat} (h : k - (d + 1) = r) : apM f T u k (d + 1) = upd (apM f T u k d) (T + d) (byM u r) := by rw [← h]; rfl
/-- one law before another -/
abbrev IBF (a : Nat → Nat → Int32) (i j : Nat) : Prop := a 4 i < a 4 j ∨ (a 4 i = a 4 j ∧ i < j)
def lfo (a : Nat → Nat → Int32) (x : Int32) : Nat → Int32
  | 0 => -1
  | k + 1 => if a 4 k ≤ x ∧ (lfo a x k < 0 ∨ IBF a (lfo a x k).toNatClampNeg k) then nI k else lfo a x k
def sbo (a : Nat → Nat → Int32) (j q : Nat) : Nat → Int32
  | 0 => -1
  | k + 1 => if IBF a k j ∧ 0 ≤ a 5 (9 * k + q) ∧ (sbo a j q k < 0 ∨ IBF a (sbo a j q k).toNatClampNeg k) then nI k else sbo a j q k
/-- by which law a word is set -/
def sby (a : Nat → Nat → Int32) (S j q : Nat) : Int32 := if 0 ≤ a 5 (9 * j + q) then nI j else sbo a j q S
def sbw (a : Nat → Nat → Int32) (S : Nat) (x : Int32) (q : Nat) : Int32 := if x < 0 then a 6 q else if sby a S x.toNatClampNeg q < 0 then a 6 q else a 5 (9 * (sby a S x.toNatClampNeg q).toNatClampNeg + q)
abbrev YL (S : Nat) (x : Int32) : Prop := x = -1 ∨ ∃ j, j < S ∧ x = nI j
theorem YL_neg {S : Nat} {x : Int32} (h : YL S x) (hS : S < 2 ^ 30) (h0 : 0 ≤ x) : ∃ j, j < S ∧ x = nI j := h.resolve_left fun e => by rw [e] at h0; exact absurd h0 (by decide)
theorem nI_nneg {k : Nat} (h : k < 2 ^ 31) : ¬ nI k < 0 := fun z => by
  have := Int32.lt_iff_toInt_lt.mp z
  rw [nI_toInt h] at this
  have c : (0 : Int32).toInt = 0 := by decide
  omega
set_option maxHeartbeats 4000000 in
set_option maxRecDepth 100000 in
theorem d_X6_in (l : Launch) (D : va_G) (ty : Nat → ClassId) (t0 : Nat → Nat) (W9 : va_W)  (x : Int64) (lo : Int64) (hi : Int64)  : fc l yX6_in wsX6_in (fj_rm 0 0 0 0) D ty t0 [.long x, .long lo, .long hi] W9 0 0 (fun v w => v = some (.int (if (lo ≤ x ∧ x ≤ hi) then 1 else 0)) ∧ w = W9) := by
  refine fc_start (own := RX6) (cc := cX6_in) (maxL := 6) (ret := (some .boolean)) (by decide) rfl (Nat.le_of_ble_eq_true rfl) rfl ?_
  intro p e s m args below meth c Q A C hmn E9
  refine fj_lv (lv' := [(0, .long x), (2, .long lo), (4, .long hi)]) [0, 1, 2] rfl ?_
  refine fj_lload_n C 0 dX6_in_0 rfl rfl ?_
  refine fj_lload_n C 1 dX6_in_1 rfl rfl ?_
  refine fj_lcmp C dX6_in_2 ?_
  refine fj_if_lt (tgt := 17) C dX6_in_3 (by decide) (fun h3 => ?_) (fun h3 => ?_)
  · have t3 := (lg_cmp_lt _ _).mp h3
    refine fj_iconst (v := 0) C dX6_in_17 (by decide) ?_
    exact fj_zret C E9 rfl dX6_in_18 ⟨by (repeat' split) <;> first | rfl | (exfalso; grind) | grind, rfl⟩
  · have t3 : ¬ x < lo := fun q => h3 ((lg_cmp_lt _ _).mpr q)
    refine fj_lload_n C 0 dX6_in_6 rfl rfl ?_
    refine fj_lload C 2 dX6_in_7 rfl ?_
    refine fj_lcmp C dX6_in_9 ?_
    refine fj_if_gt (tgt := 17) C dX6_in_10 (by decide) (fun h10 => ?_) (fun h10 => ?_)
    · have t10 := (lg_cmp_gt _ _).mp h10
      refine fj_iconst (v := 0) C dX6_in_17 (by decide) ?_
      exact fj_zret C E9 rfl dX6_in_18 ⟨by (repeat' split) <;> first | rfl | (exfalso; grind) | grind, rfl⟩
    · have t10 : ¬ hi < x := fun q => h10 ((lg_cmp_gt _ _).mpr q)
      refine fj_iconst (v := 1) C dX6_in_13 (by decide) ?_
      refine fj_goto (tgt := 18) C dX6_in_14 (by decide) ?_
      exact fj_zret C E9 rfl dX6_in_18 ⟨by (repeat' split) <;> first | rfl | (exfalso; grind) | grind, rfl⟩

/-- of ints -/
theorem d_X6_inI (l : Launch) (D : va_G) (ty : Nat → ClassId) (t0 : Nat → Nat) (W9 : va_W) (x lo hi : Int32) (lo9 hi9 : Int64) (h1 : lo9 = lo.toInt64) (h2 : hi9 = hi.toInt64) : fc l yX6_in wsX6_in (fj_rm 0 0 0 0) D ty t0 [.long x.toInt64, .long lo9, .long hi9] W9 0 0 (fun v w => v = some (.int (if (lo ≤ x ∧ x ≤ hi) then 1 else 0)) ∧ w = W9) := by
  subst h1 h2
  have h := d_X6_in l D ty t0 W9 x.toInt64 lo.toInt64 hi.toInt64
  have e : (if (lo.toInt64 ≤ x.toInt64 ∧ x.toInt64 ≤ hi.toInt64) then (1 : Int32) else 0) = if (lo ≤ x ∧ x ≤ hi) then 1 else 0 := by
    simp only [Int64.le_iff_toInt_le, Int32.le_iff_toInt_le, Int32.toInt_toInt64]
  rw [e] at h
  exact h

set_option maxHeartbeats 4000000 in
set_option maxRecDepth 100000 in
theorem d_X6_isDay (l : Launch) (D : va_G) (ty : Nat → ClassId) (t0 : Nat → Nat) (W9 : va_W)  (x : Int32)  : fc l yX6_isDay wsX6_isDay (fj_rm 1 25 0 0) D ty t0 [.int x] W9 0 0 (fun v w => v = some (.int (if (0 ≤ x ∧ x ≤ 20000) then 1 else 0)) ∧ w = W9) := by
  refine fc_start (own := RX6) (cc := cX6_isDay) (maxL := 1) (ret := (some .boolean)) (by decide) rfl (Nat.le_of_ble_eq_true rfl) rfl ?_
  intro p e s m args below meth c Q A C hmn E9
  have kL128 : Cond.constantLong RX6 128 (20000) ∈ wsX6_isDay := ptX6_isDay_woX6_isDay _ (by decide +kernel)
  refine fj_lv (lv' := [(0, .int x)]) [0] rfl ?_
  refine fj_iload_n C 0 dX6_isDay_0 rfl rfl ?_
  refine fj_i2l C dX6_isDay_1 ?_
  refine fj_lconst (v := 0) C dX6_isDay_2 (by decide) ?_
  refine fj_ldc2 (v := 20000) C dX6_isDay_3 kL128 ?_
  refine fj_callSw (As := [.long x.toInt64, .long 0, .long 20000]) (rest := []) C (d_X6_inI l D ty t0 W9 x 0 20000 0 20000 (by decide) (by decide)) (va_cwS 3 C.2.2.2.2.1 gX6_isDay_X6_in rfl rfl rfl (by decide +kernel) ⟨Nat.le_of_ble_eq_true rfl, Nat.le_of_ble_eq_true rfl⟩)  rfl (Nat.le_of_ble_eq_true rfl) dX6_isDay_6 ⟨Nat.zero_le _, Nat.zero_le _⟩ (fun v9 w9 hp9 => ?_)
  obtain ⟨rfl, hw9⟩ := hp9
  rw [hw9]
  refine fj_st (st' := .int (if (0 ≤ x ∧ x ≤ 20000) then 1 else 0) :: []) rfl ?_
  exact fj_zret C E9 (by split <;> rfl) dX6_isDay_9 ⟨rfl, rfl⟩

set_option maxHeartbeats 4000000 in
set_option maxRecDepth 100000 in
theorem d_X6_isQuarter (l : Launch) (D : va_G) (ty : Nat → ClassId) (t0 : Nat → Nat) (W9 : va_W)  (x : Int32)  : fc l yX6_isQuarter wsX6_isQuarter (fj_rm 1 25 0 0) D ty t0 [.int x] W9 0 0 (fun v w => v = some (.int (if (0 ≤ x ∧ x ≤ 63) then 1 else 0)) ∧ w = W9) := by
  refine fc_start (own := RX6) (cc := cX6_isQuarter) (maxL := 1) (ret := (some .boolean)) (by decide) rfl (Nat.le_of_ble_eq_true rfl) rfl ?_
  intro p e s m args below meth c Q A C hmn E9
  have kL137 : Cond.constantLong RX6 137 (63) ∈ wsX6_isQuarter := ptX6_isQuarter_woX6_isQuarter _ (by decide +kernel)
  refine fj_lv (lv' := [(0, .int x)]) [0] rfl ?_
  refine fj_iload_n C 0 dX6_isQuarter_0 rfl rfl ?_
  refine fj_i2l C dX6_isQuarter_1 ?_
  refine fj_lconst (v := 0) C dX6_isQuarter_2 (by decide) ?_
  refine fj_ldc2 (v := 63) C dX6_isQuarter_3 kL137 ?_
  refine fj_callSw (As := [.long x.toInt64, .long 0, .long 63]) (rest := []) C (d_X6_inI l D ty t0 W9 x 0 63 0 63 (by decide) (by decide)) (va_cwS 3 C.2.2.2.2.1 gX6_isQuarter_X6_in rfl rfl rfl (by decide +kernel) ⟨Nat.le_of_ble_eq_true rfl, Nat.le_of_ble_eq_true rfl⟩)  rfl (Nat.le_of_ble_eq_true rfl) dX6_isQuarter_6 ⟨Nat.zero_le _, Nat.zero_le _⟩ (fun v9 w9 hp9 => ?_)
  obtain ⟨rfl, hw9⟩ := hp9
  rw [hw9]
  refine fj_st (st' := .int (if (0 ≤ x ∧ x ≤ 63) then 1 else 0) :: []) rfl ?_
  exact fj_zret C E9 (by split <;> rfl) dX6_isQuarter_9 ⟨rfl, rfl⟩

set_option maxHeartbeats 4000000 in
set_option maxRecDepth 100000 in
theorem d_X6_isCorner (l : Launch) (D : va_G) (ty : Nat → ClassId) (t0 : Nat → Nat) (W9 : va_W)  (x : Int32) (y : Int32)  : fc l yX6_isCorner wsX6_isCorner (fj_rm 1 25 0 0) D ty t0 [.int x, .int y] W9 0 0 (fun v w => v = some (.int (if (0 ≤ x ∧ x ≤ 8) ∧ (0 ≤ y ∧ y ≤ 8) then 1 else 0)) ∧ w = W9) := by
  refine fc_start (own := RX6) (cc := cX6_isCorner) (maxL := 2) (ret := (some .boolean)) (by decide) rfl (Nat.le_of_ble_eq_true rfl) rfl ?_
  intro p e s m args below meth c Q A C hmn E9
  have kL143 : Cond.constantLong RX6 143 (8) ∈ wsX6_isCorner := ptX6_isCorner_woX6_isCorner _ (by decide +kernel)
  refine fj_lv (lv' := [(0, .int x), (1, .int y)]) [0, 1] rfl ?_
  refine fj_iload_n C 0 dX6_isCorner_0 rfl rfl ?_
  refine fj_i2l C dX6_isCorner_1 ?_
  refine fj_lconst (v := 0) C dX6_isCorner_2 (by decide) ?_
  refine fj_ldc2 (v := 8) C dX6_isCorner_3 kL143 ?_
  refine fj_callSw (As := [.long x.toInt64, .long 0, .long 8]) (rest := []) C (d_X6_inI l D ty t0 W9 x 0 8 0 8 (by decide) (by decide)) (va_cwS 3 C.2.2.2.2.1 gX6_isCorner_X6_in rfl rfl rfl (by decide +kernel) ⟨Nat.le_of_ble_eq_true rfl, Nat.le_of_ble_eq_true rfl⟩)  rfl (Nat.le_of_ble_eq_true rfl) dX6_isCorner_6 ⟨Nat.zero_le _, Nat.zero_le _⟩ (fun v9 w9 hp9 => ?_)
  obtain ⟨rfl, hw9⟩ := hp9
  rw [hw9]
  refine fj_st (st' := .int (if (0 ≤ x ∧ x ≤ 8) then 1 else 0) :: []) rfl ?_
  refine fj_ifb_eq (tgt := 28) C dX6_isCorner_9 (by decide) (fun h9 => ?_) (fun h9 => ?_)
  · refine fj_iconst (v := 0) C dX6_isCorner_28 (by decide) ?_
    exact fj_zret C E9 rfl dX6_isCorner_29 ⟨by (repeat' split) <;> first | rfl | (exfalso; grind) | grind, rfl⟩
  · refine fj_iload_n C 1 dX6_isCorner_12 rfl rfl ?_
    refine fj_i2l C dX6_isCorner_13 ?_
    refine fj_lconst (v := 0) C dX6_isCorner_14 (by decide) ?_
    refine fj_ldc2 (v := 8) C dX6_isCorner_15 kL143 ?_
    refine fj_callSw (As := [.long y.toInt64, .long 0, .long 8]) (rest := []) C (d_X6_inI l D ty t0 W9 y 0 8 0 8 (by decide) (by decide)) (va_cwS 3 C.2.2.2.2.1 gX6_isCorner_X6_in rfl rfl rfl (by decide +kernel) ⟨Nat.le_of_ble_eq_true rfl, Nat.le_of_ble_eq_true rfl⟩)  rfl (Nat.le_of_ble_eq_true rfl) dX6_isCorner_18 ⟨Nat.zero_le _, Nat.zero_le _⟩ (fun v9 w9 hp9 => ?_)
    obtain ⟨rfl, hw9⟩ := hp9
    rw [hw9]
    refine fj_st (st' := .int (if (0 ≤ y ∧ y ≤ 8) then 1 else 0) :: []) rfl ?_
    refine fj_ifb_eq (tgt := 28) C dX6_isCorner_21 (by decide) (fun h21 => ?_) (fun h21 => ?_)
    · refine fj_iconst (v := 0) C dX6_isCorner_28 (by decide) ?_
      exact fj_zret C E9 rfl dX6_isCorner_29 ⟨by (repeat' split) <;> first | rfl | (exfalso; grind) | grind, rfl⟩
    · refine fj_iconst (v := 1) C dX6_isCorner_24 (by decide) ?_
      refine fj_goto (tgt := 29) C dX6_isCorner_25 (by decide) ?_
      exact fj_zret C E9 rfl dX6_isCorner_29 ⟨by (repeat' split) <;> first | rfl | (exfalso; grind) | grind, rfl⟩

set_option maxHeartbeats 4000000 in
set_option maxRecDepth 100000 in
theorem d_X6_isPerson (l : Launch) (D : va_G) (ty : Nat → ClassId) (t0 : Nat → Nat) (bd : Nat → Nat) (a : Nat → Nat → Int32) (g : Nat → Nat → Int64) (n : Nat → Int32) (P : Nat) (S : Nat) (T : Nat) (B : Nat) (I : YI P S T B a n) (x : Int32)  : fc l yX6_isPerson wsX6_isPerson (fj_rm 1 25 0 0) D ty t0 [.ref (bd 0), .int x] (fm_w bd ty a g n) 0 0 (fun v w => v = some (.int (if ib x P then 1 else 0)) ∧ w = fm_w bd ty a g n) := by
  refine fc_start (own := RX6) (cc := cX6_isPerson) (maxL := 2) (ret := (some .boolean)) (by decide) rfl (Nat.le_of_ble_eq_true rfl) rfl ?_
  intro p e s m args below meth c Q A C hmn E9
  obtain ⟨hn0, hP, hn2, hT, hn4, hS, hn5, hB, yWho, ySort, yQ, yN, yD, yL⟩ := id I
  have iX6 : ∀ w ∈ u_ws RX6 TX6 44, w ∈ wsX6_isPerson := ptX6_isPerson_wsX60
  have kX6_134 : Cond.fieldLink RX6 134 "FreeLandModel" "persons" "I" ∈ wsX6_isPerson := ptX6_isPerson_woX6_isPerson _ (by decide +kernel)
  refine fj_lv (lv' := [(0, .ref (bd 0)), (1, .int x)]) [0, 1] rfl ?_
  refine fj_iload_n C 1 dX6_isPerson_0 rfl rfl ?_
  refine fj_i2l C dX6_isPerson_1 ?_
  refine fj_lconst (v := 0) C dX6_isPerson_2 (by decide) ?_
  refine fj_aload_n C 0 dX6_isPerson_3 rfl rfl ?_
  refine fj_get (Cn := RX6) (T := TX6) (N := 44) (ci := 6) (v := .int (n 0)) C iX6 0 (fm_at0 _ _ _ _ _) rfl 0 (by decide) kX6_134 rfl dX6_isPerson_4 ?_
  refine fj_at (y := nI P) hn0 ?_
  refine fj_iconst (v := 1) C dX6_isPerson_7 (by decide) ?_
  refine fj_isub C dX6_isPerson_8 ?_
  refine fj_i2l C dX6_isPerson_9 ?_
  refine fj_callSw (As := [.long x.toInt64, .long 0, .long (((nI P) - 1).toInt64)]) (rest := []) C (d_X6_inI l D ty t0 (fm_w bd ty a g n) x 0 ((nI P) - 1) 0 (((nI P) - 1).toInt64) (by decide) rfl) (va_cwS 3 C.2.2.2.2.1 gX6_isPerson_X6_in rfl rfl rfl (by decide +kernel) ⟨Nat.le_of_ble_eq_true rfl, Nat.le_of_ble_eq_true rfl⟩)  rfl (Nat.le_of_ble_eq_true rfl) dX6_isPerson_10 ⟨Nat.zero_le _, Nat.zero_le _⟩ (fun v9 w9 hp9 => ?_)
  obtain ⟨rfl, rfl⟩ := hp9
  refine fj_st (st' := .int (if (0 ≤ x ∧ x ≤ ((nI P) - 1)) then 1 else 0) :: []) rfl ?_
  exact fj_zret C E9 (by split <;> rfl) dX6_isPerson_13 ⟨by simp only [ib_m1 (show P < 2 ^ 30 by omega)], rfl⟩

set_option maxHeartbeats 4000000 in
set_option maxRecDepth 100000 in
theorem d_X6_isLine (l : Launch) (D : va_G) (ty : Nat → ClassId) (t0 : Nat → Nat) (bd : Nat → Nat) (a : Nat → Nat → Int32) (g : Nat → Nat → Int64) (n : Nat → Int32) (P : Nat) (S : Nat) (T : Nat) (B : Nat) (I : YI P S T B a n) (x : Int32)  : fc l yX6_isLine wsX6_isLine (fj_rm 1 25 0 0) D ty t0 [.ref (bd 0), .int x] (fm_w bd ty a g n) 0 0 (fun v w => v = some (.int (if ib x B then 1 else 0)) ∧ w = fm_w bd ty a g n) := by
  refine fc_start (own := RX6) (cc := cX6_isLine) (maxL := 2) (ret := (some .boolean)) (by decide) rfl (Nat.le_of_ble_eq_true rfl) rfl ?_
  intro p e s m args below meth c Q A C hmn E9
  obtain ⟨hn0, hP, hn2, hT, hn4, hS, hn5, hB, yWho, ySort, yQ, yN, yD, yL⟩ := id I
  have iX6 : ∀ w ∈ u_ws RX6 TX6 44, w ∈ wsX6_isLine := ptX6_isLine_wsX60
  have kX6_197 : Cond.fieldLink RX6 197 "FreeLandModel" "lines" "I" ∈ wsX6_isLine := ptX6_isLine_woX6_isLine _ (by decide +kernel)
  refine fj_lv (lv' := [(0, .ref (bd 0)), (1, .int x)]) [0, 1] rfl ?_
  refine fj_iload_n C 1 dX6_isLine_0 rfl rfl ?_
  refine fj_i2l C dX6_isLine_1 ?_
  refine fj_lconst (v := 0) C dX6_isLine_2 (by decide) ?_
  refine fj_aload_n C 0 dX6_isLine_3 rfl rfl ?_
  refine fj_get (Cn := RX6) (T := TX6) (N := 44) (ci := 6) (v := .int (n 5)) C iX6 0 (fm_at0 _ _ _ _ _) rfl 12 (by decide) kX6_197 rfl dX6_isLine_4 ?_
  refine fj_at (y := nI B) hn5 ?_
  refine fj_iconst (v := 1) C dX6_isLine_7 (by decide) ?_
  refine fj_isub C dX6_isLine_8 ?_
  refine fj_i2l C dX6_isLine_9 ?_
  refine fj_callSw (As := [.long x.toInt64, .long 0, .long (((nI B) - 1).toInt64)]) (rest := []) C (d_X6_inI l D ty t0 (fm_w bd ty a g n) x 0 ((nI B) - 1) 0 (((nI B) - 1).toInt64) (by decide) rfl) (va_cwS 3 C.2.2.2.2.1 gX6_isLine_X6_in rfl rfl rfl (by decide +kernel) ⟨Nat.le_of_ble_eq_true rfl, Nat.le_of_ble_eq_true rfl⟩)  rfl (Nat.le_of_ble_eq_true rfl) dX6_isLine_10 ⟨Nat.zero_le _, Nat.zero_le _⟩ (fun v9 w9 hp9 => ?_)
  obtain ⟨rfl, rfl⟩ := hp9
  refine fj_st (st' := .int (if (0 ≤ x ∧ x ≤ ((nI B) - 1)) then 1 else 0) :: []) rfl ?_
  exact fj_zret C E9 (by split <;> rfl) dX6_isLine_13 ⟨by simp only [ib_m1 (show B < 2 ^ 30 by omega)], rfl⟩

set_option maxHeartbeats 4000000 in
set_option maxRecDepth 100000 in
theorem d_X6_isKnown (l : Launch) (D : va_G) (ty : Nat → ClassId) (t0 : Nat → Nat) (bd : Nat → Nat) (a : Nat → Nat → Int32) (g : Nat → Nat → Int64) (n : Nat → Int32) (P : Nat) (S : Nat) (T : Nat) (B : Nat) (I : YI P S T B a n) (x : Int32)  : fc l yX6_isKnown wsX6_isKnown (fj_rm 1 25 0 0) D ty t0 [.ref (bd 0), .int x] (fm_w bd ty a g n) 0 0 (fun v w => v = some (.int (if (-1 ≤ x ∧ x ≤ nI B) then 1 else 0)) ∧ w = fm_w bd ty a g n) := by
  refine fc_start (own := RX6) (cc := cX6_isKnown) (maxL := 2) (ret := (some .boolean)) (by decide) rfl (Nat.le_of_ble_eq_true rfl) rfl ?_
  intro p e s m args below meth c Q A C hmn E9
  obtain ⟨hn0, hP, hn2, hT, hn4, hS, hn5, hB, yWho, ySort, yQ, yN, yD, yL⟩ := id I
  have kL262 : Cond.constantLong RX6 262 (-1) ∈ wsX6_isKnown := ptX6_isKnown_woX6_isKnown _ (by decide +kernel)
  have iX6 : ∀ w ∈ u_ws RX6 TX6 44, w ∈ wsX6_isKnown := ptX6_isKnown_wsX60
  have kX6_197 : Cond.fieldLink RX6 197 "FreeLandModel" "lines" "I" ∈ wsX6_isKnown := ptX6_isKnown_woX6_isKnown _ (by decide +kernel)
  refine fj_lv (lv' := [(0, .ref (bd 0)), (1, .int x)]) [0, 1] rfl ?_
  refine fj_iload_n C 1 dX6_isKnown_0 rfl rfl ?_
  refine fj_i2l C dX6_isKnown_1 ?_
  refine fj_ldc2 (v := (-1)) C dX6_isKnown_2 kL262 ?_
  refine fj_aload_n C 0 dX6_isKnown_5 rfl rfl ?_
  refine fj_get (Cn := RX6) (T := TX6) (N := 44) (ci := 6) (v := .int (n 5)) C iX6 0 (fm_at0 _ _ _ _ _) rfl 12 (by decide) kX6_197 rfl dX6_isKnown_6 ?_
  refine fj_at (y := nI B) hn5 ?_
  refine fj_i2l C dX6_isKnown_9 ?_
  refine fj_callSw (As := [.long x.toInt64, .long (-1), .long ((nI B).toInt64)]) (rest := []) C (d_X6_inI l D ty t0 (fm_w bd ty a g n) x (-1) (nI B) (-1) ((nI B).toInt64) (by decide) rfl) (va_cwS 3 C.2.2.2.2.1 gX6_isKnown_X6_in rfl rfl rfl (by decide +kernel) ⟨Nat.le_of_ble_eq_true rfl, Nat.le_of_ble_eq_true rfl⟩)  rfl (Nat.le_of_ble_eq_true rfl) dX6_isKnown_10 ⟨Nat.zero_le _, Nat.zero_le _⟩ (fun v9 w9 hp9 => ?_)
  obtain ⟨rfl, rfl⟩ := hp9
  refine fj_st (st' := .int (if ((-1) ≤ x ∧ x ≤ (nI B)) then 1 else 0) :: []) rfl ?_
  exact fj_zret C E9 (by split <;> rfl) dX6_isKnown_13 ⟨rfl, rfl⟩

set_option maxHeartbeats 4000000 in
set_option maxRecDepth 100000 in
theorem d_X6_first (l : Launch) (D : va_G) (ty : Nat → ClassId) (t0 : Nat → Nat) (bd : Nat → Nat) (a : Nat → Nat → Int32) (g : Nat → Nat → Int64) (n : Nat → Int32) (P : Nat) (S : Nat) (T : Nat) (B : Nat) (I : YI P S T B a n) (x : Int32)  : fc l yX6_first wsX6_first (fj_rm 0 0 0 0) D ty t0 [.ref (bd 0), .int x] (fm_w bd ty a g n) 0 0 (fun v w => v = some (.int (if x < 0 then nI B else x)) ∧ w = fm_w bd ty a g n) := by
  refine fc_start (own := RX6) (cc := cX6_first) (maxL := 2) (ret := (some .int)) (by decide) rfl (Nat.le_of_ble_eq_true rfl) rfl ?_
  intro p e s m args below meth c Q A C hmn E9
  obtain ⟨hn0, hP, hn2, hT, hn4, hS, hn5, hB, yWho, ySort, yQ, yN, yD, yL⟩ := id I
  have iX6 : ∀ w ∈ u_ws RX6 TX6 44, w ∈ wsX6_first := ptX6_first_wsX60
  have kX6_197 : Cond.fieldLink RX6 197 "FreeLandModel" "lines" "I" ∈ wsX6_first := ptX6_first_woX6_first _ (by decide +kernel)
  refine fj_lv (lv' := [(0, .ref (bd 0)), (1, .int x)]) [0, 1] rfl ?_
  refine fj_iload_n C 1 dX6_first_0 rfl rfl ?_
  refine fj_if_ge (tgt := 11) C dX6_first_1 (by decide) (fun h1 => ?_) (fun h1 => ?_)
  · refine fj_iload_n C 1 dX6_first_11 rfl rfl ?_
    exact fj_iret C E9 dX6_first_12 ⟨by (repeat' split) <;> first | rfl | (exfalso; grind) | grind, rfl⟩
  · refine fj_aload_n C 0 dX6_first_4 rfl rfl ?_
    refine fj_get (Cn := RX6) (T := TX6) (N := 44) (ci := 6) (v := .int (n 5)) C iX6 0 (fm_at0 _ _ _ _ _) rfl 12 (by decide) kX6_197 rfl dX6_first_5 ?_
    refine fj_at (y := nI B) hn5 ?_
    refine fj_goto (tgt := 12) C dX6_first_8 (by decide) ?_
    exact fj_iret C E9 dX6_first_12 ⟨by (repeat' split) <;> first | rfl | (exfalso; grind) | grind, rfl⟩

set_option maxHeartbeats 4000000 in
set_option maxRecDepth 100000 in
theorem d_X6_isOdd (l : Launch) (D : va_G) (ty : Nat → ClassId) (t0 : Nat → Nat) (W9 : va_W)  (x : Int32) (k : Nat) (ek : x = nI k) (hk : k < 64) : fc l yX6_isOdd wsX6_isOdd (fj_rm 0 0 0 0) D ty t0 [.int x] W9 0 0 (fun v w => v = some (.int (if ((k % 8 / 2 + k / 8 / 2) % 2 = 1) then 1 else 0)) ∧ w = W9) := by
  subst ek
  refine fc_start (own := RX6) (cc := cX6_isOdd) (maxL := 1) (ret := (some .boolean)) (by decide) rfl (Nat.le_of_ble_eq_true rfl) rfl ?_
  intro p e s m args below meth c Q A C hmn E9
  refine fj_lv (lv' := [(0, .int (nI k))]) [0] rfl ?_
  refine fj_iload_n C 0 dX6_isOdd_0 rfl rfl ?_
  refine fj_bipush (v := 8) C dX6_isOdd_1 (by decide) ?_
  refine fj_irem C dX6_isOdd_3 (by decide) ?_
  refine fj_at (y := nI (k % 8)) (q_mod k hk) ?_
  refine fj_iconst (v := 2) C dX6_isOdd_4 (by decide) ?_
  refine fj_idiv C dX6_isOdd_5 (by decide) ?_
  refine fj_at (y := nI (k % 8 / 2)) (q_div2 _ (by omega)) ?_
  refine fj_iload_n C 0 dX6_isOdd_6 rfl rfl ?_
  refine fj_bipush (v := 8) C dX6_isOdd_7 (by decide) ?_
  refine fj_idiv C dX6_isOdd_9 (by decide) ?_
  refine fj_at (y := nI (k / 8)) (q_div k hk) ?_
  refine fj_iconst (v := 2) C dX6_isOdd_10 (by decide) ?_
  refine fj_idiv C dX6_isOdd_11 (by decide) ?_
  refine fj_at (y := nI (k / 8 / 2)) (q_div2 _ (by omega)) ?_
  refine fj_iadd C dX6_isOdd_12 ?_
  refine fj_at (y := nI (k % 8 / 2 + k / 8 / 2)) (nI_add _ _) ?_
  refine fj_iconst (v := 2) C dX6_isOdd_13 (by decide) ?_
  refine fj_irem C dX6_isOdd_14 (by decide) ?_
  refine fj_at (y := nI ((k % 8 / 2 + k / 8 / 2) % 2)) (q_mod2 _ (by omega)) ?_
  refine fj_iconst (v := 1) C dX6_isOdd_15 (by decide) ?_
  refine fj_icmp_ne (tgt := 23) C dX6_isOdd_16 (by decide) (fun h16 => ?_) (fun h16 => ?_)
  · refine fj_iconst (v := 0) C dX6_isOdd_23 (by decide) ?_
    exact fj_zret C E9 rfl dX6_isOdd_24 ⟨by first | (rw [if_neg (fun z => h16 (by rw [z]; rfl))]; done) | (rw [if_pos (fx_eqI (b := 1) h16 (by omega) (by decide))]; done), rfl⟩
  · refine fj_iconst (v := 1) C dX6_isOdd_19 (by decide) ?_
    refine fj_goto (tgt := 24) C dX6_isOdd_20 (by decide) ?_
    exact fj_zret C E9 rfl dX6_isOdd_24 ⟨by first | (rw [if_neg (fun z => h16 (by rw [z]; rfl))]; done) | (rw [if_pos (fx_eqI (b := 1) h16 (by omega) (by decide))]; done), rfl⟩

set_option maxHeartbeats 4000000 in
set_option maxRecDepth 100000 in
theorem d_X6_person (l : Launch) (D : va_G) (ty : Nat → ClassId) (t0 : Nat → Nat) (bd : Nat → Nat) (a : Nat → Nat → Int32) (g : Nat → Nat → Int64) (n : Nat → Int32) (P : Nat) (S : Nat) (T : Nat) (B : Nat) (I : YI P S T B a n) (x : Int32) (y : Int32)  : fc l yX6_person wsX6_person (fj_rm 1 25 0 0) D ty t0 [.ref (bd 0), .int x, .int y] (fm_w bd ty a g n) 0 0 (fun v w => v = some (.int (if ((-20000 ≤ x ∧ x ≤ 20000) ∧ (-20000 ≤ y ∧ y ≤ 20001)) then (if P < 12 then nI P else -1004) else -1002)) ∧ w = if ((-20000 ≤ x ∧ x ≤ 20000) ∧ (-20000 ≤ y ∧ y ≤ 20001)) ∧ P < 12 then fm_w bd ty (va_up (va_up a 1 (upd (a 1) (nI P).toNatClampNeg x)) 2 (upd (a 2) (nI P).toNatClampNeg y)) g (va_up n 0 (nI (P + 1))) else fm_w bd ty a g n) := by
  refine fc_start (own := RX6) (cc := cX6_person) (maxL := 3) (ret := (some .int)) (by decide) rfl (Nat.le_of_ble_eq_true rfl) rfl ?_
  intro p e s m args below meth c Q A C hmn E9
  obtain ⟨hn0, hP, hn2, hT, hn4, hS, hn5, hB, yWho, ySort, yQ, yN, yD, yL⟩ := id I
  have kL139 : Cond.constantLong RX6 139 (-20000) ∈ wsX6_person := ptX6_person_woX6_person _ (by decide +kernel)
  have kL128 : Cond.constantLong RX6 128 (20000) ∈ wsX6_person := ptX6_person_woX6_person _ (by decide +kernel)
  have kL141 : Cond.constantLong RX6 141 (20001) ∈ wsX6_person := ptX6_person_woX6_person _ (by decide +kernel)
  have iX6 : ∀ w ∈ u_ws RX6 TX6 44, w ∈ wsX6_person := ptX6_person_wsX60
  have kX6_134 : Cond.fieldLink RX6 134 "FreeLandModel" "persons" "I" ∈ wsX6_person := ptX6_person_woX6_person _ (by decide +kernel)
  have kX6_7 : Cond.fieldLink RX6 7 "FreeLandModel" "births" "[I" ∈ wsX6_person := ptX6_person_woX6_person _ (by decide +kernel)
  have kX6_13 : Cond.fieldLink RX6 13 "FreeLandModel" "citizens" "[I" ∈ wsX6_person := ptX6_person_woX6_person _ (by decide +kernel)
  refine fj_lv (lv' := [(0, .ref (bd 0)), (1, .int x), (2, .int y)]) [0, 1, 2] rfl ?_
  refine fj_iload_n C 1 dX6_person_0 rfl rfl ?_
  refine fj_i2l C dX6_person_1 ?_
  refine fj_ldc2 (v := (-20000)) C dX6_person_2 kL139 ?_
  refine fj_ldc2 (v := 20000) C dX6_person_5 kL128 ?_
  refine fj_callSw (As := [.long x.toInt64, .long (-20000), .long 20000]) (rest := []) C (d_X6_inI l D ty t0 (fm_w bd ty a g n) x (-20000) 20000 (-20000) 20000 (by decide) (by decide)) (va_cwS 3 C.2.2.2.2.1 gX6_person_X6_in rfl rfl rfl (by decide +kernel) ⟨Nat.le_of_ble_eq_true rfl, Nat.le_of_ble_eq_true rfl⟩)  rfl (Nat.le_of_ble_eq_true rfl) dX6_person_8 ⟨Nat.zero_le _, Nat.zero_le _⟩ (fun v9 w9 hp9 => ?_)
  obtain ⟨rfl, rfl⟩ := hp9
  refine fj_st (st' := .int (if ((-20000) ≤ x ∧ x ≤ 20000) then 1 else 0) :: []) rfl ?_
  refine fj_ifb_eq (tgt := 28) C dX6_person_11 (by decide) (fun h11 => ?_) (fun h11 => ?_)
  · refine fj_sipush (v := (-1002)) C dX6_person_28 (by decide) ?_
    exact fj_iret C E9 dX6_person_31 ⟨by rw [if_neg (by grind)], by rw [if_neg (by grind)]⟩
  · refine fj_iload_n C 2 dX6_person_14 rfl rfl ?_
    refine fj_i2l C dX6_person_15 ?_
    refine fj_ldc2 (v := (-20000)) C dX6_person_16 kL139 ?_
    refine fj_ldc2 (v := 20001) C dX6_person_19 kL141 ?_
    refine fj_callSw (As := [.long y.toInt64, .long (-20000), .long 20001]) (rest := []) C (d_X6_inI l D ty t0 (fm_w bd ty a g n) y (-20000) 20001 (-20000) 20001 (by decide) (by decide)) (va_cwS 3 C.2.2.2.2.1 gX6_person_X6_in rfl rfl rfl (by decide +kernel) ⟨Nat.le_of_ble_eq_true rfl, Nat.le_of_ble_eq_true rfl⟩)  rfl (Nat.le_of_ble_eq_true rfl) dX6_person_22 ⟨Nat.zero_le _, Nat.zero_le _⟩ (fun v9 w9 hp9 => ?_)
    obtain ⟨rfl, rfl⟩ := hp9
    refine fj_st (st' := .int (if ((-20000) ≤ y ∧ y ≤ 20001) then 1 else 0) :: []) rfl ?_
    refine fj_ifb_ne (tgt := 32) C dX6_person_25 (by decide) (fun h25 => ?_) (fun h25 => ?_)
    · refine fj_aload_n C 0 dX6_person_32 rfl rfl ?_
      refine fj_get (Cn := RX6) (T := TX6) (N := 44) (ci := 6) (v := .int (n 0)) C iX6 0 (fm_at0 _ _ _ _ _) rfl 0 (by decide) kX6_134 rfl dX6_person_33 ?_
      refine fj_at (y := nI P) hn0 ?_
      refine fj_bipush (v := 12) C dX6_person_36 (by decide) ?_
      refine fj_icmp_ne (tgt := 45) C dX6_person_38 (by decide) (fun h38 => ?_) (fun h38 => ?_)
      · have h12 : P < 12 := Nat.lt_of_le_of_ne hP fun e => h38 (by rw [e]; rfl)
        refine fj_aload_n C 0 dX6_person_45 rfl rfl ?_
        refine fj_get (Cn := RX6) (T := TX6) (N := 44) (ci := 6) (v := .ref (bd 1)) C iX6 0 (fm_at0 _ _ _ _ _) rfl 1 (by decide) kX6_7 rfl dX6_person_46 ?_
        refine fj_aload_n C 0 dX6_person_49 rfl rfl ?_
        refine fj_get (Cn := RX6) (T := TX6) (N := 44) (ci := 6) (v := .int (n 0)) C iX6 0 (fm_at0 _ _ _ _ _) rfl 0 (by decide) kX6_134 rfl dX6_person_50 ?_
        refine fj_at (y := nI P) hn0 ?_
        refine fj_iload_n C 1 dX6_person_53 rfl rfl ?_
        refine fj_iast (f := (a 1)) C 1 (fm_at1 _ _ _ _ _) (vp_in_nI h12 (by decide)) dX6_person_54 (fm_st1 _ _ _ _ _ _) ?_
        refine fj_aload_n C 0 dX6_person_55 rfl rfl ?_
        refine fj_get (Cn := RX6) (T := TX6) (N := 44) (ci := 6) (v := .ref (bd 2)) C iX6 0 (fm_at0 _ _ _ _ _) rfl 2 (by decide) kX6_13 rfl dX6_person_56 ?_
        refine fj_aload_n C 0 dX6_person_59 rfl rfl ?_
        refine fj_get (Cn := RX6) (T := TX6) (N := 44) (ci := 6) (v := .int (n 0)) C iX6 0 (fm_at0 _ _ _ _ _) rfl 0 (by decide) kX6_134 rfl dX6_person_60 ?_
        refine fj_at (y := nI P) hn0 ?_
        refine fj_iload_n C 2 dX6_person_63 rfl rfl ?_
        refine fj_iast (f := (a 2)) C 2 (fm_at2 _ _ _ _ _) (vp_in_nI h12 (by decide)) dX6_person_64 (fm_st2 _ _ _ _ _ _) ?_
        refine fj_aload_n C 0 dX6_person_65 rfl rfl ?_
        refine fj_dup C dX6_person_66 rfl ?_
        refine fj_get (Cn := RX6) (T := TX6) (N := 44) (ci := 6) (v := .int (n 0)) C iX6 0 (fm_at0 _ _ _ _ _) rfl 0 (by decide) kX6_134 rfl dX6_person_67 ?_
        refine fj_at (y := nI P) hn0 ?_
        refine fj_iconst (v := 1) C dX6_person_70 (by decide) ?_
        refine fj_iadd C dX6_person_71 ?_
        refine fj_at (y := nI (P + 1)) (nI_1 P) ?_
        refine fj_put (Cn := RX6) (T := TX6) (N := 44) (ci := 6) C iX6 tyX6 tyX6_ok nmX6 0 (fm_at0 _ _ _ _ _) rfl 0 (by decide) kX6_134 rfl rfl rfl (Nat.le_of_ble_eq_true rfl) dX6_person_72 (fm_si0_0 _ _ _ _ _ _) ?_
        refine fj_aload_n C 0 dX6_person_75 rfl rfl ?_
        refine fj_get (Cn := RX6) (T := TX6) (N := 44) (ci := 6) (v := .int (nI (P + 1))) C iX6 0 (fm_at0 _ _ _ _ _) rfl 0 (by decide) kX6_134 rfl dX6_person_76 ?_
        refine fj_iconst (v := 1) C dX6_person_79 (by decide) ?_
        refine fj_isub C dX6_person_80 ?_
        refine fj_at (y := nI P) (nI_pred P) ?_
        exact fj_iret C E9 dX6_person_81 ⟨by rw [if_pos (by grind), if_pos h12], by rw [if_pos ⟨by grind, h12⟩]⟩
      · have h12 : ¬ P < 12 := fun q => absurd (fx_eqI (b := 12) h38 (by omega) (by decide)) (by omega)
        refine fj_sipush (v := (-1004)) C dX6_person_41 (by decide) ?_
        exact fj_iret C E9 dX6_person_44 ⟨by rw [if_pos (by grind), if_neg h12], by rw [if_neg (by grind)]⟩
    · refine fj_sipush (v := (-1002)) C dX6_person_28 (by decide) ?_
      exact fj_iret C E9 dX6_person_31 ⟨by rw [if_neg (by grind)], by rw [if_neg (by grind)]⟩

set_option maxHeartbeats 4000000 in
set_option maxRecDepth 100000 in
theorem d_X6_map (l : Launch) (D : va_G) (ty : Nat → ClassId) (t0 : Nat → Nat) (bd : Nat → Nat) (a : Nat → Nat → Int32) (g : Nat → Nat → Int64) (n : Nat → Int32)  (x : Int32)  : fc l yX6_map wsX6_map (fj_rm 1 25 0 0) D ty t0 [.ref (bd 0), .int x] (fm_w bd ty a g n) 0 0 (fun v w => v = some (.int (if (0 ≤ x ∧ x ≤ 20001) then n 1 else -1002)) ∧ w = if (0 ≤ x ∧ x ≤ 20001) then fm_w bd ty a g (va_up n 1 x) else fm_w bd ty a g n) := by
  refine fc_start (own := RX6) (cc := cX6_map) (maxL := 3) (ret := (some .int)) (by decide) rfl (Nat.le_of_ble_eq_true rfl) rfl ?_
  intro p e s m args below meth c Q A C hmn E9
  have kL141 : Cond.constantLong RX6 141 (20001) ∈ wsX6_map := ptX6_map_woX6_map _ (by decide +kernel)
  have iX6 : ∀ w ∈ u_ws RX6 TX6 44, w ∈ wsX6_map := ptX6_map_wsX60
  have kX6_16 : Cond.fieldLink RX6 16 "FreeLandModel" "mapDay" "I" ∈ wsX6_map := ptX6_map_woX6_map _ (by decide +kernel)
  refine fj_lv (lv' := [(0, .ref (bd 0)), (1, .int x)]) [0, 1] rfl ?_
  refine fj_iload_n C 1 dX6_map_0 rfl rfl ?_
  refine fj_i2l C dX6_map_1 ?_
  refine fj_lconst (v := 0) C dX6_map_2 (by decide) ?_
  refine fj_ldc2 (v := 20001) C dX6_map_3 kL141 ?_
  refine fj_callSw (As := [.long x.toInt64, .long 0, .long 20001]) (rest := []) C (d_X6_inI l D ty t0 (fm_w bd ty a g n) x 0 20001 0 20001 (by decide) (by decide)) (va_cwS 3 C.2.2.2.2.1 gX6_map_X6_in rfl rfl rfl (by decide +kernel) ⟨Nat.le_of_ble_eq_true rfl, Nat.le_of_ble_eq_true rfl⟩)  rfl (Nat.le_of_ble_eq_true rfl) dX6_map_6 ⟨Nat.zero_le _, Nat.zero_le _⟩ (fun v9 w9 hp9 => ?_)
  obtain ⟨rfl, rfl⟩ := hp9
  refine fj_st (st' := .int (if (0 ≤ x ∧ x ≤ 20001) then 1 else 0) :: []) rfl ?_
  refine fj_ifb_ne (tgt := 16) C dX6_map_9 (by decide) (fun h9 => ?_) (fun h9 => ?_)
  · refine fj_aload_n C 0 dX6_map_16 rfl rfl ?_
    refine fj_get (Cn := RX6) (T := TX6) (N := 44) (ci := 6) (v := .int (n 1)) C iX6 0 (fm_at0 _ _ _ _ _) rfl 3 (by decide) kX6_16 rfl dX6_map_17 ?_
    refine fj_istore_n (lv' := [(2, .int (n 1)), (0, .ref (bd 0)), (1, .int x)]) C dX6_map_20 rfl (by decide) rfl ?_
    refine fj_aload_n C 1 dX6_map_21 rfl rfl ?_
    refine fj_iload_n C 2 dX6_map_22 rfl rfl ?_
    refine fj_put (Cn := RX6) (T := TX6) (N := 44) (ci := 6) C iX6 tyX6 tyX6_ok nmX6 0 (fm_at0 _ _ _ _ _) rfl 3 (by decide) kX6_16 rfl rfl rfl (Nat.le_of_ble_eq_true rfl) dX6_map_23 (fm_si0_3 _ _ _ _ _ _) ?_
    refine fj_iload_n C 0 dX6_map_26 rfl rfl ?_
    exact fj_iret C E9 dX6_map_27 ⟨by first | (rw [if_neg (by assumption)]; done) | (rw [if_pos (by assumption)]; done), by first | (rw [if_neg (by assumption)]; done) | (rw [if_pos (by assumption)]; done)⟩
  · refine fj_sipush (v := (-1002)) C dX6_map_12 (by decide) ?_
    exact fj_iret C E9 dX6_map_15 ⟨by first | (rw [if_neg (by assumption)]; done) | (rw [if_pos (by assumption)]; done), by first | (rw [if_neg (by assumption)]; done) | (rw [if_pos (by assumption)]; done)⟩

set_option maxHeartbeats 4000000 in
set_option maxRecDepth 100000 in
theorem d_X6_place (l : Launch) (D : va_G) (ty : Nat → ClassId) (t0 : Nat → Nat) (bd : Nat → Nat) (a : Nat → Nat → Int32) (g : Nat → Nat → Int64) (n : Nat → Int32)    : fc l yX6_place wsX6_place (fj_rm 0 0 0 0) D ty t0 [.ref (bd 0)] (fm_w bd ty a g n) 0 0 (fun v w => v = some (.int (n 3)) ∧ w = fm_w bd ty a g n) := by
  refine fc_start (own := RX6) (cc := cX6_place) (maxL := 1) (ret := (some .int)) (by decide) rfl (Nat.le_of_ble_eq_true rfl) rfl ?_
  intro p e s m args below meth c Q A C hmn E9
  have iX6 : ∀ w ∈ u_ws RX6 TX6 44, w ∈ wsX6_place := ptX6_place_wsX60
  have kX6_23 : Cond.fieldLink RX6 23 "FreeLandModel" "faultPlace" "I" ∈ wsX6_place := ptX6_place_woX6_place _ (by decide +kernel)
  refine fj_lv (lv' := [(0, .ref (bd 0))]) [0] rfl ?_
  refine fj_aload_n C 0 dX6_place_0 rfl rfl ?_
  refine fj_get (Cn := RX6) (T := TX6) (N := 44) (ci := 6) (v := .int (n 3)) C iX6 0 (fm_at0 _ _ _ _ _) rfl 6 (by decide) kX6_23 rfl dX6_place_1 ?_
  exact fj_iret C E9 dX6_place_4 ⟨rfl, rfl⟩

set_option maxHeartbeats 4000000 in
set_option maxRecDepth 100000 in
theorem d_X6_line (l : Launch) (D : va_G) (ty : Nat → ClassId) (t0 : Nat → Nat) (bd : Nat → Nat) (a : Nat → Nat → Int32) (g : Nat → Nat → Int64) (n : Nat → Int32) (P : Nat) (S : Nat) (T : Nat) (B : Nat) (I : YI P S T B a n) (x : Int32) (z : Int32) (p9 : Int32) (q : Int32) (u : Int32)  : fc l yX6_line wsX6_line (fj_rm 2 46 0 0) D ty t0 [.ref (bd 0), .int x, .int z, .int p9, .int q, .int u] (fm_w bd ty a g n) 0 0 (fun v w => v = some (.int (if ¬ (0 ≤ z ∧ z ≤ 6) then -1002 else if ¬ (ib p9 P ∧ (z = 6 → ib u P) ∧ (¬ z = 6 → (0 ≤ q ∧ q ≤ 63))) then -1001 else if ¬ ((0 ≤ x ∧ x ≤ 20000) ∧ ((z = 1 → 1 ≤ u ∧ u ≤ 5000) ∧ (z = 2 → 1 ≤ u ∧ u ≤ 160))) then -1002 else if B < 120 then nI B else -1004)) ∧ w = if ((0 ≤ z ∧ z ≤ 6) ∧ (ib p9 P ∧ (z = 6 → ib u P) ∧ (¬ z = 6 → (0 ≤ q ∧ q ≤ 63))) ∧ (0 ≤ x ∧ x ≤ 20000) ∧ ((z = 1 → 1 ≤ u ∧ u ≤ 5000) ∧ (z = 2 → 1 ≤ u ∧ u ≤ 160)) ∧ B < 120) then fm_w bd ty (va_up (va_up (va_up (va_up (va_up (va_up a 8 (upd (a 8) (nI B).toNatClampNeg x)) 9 (upd (a 9) (nI B).toNatClampNeg z)) 10 (upd (a 10) (nI B).toNatClampNeg p9)) 11 (upd (a 11) (nI B).toNatClampNeg q)) 12 (upd (a 12) (nI B).toNatClampNeg u)) 13 (upd (a 13) (nI B).toNatClampNeg (vp_nar .boolean 0))) g (va_up n 5 (nI (B + 1))) else fm_w bd ty a g n) := by
  refine fc_start (own := RX6) (cc := cX6_line) (maxL := 6) (ret := (some .int)) (by decide) rfl (Nat.le_of_ble_eq_true rfl) rfl ?_
  intro p e s m args below meth c Q A C hmn E9
  obtain ⟨hn0, hP, hn2, hT, hn4, hS, hn5, hB, yWho, ySort, yQ, yN, yD, yL⟩ := id I
  have kL185 : Cond.constantLong RX6 185 (6) ∈ wsX6_line := ptX6_line_woX6_line _ (by decide +kernel)
  have iX6 : ∀ w ∈ u_ws RX6 TX6 44, w ∈ wsX6_line := ptX6_line_wsX60
  have kX6_197 : Cond.fieldLink RX6 197 "FreeLandModel" "lines" "I" ∈ wsX6_line := ptX6_line_woX6_line _ (by decide +kernel)
  have kX6_39 : Cond.fieldLink RX6 39 "FreeLandModel" "days" "[I" ∈ wsX6_line := ptX6_line_woX6_line _ (by decide +kernel)
  have kX6_42 : Cond.fieldLink RX6 42 "FreeLandModel" "sorts" "[I" ∈ wsX6_line := ptX6_line_woX6_line _ (by decide +kernel)
  have kX6_45 : Cond.fieldLink RX6 45 "FreeLandModel" "people" "[I" ∈ wsX6_line := ptX6_line_woX6_line _ (by decide +kernel)
  have kX6_48 : Cond.fieldLink RX6 48 "FreeLandModel" "quarters" "[I" ∈ wsX6_line := ptX6_line_woX6_line _ (by decide +kernel)
  have kX6_51 : Cond.fieldLink RX6 51 "FreeLandModel" "numbers" "[I" ∈ wsX6_line := ptX6_line_woX6_line _ (by decide +kernel)
  have kX6_54 : Cond.fieldLink RX6 54 "FreeLandModel" "struck" "[Z" ∈ wsX6_line := ptX6_line_woX6_line _ (by decide +kernel)
  have kL195 : Cond.constantLong RX6 195 (160) ∈ wsX6_line := ptX6_line_woX6_line _ (by decide +kernel)
  have kL193 : Cond.constantLong RX6 193 (5000) ∈ wsX6_line := ptX6_line_woX6_line _ (by decide +kernel)
  refine fj_lv (lv' := [(0, .ref (bd 0)), (1, .int x), (2, .int z), (3, .int p9), (4, .int q), (5, .int u)]) [0, 1, 2, 3, 4, 5] rfl ?_
  refine fj_iload_n C 2 dX6_line_0 rfl rfl ?_
  refine fj_i2l C dX6_line_1 ?_
  refine fj_lconst (v := 0) C dX6_line_2 (by decide) ?_
  refine fj_ldc2 (v := 6) C dX6_line_3 kL185 ?_
  refine fj_callSw (As := [.long z.toInt64, .long 0, .long 6]) (rest := []) C (d_X6_inI l D ty t0 (fm_w bd ty a g n) z 0 6 0 6 (by decide) (by decide)) (va_cwS 3 C.2.2.2.2.1 gX6_line_X6_in rfl rfl rfl (by decide +kernel) ⟨Nat.le_of_ble_eq_true rfl, Nat.le_of_ble_eq_true rfl⟩)  rfl (Nat.le_of_ble_eq_true rfl) dX6_line_6 ⟨Nat.zero_le _, Nat.zero_le _⟩ (fun v9 w9 hp9 => ?_)
  obtain ⟨rfl, rfl⟩ := hp9
  refine fj_st (st' := .int (if (0 ≤ z ∧ z ≤ 6) then 1 else 0) :: []) rfl ?_
  refine fj_ifb_ne (tgt := 16) C dX6_line_9 (by decide) (fun h9 => ?_) (fun h9 => ?_)
  · refine fj_aload_n C 0 dX6_line_16 rfl rfl ?_
    refine fj_iload_n C 3 dX6_line_17 rfl rfl ?_
    refine fj_callVw (As := [.int p9]) (rest := []) C (d_X6_isPerson l D ty t0 bd a g n P S T B I p9) (cwV 1 C.2.2.2.2.1 gX6_line_X6_isPerson rfl rfl rfl (by decide +kernel) ⟨Nat.le_of_ble_eq_true rfl, Nat.le_of_ble_eq_true rfl⟩) ⟨0, 6, _, _, fm_at0 _ _ _ _ _, rfl, rfl⟩ rfl (Nat.le_of_ble_eq_true rfl) dX6_line_18 ⟨Nat.zero_le _, Nat.zero_le _⟩ (fun v9 w9 hp9 => ?_)
    obtain ⟨rfl, rfl⟩ := hp9
    refine fj_st (st' := .int (if ib p9 P then 1 else 0) :: []) rfl ?_
    refine fj_ifb_eq (tgt := 53) C dX6_line_21 (by decide) (fun h21 => ?_) (fun h21 => ?_)
    · refine fj_sipush (v := (-1001)) C dX6_line_53 (by decide) ?_
      exact fj_iret C E9 dX6_line_56 ⟨by grind, by rw [if_neg (by grind)]⟩
    · refine fj_iload_n C 2 dX6_line_24 rfl rfl ?_
      refine fj_bipush (v := 6) C dX6_line_25 (by decide) ?_
      refine fj_icmp_eq (tgt := 38) C dX6_line_27 (by decide) (fun h27 => ?_) (fun h27 => ?_)
      · refine fj_iload_n C 2 dX6_line_38 rfl rfl ?_
        refine fj_bipush (v := 6) C dX6_line_39 (by decide) ?_
        refine fj_icmp_ne (tgt := 57) C dX6_line_41 (by decide) (fun h41 => ?_) (fun h41 => ?_)
        · refine fj_iload_n C 1 dX6_line_57 rfl rfl ?_
          refine fj_callSw (As := [.int x]) (rest := []) C (d_X6_isDay l D ty t0 (fm_w bd ty a g n) x) (va_cwS 1 C.2.2.2.2.1 gX6_line_X6_isDay rfl rfl rfl (by decide +kernel) ⟨Nat.le_of_ble_eq_true rfl, Nat.le_of_ble_eq_true rfl⟩)  rfl (Nat.le_of_ble_eq_true rfl) dX6_line_58 ⟨Nat.zero_le _, Nat.zero_le _⟩ (fun v9 w9 hp9 => ?_)
          obtain ⟨rfl, rfl⟩ := hp9
          refine fj_st (st' := .int (if (0 ≤ x ∧ x ≤ 20000) then 1 else 0) :: []) rfl ?_
          refine fj_ifb_eq (tgt := 100) C dX6_line_61 (by decide) (fun h61 => ?_) (fun h61 => ?_)
          · refine fj_sipush (v := (-1002)) C dX6_line_100 (by decide) ?_
            exact fj_iret C E9 dX6_line_103 ⟨by grind, by rw [if_neg (by grind)]⟩
          · refine fj_iload_n C 2 dX6_line_64 rfl rfl ?_
            refine fj_iconst (v := 1) C dX6_line_65 (by decide) ?_
            refine fj_icmp_ne (tgt := 82) C dX6_line_66 (by decide) (fun h66 => ?_) (fun h66 => ?_)
            · refine fj_iload_n C 2 dX6_line_82 rfl rfl ?_
              refine fj_iconst (v := 2) C dX6_line_83 (by decide) ?_
              refine fj_icmp_ne (tgt := 104) C dX6_line_84 (by decide) (fun h84 => ?_) (fun h84 => ?_)
              · refine fj_aload_n C 0 dX6_line_104 rfl rfl ?_
                refine fj_get (Cn := RX6) (T := TX6) (N := 44) (ci := 6) (v := .int (n 5)) C iX6 0 (fm_at0 _ _ _ _ _) rfl 12 (by decide) kX6_197 rfl dX6_line_105 ?_
                refine fj_at (y := nI B) hn5 ?_
                refine fj_bipush (v := 120) C dX6_line_108 (by decide) ?_
                refine fj_icmp_ne (tgt := 117) C dX6_line_110 (by decide) (fun h110 => ?_) (fun h110 => ?_)
                · have hB2 : B < 120 := Nat.lt_of_le_of_ne hB fun e => h110 (by rw [e]; rfl)
                  refine fj_aload_n C 0 dX6_line_117 rfl rfl ?_
                  refine fj_get (Cn := RX6) (T := TX6) (N := 44) (ci := 6) (v := .ref (bd 8)) C iX6 0 (fm_at0 _ _ _ _ _) rfl 13 (by decide) kX6_39 rfl dX6_line_118 ?_
                  refine fj_aload_n C 0 dX6_line_121 rfl rfl ?_
                  refine fj_get (Cn := RX6) (T := TX6) (N := 44) (ci := 6) (v := .int (n 5)) C iX6 0 (fm_at0 _ _ _ _ _) rfl 12 (by decide) kX6_197 rfl dX6_line_122 ?_
                  refine fj_at (y := nI B) hn5 ?_
                  refine fj_iload_n C 1 dX6_line_125 rfl rfl ?_
                  refine fj_iast (f := (a 8)) C 8 (fm_at8 _ _ _ _ _) (vp_in_nI hB2 (by decide)) dX6_line_126 (fm_st8 _ _ _ _ _ _) ?_
                  refine fj_aload_n C 0 dX6_line_127 rfl rfl ?_
                  refine fj_get (Cn := RX6) (T := TX6) (N := 44) (ci := 6) (v := .ref (bd 9)) C iX6 0 (fm_at0 _ _ _ _ _) rfl 14 (by decide) kX6_42 rfl dX6_line_128 ?_
                  refine fj_aload_n C 0 dX6_line_131 rfl rfl ?_
                  refine fj_get (Cn := RX6) (T := TX6) (N := 44) (ci := 6) (v := .int (n 5)) C iX6 0 (fm_at0 _ _ _ _ _) rfl 12 (by decide) kX6_197 rfl dX6_line_132 ?_
                  refine fj_at (y := nI B) hn5 ?_
                  refine fj_iload_n C 2 dX6_line_135 rfl rfl ?_
                  refine fj_iast (f := (a 9)) C 9 (fm_at9 _ _ _ _ _) (vp_in_nI hB2 (by decide)) dX6_line_136 (fm_st9 _ _ _ _ _ _) ?_
                  refine fj_aload_n C 0 dX6_line_137 rfl rfl ?_
                  refine fj_get (Cn := RX6) (T := TX6) (N := 44) (ci := 6) (v := .ref (bd 10)) C iX6 0 (fm_at0 _ _ _ _ _) rfl 15 (by decide) kX6_45 rfl dX6_line_138 ?_
                  refine fj_aload_n C 0 dX6_line_141 rfl rfl ?_
                  refine fj_get (Cn := RX6) (T := TX6) (N := 44) (ci := 6) (v := .int (n 5)) C iX6 0 (fm_at0 _ _ _ _ _) rfl 12 (by decide) kX6_197 rfl dX6_line_142 ?_
                  refine fj_at (y := nI B) hn5 ?_
                  refine fj_iload_n C 3 dX6_line_145 rfl rfl ?_
                  refine fj_iast (f := (a 10)) C 10 (fm_at10 _ _ _ _ _) (vp_in_nI hB2 (by decide)) dX6_line_146 (fm_st10 _ _ _ _ _ _) ?_
                  refine fj_aload_n C 0 dX6_line_147 rfl rfl ?_
                  refine fj_get (Cn := RX6) (T := TX6) (N := 44) (ci := 6) (v := .ref (bd 11)) C iX6 0 (fm_at0 _ _ _ _ _) rfl 16 (by decide) kX6_48 rfl dX6_line_148 ?_
                  refine fj_aload_n C 0 dX6_line_151 rfl rfl ?_
                  refine fj_get (Cn := RX6) (T := TX6) (N := 44) (ci := 6) (v := .int (n 5)) C iX6 0 (fm_at0 _ _ _ _ _) rfl 12 (by decide) kX6_197 rfl dX6_line_152 ?_
                  refine fj_at (y := nI B) hn5 ?_
                  refine fj_iload C 4 dX6_line_155 rfl ?_
                  refine fj_iast (f := (a 11)) C 11 (fm_at11 _ _ _ _ _) (vp_in_nI hB2 (by decide)) dX6_line_157 (fm_st11 _ _ _ _ _ _) ?_
                  refine fj_aload_n C 0 dX6_line_158 rfl rfl ?_
                  refine fj_get (Cn := RX6) (T := TX6) (N := 44) (ci := 6) (v := .ref (bd 12)) C iX6 0 (fm_at0 _ _ _ _ _) rfl 17 (by decide) kX6_51 rfl dX6_line_159 ?_
                  refine fj_aload_n C 0 dX6_line_162 rfl rfl ?_
                  refine fj_get (Cn := RX6) (T := TX6) (N := 44) (ci := 6) (v := .int (n 5)) C iX6 0 (fm_at0 _ _ _ _ _) rfl 12 (by decide) kX6_197 rfl dX6_line_163 ?_
                  refine fj_at (y := nI B) hn5 ?_
                  refine fj_iload C 5 dX6_line_166 rfl ?_
                  refine fj_iast (f := (a 12)) C 12 (fm_at12 _ _ _ _ _) (vp_in_nI hB2 (by decide)) dX6_line_168 (fm_st12 _ _ _ _ _ _) ?_
                  refine fj_aload_n C 0 dX6_line_169 rfl rfl ?_
                  refine fj_get (Cn := RX6) (T := TX6) (N := 44) (ci := 6) (v := .ref (bd 13)) C iX6 0 (fm_at0 _ _ _ _ _) rfl 18 (by decide) kX6_54 rfl dX6_line_170 ?_
                  refine fj_aload_n C 0 dX6_line_173 rfl rfl ?_
                  refine fj_get (Cn := RX6) (T := TX6) (N := 44) (ci := 6) (v := .int (n 5)) C iX6 0 (fm_at0 _ _ _ _ _) rfl 12 (by decide) kX6_197 rfl dX6_line_174 ?_
                  refine fj_at (y := nI B) hn5 ?_
                  refine fj_iconst (v := 0) C dX6_line_177 (by decide) ?_
                  refine fj_zast (f := (a 13)) C 13 (fm_at13 _ _ _ _ _) (vp_in_nI hB2 (by decide)) dX6_line_178 (fm_st13 _ _ _ _ _ _) ?_
                  refine fj_aload_n C 0 dX6_line_179 rfl rfl ?_
                  refine fj_dup C dX6_line_180 rfl ?_
                  refine fj_get (Cn := RX6) (T := TX6) (N := 44) (ci := 6) (v := .int (n 5)) C iX6 0 (fm_at0 _ _ _ _ _) rfl 12 (by decide) kX6_197 rfl dX6_line_181 ?_
                  refine fj_at (y := nI B) hn5 ?_
                  refine fj_iconst (v := 1) C dX6_line_184 (by decide) ?_
                  refine fj_iadd C dX6_line_185 ?_
                  refine fj_at (y := nI (B + 1)) (nI_1 B) ?_
                  refine fj_put (Cn := RX6) (T := TX6) (N := 44) (ci := 6) C iX6 tyX6 tyX6_ok nmX6 0 (fm_at0 _ _ _ _ _) rfl 12 (by decide) kX6_197 rfl rfl rfl (Nat.le_of_ble_eq_true rfl) dX6_line_186 (fm_si0_12 _ _ _ _ _ _) ?_
                  refine fj_aload_n C 0 dX6_line_189 rfl rfl ?_
                  refine fj_get (Cn := RX6) (T := TX6) (N := 44) (ci := 6) (v := .int (nI (B + 1))) C iX6 0 (fm_at0 _ _ _ _ _) rfl 12 (by decide) kX6_197 rfl dX6_line_190 ?_
                  refine fj_iconst (v := 1) C dX6_line_193 (by decide) ?_
                  refine fj_isub C dX6_line_194 ?_
                  refine fj_at (y := nI B) (nI_pred B) ?_
                  exact fj_iret C E9 dX6_line_195 ⟨by grind, by rw [if_pos (by grind)]⟩
                · have hB2 : ¬ B < 120 := fun q => absurd (fx_eqI (b := 120) h110 (by omega) (by decide)) (by omega)
                  refine fj_sipush (v := (-1004)) C dX6_line_113 (by decide) ?_
                  exact fj_iret C E9 dX6_line_116 ⟨by grind, by rw [if_neg (by grind)]⟩
              · refine fj_iload C 5 dX6_line_87 rfl ?_
                refine fj_i2l C dX6_line_89 ?_
                refine fj_lconst (v := 1) C dX6_line_90 (by decide) ?_
                refine fj_ldc2 (v := 160) C dX6_line_91 kL195 ?_
                refine fj_callSw (As := [.long u.toInt64, .long 1, .long 160]) (rest := []) C (d_X6_inI l D ty t0 (fm_w bd ty a g n) u 1 160 1 160 (by decide) (by decide)) (va_cwS 3 C.2.2.2.2.1 gX6_line_X6_in rfl rfl rfl (by decide +kernel) ⟨Nat.le_of_ble_eq_true rfl, Nat.le_of_ble_eq_true rfl⟩)  rfl (Nat.le_of_ble_eq_true rfl) dX6_line_94 ⟨Nat.zero_le _, Nat.zero_le _⟩ (fun v9 w9 hp9 => ?_)
                obtain ⟨rfl, rfl⟩ := hp9
                refine fj_st (st' := .int (if (1 ≤ u ∧ u ≤ 160) then 1 else 0) :: []) rfl ?_
                refine fj_ifb_ne (tgt := 104) C dX6_line_97 (by decide) (fun h97 => ?_) (fun h97 => ?_)
                · refine fj_aload_n C 0 dX6_line_104 rfl rfl ?_
                  refine fj_get (Cn := RX6) (T := TX6) (N := 44) (ci := 6) (v := .int (n 5)) C iX6 0 (fm_at0 _ _ _ _ _) rfl 12 (by decide) kX6_197 rfl dX6_line_105 ?_
                  refine fj_at (y := nI B) hn5 ?_
                  refine fj_bipush (v := 120) C dX6_line_108 (by decide) ?_
                  refine fj_icmp_ne (tgt := 117) C dX6_line_110 (by decide) (fun h110 => ?_) (fun h110 => ?_)
                  · have hB2 : B < 120 := Nat.lt_of_le_of_ne hB fun e => h110 (by rw [e]; rfl)
                    refine fj_aload_n C 0 dX6_line_117 rfl rfl ?_
                    refine fj_get (Cn := RX6) (T := TX6) (N := 44) (ci := 6) (v := .ref (bd 8)) C iX6 0 (fm_at0 _ _ _ _ _) rfl 13 (by decide) kX6_39 rfl dX6_line_118 ?_
                    refine fj_aload_n C 0 dX6_line_121 rfl rfl ?_
                    refine fj_get (Cn := RX6) (T := TX6) (N := 44) (ci := 6) (v := .int (n 5)) C iX6 0 (fm_at0 _ _ _ _ _) rfl 12 (by decide) kX6_197 rfl dX6_line_122 ?_
                    refine fj_at (y := nI B) hn5 ?_
                    refine fj_iload_n C 1 dX6_line_125 rfl rfl ?_
                    refine fj_iast (f := (a 8)) C 8 (fm_at8 _ _ _ _ _) (vp_in_nI hB2 (by decide)) dX6_line_126 (fm_st8 _ _ _ _ _ _) ?_
                    refine fj_aload_n C 0 dX6_line_127 rfl rfl ?_
                    refine fj_get (Cn := RX6) (T := TX6) (N := 44) (ci := 6) (v := .ref (bd 9)) C iX6 0 (fm_at0 _ _ _ _ _) rfl 14 (by decide) kX6_42 rfl dX6_line_128 ?_
                    refine fj_aload_n C 0 dX6_line_131 rfl rfl ?_
                    refine fj_get (Cn := RX6) (T := TX6) (N := 44) (ci := 6) (v := .int (n 5)) C iX6 0 (fm_at0 _ _ _ _ _) rfl 12 (by decide) kX6_197 rfl dX6_line_132 ?_
                    refine fj_at (y := nI B) hn5 ?_
                    refine fj_iload_n C 2 dX6_line_135 rfl rfl ?_
                    refine fj_iast (f := (a 9)) C 9 (fm_at9 _ _ _ _ _) (vp_in_nI hB2 (by decide)) dX6_line_136 (fm_st9 _ _ _ _ _ _) ?_
                    refine fj_aload_n C 0 dX6_line_137 rfl rfl ?_
                    refine fj_get (Cn := RX6) (T := TX6) (N := 44) (ci := 6) (v := .ref (bd 10)) C iX6 0 (fm_at0 _ _ _ _ _) rfl 15 (by decide) kX6_45 rfl dX6_line_138 ?_
                    refine fj_aload_n C 0 dX6_line_141 rfl rfl ?_
                    refine fj_get (Cn := RX6) (T := TX6) (N := 44) (ci := 6) (v := .int (n 5)) C iX6 0 (fm_at0 _ _ _ _ _) rfl 12 (by decide) kX6_197 rfl dX6_line_142 ?_
                    refine fj_at (y := nI B) hn5 ?_
                    refine fj_iload_n C 3 dX6_line_145 rfl rfl ?_
                    refine fj_iast (f := (a 10)) C 10 (fm_at10 _ _ _ _ _) (vp_in_nI hB2 (by decide)) dX6_line_146 (fm_st10 _ _ _ _ _ _) ?_
                    refine fj_aload_n C 0 dX6_line_147 rfl rfl ?_
                    refine fj_get (Cn := RX6) (T := TX6) (N := 44) (ci := 6) (v := .ref (bd 11)) C iX6 0 (fm_at0 _ _ _ _ _) rfl 16 (by decide) kX6_48 rfl dX6_line_148 ?_
                    refine fj_aload_n C 0 dX6_line_151 rfl rfl ?_
                    refine fj_get (Cn := RX6) (T := TX6) (N := 44) (ci := 6) (v := .int (n 5)) C iX6 0 (fm_at0 _ _ _ _ _) rfl 12 (by decide) kX6_197 rfl dX6_line_152 ?_
                    refine fj_at (y := nI B) hn5 ?_
                    refine fj_iload C 4 dX6_line_155 rfl ?_
                    refine fj_iast (f := (a 11)) C 11 (fm_at11 _ _ _ _ _) (vp_in_nI hB2 (by decide)) dX6_line_157 (fm_st11 _ _ _ _ _ _) ?_
                    refine fj_aload_n C 0 dX6_line_158 rfl rfl ?_
                    refine fj_get (Cn := RX6) (T := TX6) (N := 44) (ci := 6) (v := .ref (bd 12)) C iX6 0 (fm_at0 _ _ _ _ _) rfl 17 (by decide) kX6_51 rfl dX6_line_159 ?_
                    refine fj_aload_n C 0 dX6_line_162 rfl rfl ?_
                    refine fj_get (Cn := RX6) (T := TX6) (N := 44) (ci := 6) (v := .int (n 5)) C iX6 0 (fm_at0 _ _ _ _ _) rfl 12 (by decide) kX6_197 rfl dX6_line_163 ?_
                    refine fj_at (y := nI B) hn5 ?_
                    refine fj_iload C 5 dX6_line_166 rfl ?_
                    refine fj_iast (f := (a 12)) C 12 (fm_at12 _ _ _ _ _) (vp_in_nI hB2 (by decide)) dX6_line_168 (fm_st12 _ _ _ _ _ _) ?_
                    refine fj_aload_n C 0 dX6_line_169 rfl rfl ?_
                    refine fj_get (Cn := RX6) (T := TX6) (N := 44) (ci := 6) (v := .ref (bd 13)) C iX6 0 (fm_at0 _ _ _ _ _) rfl 18 (by decide) kX6_54 rfl dX6_line_170 ?_
                    refine fj_aload_n C 0 dX6_line_173 rfl rfl ?_
                    refine fj_get (Cn := RX6) (T := TX6) (N := 44) (ci := 6) (v := .int (n 5)) C iX6 0 (fm_at0 _ _ _ _ _) rfl 12 (by decide) kX6_197 rfl dX6_line_174 ?_
                    refine fj_at (y := nI B) hn5 ?_
                    refine fj_iconst (v := 0) C dX6_line_177 (by decide) ?_
                    refine fj_zast (f := (a 13)) C 13 (fm_at13 _ _ _ _ _) (vp_in_nI hB2 (by decide)) dX6_line_178 (fm_st13 _ _ _ _ _ _) ?_
                    refine fj_aload_n C 0 dX6_line_179 rfl rfl ?_
                    refine fj_dup C dX6_line_180 rfl ?_
                    refine fj_get (Cn := RX6) (T := TX6) (N := 44) (ci := 6) (v := .int (n 5)) C iX6 0 (fm_at0 _ _ _ _ _) rfl 12 (by decide) kX6_197 rfl dX6_line_181 ?_
                    refine fj_at (y := nI B) hn5 ?_
                    refine fj_iconst (v := 1) C dX6_line_184 (by decide) ?_
                    refine fj_iadd C dX6_line_185 ?_
                    refine fj_at (y := nI (B + 1)) (nI_1 B) ?_
                    refine fj_put (Cn := RX6) (T := TX6) (N := 44) (ci := 6) C iX6 tyX6 tyX6_ok nmX6 0 (fm_at0 _ _ _ _ _) rfl 12 (by decide) kX6_197 rfl rfl rfl (Nat.le_of_ble_eq_true rfl) dX6_line_186 (fm_si0_12 _ _ _ _ _ _) ?_
                    refine fj_aload_n C 0 dX6_line_189 rfl rfl ?_
                    refine fj_get (Cn := RX6) (T := TX6) (N := 44) (ci := 6) (v := .int (nI (B + 1))) C iX6 0 (fm_at0 _ _ _ _ _) rfl 12 (by decide) kX6_197 rfl dX6_line_190 ?_
                    refine fj_iconst (v := 1) C dX6_line_193 (by decide) ?_
                    refine fj_isub C dX6_line_194 ?_
                    refine fj_at (y := nI B) (nI_pred B) ?_
                    exact fj_iret C E9 dX6_line_195 ⟨by grind, by rw [if_pos (by grind)]⟩
                  · have hB2 : ¬ B < 120 := fun q => absurd (fx_eqI (b := 120) h110 (by omega) (by decide)) (by omega)
                    refine fj_sipush (v := (-1004)) C dX6_line_113 (by decide) ?_
                    exact fj_iret C E9 dX6_line_116 ⟨by grind, by rw [if_neg (by grind)]⟩
                · refine fj_sipush (v := (-1002)) C dX6_line_100 (by decide) ?_
                  exact fj_iret C E9 dX6_line_103 ⟨by grind, by rw [if_neg (by grind)]⟩
            · refine fj_iload C 5 dX6_line_69 rfl ?_
              refine fj_i2l C dX6_line_71 ?_
              refine fj_lconst (v := 1) C dX6_line_72 (by decide) ?_
              refine fj_ldc2 (v := 5000) C dX6_line_73 kL193 ?_
              refine fj_callSw (As := [.long u.toInt64, .long 1, .long 5000]) (rest := []) C (d_X6_inI l D ty t0 (fm_w bd ty a g n) u 1 5000 1 5000 (by decide) (by decide)) (va_cwS 3 C.2.2.2.2.1 gX6_line_X6_in rfl rfl rfl (by decide +kernel) ⟨Nat.le_of_ble_eq_true rfl, Nat.le_of_ble_eq_true rfl⟩)  rfl (Nat.le_of_ble_eq_true rfl) dX6_line_76 ⟨Nat.zero_le _, Nat.zero_le _⟩ (fun v9 w9 hp9 => ?_)
              obtain ⟨rfl, rfl⟩ := hp9
              refine fj_st (st' := .int (if (1 ≤ u ∧ u ≤ 5000) then 1 else 0) :: []) rfl ?_
              refine fj_ifb_eq (tgt := 100) C dX6_line_79 (by decide) (fun h79 => ?_) (fun h79 => ?_)
              · refine fj_sipush (v := (-1002)) C dX6_line_100 (by decide) ?_
                exact fj_iret C E9 dX6_line_103 ⟨by grind, by rw [if_neg (by grind)]⟩
              · refine fj_iload_n C 2 dX6_line_82 rfl rfl ?_
                refine fj_iconst (v := 2) C dX6_line_83 (by decide) ?_
                refine fj_icmp_ne (tgt := 104) C dX6_line_84 (by decide) (fun h84 => ?_) (fun h84 => ?_)
                · refine fj_aload_n C 0 dX6_line_104 rfl rfl ?_
                  refine fj_get (Cn := RX6) (T := TX6) (N := 44) (ci := 6) (v := .int (n 5)) C iX6 0 (fm_at0 _ _ _ _ _) rfl 12 (by decide) kX6_197 rfl dX6_line_105 ?_
                  refine fj_at (y := nI B) hn5 ?_
                  refine fj_bipush (v := 120) C dX6_line_108 (by decide) ?_
                  refine fj_icmp_ne (tgt := 117) C dX6_line_110 (by decide) (fun h110 => ?_) (fun h110 => ?_)
                  · have hB2 : B < 120 := Nat.lt_of_le_of_ne hB fun e => h110 (by rw [e]; rfl)
                    refine fj_aload_n C 0 dX6_line_117 rfl rfl ?_
                    refine fj_get (Cn := RX6) (T := TX6) (N := 44) (ci := 6) (v := .ref (bd 8)) C iX6 0 (fm_at0 _ _ _ _ _) rfl 13 (by decide) kX6_39 rfl dX6_line_118 ?_
                    refine fj_aload_n C 0 dX6_line_121 rfl rfl ?_
                    refine fj_get (Cn := RX6) (T := TX6) (N := 44) (ci := 6) (v := .int (n 5)) C iX6 0 (fm_at0 _ _ _ _ _) rfl 12 (by decide) kX6_197 rfl dX6_line_122 ?_
                    refine fj_at (y := nI B) hn5 ?_
                    refine fj_iload_n C 1 dX6_line_125 rfl rfl ?_
                    refine fj_iast (f := (a 8)) C 8 (fm_at8 _ _ _ _ _) (vp_in_nI hB2 (by decide)) dX6_line_126 (fm_st8 _ _ _ _ _ _) ?_
                    refine fj_aload_n C 0 dX6_line_127 rfl rfl ?_
                    refine fj_get (Cn := RX6) (T := TX6) (N := 44) (ci := 6) (v := .ref (bd 9)) C iX6 0 (fm_at0 _ _ _ _ _) rfl 14 (by decide) kX6_42 rfl dX6_line_128 ?_
                    refine fj_aload_n C 0 dX6_line_131 rfl rfl ?_
                    refine fj_get (Cn := RX6) (T := TX6) (N := 44) (ci := 6) (v := .int (n 5)) C iX6 0 (fm_at0 _ _ _ _ _) rfl 12 (by decide) kX6_197 rfl dX6_line_132 ?_
                    refine fj_at (y := nI B) hn5 ?_
                    refine fj_iload_n C 2 dX6_line_135 rfl rfl ?_
                    refine fj_iast (f := (a 9)) C 9 (fm_at9 _ _ _ _ _) (vp_in_nI hB2 (by decide)) dX6_line_136 (fm_st9 _ _ _ _ _ _) ?_
                    refine fj_aload_n C 0 dX6_line_137 rfl rfl ?_
                    refine fj_get (Cn := RX6) (T := TX6) (N := 44) (ci := 6) (v := .ref (bd 10)) C iX6 0 (fm_at0 _ _ _ _ _) rfl 15 (by decide) kX6_45 rfl dX6_line_138 ?_
                    refine fj_aload_n C 0 dX6_line_141 rfl rfl ?_
                    refine fj_get (Cn := RX6) (T := TX6) (N := 44) (ci := 6) (v := .int (n 5)) C iX6 0 (fm_at0 _ _ _ _ _) rfl 12 (by decide) kX6_197 rfl dX6_line_142 ?_
                    refine fj_at (y := nI B) hn5 ?_
                    refine fj_iload_n C 3 dX6_line_145 rfl rfl ?_
                    refine fj_iast (f := (a 10)) C 10 (fm_at10 _ _ _ _ _) (vp_in_nI hB2 (by decide)) dX6_line_146 (fm_st10 _ _ _ _ _ _) ?_
                    refine fj_aload_n C 0 dX6_line_147 rfl rfl ?_
                    refine fj_get (Cn := RX6) (T := TX6) (N := 44) (ci := 6) (v := .ref (bd 11)) C iX6 0 (fm_at0 _ _ _ _ _) rfl 16 (by decide) kX6_48 rfl dX6_line_148 ?_
                    refine fj_aload_n C 0 dX6_line_151 rfl rfl ?_
                    refine fj_get (Cn := RX6) (T := TX6) (N := 44) (ci := 6) (v := .int (n 5)) C iX6 0 (fm_at0 _ _ _ _ _) rfl 12 (by decide) kX6_197 rfl dX6_line_152 ?_
                    refine fj_at (y := nI B) hn5 ?_
                    refine fj_iload C 4 dX6_line_155 rfl ?_
                    refine fj_iast (f := (a 11)) C 11 (fm_at11 _ _ _ _ _) (vp_in_nI hB2 (by decide)) dX6_line_157 (fm_st11 _ _ _ _ _ _) ?_
                    refine fj_aload_n C 0 dX6_line_158 rfl rfl ?_
                    refine fj_get (Cn := RX6) (T := TX6) (N := 44) (ci := 6) (v := .ref (bd 12)) C iX6 0 (fm_at0 _ _ _ _ _) rfl 17 (by decide) kX6_51 rfl dX6_line_159 ?_
                    refine fj_aload_n C 0 dX6_line_162 rfl rfl ?_
                    refine fj_get (Cn := RX6) (T := TX6) (N := 44) (ci := 6) (v := .int (n 5)) C iX6 0 (fm_at0 _ _ _ _ _) rfl 12 (by decide) kX6_197 rfl dX6_line_163 ?_
                    refine fj_at (y := nI B) hn5 ?_
                    refine fj_iload C 5 dX6_line_166 rfl ?_
                    refine fj_iast (f := (a 12)) C 12 (fm_at12 _ _ _ _ _) (vp_in_nI hB2 (by decide)) dX6_line_168 (fm_st12 _ _ _ _ _ _) ?_
                    refine fj_aload_n C 0 dX6_line_169 rfl rfl ?_
                    refine fj_get (Cn := RX6) (T := TX6) (N := 44) (ci := 6) (v := .ref (bd 13)) C iX6 0 (fm_at0 _ _ _ _ _) rfl 18 (by decide) kX6_54 rfl dX6_line_170 ?_
                    refine fj_aload_n C 0 dX6_line_173 rfl rfl ?_
                    refine fj_get (Cn := RX6) (T := TX6) (N := 44) (ci := 6) (v := .int (n 5)) C iX6 0 (fm_at0 _ _ _ _ _) rfl 12 (by decide) kX6_197 rfl dX6_line_174 ?_
                    refine fj_at (y := nI B) hn5 ?_
                    refine fj_iconst (v := 0) C dX6_line_177 (by decide) ?_
                    refine fj_zast (f := (a 13)) C 13 (fm_at13 _ _ _ _ _) (vp_in_nI hB2 (by decide)) dX6_line_178 (fm_st13 _ _ _ _ _ _) ?_
                    refine fj_aload_n C 0 dX6_line_179 rfl rfl ?_
                    refine fj_dup C dX6_line_180 rfl ?_
                    refine fj_get (Cn := RX6) (T := TX6) (N := 44) (ci := 6) (v := .int (n 5)) C iX6 0 (fm_at0 _ _ _ _ _) rfl 12 (by decide) kX6_197 rfl dX6_line_181 ?_
                    refine fj_at (y := nI B) hn5 ?_
                    refine fj_iconst (v := 1) C dX6_line_184 (by decide) ?_
                    refine fj_iadd C dX6_line_185 ?_
                    refine fj_at (y := nI (B + 1)) (nI_1 B) ?_
                    refine fj_put (Cn := RX6) (T := TX6) (N := 44) (ci := 6) C iX6 tyX6 tyX6_ok nmX6 0 (fm_at0 _ _ _ _ _) rfl 12 (by decide) kX6_197 rfl rfl rfl (Nat.le_of_ble_eq_true rfl) dX6_line_186 (fm_si0_12 _ _ _ _ _ _) ?_
                    refine fj_aload_n C 0 dX6_line_189 rfl rfl ?_
                    refine fj_get (Cn := RX6) (T := TX6) (N := 44) (ci := 6) (v := .int (nI (B + 1))) C iX6 0 (fm_at0 _ _ _ _ _) rfl 12 (by decide) kX6_197 rfl dX6_line_190 ?_
                    refine fj_iconst (v := 1) C dX6_line_193 (by decide) ?_
                    refine fj_isub C dX6_line_194 ?_
                    refine fj_at (y := nI B) (nI_pred B) ?_
                    exact fj_iret C E9 dX6_line_195 ⟨by grind, by rw [if_pos (by grind)]⟩
                  · have hB2 : ¬ B < 120 := fun q => absurd (fx_eqI (b := 120) h110 (by omega) (by decide)) (by omega)
                    refine fj_sipush (v := (-1004)) C dX6_line_113 (by decide) ?_
                    exact fj_iret C E9 dX6_line_116 ⟨by grind, by rw [if_neg (by grind)]⟩
                · refine fj_iload C 5 dX6_line_87 rfl ?_
                  refine fj_i2l C dX6_line_89 ?_
                  refine fj_lconst (v := 1) C dX6_line_90 (by decide) ?_
                  refine fj_ldc2 (v := 160) C dX6_line_91 kL195 ?_
                  refine fj_callSw (As := [.long u.toInt64, .long 1, .long 160]) (rest := []) C (d_X6_inI l D ty t0 (fm_w bd ty a g n) u 1 160 1 160 (by decide) (by decide)) (va_cwS 3 C.2.2.2.2.1 gX6_line_X6_in rfl rfl rfl (by decide +kernel) ⟨Nat.le_of_ble_eq_true rfl, Nat.le_of_ble_eq_true rfl⟩)  rfl (Nat.le_of_ble_eq_true rfl) dX6_line_94 ⟨Nat.zero_le _, Nat.zero_le _⟩ (fun v9 w9 hp9 => ?_)
                  obtain ⟨rfl, rfl⟩ := hp9
                  refine fj_st (st' := .int (if (1 ≤ u ∧ u ≤ 160) then 1 else 0) :: []) rfl ?_
                  refine fj_ifb_ne (tgt := 104) C dX6_line_97 (by decide) (fun h97 => ?_) (fun h97 => ?_)
                  · refine fj_aload_n C 0 dX6_line_104 rfl rfl ?_
                    refine fj_get (Cn := RX6) (T := TX6) (N := 44) (ci := 6) (v := .int (n 5)) C iX6 0 (fm_at0 _ _ _ _ _) rfl 12 (by decide) kX6_197 rfl dX6_line_105 ?_
                    refine fj_at (y := nI B) hn5 ?_
                    refine fj_bipush (v := 120) C dX6_line_108 (by decide) ?_
                    refine fj_icmp_ne (tgt := 117) C dX6_line_110 (by decide) (fun h110 => ?_) (fun h110 => ?_)
                    · have hB2 : B < 120 := Nat.lt_of_le_of_ne hB fun e => h110 (by rw [e]; rfl)
                      refine fj_aload_n C 0 dX6_line_117 rfl rfl ?_
                      refine fj_get (Cn := RX6) (T := TX6) (N := 44) (ci := 6) (v := .ref (bd 8)) C iX6 0 (fm_at0 _ _ _ _ _) rfl 13 (by decide) kX6_39 rfl dX6_line_118 ?_
                      refine fj_aload_n C 0 dX6_line_121 rfl rfl ?_
                      refine fj_get (Cn := RX6) (T := TX6) (N := 44) (ci := 6) (v := .int (n 5)) C iX6 0 (fm_at0 _ _ _ _ _) rfl 12 (by decide) kX6_197 rfl dX6_line_122 ?_
                      refine fj_at (y := nI B) hn5 ?_
                      refine fj_iload_n C 1 dX6_line_125 rfl rfl ?_
                      refine fj_iast (f := (a 8)) C 8 (fm_at8 _ _ _ _ _) (vp_in_nI hB2 (by decide)) dX6_line_126 (fm_st8 _ _ _ _ _ _) ?_
                      refine fj_aload_n C 0 dX6_line_127 rfl rfl ?_
                      refine fj_get (Cn := RX6) (T := TX6) (N := 44) (ci := 6) (v := .ref (bd 9)) C iX6 0 (fm_at0 _ _ _ _ _) rfl 14 (by decide) kX6_42 rfl dX6_line_128 ?_
                      refine fj_aload_n C 0 dX6_line_131 rfl rfl ?_
                      refine fj_get (Cn := RX6) (T := TX6) (N := 44) (ci := 6) (v := .int (n 5)) C iX6 0 (fm_at0 _ _ _ _ _) rfl 12 (by decide) kX6_197 rfl dX6_line_132 ?_
                      refine fj_at (y := nI B) hn5 ?_
                      refine fj_iload_n C 2 dX6_line_135 rfl rfl ?_
                      refine fj_iast (f := (a 9)) C 9 (fm_at9 _ _ _ _ _) (vp_in_nI hB2 (by decide)) dX6_line_136 (fm_st9 _ _ _ _ _ _) ?_
                      refine fj_aload_n C 0 dX6_line_137 rfl rfl ?_
                      refine fj_get (Cn := RX6) (T := TX6) (N := 44) (ci := 6) (v := .ref (bd 10)) C iX6 0 (fm_at0 _ _ _ _ _) rfl 15 (by decide) kX6_45 rfl dX6_line_138 ?_
                      refine fj_aload_n C 0 dX6_line_141 rfl rfl ?_
                      refine fj_get (Cn := RX6) (T := TX6) (N := 44) (ci := 6) (v := .int (n 5)) C iX6 0 (fm_at0 _ _ _ _ _) rfl 12 (by decide) kX6_197 rfl dX6_line_142 ?_
                      refine fj_at (y := nI B) hn5 ?_
                      refine fj_iload_n C 3 dX6_line_145 rfl rfl ?_
                      refine fj_iast (f := (a 10)) C 10 (fm_at10 _ _ _ _ _) (vp_in_nI hB2 (by decide)) dX6_line_146 (fm_st10 _ _ _ _ _ _) ?_
                      refine fj_aload_n C 0 dX6_line_147 rfl rfl ?_
                      refine fj_get (Cn := RX6) (T := TX6) (N := 44) (ci := 6) (v := .ref (bd 11)) C iX6 0 (fm_at0 _ _ _ _ _) rfl 16 (by decide) kX6_48 rfl dX6_line_148 ?_
                      refine fj_aload_n C 0 dX6_line_151 rfl rfl ?_
                      refine fj_get (Cn := RX6) (T := TX6) (N := 44) (ci := 6) (v := .int (n 5)) C iX6 0 (fm_at0 _ _ _ _ _) rfl 12 (by decide) kX6_197 rfl dX6_line_152 ?_
                      refine fj_at (y := nI B) hn5 ?_
                      refine fj_iload C 4 dX6_line_155 rfl ?_
                      refine fj_iast (f := (a 11)) C 11 (fm_at11 _ _ _ _ _) (vp_in_nI hB2 (by decide)) dX6_line_157 (fm_st11 _ _ _ _ _ _) ?_
                      refine fj_aload_n C 0 dX6_line_158 rfl rfl ?_
                      refine fj_get (Cn := RX6) (T := TX6) (N := 44) (ci := 6) (v := .ref (bd 12)) C iX6 0 (fm_at0 _ _ _ _ _) rfl 17 (by decide) kX6_51 rfl dX6_line_159 ?_
                      refine fj_aload_n C 0 dX6_line_162 rfl rfl ?_
                      refine fj_get (Cn := RX6) (T := TX6) (N := 44) (ci := 6) (v := .int (n 5)) C iX6 0 (fm_at0 _ _ _ _ _) rfl 12 (by decide) kX6_197 rfl dX6_line_163 ?_
                      refine fj_at (y := nI B) hn5 ?_
                      refine fj_iload C 5 dX6_line_166 rfl ?_
                      refine fj_iast (f := (a 12)) C 12 (fm_at12 _ _ _ _ _) (vp_in_nI hB2 (by decide)) dX6_line_168 (fm_st12 _ _ _ _ _ _) ?_
                      refine fj_aload_n C 0 dX6_line_169 rfl rfl ?_
                      refine fj_get (Cn := RX6) (T := TX6) (N := 44) (ci := 6) (v := .ref (bd 13)) C iX6 0 (fm_at0 _ _ _ _ _) rfl 18 (by decide) kX6_54 rfl dX6_line_170 ?_
                      refine fj_aload_n C 0 dX6_line_173 rfl rfl ?_
                      refine fj_get (Cn := RX6) (T := TX6) (N := 44) (ci := 6) (v := .int (n 5)) C iX6 0 (fm_at0 _ _ _ _ _) rfl 12 (by decide) kX6_197 rfl dX6_line_174 ?_
                      refine fj_at (y := nI B) hn5 ?_
                      refine fj_iconst (v := 0) C dX6_line_177 (by decide) ?_
                      refine fj_zast (f := (a 13)) C 13 (fm_at13 _ _ _ _ _) (vp_in_nI hB2 (by decide)) dX6_line_178 (fm_st13 _ _ _ _ _ _) ?_
                      refine fj_aload_n C 0 dX6_line_179 rfl rfl ?_
                      refine fj_dup C dX6_line_180 rfl ?_
                      refine fj_get (Cn := RX6) (T := TX6) (N := 44) (ci := 6) (v := .int (n 5)) C iX6 0 (fm_at0 _ _ _ _ _) rfl 12 (by decide) kX6_197 rfl dX6_line_181 ?_
                      refine fj_at (y := nI B) hn5 ?_
                      refine fj_iconst (v := 1) C dX6_line_184 (by decide) ?_
                      refine fj_iadd C dX6_line_185 ?_
                      refine fj_at (y := nI (B + 1)) (nI_1 B) ?_
                      refine fj_put (Cn := RX6) (T := TX6) (N := 44) (ci := 6) C iX6 tyX6 tyX6_ok nmX6 0 (fm_at0 _ _ _ _ _) rfl 12 (by decide) kX6_197 rfl rfl rfl (Nat.le_of_ble_eq_true rfl) dX6_line_186 (fm_si0_12 _ _ _ _ _ _) ?_
                      refine fj_aload_n C 0 dX6_line_189 rfl rfl ?_
                      refine fj_get (Cn := RX6) (T := TX6) (N := 44) (ci := 6) (v := .int (nI (B + 1))) C iX6 0 (fm_at0 _ _ _ _ _) rfl 12 (by decide) kX6_197 rfl dX6_line_190 ?_
                      refine fj_iconst (v := 1) C dX6_line_193 (by decide) ?_
                      refine fj_isub C dX6_line_194 ?_
                      refine fj_at (y := nI B) (nI_pred B) ?_
                      exact fj_iret C E9 dX6_line_195 ⟨by grind, by rw [if_pos (by grind)]⟩
                    · have hB2 : ¬ B < 120 := fun q => absurd (fx_eqI (b := 120) h110 (by omega) (by decide)) (by omega)
                      refine fj_sipush (v := (-1004)) C dX6_line_113 (by decide) ?_
                      exact fj_iret C E9 dX6_line_116 ⟨by grind, by rw [if_neg (by grind)]⟩
                  · refine fj_sipush (v := (-1002)) C dX6_line_100 (by decide) ?_
                    exact fj_iret C E9 dX6_line_103 ⟨by grind, by rw [if_neg (by grind)]⟩
        · refine fj_aload_n C 0 dX6_line_44 rfl rfl ?_
          refine fj_iload C 5 dX6_line_45 rfl ?_
          refine fj_callVw (As := [.int u]) (rest := []) C (d_X6_isPerson l D ty t0 bd a g n P S T B I u) (cwV 1 C.2.2.2.2.1 gX6_line_X6_isPerson rfl rfl rfl (by decide +kernel) ⟨Nat.le_of_ble_eq_true rfl, Nat.le_of_ble_eq_true rfl⟩) ⟨0, 6, _, _, fm_at0 _ _ _ _ _, rfl, rfl⟩ rfl (Nat.le_of_ble_eq_true rfl) dX6_line_47 ⟨Nat.zero_le _, Nat.zero_le _⟩ (fun v9 w9 hp9 => ?_)
          obtain ⟨rfl, rfl⟩ := hp9
          refine fj_st (st' := .int (if ib u P then 1 else 0) :: []) rfl ?_
          refine fj_ifb_ne (tgt := 57) C dX6_line_50 (by decide) (fun h50 => ?_) (fun h50 => ?_)
          · refine fj_iload_n C 1 dX6_line_57 rfl rfl ?_
            refine fj_callSw (As := [.int x]) (rest := []) C (d_X6_isDay l D ty t0 (fm_w bd ty a g n) x) (va_cwS 1 C.2.2.2.2.1 gX6_line_X6_isDay rfl rfl rfl (by decide +kernel) ⟨Nat.le_of_ble_eq_true rfl, Nat.le_of_ble_eq_true rfl⟩)  rfl (Nat.le_of_ble_eq_true rfl) dX6_line_58 ⟨Nat.zero_le _, Nat.zero_le _⟩ (fun v9 w9 hp9 => ?_)
            obtain ⟨rfl, rfl⟩ := hp9
            refine fj_st (st' := .int (if (0 ≤ x ∧ x ≤ 20000) then 1 else 0) :: []) rfl ?_
            refine fj_ifb_eq (tgt := 100) C dX6_line_61 (by decide) (fun h61 => ?_) (fun h61 => ?_)
            · refine fj_sipush (v := (-1002)) C dX6_line_100 (by decide) ?_
              exact fj_iret C E9 dX6_line_103 ⟨by grind, by rw [if_neg (by grind)]⟩
            · refine fj_iload_n C 2 dX6_line_64 rfl rfl ?_
              refine fj_iconst (v := 1) C dX6_line_65 (by decide) ?_
              refine fj_icmp_ne (tgt := 82) C dX6_line_66 (by decide) (fun h66 => ?_) (fun h66 => ?_)
              · refine fj_iload_n C 2 dX6_line_82 rfl rfl ?_
                refine fj_iconst (v := 2) C dX6_line_83 (by decide) ?_
                refine fj_icmp_ne (tgt := 104) C dX6_line_84 (by decide) (fun h84 => ?_) (fun h84 => ?_)
                · refine fj_aload_n C 0 dX6_line_104 rfl rfl ?_
                  refine fj_get (Cn := RX6) (T := TX6) (N := 44) (ci := 6) (v := .int (n 5)) C iX6 0 (fm_at0 _ _ _ _ _) rfl 12 (by decide) kX6_197 rfl dX6_line_105 ?_
                  refine fj_at (y := nI B) hn5 ?_
                  refine fj_bipush (v := 120) C dX6_line_108 (by decide) ?_
                  refine fj_icmp_ne (tgt := 117) C dX6_line_110 (by decide) (fun h110 => ?_) (fun h110 => ?_)
                  · have hB2 : B < 120 := Nat.lt_of_le_of_ne hB fun e => h110 (by rw [e]; rfl)
                    refine fj_aload_n C 0 dX6_line_117 rfl rfl ?_
                    refine fj_get (Cn := RX6) (T := TX6) (N := 44) (ci := 6) (v := .ref (bd 8)) C iX6 0 (fm_at0 _ _ _ _ _) rfl 13 (by decide) kX6_39 rfl dX6_line_118 ?_
                    refine fj_aload_n C 0 dX6_line_121 rfl rfl ?_
                    refine fj_get (Cn := RX6) (T := TX6) (N := 44) (ci := 6) (v := .int (n 5)) C iX6 0 (fm_at0 _ _ _ _ _) rfl 12 (by decide) kX6_197 rfl dX6_line_122 ?_
                    refine fj_at (y := nI B) hn5 ?_
                    refine fj_iload_n C 1 dX6_line_125 rfl rfl ?_
                    refine fj_iast (f := (a 8)) C 8 (fm_at8 _ _ _ _ _) (vp_in_nI hB2 (by decide)) dX6_line_126 (fm_st8 _ _ _ _ _ _) ?_
                    refine fj_aload_n C 0 dX6_line_127 rfl rfl ?_
                    refine fj_get (Cn := RX6) (T := TX6) (N := 44) (ci := 6) (v := .ref (bd 9)) C iX6 0 (fm_at0 _ _ _ _ _) rfl 14 (by decide) kX6_42 rfl dX6_line_128 ?_
                    refine fj_aload_n C 0 dX6_line_131 rfl rfl ?_
                    refine fj_get (Cn := RX6) (T := TX6) (N := 44) (ci := 6) (v := .int (n 5)) C iX6 0 (fm_at0 _ _ _ _ _) rfl 12 (by decide) kX6_197 rfl dX6_line_132 ?_
                    refine fj_at (y := nI B) hn5 ?_
                    refine fj_iload_n C 2 dX6_line_135 rfl rfl ?_
                    refine fj_iast (f := (a 9)) C 9 (fm_at9 _ _ _ _ _) (vp_in_nI hB2 (by decide)) dX6_line_136 (fm_st9 _ _ _ _ _ _) ?_
                    refine fj_aload_n C 0 dX6_line_137 rfl rfl ?_
                    refine fj_get (Cn := RX6) (T := TX6) (N := 44) (ci := 6) (v := .ref (bd 10)) C iX6 0 (fm_at0 _ _ _ _ _) rfl 15 (by decide) kX6_45 rfl dX6_line_138 ?_
                    refine fj_aload_n C 0 dX6_line_141 rfl rfl ?_
                    refine fj_get (Cn := RX6) (T := TX6) (N := 44) (ci := 6) (v := .int (n 5)) C iX6 0 (fm_at0 _ _ _ _ _) rfl 12 (by decide) kX6_197 rfl dX6_line_142 ?_
                    refine fj_at (y := nI B) hn5 ?_
                    refine fj_iload_n C 3 dX6_line_145 rfl rfl ?_
                    refine fj_iast (f := (a 10)) C 10 (fm_at10 _ _ _ _ _) (vp_in_nI hB2 (by decide)) dX6_line_146 (fm_st10 _ _ _ _ _ _) ?_
                    refine fj_aload_n C 0 dX6_line_147 rfl rfl ?_
                    refine fj_get (Cn := RX6) (T := TX6) (N := 44) (ci := 6) (v := .ref (bd 11)) C iX6 0 (fm_at0 _ _ _ _ _) rfl 16 (by decide) kX6_48 rfl dX6_line_148 ?_
                    refine fj_aload_n C 0 dX6_line_151 rfl rfl ?_
                    refine fj_get (Cn := RX6) (T := TX6) (N := 44) (ci := 6) (v := .int (n 5)) C iX6 0 (fm_at0 _ _ _ _ _) rfl 12 (by decide) kX6_197 rfl dX6_line_152 ?_
                    refine fj_at (y := nI B) hn5 ?_
                    refine fj_iload C 4 dX6_line_155 rfl ?_
                    refine fj_iast (f := (a 11)) C 11 (fm_at11 _ _ _ _ _) (vp_in_nI hB2 (by decide)) dX6_line_157 (fm_st11 _ _ _ _ _ _) ?_
                    refine fj_aload_n C 0 dX6_line_158 rfl rfl ?_
                    refine fj_get (Cn := RX6) (T := TX6) (N := 44) (ci := 6) (v := .ref (bd 12)) C iX6 0 (fm_at0 _ _ _ _ _) rfl 17 (by decide) kX6_51 rfl dX6_line_159 ?_
                    refine fj_aload_n C 0 dX6_line_162 rfl rfl ?_
                    refine fj_get (Cn := RX6) (T := TX6) (N := 44) (ci := 6) (v := .int (n 5)) C iX6 0 (fm_at0 _ _ _ _ _) rfl 12 (by decide) kX6_197 rfl dX6_line_163 ?_
                    refine fj_at (y := nI B) hn5 ?_
                    refine fj_iload C 5 dX6_line_166 rfl ?_
                    refine fj_iast (f := (a 12)) C 12 (fm_at12 _ _ _ _ _) (vp_in_nI hB2 (by decide)) dX6_line_168 (fm_st12 _ _ _ _ _ _) ?_
                    refine fj_aload_n C 0 dX6_line_169 rfl rfl ?_
                    refine fj_get (Cn := RX6) (T := TX6) (N := 44) (ci := 6) (v := .ref (bd 13)) C iX6 0 (fm_at0 _ _ _ _ _) rfl 18 (by decide) kX6_54 rfl dX6_line_170 ?_
                    refine fj_aload_n C 0 dX6_line_173 rfl rfl ?_
                    refine fj_get (Cn := RX6) (T := TX6) (N := 44) (ci := 6) (v := .int (n 5)) C iX6 0 (fm_at0 _ _ _ _ _) rfl 12 (by decide) kX6_197 rfl dX6_line_174 ?_
                    refine fj_at (y := nI B) hn5 ?_
                    refine fj_iconst (v := 0) C dX6_line_177 (by decide) ?_
                    refine fj_zast (f := (a 13)) C 13 (fm_at13 _ _ _ _ _) (vp_in_nI hB2 (by decide)) dX6_line_178 (fm_st13 _ _ _ _ _ _) ?_
                    refine fj_aload_n C 0 dX6_line_179 rfl rfl ?_
                    refine fj_dup C dX6_line_180 rfl ?_
                    refine fj_get (Cn := RX6) (T := TX6) (N := 44) (ci := 6) (v := .int (n 5)) C iX6 0 (fm_at0 _ _ _ _ _) rfl 12 (by decide) kX6_197 rfl dX6_line_181 ?_
                    refine fj_at (y := nI B) hn5 ?_
                    refine fj_iconst (v := 1) C dX6_line_184 (by decide) ?_
                    refine fj_iadd C dX6_line_185 ?_
                    refine fj_at (y := nI (B + 1)) (nI_1 B) ?_
                    refine fj_put (Cn := RX6) (T := TX6) (N := 44) (ci := 6) C iX6 tyX6 tyX6_ok nmX6 0 (fm_at0 _ _ _ _ _) rfl 12 (by decide) kX6_197 rfl rfl rfl (Nat.le_of_ble_eq_true rfl) dX6_line_186 (fm_si0_12 _ _ _ _ _ _) ?_
                    refine fj_aload_n C 0 dX6_line_189 rfl rfl ?_
                    refine fj_get (Cn := RX6) (T := TX6) (N := 44) (ci := 6) (v := .int (nI (B + 1))) C iX6 0 (fm_at0 _ _ _ _ _) rfl 12 (by decide) kX6_197 rfl dX6_line_190 ?_
                    refine fj_iconst (v := 1) C dX6_line_193 (by decide) ?_
                    refine fj_isub C dX6_line_194 ?_
                    refine fj_at (y := nI B) (nI_pred B) ?_
                    exact fj_iret C E9 dX6_line_195 ⟨by grind, by rw [if_pos (by grind)]⟩
                  · have hB2 : ¬ B < 120 := fun q => absurd (fx_eqI (b := 120) h110 (by omega) (by decide)) (by omega)
                    refine fj_sipush (v := (-1004)) C dX6_line_113 (by decide) ?_
                    exact fj_iret C E9 dX6_line_116 ⟨by grind, by rw [if_neg (by grind)]⟩
                · refine fj_iload C 5 dX6_line_87 rfl ?_
                  refine fj_i2l C dX6_line_89 ?_
                  refine fj_lconst (v := 1) C dX6_line_90 (by decide) ?_
                  refine fj_ldc2 (v := 160) C dX6_line_91 kL195 ?_
                  refine fj_callSw (As := [.long u.toInt64, .long 1, .long 160]) (rest := []) C (d_X6_inI l D ty t0 (fm_w bd ty a g n) u 1 160 1 160 (by decide) (by decide)) (va_cwS 3 C.2.2.2.2.1 gX6_line_X6_in rfl rfl rfl (by decide +kernel) ⟨Nat.le_of_ble_eq_true rfl, Nat.le_of_ble_eq_true rfl⟩)  rfl (Nat.le_of_ble_eq_true rfl) dX6_line_94 ⟨Nat.zero_le _, Nat.zero_le _⟩ (fun v9 w9 hp9 => ?_)
                  obtain ⟨rfl, rfl⟩ := hp9
                  refine fj_st (st' := .int (if (1 ≤ u ∧ u ≤ 160) then 1 else 0) :: []) rfl ?_
                  refine fj_ifb_ne (tgt := 104) C dX6_line_97 (by decide) (fun h97 => ?_) (fun h97 => ?_)
                  · refine fj_aload_n C 0 dX6_line_104 rfl rfl ?_
                    refine fj_get (Cn := RX6) (T := TX6) (N := 44) (ci := 6) (v := .int (n 5)) C iX6 0 (fm_at0 _ _ _ _ _) rfl 12 (by decide) kX6_197 rfl dX6_line_105 ?_
                    refine fj_at (y := nI B) hn5 ?_
                    refine fj_bipush (v := 120) C dX6_line_108 (by decide) ?_
                    refine fj_icmp_ne (tgt := 117) C dX6_line_110 (by decide) (fun h110 => ?_) (fun h110 => ?_)
                    · have hB2 : B < 120 := Nat.lt_of_le_of_ne hB fun e => h110 (by rw [e]; rfl)
                      refine fj_aload_n C 0 dX6_line_117 rfl rfl ?_
                      refine fj_get (Cn := RX6) (T := TX6) (N := 44) (ci := 6) (v := .ref (bd 8)) C iX6 0 (fm_at0 _ _ _ _ _) rfl 13 (by decide) kX6_39 rfl dX6_line_118 ?_
                      refine fj_aload_n C 0 dX6_line_121 rfl rfl ?_
                      refine fj_get (Cn := RX6) (T := TX6) (N := 44) (ci := 6) (v := .int (n 5)) C iX6 0 (fm_at0 _ _ _ _ _) rfl 12 (by decide) kX6_197 rfl dX6_line_122 ?_
                      refine fj_at (y := nI B) hn5 ?_
                      refine fj_iload_n C 1 dX6_line_125 rfl rfl ?_
                      refine fj_iast (f := (a 8)) C 8 (fm_at8 _ _ _ _ _) (vp_in_nI hB2 (by decide)) dX6_line_126 (fm_st8 _ _ _ _ _ _) ?_
                      refine fj_aload_n C 0 dX6_line_127 rfl rfl ?_
                      refine fj_get (Cn := RX6) (T := TX6) (N := 44) (ci := 6) (v := .ref (bd 9)) C iX6 0 (fm_at0 _ _ _ _ _) rfl 14 (by decide) kX6_42 rfl dX6_line_128 ?_
                      refine fj_aload_n C 0 dX6_line_131 rfl rfl ?_
                      refine fj_get (Cn := RX6) (T := TX6) (N := 44) (ci := 6) (v := .int (n 5)) C iX6 0 (fm_at0 _ _ _ _ _) rfl 12 (by decide) kX6_197 rfl dX6_line_132 ?_
                      refine fj_at (y := nI B) hn5 ?_
                      refine fj_iload_n C 2 dX6_line_135 rfl rfl ?_
                      refine fj_iast (f := (a 9)) C 9 (fm_at9 _ _ _ _ _) (vp_in_nI hB2 (by decide)) dX6_line_136 (fm_st9 _ _ _ _ _ _) ?_
                      refine fj_aload_n C 0 dX6_line_137 rfl rfl ?_
                      refine fj_get (Cn := RX6) (T := TX6) (N := 44) (ci := 6) (v := .ref (bd 10)) C iX6 0 (fm_at0 _ _ _ _ _) rfl 15 (by decide) kX6_45 rfl dX6_line_138 ?_
                      refine fj_aload_n C 0 dX6_line_141 rfl rfl ?_
                      refine fj_get (Cn := RX6) (T := TX6) (N := 44) (ci := 6) (v := .int (n 5)) C iX6 0 (fm_at0 _ _ _ _ _) rfl 12 (by decide) kX6_197 rfl dX6_line_142 ?_
                      refine fj_at (y := nI B) hn5 ?_
                      refine fj_iload_n C 3 dX6_line_145 rfl rfl ?_
                      refine fj_iast (f := (a 10)) C 10 (fm_at10 _ _ _ _ _) (vp_in_nI hB2 (by decide)) dX6_line_146 (fm_st10 _ _ _ _ _ _) ?_
                      refine fj_aload_n C 0 dX6_line_147 rfl rfl ?_
                      refine fj_get (Cn := RX6) (T := TX6) (N := 44) (ci := 6) (v := .ref (bd 11)) C iX6 0 (fm_at0 _ _ _ _ _) rfl 16 (by decide) kX6_48 rfl dX6_line_148 ?_
                      refine fj_aload_n C 0 dX6_line_151 rfl rfl ?_
                      refine fj_get (Cn := RX6) (T := TX6) (N := 44) (ci := 6) (v := .int (n 5)) C iX6 0 (fm_at0 _ _ _ _ _) rfl 12 (by decide) kX6_197 rfl dX6_line_152 ?_
                      refine fj_at (y := nI B) hn5 ?_
                      refine fj_iload C 4 dX6_line_155 rfl ?_
                      refine fj_iast (f := (a 11)) C 11 (fm_at11 _ _ _ _ _) (vp_in_nI hB2 (by decide)) dX6_line_157 (fm_st11 _ _ _ _ _ _) ?_
                      refine fj_aload_n C 0 dX6_line_158 rfl rfl ?_
                      refine fj_get (Cn := RX6) (T := TX6) (N := 44) (ci := 6) (v := .ref (bd 12)) C iX6 0 (fm_at0 _ _ _ _ _) rfl 17 (by decide) kX6_51 rfl dX6_line_159 ?_
                      refine fj_aload_n C 0 dX6_line_162 rfl rfl ?_
                      refine fj_get (Cn := RX6) (T := TX6) (N := 44) (ci := 6) (v := .int (n 5)) C iX6 0 (fm_at0 _ _ _ _ _) rfl 12 (by decide) kX6_197 rfl dX6_line_163 ?_
                      refine fj_at (y := nI B) hn5 ?_
                      refine fj_iload C 5 dX6_line_166 rfl ?_
                      refine fj_iast (f := (a 12)) C 12 (fm_at12 _ _ _ _ _) (vp_in_nI hB2 (by decide)) dX6_line_168 (fm_st12 _ _ _ _ _ _) ?_
                      refine fj_aload_n C 0 dX6_line_169 rfl rfl ?_
                      refine fj_get (Cn := RX6) (T := TX6) (N := 44) (ci := 6) (v := .ref (bd 13)) C iX6 0 (fm_at0 _ _ _ _ _) rfl 18 (by decide) kX6_54 rfl dX6_line_170 ?_
                      refine fj_aload_n C 0 dX6_line_173 rfl rfl ?_
                      refine fj_get (Cn := RX6) (T := TX6) (N := 44) (ci := 6) (v := .int (n 5)) C iX6 0 (fm_at0 _ _ _ _ _) rfl 12 (by decide) kX6_197 rfl dX6_line_174 ?_
                      refine fj_at (y := nI B) hn5 ?_
                      refine fj_iconst (v := 0) C dX6_line_177 (by decide) ?_
                      refine fj_zast (f := (a 13)) C 13 (fm_at13 _ _ _ _ _) (vp_in_nI hB2 (by decide)) dX6_line_178 (fm_st13 _ _ _ _ _ _) ?_
                      refine fj_aload_n C 0 dX6_line_179 rfl rfl ?_
                      refine fj_dup C dX6_line_180 rfl ?_
                      refine fj_get (Cn := RX6) (T := TX6) (N := 44) (ci := 6) (v := .int (n 5)) C iX6 0 (fm_at0 _ _ _ _ _) rfl 12 (by decide) kX6_197 rfl dX6_line_181 ?_
                      refine fj_at (y := nI B) hn5 ?_
                      refine fj_iconst (v := 1) C dX6_line_184 (by decide) ?_
                      refine fj_iadd C dX6_line_185 ?_
                      refine fj_at (y := nI (B + 1)) (nI_1 B) ?_
                      refine fj_put (Cn := RX6) (T := TX6) (N := 44) (ci := 6) C iX6 tyX6 tyX6_ok nmX6 0 (fm_at0 _ _ _ _ _) rfl 12 (by decide) kX6_197 rfl rfl rfl (Nat.le_of_ble_eq_true rfl) dX6_line_186 (fm_si0_12 _ _ _ _ _ _) ?_
                      refine fj_aload_n C 0 dX6_line_189 rfl rfl ?_
                      refine fj_get (Cn := RX6) (T := TX6) (N := 44) (ci := 6) (v := .int (nI (B + 1))) C iX6 0 (fm_at0 _ _ _ _ _) rfl 12 (by decide) kX6_197 rfl dX6_line_190 ?_
                      refine fj_iconst (v := 1) C dX6_line_193 (by decide) ?_
                      refine fj_isub C dX6_line_194 ?_
                      refine fj_at (y := nI B) (nI_pred B) ?_
                      exact fj_iret C E9 dX6_line_195 ⟨by grind, by rw [if_pos (by grind)]⟩
                    · have hB2 : ¬ B < 120 := fun q => absurd (fx_eqI (b := 120) h110 (by omega) (by decide)) (by omega)
                      refine fj_sipush (v := (-1004)) C dX6_line_113 (by decide) ?_
                      exact fj_iret C E9 dX6_line_116 ⟨by grind, by rw [if_neg (by grind)]⟩
                  · refine fj_sipush (v := (-1002)) C dX6_line_100 (by decide) ?_
                    exact fj_iret C E9 dX6_line_103 ⟨by grind, by rw [if_neg (by grind)]⟩
              · refine fj_iload C 5 dX6_line_69 rfl ?_
                refine fj_i2l C dX6_line_71 ?_
                refine fj_lconst (v := 1) C dX6_line_72 (by decide) ?_
                refine fj_ldc2 (v := 5000) C dX6_line_73 kL193 ?_
                refine fj_callSw (As := [.long u.toInt64, .long 1, .long 5000]) (rest := []) C (d_X6_inI l D ty t0 (fm_w bd ty a g n) u 1 5000 1 5000 (by decide) (by decide)) (va_cwS 3 C.2.2.2.2.1 gX6_line_X6_in rfl rfl rfl (by decide +kernel) ⟨Nat.le_of_ble_eq_true rfl, Nat.le_of_ble_eq_true rfl⟩)  rfl (Nat.le_of_ble_eq_true rfl) dX6_line_76 ⟨Nat.zero_le _, Nat.zero_le _⟩ (fun v9 w9 hp9 => ?_)
                obtain ⟨rfl, rfl⟩ := hp9
                refine fj_st (st' := .int (if (1 ≤ u ∧ u ≤ 5000) then 1 else 0) :: []) rfl ?_
                refine fj_ifb_eq (tgt := 100) C dX6_line_79 (by decide) (fun h79 => ?_) (fun h79 => ?_)
                · refine fj_sipush (v := (-1002)) C dX6_line_100 (by decide) ?_
                  exact fj_iret C E9 dX6_line_103 ⟨by grind, by rw [if_neg (by grind)]⟩
                · refine fj_iload_n C 2 dX6_line_82 rfl rfl ?_
                  refine fj_iconst (v := 2) C dX6_line_83 (by decide) ?_
                  refine fj_icmp_ne (tgt := 104) C dX6_line_84 (by decide) (fun h84 => ?_) (fun h84 => ?_)
                  · refine fj_aload_n C 0 dX6_line_104 rfl rfl ?_
                    refine fj_get (Cn := RX6) (T := TX6) (N := 44) (ci := 6) (v := .int (n 5)) C iX6 0 (fm_at0 _ _ _ _ _) rfl 12 (by decide) kX6_197 rfl dX6_line_105 ?_
                    refine fj_at (y := nI B) hn5 ?_
                    refine fj_bipush (v := 120) C dX6_line_108 (by decide) ?_
                    refine fj_icmp_ne (tgt := 117) C dX6_line_110 (by decide) (fun h110 => ?_) (fun h110 => ?_)
                    · have hB2 : B < 120 := Nat.lt_of_le_of_ne hB fun e => h110 (by rw [e]; rfl)
                      refine fj_aload_n C 0 dX6_line_117 rfl rfl ?_
                      refine fj_get (Cn := RX6) (T := TX6) (N := 44) (ci := 6) (v := .ref (bd 8)) C iX6 0 (fm_at0 _ _ _ _ _) rfl 13 (by decide) kX6_39 rfl dX6_line_118 ?_
                      refine fj_aload_n C 0 dX6_line_121 rfl rfl ?_
                      refine fj_get (Cn := RX6) (T := TX6) (N := 44) (ci := 6) (v := .int (n 5)) C iX6 0 (fm_at0 _ _ _ _ _) rfl 12 (by decide) kX6_197 rfl dX6_line_122 ?_
                      refine fj_at (y := nI B) hn5 ?_
                      refine fj_iload_n C 1 dX6_line_125 rfl rfl ?_
                      refine fj_iast (f := (a 8)) C 8 (fm_at8 _ _ _ _ _) (vp_in_nI hB2 (by decide)) dX6_line_126 (fm_st8 _ _ _ _ _ _) ?_
                      refine fj_aload_n C 0 dX6_line_127 rfl rfl ?_
                      refine fj_get (Cn := RX6) (T := TX6) (N := 44) (ci := 6) (v := .ref (bd 9)) C iX6 0 (fm_at0 _ _ _ _ _) rfl 14 (by decide) kX6_42 rfl dX6_line_128 ?_
                      refine fj_aload_n C 0 dX6_line_131 rfl rfl ?_
                      refine fj_get (Cn := RX6) (T := TX6) (N := 44) (ci := 6) (v := .int (n 5)) C iX6 0 (fm_at0 _ _ _ _ _) rfl 12 (by decide) kX6_197 rfl dX6_line_132 ?_
                      refine fj_at (y := nI B) hn5 ?_
                      refine fj_iload_n C 2 dX6_line_135 rfl rfl ?_
                      refine fj_iast (f := (a 9)) C 9 (fm_at9 _ _ _ _ _) (vp_in_nI hB2 (by decide)) dX6_line_136 (fm_st9 _ _ _ _ _ _) ?_
                      refine fj_aload_n C 0 dX6_line_137 rfl rfl ?_
                      refine fj_get (Cn := RX6) (T := TX6) (N := 44) (ci := 6) (v := .ref (bd 10)) C iX6 0 (fm_at0 _ _ _ _ _) rfl 15 (by decide) kX6_45 rfl dX6_line_138 ?_
                      refine fj_aload_n C 0 dX6_line_141 rfl rfl ?_
                      refine fj_get (Cn := RX6) (T := TX6) (N := 44) (ci := 6) (v := .int (n 5)) C iX6 0 (fm_at0 _ _ _ _ _) rfl 12 (by decide) kX6_197 rfl dX6_line_142 ?_
                      refine fj_at (y := nI B) hn5 ?_
                      refine fj_iload_n C 3 dX6_line_145 rfl rfl ?_
                      refine fj_iast (f := (a 10)) C 10 (fm_at10 _ _ _ _ _) (vp_in_nI hB2 (by decide)) dX6_line_146 (fm_st10 _ _ _ _ _ _) ?_
                      refine fj_aload_n C 0 dX6_line_147 rfl rfl ?_
                      refine fj_get (Cn := RX6) (T := TX6) (N := 44) (ci := 6) (v := .ref (bd 11)) C iX6 0 (fm_at0 _ _ _ _ _) rfl 16 (by decide) kX6_48 rfl dX6_line_148 ?_
                      refine fj_aload_n C 0 dX6_line_151 rfl rfl ?_
                      refine fj_get (Cn := RX6) (T := TX6) (N := 44) (ci := 6) (v := .int (n 5)) C iX6 0 (fm_at0 _ _ _ _ _) rfl 12 (by decide) kX6_197 rfl dX6_line_152 ?_
                      refine fj_at (y := nI B) hn5 ?_
                      refine fj_iload C 4 dX6_line_155 rfl ?_
                      refine fj_iast (f := (a 11)) C 11 (fm_at11 _ _ _ _ _) (vp_in_nI hB2 (by decide)) dX6_line_157 (fm_st11 _ _ _ _ _ _) ?_
                      refine fj_aload_n C 0 dX6_line_158 rfl rfl ?_
                      refine fj_get (Cn := RX6) (T := TX6) (N := 44) (ci := 6) (v := .ref (bd 12)) C iX6 0 (fm_at0 _ _ _ _ _) rfl 17 (by decide) kX6_51 rfl dX6_line_159 ?_
                      refine fj_aload_n C 0 dX6_line_162 rfl rfl ?_
                      refine fj_get (Cn := RX6) (T := TX6) (N := 44) (ci := 6) (v := .int (n 5)) C iX6 0 (fm_at0 _ _ _ _ _) rfl 12 (by decide) kX6_197 rfl dX6_line_163 ?_
                      refine fj_at (y := nI B) hn5 ?_
                      refine fj_iload C 5 dX6_line_166 rfl ?_
                      refine fj_iast (f := (a 12)) C 12 (fm_at12 _ _ _ _ _) (vp_in_nI hB2 (by decide)) dX6_line_168 (fm_st12 _ _ _ _ _ _) ?_
                      refine fj_aload_n C 0 dX6_line_169 rfl rfl ?_
                      refine fj_get (Cn := RX6) (T := TX6) (N := 44) (ci := 6) (v := .ref (bd 13)) C iX6 0 (fm_at0 _ _ _ _ _) rfl 18 (by decide) kX6_54 rfl dX6_line_170 ?_
                      refine fj_aload_n C 0 dX6_line_173 rfl rfl ?_
                      refine fj_get (Cn := RX6) (T := TX6) (N := 44) (ci := 6) (v := .int (n 5)) C iX6 0 (fm_at0 _ _ _ _ _) rfl 12 (by decide) kX6_197 rfl dX6_line_174 ?_
                      refine fj_at (y := nI B) hn5 ?_
                      refine fj_iconst (v := 0) C dX6_line_177 (by decide) ?_
                      refine fj_zast (f := (a 13)) C 13 (fm_at13 _ _ _ _ _) (vp_in_nI hB2 (by decide)) dX6_line_178 (fm_st13 _ _ _ _ _ _) ?_
                      refine fj_aload_n C 0 dX6_line_179 rfl rfl ?_
                      refine fj_dup C dX6_line_180 rfl ?_
                      refine fj_get (Cn := RX6) (T := TX6) (N := 44) (ci := 6) (v := .int (n 5)) C iX6 0 (fm_at0 _ _ _ _ _) rfl 12 (by decide) kX6_197 rfl dX6_line_181 ?_
                      refine fj_at (y := nI B) hn5 ?_
                      refine fj_iconst (v := 1) C dX6_line_184 (by decide) ?_
                      refine fj_iadd C dX6_line_185 ?_
                      refine fj_at (y := nI (B + 1)) (nI_1 B) ?_
                      refine fj_put (Cn := RX6) (T := TX6) (N := 44) (ci := 6) C iX6 tyX6 tyX6_ok nmX6 0 (fm_at0 _ _ _ _ _) rfl 12 (by decide) kX6_197 rfl rfl rfl (Nat.le_of_ble_eq_true rfl) dX6_line_186 (fm_si0_12 _ _ _ _ _ _) ?_
                      refine fj_aload_n C 0 dX6_line_189 rfl rfl ?_
                      refine fj_get (Cn := RX6) (T := TX6) (N := 44) (ci := 6) (v := .int (nI (B + 1))) C iX6 0 (fm_at0 _ _ _ _ _) rfl 12 (by decide) kX6_197 rfl dX6_line_190 ?_
                      refine fj_iconst (v := 1) C dX6_line_193 (by decide) ?_
                      refine fj_isub C dX6_line_194 ?_
                      refine fj_at (y := nI B) (nI_pred B) ?_
                      exact fj_iret C E9 dX6_line_195 ⟨by grind, by rw [if_pos (by grind)]⟩
                    · have hB2 : ¬ B < 120 := fun q => absurd (fx_eqI (b := 120) h110 (by omega) (by decide)) (by omega)
                      refine fj_sipush (v := (-1004)) C dX6_line_113 (by decide) ?_
                      exact fj_iret C E9 dX6_line_116 ⟨by grind, by rw [if_neg (by grind)]⟩
                  · refine fj_iload C 5 dX6_line_87 rfl ?_
                    refine fj_i2l C dX6_line_89 ?_
                    refine fj_lconst (v := 1) C dX6_line_90 (by decide) ?_
                    refine fj_ldc2 (v := 160) C dX6_line_91 kL195 ?_
                    refine fj_callSw (As := [.long u.toInt64, .long 1, .long 160]) (rest := []) C (d_X6_inI l D ty t0 (fm_w bd ty a g n) u 1 160 1 160 (by decide) (by decide)) (va_cwS 3 C.2.2.2.2.1 gX6_line_X6_in rfl rfl rfl (by decide +kernel) ⟨Nat.le_of_ble_eq_true rfl, Nat.le_of_ble_eq_true rfl⟩)  rfl (Nat.le_of_ble_eq_true rfl) dX6_line_94 ⟨Nat.zero_le _, Nat.zero_le _⟩ (fun v9 w9 hp9 => ?_)
                    obtain ⟨rfl, rfl⟩ := hp9
                    refine fj_st (st' := .int (if (1 ≤ u ∧ u ≤ 160) then 1 else 0) :: []) rfl ?_
                    refine fj_ifb_ne (tgt := 104) C dX6_line_97 (by decide) (fun h97 => ?_) (fun h97 => ?_)
                    · refine fj_aload_n C 0 dX6_line_104 rfl rfl ?_
                      refine fj_get (Cn := RX6) (T := TX6) (N := 44) (ci := 6) (v := .int (n 5)) C iX6 0 (fm_at0 _ _ _ _ _) rfl 12 (by decide) kX6_197 rfl dX6_line_105 ?_
                      refine fj_at (y := nI B) hn5 ?_
                      refine fj_bipush (v := 120) C dX6_line_108 (by decide) ?_
                      refine fj_icmp_ne (tgt := 117) C dX6_line_110 (by decide) (fun h110 => ?_) (fun h110 => ?_)
                      · have hB2 : B < 120 := Nat.lt_of_le_of_ne hB fun e => h110 (by rw [e]; rfl)
                        refine fj_aload_n C 0 dX6_line_117 rfl rfl ?_
                        refine fj_get (Cn := RX6) (T := TX6) (N := 44) (ci := 6) (v := .ref (bd 8)) C iX6 0 (fm_at0 _ _ _ _ _) rfl 13 (by decide) kX6_39 rfl dX6_line_118 ?_
                        refine fj_aload_n C 0 dX6_line_121 rfl rfl ?_
                        refine fj_get (Cn := RX6) (T := TX6) (N := 44) (ci := 6) (v := .int (n 5)) C iX6 0 (fm_at0 _ _ _ _ _) rfl 12 (by decide) kX6_197 rfl dX6_line_122 ?_
                        refine fj_at (y := nI B) hn5 ?_
                        refine fj_iload_n C 1 dX6_line_125 rfl rfl ?_
                        refine fj_iast (f := (a 8)) C 8 (fm_at8 _ _ _ _ _) (vp_in_nI hB2 (by decide)) dX6_line_126 (fm_st8 _ _ _ _ _ _) ?_
                        refine fj_aload_n C 0 dX6_line_127 rfl rfl ?_
                        refine fj_get (Cn := RX6) (T := TX6) (N := 44) (ci := 6) (v := .ref (bd 9)) C iX6 0 (fm_at0 _ _ _ _ _) rfl 14 (by decide) kX6_42 rfl dX6_line_128 ?_
                        refine fj_aload_n C 0 dX6_line_131 rfl rfl ?_
                        refine fj_get (Cn := RX6) (T := TX6) (N := 44) (ci := 6) (v := .int (n 5)) C iX6 0 (fm_at0 _ _ _ _ _) rfl 12 (by decide) kX6_197 rfl dX6_line_132 ?_
                        refine fj_at (y := nI B) hn5 ?_
                        refine fj_iload_n C 2 dX6_line_135 rfl rfl ?_
                        refine fj_iast (f := (a 9)) C 9 (fm_at9 _ _ _ _ _) (vp_in_nI hB2 (by decide)) dX6_line_136 (fm_st9 _ _ _ _ _ _) ?_
                        refine fj_aload_n C 0 dX6_line_137 rfl rfl ?_
                        refine fj_get (Cn := RX6) (T := TX6) (N := 44) (ci := 6) (v := .ref (bd 10)) C iX6 0 (fm_at0 _ _ _ _ _) rfl 15 (by decide) kX6_45 rfl dX6_line_138 ?_
                        refine fj_aload_n C 0 dX6_line_141 rfl rfl ?_
                        refine fj_get (Cn := RX6) (T := TX6) (N := 44) (ci := 6) (v := .int (n 5)) C iX6 0 (fm_at0 _ _ _ _ _) rfl 12 (by decide) kX6_197 rfl dX6_line_142 ?_
                        refine fj_at (y := nI B) hn5 ?_
                        refine fj_iload_n C 3 dX6_line_145 rfl rfl ?_
                        refine fj_iast (f := (a 10)) C 10 (fm_at10 _ _ _ _ _) (vp_in_nI hB2 (by decide)) dX6_line_146 (fm_st10 _ _ _ _ _ _) ?_
                        refine fj_aload_n C 0 dX6_line_147 rfl rfl ?_
                        refine fj_get (Cn := RX6) (T := TX6) (N := 44) (ci := 6) (v := .ref (bd 11)) C iX6 0 (fm_at0 _ _ _ _ _) rfl 16 (by decide) kX6_48 rfl dX6_line_148 ?_
                        refine fj_aload_n C 0 dX6_line_151 rfl rfl ?_
                        refine fj_get (Cn := RX6) (T := TX6) (N := 44) (ci := 6) (v := .int (n 5)) C iX6 0 (fm_at0 _ _ _ _ _) rfl 12 (by decide) kX6_197 rfl dX6_line_152 ?_
                        refine fj_at (y := nI B) hn5 ?_
                        refine fj_iload C 4 dX6_line_155 rfl ?_
                        refine fj_iast (f := (a 11)) C 11 (fm_at11 _ _ _ _ _) (vp_in_nI hB2 (by decide)) dX6_line_157 (fm_st11 _ _ _ _ _ _) ?_
                        refine fj_aload_n C 0 dX6_line_158 rfl rfl ?_
                        refine fj_get (Cn := RX6) (T := TX6) (N := 44) (ci := 6) (v := .ref (bd 12)) C iX6 0 (fm_at0 _ _ _ _ _) rfl 17 (by decide) kX6_51 rfl dX6_line_159 ?_
                        refine fj_aload_n C 0 dX6_line_162 rfl rfl ?_
                        refine fj_get (Cn := RX6) (T := TX6) (N := 44) (ci := 6) (v := .int (n 5)) C iX6 0 (fm_at0 _ _ _ _ _) rfl 12 (by decide) kX6_197 rfl dX6_line_163 ?_
                        refine fj_at (y := nI B) hn5 ?_
                        refine fj_iload C 5 dX6_line_166 rfl ?_
                        refine fj_iast (f := (a 12)) C 12 (fm_at12 _ _ _ _ _) (vp_in_nI hB2 (by decide)) dX6_line_168 (fm_st12 _ _ _ _ _ _) ?_
                        refine fj_aload_n C 0 dX6_line_169 rfl rfl ?_
                        refine fj_get (Cn := RX6) (T := TX6) (N := 44) (ci := 6) (v := .ref (bd 13)) C iX6 0 (fm_at0 _ _ _ _ _) rfl 18 (by decide) kX6_54 rfl dX6_line_170 ?_
                        refine fj_aload_n C 0 dX6_line_173 rfl rfl ?_
                        refine fj_get (Cn := RX6) (T := TX6) (N := 44) (ci := 6) (v := .int (n 5)) C iX6 0 (fm_at0 _ _ _ _ _) rfl 12 (by decide) kX6_197 rfl dX6_line_174 ?_
                        refine fj_at (y := nI B) hn5 ?_
                        refine fj_iconst (v := 0) C dX6_line_177 (by decide) ?_
                        refine fj_zast (f := (a 13)) C 13 (fm_at13 _ _ _ _ _) (vp_in_nI hB2 (by decide)) dX6_line_178 (fm_st13 _ _ _ _ _ _) ?_
                        refine fj_aload_n C 0 dX6_line_179 rfl rfl ?_
                        refine fj_dup C dX6_line_180 rfl ?_
                        refine fj_get (Cn := RX6) (T := TX6) (N := 44) (ci := 6) (v := .int (n 5)) C iX6 0 (fm_at0 _ _ _ _ _) rfl 12 (by decide) kX6_197 rfl dX6_line_181 ?_
                        refine fj_at (y := nI B) hn5 ?_
                        refine fj_iconst (v := 1) C dX6_line_184 (by decide) ?_
                        refine fj_iadd C dX6_line_185 ?_
                        refine fj_at (y := nI (B + 1)) (nI_1 B) ?_
                        refine fj_put (Cn := RX6) (T := TX6) (N := 44) (ci := 6) C iX6 tyX6 tyX6_ok nmX6 0 (fm_at0 _ _ _ _ _) rfl 12 (by decide) kX6_197 rfl rfl rfl (Nat.le_of_ble_eq_true rfl) dX6_line_186 (fm_si0_12 _ _ _ _ _ _) ?_
                        refine fj_aload_n C 0 dX6_line_189 rfl rfl ?_
                        refine fj_get (Cn := RX6) (T := TX6) (N := 44) (ci := 6) (v := .int (nI (B + 1))) C iX6 0 (fm_at0 _ _ _ _ _) rfl 12 (by decide) kX6_197 rfl dX6_line_190 ?_
                        refine fj_iconst (v := 1) C dX6_line_193 (by decide) ?_
                        refine fj_isub C dX6_line_194 ?_
                        refine fj_at (y := nI B) (nI_pred B) ?_
                        exact fj_iret C E9 dX6_line_195 ⟨by grind, by rw [if_pos (by grind)]⟩
                      · have hB2 : ¬ B < 120 := fun q => absurd (fx_eqI (b := 120) h110 (by omega) (by decide)) (by omega)
                        refine fj_sipush (v := (-1004)) C dX6_line_113 (by decide) ?_
                        exact fj_iret C E9 dX6_line_116 ⟨by grind, by rw [if_neg (by grind)]⟩
                    · refine fj_sipush (v := (-1002)) C dX6_line_100 (by decide) ?_
                      exact fj_iret C E9 dX6_line_103 ⟨by grind, by rw [if_neg (by grind)]⟩
          · refine fj_sipush (v := (-1001)) C dX6_line_53 (by decide) ?_
            exact fj_iret C E9 dX6_line_56 ⟨by grind, by rw [if_neg (by grind)]⟩
      · refine fj_iload C 4 dX6_line_30 rfl ?_
        refine fj_callSw (As := [.int q]) (rest := []) C (d_X6_isQuarter l D ty t0 (fm_w bd ty a g n) q) (va_cwS 1 C.2.2.2.2.1 gX6_line_X6_isQuarter rfl rfl rfl (by decide +kernel) ⟨Nat.le_of_ble_eq_true rfl, Nat.le_of_ble_eq_true rfl⟩)  rfl (Nat.le_of_ble_eq_true rfl) dX6_line_32 ⟨Nat.zero_le _, Nat.zero_le _⟩ (fun v9 w9 hp9 => ?_)
        obtain ⟨rfl, rfl⟩ := hp9
        refine fj_st (st' := .int (if (0 ≤ q ∧ q ≤ 63) then 1 else 0) :: []) rfl ?_
        refine fj_ifb_eq (tgt := 53) C dX6_line_35 (by decide) (fun h35 => ?_) (fun h35 => ?_)
        · refine fj_sipush (v := (-1001)) C dX6_line_53 (by decide) ?_
          exact fj_iret C E9 dX6_line_56 ⟨by grind, by rw [if_neg (by grind)]⟩
        · refine fj_iload_n C 2 dX6_line_38 rfl rfl ?_
          refine fj_bipush (v := 6) C dX6_line_39 (by decide) ?_
          refine fj_icmp_ne (tgt := 57) C dX6_line_41 (by decide) (fun h41 => ?_) (fun h41 => ?_)
          · refine fj_iload_n C 1 dX6_line_57 rfl rfl ?_
            refine fj_callSw (As := [.int x]) (rest := []) C (d_X6_isDay l D ty t0 (fm_w bd ty a g n) x) (va_cwS 1 C.2.2.2.2.1 gX6_line_X6_isDay rfl rfl rfl (by decide +kernel) ⟨Nat.le_of_ble_eq_true rfl, Nat.le_of_ble_eq_true rfl⟩)  rfl (Nat.le_of_ble_eq_true rfl) dX6_line_58 ⟨Nat.zero_le _, Nat.zero_le _⟩ (fun v9 w9 hp9 => ?_)
            obtain ⟨rfl, rfl⟩ := hp9
            refine fj_st (st' := .int (if (0 ≤ x ∧ x ≤ 20000) then 1 else 0) :: []) rfl ?_
            refine fj_ifb_eq (tgt := 100) C dX6_line_61 (by decide) (fun h61 => ?_) (fun h61 => ?_)
            · refine fj_sipush (v := (-1002)) C dX6_line_100 (by decide) ?_
              exact fj_iret C E9 dX6_line_103 ⟨by grind, by rw [if_neg (by grind)]⟩
            · refine fj_iload_n C 2 dX6_line_64 rfl rfl ?_
              refine fj_iconst (v := 1) C dX6_line_65 (by decide) ?_
              refine fj_icmp_ne (tgt := 82) C dX6_line_66 (by decide) (fun h66 => ?_) (fun h66 => ?_)
              · refine fj_iload_n C 2 dX6_line_82 rfl rfl ?_
                refine fj_iconst (v := 2) C dX6_line_83 (by decide) ?_
                refine fj_icmp_ne (tgt := 104) C dX6_line_84 (by decide) (fun h84 => ?_) (fun h84 => ?_)
                · refine fj_aload_n C 0 dX6_line_104 rfl rfl ?_
                  refine fj_get (Cn := RX6) (T := TX6) (N := 44) (ci := 6) (v := .int (n 5)) C iX6 0 (fm_at0 _ _ _ _ _) rfl 12 (by decide) kX6_197 rfl dX6_line_105 ?_
                  refine fj_at (y := nI B) hn5 ?_
                  refine fj_bipush (v := 120) C dX6_line_108 (by decide) ?_
                  refine fj_icmp_ne (tgt := 117) C dX6_line_110 (by decide) (fun h110 => ?_) (fun h110 => ?_)
                  · have hB2 : B < 120 := Nat.lt_of_le_of_ne hB fun e => h110 (by rw [e]; rfl)
                    refine fj_aload_n C 0 dX6_line_117 rfl rfl ?_
                    refine fj_get (Cn := RX6) (T := TX6) (N := 44) (ci := 6) (v := .ref (bd 8)) C iX6 0 (fm_at0 _ _ _ _ _) rfl 13 (by decide) kX6_39 rfl dX6_line_118 ?_
                    refine fj_aload_n C 0 dX6_line_121 rfl rfl ?_
                    refine fj_get (Cn := RX6) (T := TX6) (N := 44) (ci := 6) (v := .int (n 5)) C iX6 0 (fm_at0 _ _ _ _ _) rfl 12 (by decide) kX6_197 rfl dX6_line_122 ?_
                    refine fj_at (y := nI B) hn5 ?_
                    refine fj_iload_n C 1 dX6_line_125 rfl rfl ?_
                    refine fj_iast (f := (a 8)) C 8 (fm_at8 _ _ _ _ _) (vp_in_nI hB2 (by decide)) dX6_line_126 (fm_st8 _ _ _ _ _ _) ?_
                    refine fj_aload_n C 0 dX6_line_127 rfl rfl ?_
                    refine fj_get (Cn := RX6) (T := TX6) (N := 44) (ci := 6) (v := .ref (bd 9)) C iX6 0 (fm_at0 _ _ _ _ _) rfl 14 (by decide) kX6_42 rfl dX6_line_128 ?_
                    refine fj_aload_n C 0 dX6_line_131 rfl rfl ?_
                    refine fj_get (Cn := RX6) (T := TX6) (N := 44) (ci := 6) (v := .int (n 5)) C iX6 0 (fm_at0 _ _ _ _ _) rfl 12 (by decide) kX6_197 rfl dX6_line_132 ?_
                    refine fj_at (y := nI B) hn5 ?_
                    refine fj_iload_n C 2 dX6_line_135 rfl rfl ?_
                    refine fj_iast (f := (a 9)) C 9 (fm_at9 _ _ _ _ _) (vp_in_nI hB2 (by decide)) dX6_line_136 (fm_st9 _ _ _ _ _ _) ?_
                    refine fj_aload_n C 0 dX6_line_137 rfl rfl ?_
                    refine fj_get (Cn := RX6) (T := TX6) (N := 44) (ci := 6) (v := .ref (bd 10)) C iX6 0 (fm_at0 _ _ _ _ _) rfl 15 (by decide) kX6_45 rfl dX6_line_138 ?_
                    refine fj_aload_n C 0 dX6_line_141 rfl rfl ?_
                    refine fj_get (Cn := RX6) (T := TX6) (N := 44) (ci := 6) (v := .int (n 5)) C iX6 0 (fm_at0 _ _ _ _ _) rfl 12 (by decide) kX6_197 rfl dX6_line_142 ?_
                    refine fj_at (y := nI B) hn5 ?_
                    refine fj_iload_n C 3 dX6_line_145 rfl rfl ?_
                    refine fj_iast (f := (a 10)) C 10 (fm_at10 _ _ _ _ _) (vp_in_nI hB2 (by decide)) dX6_line_146 (fm_st10 _ _ _ _ _ _) ?_
                    refine fj_aload_n C 0 dX6_line_147 rfl rfl ?_
                    refine fj_get (Cn := RX6) (T := TX6) (N := 44) (ci := 6) (v := .ref (bd 11)) C iX6 0 (fm_at0 _ _ _ _ _) rfl 16 (by decide) kX6_48 rfl dX6_line_148 ?_
                    refine fj_aload_n C 0 dX6_line_151 rfl rfl ?_
                    refine fj_get (Cn := RX6) (T := TX6) (N := 44) (ci := 6) (v := .int (n 5)) C iX6 0 (fm_at0 _ _ _ _ _) rfl 12 (by decide) kX6_197 rfl dX6_line_152 ?_
                    refine fj_at (y := nI B) hn5 ?_
                    refine fj_iload C 4 dX6_line_155 rfl ?_
                    refine fj_iast (f := (a 11)) C 11 (fm_at11 _ _ _ _ _) (vp_in_nI hB2 (by decide)) dX6_line_157 (fm_st11 _ _ _ _ _ _) ?_
                    refine fj_aload_n C 0 dX6_line_158 rfl rfl ?_
                    refine fj_get (Cn := RX6) (T := TX6) (N := 44) (ci := 6) (v := .ref (bd 12)) C iX6 0 (fm_at0 _ _ _ _ _) rfl 17 (by decide) kX6_51 rfl dX6_line_159 ?_
                    refine fj_aload_n C 0 dX6_line_162 rfl rfl ?_
                    refine fj_get (Cn := RX6) (T := TX6) (N := 44) (ci := 6) (v := .int (n 5)) C iX6 0 (fm_at0 _ _ _ _ _) rfl 12 (by decide) kX6_197 rfl dX6_line_163 ?_
                    refine fj_at (y := nI B) hn5 ?_
                    refine fj_iload C 5 dX6_line_166 rfl ?_
                    refine fj_iast (f := (a 12)) C 12 (fm_at12 _ _ _ _ _) (vp_in_nI hB2 (by decide)) dX6_line_168 (fm_st12 _ _ _ _ _ _) ?_
                    refine fj_aload_n C 0 dX6_line_169 rfl rfl ?_
                    refine fj_get (Cn := RX6) (T := TX6) (N := 44) (ci := 6) (v := .ref (bd 13)) C iX6 0 (fm_at0 _ _ _ _ _) rfl 18 (by decide) kX6_54 rfl dX6_line_170 ?_
                    refine fj_aload_n C 0 dX6_line_173 rfl rfl ?_
                    refine fj_get (Cn := RX6) (T := TX6) (N := 44) (ci := 6) (v := .int (n 5)) C iX6 0 (fm_at0 _ _ _ _ _) rfl 12 (by decide) kX6_197 rfl dX6_line_174 ?_
                    refine fj_at (y := nI B) hn5 ?_
                    refine fj_iconst (v := 0) C dX6_line_177 (by decide) ?_
                    refine fj_zast (f := (a 13)) C 13 (fm_at13 _ _ _ _ _) (vp_in_nI hB2 (by decide)) dX6_line_178 (fm_st13 _ _ _ _ _ _) ?_
                    refine fj_aload_n C 0 dX6_line_179 rfl rfl ?_
                    refine fj_dup C dX6_line_180 rfl ?_
                    refine fj_get (Cn := RX6) (T := TX6) (N := 44) (ci := 6) (v := .int (n 5)) C iX6 0 (fm_at0 _ _ _ _ _) rfl 12 (by decide) kX6_197 rfl dX6_line_181 ?_
                    refine fj_at (y := nI B) hn5 ?_
                    refine fj_iconst (v := 1) C dX6_line_184 (by decide) ?_
                    refine fj_iadd C dX6_line_185 ?_
                    refine fj_at (y := nI (B + 1)) (nI_1 B) ?_
                    refine fj_put (Cn := RX6) (T := TX6) (N := 44) (ci := 6) C iX6 tyX6 tyX6_ok nmX6 0 (fm_at0 _ _ _ _ _) rfl 12 (by decide) kX6_197 rfl rfl rfl (Nat.le_of_ble_eq_true rfl) dX6_line_186 (fm_si0_12 _ _ _ _ _ _) ?_
                    refine fj_aload_n C 0 dX6_line_189 rfl rfl ?_
                    refine fj_get (Cn := RX6) (T := TX6) (N := 44) (ci := 6) (v := .int (nI (B + 1))) C iX6 0 (fm_at0 _ _ _ _ _) rfl 12 (by decide) kX6_197 rfl dX6_line_190 ?_
                    refine fj_iconst (v := 1) C dX6_line_193 (by decide) ?_
                    refine fj_isub C dX6_line_194 ?_
                    refine fj_at (y := nI B) (nI_pred B) ?_
                    exact fj_iret C E9 dX6_line_195 ⟨by grind, by rw [if_pos (by grind)]⟩
                  · have hB2 : ¬ B < 120 := fun q => absurd (fx_eqI (b := 120) h110 (by omega) (by decide)) (by omega)
                    refine fj_sipush (v := (-1004)) C dX6_line_113 (by decide) ?_
                    exact fj_iret C E9 dX6_line_116 ⟨by grind, by rw [if_neg (by grind)]⟩
                · refine fj_iload C 5 dX6_line_87 rfl ?_
                  refine fj_i2l C dX6_line_89 ?_
                  refine fj_lconst (v := 1) C dX6_line_90 (by decide) ?_
                  refine fj_ldc2 (v := 160) C dX6_line_91 kL195 ?_
                  refine fj_callSw (As := [.long u.toInt64, .long 1, .long 160]) (rest := []) C (d_X6_inI l D ty t0 (fm_w bd ty a g n) u 1 160 1 160 (by decide) (by decide)) (va_cwS 3 C.2.2.2.2.1 gX6_line_X6_in rfl rfl rfl (by decide +kernel) ⟨Nat.le_of_ble_eq_true rfl, Nat.le_of_ble_eq_true rfl⟩)  rfl (Nat.le_of_ble_eq_true rfl) dX6_line_94 ⟨Nat.zero_le _, Nat.zero_le _⟩ (fun v9 w9 hp9 => ?_)
                  obtain ⟨rfl, rfl⟩ := hp9
                  refine fj_st (st' := .int (if (1 ≤ u ∧ u ≤ 160) then 1 else 0) :: []) rfl ?_
                  refine fj_ifb_ne (tgt := 104) C dX6_line_97 (by decide) (fun h97 => ?_) (fun h97 => ?_)
                  · refine fj_aload_n C 0 dX6_line_104 rfl rfl ?_
                    refine fj_get (Cn := RX6) (T := TX6) (N := 44) (ci := 6) (v := .int (n 5)) C iX6 0 (fm_at0 _ _ _ _ _) rfl 12 (by decide) kX6_197 rfl dX6_line_105 ?_
                    refine fj_at (y := nI B) hn5 ?_
                    refine fj_bipush (v := 120) C dX6_line_108 (by decide) ?_
                    refine fj_icmp_ne (tgt := 117) C dX6_line_110 (by decide) (fun h110 => ?_) (fun h110 => ?_)
                    · have hB2 : B < 120 := Nat.lt_of_le_of_ne hB fun e => h110 (by rw [e]; rfl)
                      refine fj_aload_n C 0 dX6_line_117 rfl rfl ?_
                      refine fj_get (Cn := RX6) (T := TX6) (N := 44) (ci := 6) (v := .ref (bd 8)) C iX6 0 (fm_at0 _ _ _ _ _) rfl 13 (by decide) kX6_39 rfl dX6_line_118 ?_
                      refine fj_aload_n C 0 dX6_line_121 rfl rfl ?_
                      refine fj_get (Cn := RX6) (T := TX6) (N := 44) (ci := 6) (v := .int (n 5)) C iX6 0 (fm_at0 _ _ _ _ _) rfl 12 (by decide) kX6_197 rfl dX6_line_122 ?_
                      refine fj_at (y := nI B) hn5 ?_
                      refine fj_iload_n C 1 dX6_line_125 rfl rfl ?_
                      refine fj_iast (f := (a 8)) C 8 (fm_at8 _ _ _ _ _) (vp_in_nI hB2 (by decide)) dX6_line_126 (fm_st8 _ _ _ _ _ _) ?_
                      refine fj_aload_n C 0 dX6_line_127 rfl rfl ?_
                      refine fj_get (Cn := RX6) (T := TX6) (N := 44) (ci := 6) (v := .ref (bd 9)) C iX6 0 (fm_at0 _ _ _ _ _) rfl 14 (by decide) kX6_42 rfl dX6_line_128 ?_
                      refine fj_aload_n C 0 dX6_line_131 rfl rfl ?_
                      refine fj_get (Cn := RX6) (T := TX6) (N := 44) (ci := 6) (v := .int (n 5)) C iX6 0 (fm_at0 _ _ _ _ _) rfl 12 (by decide) kX6_197 rfl dX6_line_132 ?_
                      refine fj_at (y := nI B) hn5 ?_
                      refine fj_iload_n C 2 dX6_line_135 rfl rfl ?_
                      refine fj_iast (f := (a 9)) C 9 (fm_at9 _ _ _ _ _) (vp_in_nI hB2 (by decide)) dX6_line_136 (fm_st9 _ _ _ _ _ _) ?_
                      refine fj_aload_n C 0 dX6_line_137 rfl rfl ?_
                      refine fj_get (Cn := RX6) (T := TX6) (N := 44) (ci := 6) (v := .ref (bd 10)) C iX6 0 (fm_at0 _ _ _ _ _) rfl 15 (by decide) kX6_45 rfl dX6_line_138 ?_
                      refine fj_aload_n C 0 dX6_line_141 rfl rfl ?_
                      refine fj_get (Cn := RX6) (T := TX6) (N := 44) (ci := 6) (v := .int (n 5)) C iX6 0 (fm_at0 _ _ _ _ _) rfl 12 (by decide) kX6_197 rfl dX6_line_142 ?_
                      refine fj_at (y := nI B) hn5 ?_
                      refine fj_iload_n C 3 dX6_line_145 rfl rfl ?_
                      refine fj_iast (f := (a 10)) C 10 (fm_at10 _ _ _ _ _) (vp_in_nI hB2 (by decide)) dX6_line_146 (fm_st10 _ _ _ _ _ _) ?_
                      refine fj_aload_n C 0 dX6_line_147 rfl rfl ?_
                      refine fj_get (Cn := RX6) (T := TX6) (N := 44) (ci := 6) (v := .ref (bd 11)) C iX6 0 (fm_at0 _ _ _ _ _) rfl 16 (by decide) kX6_48 rfl dX6_line_148 ?_
                      refine fj_aload_n C 0 dX6_line_151 rfl rfl ?_
                      refine fj_get (Cn := RX6) (T := TX6) (N := 44) (ci := 6) (v := .int (n 5)) C iX6 0 (fm_at0 _ _ _ _ _) rfl 12 (by decide) kX6_197 rfl dX6_line_152 ?_
                      refine fj_at (y := nI B) hn5 ?_
                      refine fj_iload C 4 dX6_line_155 rfl ?_
                      refine fj_iast (f := (a 11)) C 11 (fm_at11 _ _ _ _ _) (vp_in_nI hB2 (by decide)) dX6_line_157 (fm_st11 _ _ _ _ _ _) ?_
                      refine fj_aload_n C 0 dX6_line_158 rfl rfl ?_
                      refine fj_get (Cn := RX6) (T := TX6) (N := 44) (ci := 6) (v := .ref (bd 12)) C iX6 0 (fm_at0 _ _ _ _ _) rfl 17 (by decide) kX6_51 rfl dX6_line_159 ?_
                      refine fj_aload_n C 0 dX6_line_162 rfl rfl ?_
                      refine fj_get (Cn := RX6) (T := TX6) (N := 44) (ci := 6) (v := .int (n 5)) C iX6 0 (fm_at0 _ _ _ _ _) rfl 12 (by decide) kX6_197 rfl dX6_line_163 ?_
                      refine fj_at (y := nI B) hn5 ?_
                      refine fj_iload C 5 dX6_line_166 rfl ?_
                      refine fj_iast (f := (a 12)) C 12 (fm_at12 _ _ _ _ _) (vp_in_nI hB2 (by decide)) dX6_line_168 (fm_st12 _ _ _ _ _ _) ?_
                      refine fj_aload_n C 0 dX6_line_169 rfl rfl ?_
                      refine fj_get (Cn := RX6) (T := TX6) (N := 44) (ci := 6) (v := .ref (bd 13)) C iX6 0 (fm_at0 _ _ _ _ _) rfl 18 (by decide) kX6_54 rfl dX6_line_170 ?_
                      refine fj_aload_n C 0 dX6_line_173 rfl rfl ?_
                      refine fj_get (Cn := RX6) (T := TX6) (N := 44) (ci := 6) (v := .int (n 5)) C iX6 0 (fm_at0 _ _ _ _ _) rfl 12 (by decide) kX6_197 rfl dX6_line_174 ?_
                      refine fj_at (y := nI B) hn5 ?_
                      refine fj_iconst (v := 0) C dX6_line_177 (by decide) ?_
                      refine fj_zast (f := (a 13)) C 13 (fm_at13 _ _ _ _ _) (vp_in_nI hB2 (by decide)) dX6_line_178 (fm_st13 _ _ _ _ _ _) ?_
                      refine fj_aload_n C 0 dX6_line_179 rfl rfl ?_
                      refine fj_dup C dX6_line_180 rfl ?_
                      refine fj_get (Cn := RX6) (T := TX6) (N := 44) (ci := 6) (v := .int (n 5)) C iX6 0 (fm_at0 _ _ _ _ _) rfl 12 (by decide) kX6_197 rfl dX6_line_181 ?_
                      refine fj_at (y := nI B) hn5 ?_
                      refine fj_iconst (v := 1) C dX6_line_184 (by decide) ?_
                      refine fj_iadd C dX6_line_185 ?_
                      refine fj_at (y := nI (B + 1)) (nI_1 B) ?_
                      refine fj_put (Cn := RX6) (T := TX6) (N := 44) (ci := 6) C iX6 tyX6 tyX6_ok nmX6 0 (fm_at0 _ _ _ _ _) rfl 12 (by decide) kX6_197 rfl rfl rfl (Nat.le_of_ble_eq_true rfl) dX6_line_186 (fm_si0_12 _ _ _ _ _ _) ?_
                      refine fj_aload_n C 0 dX6_line_189 rfl rfl ?_
                      refine fj_get (Cn := RX6) (T := TX6) (N := 44) (ci := 6) (v := .int (nI (B + 1))) C iX6 0 (fm_at0 _ _ _ _ _) rfl 12 (by decide) kX6_197 rfl dX6_line_190 ?_
                      refine fj_iconst (v := 1) C dX6_line_193 (by decide) ?_
                      refine fj_isub C dX6_line_194 ?_
                      refine fj_at (y := nI B) (nI_pred B) ?_
                      exact fj_iret C E9 dX6_line_195 ⟨by grind, by rw [if_pos (by grind)]⟩
                    · have hB2 : ¬ B < 120 := fun q => absurd (fx_eqI (b := 120) h110 (by omega) (by decide)) (by omega)
                      refine fj_sipush (v := (-1004)) C dX6_line_113 (by decide) ?_
                      exact fj_iret C E9 dX6_line_116 ⟨by grind, by rw [if_neg (by grind)]⟩
                  · refine fj_sipush (v := (-1002)) C dX6_line_100 (by decide) ?_
                    exact fj_iret C E9 dX6_line_103 ⟨by grind, by rw [if_neg (by grind)]⟩
              · refine fj_iload C 5 dX6_line_69 rfl ?_
                refine fj_i2l C dX6_line_71 ?_
                refine fj_lconst (v := 1) C dX6_line_72 (by decide) ?_
                refine fj_ldc2 (v := 5000) C dX6_line_73 kL193 ?_
                refine fj_callSw (As := [.long u.toInt64, .long 1, .long 5000]) (rest := []) C (d_X6_inI l D ty t0 (fm_w bd ty a g n) u 1 5000 1 5000 (by decide) (by decide)) (va_cwS 3 C.2.2.2.2.1 gX6_line_X6_in rfl rfl rfl (by decide +kernel) ⟨Nat.le_of_ble_eq_true rfl, Nat.le_of_ble_eq_true rfl⟩)  rfl (Nat.le_of_ble_eq_true rfl) dX6_line_76 ⟨Nat.zero_le _, Nat.zero_le _⟩ (fun v9 w9 hp9 => ?_)
                obtain ⟨rfl, rfl⟩ := hp9
                refine fj_st (st' := .int (if (1 ≤ u ∧ u ≤ 5000) then 1 else 0) :: []) rfl ?_
                refine fj_ifb_eq (tgt := 100) C dX6_line_79 (by decide) (fun h79 => ?_) (fun h79 => ?_)
                · refine fj_sipush (v := (-1002)) C dX6_line_100 (by decide) ?_
                  exact fj_iret C E9 dX6_line_103 ⟨by grind, by rw [if_neg (by grind)]⟩
                · refine fj_iload_n C 2 dX6_line_82 rfl rfl ?_
                  refine fj_iconst (v := 2) C dX6_line_83 (by decide) ?_
                  refine fj_icmp_ne (tgt := 104) C dX6_line_84 (by decide) (fun h84 => ?_) (fun h84 => ?_)
                  · refine fj_aload_n C 0 dX6_line_104 rfl rfl ?_
                    refine fj_get (Cn := RX6) (T := TX6) (N := 44) (ci := 6) (v := .int (n 5)) C iX6 0 (fm_at0 _ _ _ _ _) rfl 12 (by decide) kX6_197 rfl dX6_line_105 ?_
                    refine fj_at (y := nI B) hn5 ?_
                    refine fj_bipush (v := 120) C dX6_line_108 (by decide) ?_
                    refine fj_icmp_ne (tgt := 117) C dX6_line_110 (by decide) (fun h110 => ?_) (fun h110 => ?_)
                    · have hB2 : B < 120 := Nat.lt_of_le_of_ne hB fun e => h110 (by rw [e]; rfl)
                      refine fj_aload_n C 0 dX6_line_117 rfl rfl ?_
                      refine fj_get (Cn := RX6) (T := TX6) (N := 44) (ci := 6) (v := .ref (bd 8)) C iX6 0 (fm_at0 _ _ _ _ _) rfl 13 (by decide) kX6_39 rfl dX6_line_118 ?_
                      refine fj_aload_n C 0 dX6_line_121 rfl rfl ?_
                      refine fj_get (Cn := RX6) (T := TX6) (N := 44) (ci := 6) (v := .int (n 5)) C iX6 0 (fm_at0 _ _ _ _ _) rfl 12 (by decide) kX6_197 rfl dX6_line_122 ?_
                      refine fj_at (y := nI B) hn5 ?_
                      refine fj_iload_n C 1 dX6_line_125 rfl rfl ?_
                      refine fj_iast (f := (a 8)) C 8 (fm_at8 _ _ _ _ _) (vp_in_nI hB2 (by decide)) dX6_line_126 (fm_st8 _ _ _ _ _ _) ?_
                      refine fj_aload_n C 0 dX6_line_127 rfl rfl ?_
                      refine fj_get (Cn := RX6) (T := TX6) (N := 44) (ci := 6) (v := .ref (bd 9)) C iX6 0 (fm_at0 _ _ _ _ _) rfl 14 (by decide) kX6_42 rfl dX6_line_128 ?_
                      refine fj_aload_n C 0 dX6_line_131 rfl rfl ?_
                      refine fj_get (Cn := RX6) (T := TX6) (N := 44) (ci := 6) (v := .int (n 5)) C iX6 0 (fm_at0 _ _ _ _ _) rfl 12 (by decide) kX6_197 rfl dX6_line_132 ?_
                      refine fj_at (y := nI B) hn5 ?_
                      refine fj_iload_n C 2 dX6_line_135 rfl rfl ?_
                      refine fj_iast (f := (a 9)) C 9 (fm_at9 _ _ _ _ _) (vp_in_nI hB2 (by decide)) dX6_line_136 (fm_st9 _ _ _ _ _ _) ?_
                      refine fj_aload_n C 0 dX6_line_137 rfl rfl ?_
                      refine fj_get (Cn := RX6) (T := TX6) (N := 44) (ci := 6) (v := .ref (bd 10)) C iX6 0 (fm_at0 _ _ _ _ _) rfl 15 (by decide) kX6_45 rfl dX6_line_138 ?_
                      refine fj_aload_n C 0 dX6_line_141 rfl rfl ?_
                      refine fj_get (Cn := RX6) (T := TX6) (N := 44) (ci := 6) (v := .int (n 5)) C iX6 0 (fm_at0 _ _ _ _ _) rfl 12 (by decide) kX6_197 rfl dX6_line_142 ?_
                      refine fj_at (y := nI B) hn5 ?_
                      refine fj_iload_n C 3 dX6_line_145 rfl rfl ?_
                      refine fj_iast (f := (a 10)) C 10 (fm_at10 _ _ _ _ _) (vp_in_nI hB2 (by decide)) dX6_line_146 (fm_st10 _ _ _ _ _ _) ?_
                      refine fj_aload_n C 0 dX6_line_147 rfl rfl ?_
                      refine fj_get (Cn := RX6) (T := TX6) (N := 44) (ci := 6) (v := .ref (bd 11)) C iX6 0 (fm_at0 _ _ _ _ _) rfl 16 (by decide) kX6_48 rfl dX6_line_148 ?_
                      refine fj_aload_n C 0 dX6_line_151 rfl rfl ?_
                      refine fj_get (Cn := RX6) (T := TX6) (N := 44) (ci := 6) (v := .int (n 5)) C iX6 0 (fm_at0 _ _ _ _ _) rfl 12 (by decide) kX6_197 rfl dX6_line_152 ?_
                      refine fj_at (y := nI B) hn5 ?_
                      refine fj_iload C 4 dX6_line_155 rfl ?_
                      refine fj_iast (f := (a 11)) C 11 (fm_at11 _ _ _ _ _) (vp_in_nI hB2 (by decide)) dX6_line_157 (fm_st11 _ _ _ _ _ _) ?_
                      refine fj_aload_n C 0 dX6_line_158 rfl rfl ?_
                      refine fj_get (Cn := RX6) (T := TX6) (N := 44) (ci := 6) (v := .ref (bd 12)) C iX6 0 (fm_at0 _ _ _ _ _) rfl 17 (by decide) kX6_51 rfl dX6_line_159 ?_
                      refine fj_aload_n C 0 dX6_line_162 rfl rfl ?_
                      refine fj_get (Cn := RX6) (T := TX6) (N := 44) (ci := 6) (v := .int (n 5)) C iX6 0 (fm_at0 _ _ _ _ _) rfl 12 (by decide) kX6_197 rfl dX6_line_163 ?_
                      refine fj_at (y := nI B) hn5 ?_
                      refine fj_iload C 5 dX6_line_166 rfl ?_
                      refine fj_iast (f := (a 12)) C 12 (fm_at12 _ _ _ _ _) (vp_in_nI hB2 (by decide)) dX6_line_168 (fm_st12 _ _ _ _ _ _) ?_
                      refine fj_aload_n C 0 dX6_line_169 rfl rfl ?_
                      refine fj_get (Cn := RX6) (T := TX6) (N := 44) (ci := 6) (v := .ref (bd 13)) C iX6 0 (fm_at0 _ _ _ _ _) rfl 18 (by decide) kX6_54 rfl dX6_line_170 ?_
                      refine fj_aload_n C 0 dX6_line_173 rfl rfl ?_
                      refine fj_get (Cn := RX6) (T := TX6) (N := 44) (ci := 6) (v := .int (n 5)) C iX6 0 (fm_at0 _ _ _ _ _) rfl 12 (by decide) kX6_197 rfl dX6_line_174 ?_
                      refine fj_at (y := nI B) hn5 ?_
                      refine fj_iconst (v := 0) C dX6_line_177 (by decide) ?_
                      refine fj_zast (f := (a 13)) C 13 (fm_at13 _ _ _ _ _) (vp_in_nI hB2 (by decide)) dX6_line_178 (fm_st13 _ _ _ _ _ _) ?_
                      refine fj_aload_n C 0 dX6_line_179 rfl rfl ?_
                      refine fj_dup C dX6_line_180 rfl ?_
                      refine fj_get (Cn := RX6) (T := TX6) (N := 44) (ci := 6) (v := .int (n 5)) C iX6 0 (fm_at0 _ _ _ _ _) rfl 12 (by decide) kX6_197 rfl dX6_line_181 ?_
                      refine fj_at (y := nI B) hn5 ?_
                      refine fj_iconst (v := 1) C dX6_line_184 (by decide) ?_
                      refine fj_iadd C dX6_line_185 ?_
                      refine fj_at (y := nI (B + 1)) (nI_1 B) ?_
                      refine fj_put (Cn := RX6) (T := TX6) (N := 44) (ci := 6) C iX6 tyX6 tyX6_ok nmX6 0 (fm_at0 _ _ _ _ _) rfl 12 (by decide) kX6_197 rfl rfl rfl (Nat.le_of_ble_eq_true rfl) dX6_line_186 (fm_si0_12 _ _ _ _ _ _) ?_
                      refine fj_aload_n C 0 dX6_line_189 rfl rfl ?_
                      refine fj_get (Cn := RX6) (T := TX6) (N := 44) (ci := 6) (v := .int (nI (B + 1))) C iX6 0 (fm_at0 _ _ _ _ _) rfl 12 (by decide) kX6_197 rfl dX6_line_190 ?_
                      refine fj_iconst (v := 1) C dX6_line_193 (by decide) ?_
                      refine fj_isub C dX6_line_194 ?_
                      refine fj_at (y := nI B) (nI_pred B) ?_
                      exact fj_iret C E9 dX6_line_195 ⟨by grind, by rw [if_pos (by grind)]⟩
                    · have hB2 : ¬ B < 120 := fun q => absurd (fx_eqI (b := 120) h110 (by omega) (by decide)) (by omega)
                      refine fj_sipush (v := (-1004)) C dX6_line_113 (by decide) ?_
                      exact fj_iret C E9 dX6_line_116 ⟨by grind, by rw [if_neg (by grind)]⟩
                  · refine fj_iload C 5 dX6_line_87 rfl ?_
                    refine fj_i2l C dX6_line_89 ?_
                    refine fj_lconst (v := 1) C dX6_line_90 (by decide) ?_
                    refine fj_ldc2 (v := 160) C dX6_line_91 kL195 ?_
                    refine fj_callSw (As := [.long u.toInt64, .long 1, .long 160]) (rest := []) C (d_X6_inI l D ty t0 (fm_w bd ty a g n) u 1 160 1 160 (by decide) (by decide)) (va_cwS 3 C.2.2.2.2.1 gX6_line_X6_in rfl rfl rfl (by decide +kernel) ⟨Nat.le_of_ble_eq_true rfl, Nat.le_of_ble_eq_true rfl⟩)  rfl (Nat.le_of_ble_eq_true rfl) dX6_line_94 ⟨Nat.zero_le _, Nat.zero_le _⟩ (fun v9 w9 hp9 => ?_)
                    obtain ⟨rfl, rfl⟩ := hp9
                    refine fj_st (st' := .int (if (1 ≤ u ∧ u ≤ 160) then 1 else 0) :: []) rfl ?_
                    refine fj_ifb_ne (tgt := 104) C dX6_line_97 (by decide) (fun h97 => ?_) (fun h97 => ?_)
                    · refine fj_aload_n C 0 dX6_line_104 rfl rfl ?_
                      refine fj_get (Cn := RX6) (T := TX6) (N := 44) (ci := 6) (v := .int (n 5)) C iX6 0 (fm_at0 _ _ _ _ _) rfl 12 (by decide) kX6_197 rfl dX6_line_105 ?_
                      refine fj_at (y := nI B) hn5 ?_
                      refine fj_bipush (v := 120) C dX6_line_108 (by decide) ?_
                      refine fj_icmp_ne (tgt := 117) C dX6_line_110 (by decide) (fun h110 => ?_) (fun h110 => ?_)
                      · have hB2 : B < 120 := Nat.lt_of_le_of_ne hB fun e => h110 (by rw [e]; rfl)
                        refine fj_aload_n C 0 dX6_line_117 rfl rfl ?_
                        refine fj_get (Cn := RX6) (T := TX6) (N := 44) (ci := 6) (v := .ref (bd 8)) C iX6 0 (fm_at0 _ _ _ _ _) rfl 13 (by decide) kX6_39 rfl dX6_line_118 ?_
                        refine fj_aload_n C 0 dX6_line_121 rfl rfl ?_
                        refine fj_get (Cn := RX6) (T := TX6) (N := 44) (ci := 6) (v := .int (n 5)) C iX6 0 (fm_at0 _ _ _ _ _) rfl 12 (by decide) kX6_197 rfl dX6_line_122 ?_
                        refine fj_at (y := nI B) hn5 ?_
                        refine fj_iload_n C 1 dX6_line_125 rfl rfl ?_
                        refine fj_iast (f := (a 8)) C 8 (fm_at8 _ _ _ _ _) (vp_in_nI hB2 (by decide)) dX6_line_126 (fm_st8 _ _ _ _ _ _) ?_
                        refine fj_aload_n C 0 dX6_line_127 rfl rfl ?_
                        refine fj_get (Cn := RX6) (T := TX6) (N := 44) (ci := 6) (v := .ref (bd 9)) C iX6 0 (fm_at0 _ _ _ _ _) rfl 14 (by decide) kX6_42 rfl dX6_line_128 ?_
                        refine fj_aload_n C 0 dX6_line_131 rfl rfl ?_
                        refine fj_get (Cn := RX6) (T := TX6) (N := 44) (ci := 6) (v := .int (n 5)) C iX6 0 (fm_at0 _ _ _ _ _) rfl 12 (by decide) kX6_197 rfl dX6_line_132 ?_
                        refine fj_at (y := nI B) hn5 ?_
                        refine fj_iload_n C 2 dX6_line_135 rfl rfl ?_
                        refine fj_iast (f := (a 9)) C 9 (fm_at9 _ _ _ _ _) (vp_in_nI hB2 (by decide)) dX6_line_136 (fm_st9 _ _ _ _ _ _) ?_
                        refine fj_aload_n C 0 dX6_line_137 rfl rfl ?_
                        refine fj_get (Cn := RX6) (T := TX6) (N := 44) (ci := 6) (v := .ref (bd 10)) C iX6 0 (fm_at0 _ _ _ _ _) rfl 15 (by decide) kX6_45 rfl dX6_line_138 ?_
                        refine fj_aload_n C 0 dX6_line_141 rfl rfl ?_
                        refine fj_get (Cn := RX6) (T := TX6) (N := 44) (ci := 6) (v := .int (n 5)) C iX6 0 (fm_at0 _ _ _ _ _) rfl 12 (by decide) kX6_197 rfl dX6_line_142 ?_
                        refine fj_at (y := nI B) hn5 ?_
                        refine fj_iload_n C 3 dX6_line_145 rfl rfl ?_
                        refine fj_iast (f := (a 10)) C 10 (fm_at10 _ _ _ _ _) (vp_in_nI hB2 (by decide)) dX6_line_146 (fm_st10 _ _ _ _ _ _) ?_
                        refine fj_aload_n C 0 dX6_line_147 rfl rfl ?_
                        refine fj_get (Cn := RX6) (T := TX6) (N := 44) (ci := 6) (v := .ref (bd 11)) C iX6 0 (fm_at0 _ _ _ _ _) rfl 16 (by decide) kX6_48 rfl dX6_line_148 ?_
                        refine fj_aload_n C 0 dX6_line_151 rfl rfl ?_
                        refine fj_get (Cn := RX6) (T := TX6) (N := 44) (ci := 6) (v := .int (n 5)) C iX6 0 (fm_at0 _ _ _ _ _) rfl 12 (by decide) kX6_197 rfl dX6_line_152 ?_
                        refine fj_at (y := nI B) hn5 ?_
                        refine fj_iload C 4 dX6_line_155 rfl ?_
                        refine fj_iast (f := (a 11)) C 11 (fm_at11 _ _ _ _ _) (vp_in_nI hB2 (by decide)) dX6_line_157 (fm_st11 _ _ _ _ _ _) ?_
                        refine fj_aload_n C 0 dX6_line_158 rfl rfl ?_
                        refine fj_get (Cn := RX6) (T := TX6) (N := 44) (ci := 6) (v := .ref (bd 12)) C iX6 0 (fm_at0 _ _ _ _ _) rfl 17 (by decide) kX6_51 rfl dX6_line_159 ?_
                        refine fj_aload_n C 0 dX6_line_162 rfl rfl ?_
                        refine fj_get (Cn := RX6) (T := TX6) (N := 44) (ci := 6) (v := .int (n 5)) C iX6 0 (fm_at0 _ _ _ _ _) rfl 12 (by decide) kX6_197 rfl dX6_line_163 ?_
                        refine fj_at (y := nI B) hn5 ?_
                        refine fj_iload C 5 dX6_line_166 rfl ?_
                        refine fj_iast (f := (a 12)) C 12 (fm_at12 _ _ _ _ _) (vp_in_nI hB2 (by decide)) dX6_line_168 (fm_st12 _ _ _ _ _ _) ?_
                        refine fj_aload_n C 0 dX6_line_169 rfl rfl ?_
                        refine fj_get (Cn := RX6) (T := TX6) (N := 44) (ci := 6) (v := .ref (bd 13)) C iX6 0 (fm_at0 _ _ _ _ _) rfl 18 (by decide) kX6_54 rfl dX6_line_170 ?_
                        refine fj_aload_n C 0 dX6_line_173 rfl rfl ?_
                        refine fj_get (Cn := RX6) (T := TX6) (N := 44) (ci := 6) (v := .int (n 5)) C iX6 0 (fm_at0 _ _ _ _ _) rfl 12 (by decide) kX6_197 rfl dX6_line_174 ?_
                        refine fj_at (y := nI B) hn5 ?_
                        refine fj_iconst (v := 0) C dX6_line_177 (by decide) ?_
                        refine fj_zast (f := (a 13)) C 13 (fm_at13 _ _ _ _ _) (vp_in_nI hB2 (by decide)) dX6_line_178 (fm_st13 _ _ _ _ _ _) ?_
                        refine fj_aload_n C 0 dX6_line_179 rfl rfl ?_
                        refine fj_dup C dX6_line_180 rfl ?_
                        refine fj_get (Cn := RX6) (T := TX6) (N := 44) (ci := 6) (v := .int (n 5)) C iX6 0 (fm_at0 _ _ _ _ _) rfl 12 (by decide) kX6_197 rfl dX6_line_181 ?_
                        refine fj_at (y := nI B) hn5 ?_
                        refine fj_iconst (v := 1) C dX6_line_184 (by decide) ?_
                        refine fj_iadd C dX6_line_185 ?_
                        refine fj_at (y := nI (B + 1)) (nI_1 B) ?_
                        refine fj_put (Cn := RX6) (T := TX6) (N := 44) (ci := 6) C iX6 tyX6 tyX6_ok nmX6 0 (fm_at0 _ _ _ _ _) rfl 12 (by decide) kX6_197 rfl rfl rfl (Nat.le_of_ble_eq_true rfl) dX6_line_186 (fm_si0_12 _ _ _ _ _ _) ?_
                        refine fj_aload_n C 0 dX6_line_189 rfl rfl ?_
                        refine fj_get (Cn := RX6) (T := TX6) (N := 44) (ci := 6) (v := .int (nI (B + 1))) C iX6 0 (fm_at0 _ _ _ _ _) rfl 12 (by decide) kX6_197 rfl dX6_line_190 ?_
                        refine fj_iconst (v := 1) C dX6_line_193 (by decide) ?_
                        refine fj_isub C dX6_line_194 ?_
                        refine fj_at (y := nI B) (nI_pred B) ?_
                        exact fj_iret C E9 dX6_line_195 ⟨by grind, by rw [if_pos (by grind)]⟩
                      · have hB2 : ¬ B < 120 := fun q => absurd (fx_eqI (b := 120) h110 (by omega) (by decide)) (by omega)
                        refine fj_sipush (v := (-1004)) C dX6_line_113 (by decide) ?_
                        exact fj_iret C E9 dX6_line_116 ⟨by grind, by rw [if_neg (by grind)]⟩
                    · refine fj_sipush (v := (-1002)) C dX6_line_100 (by decide) ?_
                      exact fj_iret C E9 dX6_line_103 ⟨by grind, by rw [if_neg (by grind)]⟩
          · refine fj_aload_n C 0 dX6_line_44 rfl rfl ?_
            refine fj_iload C 5 dX6_line_45 rfl ?_
            refine fj_callVw (As := [.int u]) (rest := []) C (d_X6_isPerson l D ty t0 bd a g n P S T B I u) (cwV 1 C.2.2.2.2.1 gX6_line_X6_isPerson rfl rfl rfl (by decide +kernel) ⟨Nat.le_of_ble_eq_true rfl, Nat.le_of_ble_eq_true rfl⟩) ⟨0, 6, _, _, fm_at0 _ _ _ _ _, rfl, rfl⟩ rfl (Nat.le_of_ble_eq_true rfl) dX6_line_47 ⟨Nat.zero_le _, Nat.zero_le _⟩ (fun v9 w9 hp9 => ?_)
            obtain ⟨rfl, rfl⟩ := hp9
            refine fj_st (st' := .int (if ib u P then 1 else 0) :: []) rfl ?_
            refine fj_ifb_ne (tgt := 57) C dX6_line_50 (by decide) (fun h50 => ?_) (fun h50 => ?_)
            · refine fj_iload_n C 1 dX6_line_57 rfl rfl ?_
              refine fj_callSw (As := [.int x]) (rest := []) C (d_X6_isDay l D ty t0 (fm_w bd ty a g n) x) (va_cwS 1 C.2.2.2.2.1 gX6_line_X6_isDay rfl rfl rfl (by decide +kernel) ⟨Nat.le_of_ble_eq_true rfl, Nat.le_of_ble_eq_true rfl⟩)  rfl (Nat.le_of_ble_eq_true rfl) dX6_line_58 ⟨Nat.zero_le _, Nat.zero_le _⟩ (fun v9 w9 hp9 => ?_)
              obtain ⟨rfl, rfl⟩ := hp9
              refine fj_st (st' := .int (if (0 ≤ x ∧ x ≤ 20000) then 1 else 0) :: []) rfl ?_
              refine fj_ifb_eq (tgt := 100) C dX6_line_61 (by decide) (fun h61 => ?_) (fun h61 => ?_)
              · refine fj_sipush (v := (-1002)) C dX6_line_100 (by decide) ?_
                exact fj_iret C E9 dX6_line_103 ⟨by grind, by rw [if_neg (by grind)]⟩
              · refine fj_iload_n C 2 dX6_line_64 rfl rfl ?_
                refine fj_iconst (v := 1) C dX6_line_65 (by decide) ?_
                refine fj_icmp_ne (tgt := 82) C dX6_line_66 (by decide) (fun h66 => ?_) (fun h66 => ?_)
                · refine fj_iload_n C 2 dX6_line_82 rfl rfl ?_
                  refine fj_iconst (v := 2) C dX6_line_83 (by decide) ?_
                  refine fj_icmp_ne (tgt := 104) C dX6_line_84 (by decide) (fun h84 => ?_) (fun h84 => ?_)
                  · refine fj_aload_n C 0 dX6_line_104 rfl rfl ?_
                    refine fj_get (Cn := RX6) (T := TX6) (N := 44) (ci := 6) (v := .int (n 5)) C iX6 0 (fm_at0 _ _ _ _ _) rfl 12 (by decide) kX6_197 rfl dX6_line_105 ?_
                    refine fj_at (y := nI B) hn5 ?_
                    refine fj_bipush (v := 120) C dX6_line_108 (by decide) ?_
                    refine fj_icmp_ne (tgt := 117) C dX6_line_110 (by decide) (fun h110 => ?_) (fun h110 => ?_)
                    · have hB2 : B < 120 := Nat.lt_of_le_of_ne hB fun e => h110 (by rw [e]; rfl)
                      refine fj_aload_n C 0 dX6_line_117 rfl rfl ?_
                      refine fj_get (Cn := RX6) (T := TX6) (N := 44) (ci := 6) (v := .ref (bd 8)) C iX6 0 (fm_at0 _ _ _ _ _) rfl 13 (by decide) kX6_39 rfl dX6_line_118 ?_
                      refine fj_aload_n C 0 dX6_line_121 rfl rfl ?_
                      refine fj_get (Cn := RX6) (T := TX6) (N := 44) (ci := 6) (v := .int (n 5)) C iX6 0 (fm_at0 _ _ _ _ _) rfl 12 (by decide) kX6_197 rfl dX6_line_122 ?_
                      refine fj_at (y := nI B) hn5 ?_
                      refine fj_iload_n C 1 dX6_line_125 rfl rfl ?_
                      refine fj_iast (f := (a 8)) C 8 (fm_at8 _ _ _ _ _) (vp_in_nI hB2 (by decide)) dX6_line_126 (fm_st8 _ _ _ _ _ _) ?_
                      refine fj_aload_n C 0 dX6_line_127 rfl rfl ?_
                      refine fj_get (Cn := RX6) (T := TX6) (N := 44) (ci := 6) (v := .ref (bd 9)) C iX6 0 (fm_at0 _ _ _ _ _) rfl 14 (by decide) kX6_42 rfl dX6_line_128 ?_
                      refine fj_aload_n C 0 dX6_line_131 rfl rfl ?_
                      refine fj_get (Cn := RX6) (T := TX6) (N := 44) (ci := 6) (v := .int (n 5)) C iX6 0 (fm_at0 _ _ _ _ _) rfl 12 (by decide) kX6_197 rfl dX6_line_132 ?_
                      refine fj_at (y := nI B) hn5 ?_
                      refine fj_iload_n C 2 dX6_line_135 rfl rfl ?_
                      refine fj_iast (f := (a 9)) C 9 (fm_at9 _ _ _ _ _) (vp_in_nI hB2 (by decide)) dX6_line_136 (fm_st9 _ _ _ _ _ _) ?_
                      refine fj_aload_n C 0 dX6_line_137 rfl rfl ?_
                      refine fj_get (Cn := RX6) (T := TX6) (N := 44) (ci := 6) (v := .ref (bd 10)) C iX6 0 (fm_at0 _ _ _ _ _) rfl 15 (by decide) kX6_45 rfl dX6_line_138 ?_
                      refine fj_aload_n C 0 dX6_line_141 rfl rfl ?_
                      refine fj_get (Cn := RX6) (T := TX6) (N := 44) (ci := 6) (v := .int (n 5)) C iX6 0 (fm_at0 _ _ _ _ _) rfl 12 (by decide) kX6_197 rfl dX6_line_142 ?_
                      refine fj_at (y := nI B) hn5 ?_
                      refine fj_iload_n C 3 dX6_line_145 rfl rfl ?_
                      refine fj_iast (f := (a 10)) C 10 (fm_at10 _ _ _ _ _) (vp_in_nI hB2 (by decide)) dX6_line_146 (fm_st10 _ _ _ _ _ _) ?_
                      refine fj_aload_n C 0 dX6_line_147 rfl rfl ?_
                      refine fj_get (Cn := RX6) (T := TX6) (N := 44) (ci := 6) (v := .ref (bd 11)) C iX6 0 (fm_at0 _ _ _ _ _) rfl 16 (by decide) kX6_48 rfl dX6_line_148 ?_
                      refine fj_aload_n C 0 dX6_line_151 rfl rfl ?_
                      refine fj_get (Cn := RX6) (T := TX6) (N := 44) (ci := 6) (v := .int (n 5)) C iX6 0 (fm_at0 _ _ _ _ _) rfl 12 (by decide) kX6_197 rfl dX6_line_152 ?_
                      refine fj_at (y := nI B) hn5 ?_
                      refine fj_iload C 4 dX6_line_155 rfl ?_
                      refine fj_iast (f := (a 11)) C 11 (fm_at11 _ _ _ _ _) (vp_in_nI hB2 (by decide)) dX6_line_157 (fm_st11 _ _ _ _ _ _) ?_
                      refine fj_aload_n C 0 dX6_line_158 rfl rfl ?_
                      refine fj_get (Cn := RX6) (T := TX6) (N := 44) (ci := 6) (v := .ref (bd 12)) C iX6 0 (fm_at0 _ _ _ _ _) rfl 17 (by decide) kX6_51 rfl dX6_line_159 ?_
                      refine fj_aload_n C 0 dX6_line_162 rfl rfl ?_
                      refine fj_get (Cn := RX6) (T := TX6) (N := 44) (ci := 6) (v := .int (n 5)) C iX6 0 (fm_at0 _ _ _ _ _) rfl 12 (by decide) kX6_197 rfl dX6_line_163 ?_
                      refine fj_at (y := nI B) hn5 ?_
                      refine fj_iload C 5 dX6_line_166 rfl ?_
                      refine fj_iast (f := (a 12)) C 12 (fm_at12 _ _ _ _ _) (vp_in_nI hB2 (by decide)) dX6_line_168 (fm_st12 _ _ _ _ _ _) ?_
                      refine fj_aload_n C 0 dX6_line_169 rfl rfl ?_
                      refine fj_get (Cn := RX6) (T := TX6) (N := 44) (ci := 6) (v := .ref (bd 13)) C iX6 0 (fm_at0 _ _ _ _ _) rfl 18 (by decide) kX6_54 rfl dX6_line_170 ?_
                      refine fj_aload_n C 0 dX6_line_173 rfl rfl ?_
                      refine fj_get (Cn := RX6) (T := TX6) (N := 44) (ci := 6) (v := .int (n 5)) C iX6 0 (fm_at0 _ _ _ _ _) rfl 12 (by decide) kX6_197 rfl dX6_line_174 ?_
                      refine fj_at (y := nI B) hn5 ?_
                      refine fj_iconst (v := 0) C dX6_line_177 (by decide) ?_
                      refine fj_zast (f := (a 13)) C 13 (fm_at13 _ _ _ _ _) (vp_in_nI hB2 (by decide)) dX6_line_178 (fm_st13 _ _ _ _ _ _) ?_
                      refine fj_aload_n C 0 dX6_line_179 rfl rfl ?_
                      refine fj_dup C dX6_line_180 rfl ?_
                      refine fj_get (Cn := RX6) (T := TX6) (N := 44) (ci := 6) (v := .int (n 5)) C iX6 0 (fm_at0 _ _ _ _ _) rfl 12 (by decide) kX6_197 rfl dX6_line_181 ?_
                      refine fj_at (y := nI B) hn5 ?_
                      refine fj_iconst (v := 1) C dX6_line_184 (by decide) ?_
                      refine fj_iadd C dX6_line_185 ?_
                      refine fj_at (y := nI (B + 1)) (nI_1 B) ?_
                      refine fj_put (Cn := RX6) (T := TX6) (N := 44) (ci := 6) C iX6 tyX6 tyX6_ok nmX6 0 (fm_at0 _ _ _ _ _) rfl 12 (by decide) kX6_197 rfl rfl rfl (Nat.le_of_ble_eq_true rfl) dX6_line_186 (fm_si0_12 _ _ _ _ _ _) ?_
                      refine fj_aload_n C 0 dX6_line_189 rfl rfl ?_
                      refine fj_get (Cn := RX6) (T := TX6) (N := 44) (ci := 6) (v := .int (nI (B + 1))) C iX6 0 (fm_at0 _ _ _ _ _) rfl 12 (by decide) kX6_197 rfl dX6_line_190 ?_
                      refine fj_iconst (v := 1) C dX6_line_193 (by decide) ?_
                      refine fj_isub C dX6_line_194 ?_
                      refine fj_at (y := nI B) (nI_pred B) ?_
                      exact fj_iret C E9 dX6_line_195 ⟨by grind, by rw [if_pos (by grind)]⟩
                    · have hB2 : ¬ B < 120 := fun q => absurd (fx_eqI (b := 120) h110 (by omega) (by decide)) (by omega)
                      refine fj_sipush (v := (-1004)) C dX6_line_113 (by decide) ?_
                      exact fj_iret C E9 dX6_line_116 ⟨by grind, by rw [if_neg (by grind)]⟩
                  · refine fj_iload C 5 dX6_line_87 rfl ?_
                    refine fj_i2l C dX6_line_89 ?_
                    refine fj_lconst (v := 1) C dX6_line_90 (by decide) ?_
                    refine fj_ldc2 (v := 160) C dX6_line_91 kL195 ?_
                    refine fj_callSw (As := [.long u.toInt64, .long 1, .long 160]) (rest := []) C (d_X6_inI l D ty t0 (fm_w bd ty a g n) u 1 160 1 160 (by decide) (by decide)) (va_cwS 3 C.2.2.2.2.1 gX6_line_X6_in rfl rfl rfl (by decide +kernel) ⟨Nat.le_of_ble_eq_true rfl, Nat.le_of_ble_eq_true rfl⟩)  rfl (Nat.le_of_ble_eq_true rfl) dX6_line_94 ⟨Nat.zero_le _, Nat.zero_le _⟩ (fun v9 w9 hp9 => ?_)
                    obtain ⟨rfl, rfl⟩ := hp9
                    refine fj_st (st' := .int (if (1 ≤ u ∧ u ≤ 160) then 1 else 0) :: []) rfl ?_
                    refine fj_ifb_ne (tgt := 104) C dX6_line_97 (by decide) (fun h97 => ?_) (fun h97 => ?_)
                    · refine fj_aload_n C 0 dX6_line_104 rfl rfl ?_
                      refine fj_get (Cn := RX6) (T := TX6) (N := 44) (ci := 6) (v := .int (n 5)) C iX6 0 (fm_at0 _ _ _ _ _) rfl 12 (by decide) kX6_197 rfl dX6_line_105 ?_
                      refine fj_at (y := nI B) hn5 ?_
                      refine fj_bipush (v := 120) C dX6_line_108 (by decide) ?_
                      refine fj_icmp_ne (tgt := 117) C dX6_line_110 (by decide) (fun h110 => ?_) (fun h110 => ?_)
                      · have hB2 : B < 120 := Nat.lt_of_le_of_ne hB fun e => h110 (by rw [e]; rfl)
                        refine fj_aload_n C 0 dX6_line_117 rfl rfl ?_
                        refine fj_get (Cn := RX6) (T := TX6) (N := 44) (ci := 6) (v := .ref (bd 8)) C iX6 0 (fm_at0 _ _ _ _ _) rfl 13 (by decide) kX6_39 rfl dX6_line_118 ?_
                        refine fj_aload_n C 0 dX6_line_121 rfl rfl ?_
                        refine fj_get (Cn := RX6) (T := TX6) (N := 44) (ci := 6) (v := .int (n 5)) C iX6 0 (fm_at0 _ _ _ _ _) rfl 12 (by decide) kX6_197 rfl dX6_line_122 ?_
                        refine fj_at (y := nI B) hn5 ?_
                        refine fj_iload_n C 1 dX6_line_125 rfl rfl ?_
                        refine fj_iast (f := (a 8)) C 8 (fm_at8 _ _ _ _ _) (vp_in_nI hB2 (by decide)) dX6_line_126 (fm_st8 _ _ _ _ _ _) ?_
                        refine fj_aload_n C 0 dX6_line_127 rfl rfl ?_
                        refine fj_get (Cn := RX6) (T := TX6) (N := 44) (ci := 6) (v := .ref (bd 9)) C iX6 0 (fm_at0 _ _ _ _ _) rfl 14 (by decide) kX6_42 rfl dX6_line_128 ?_
                        refine fj_aload_n C 0 dX6_line_131 rfl rfl ?_
                        refine fj_get (Cn := RX6) (T := TX6) (N := 44) (ci := 6) (v := .int (n 5)) C iX6 0 (fm_at0 _ _ _ _ _) rfl 12 (by decide) kX6_197 rfl dX6_line_132 ?_
                        refine fj_at (y := nI B) hn5 ?_
                        refine fj_iload_n C 2 dX6_line_135 rfl rfl ?_
                        refine fj_iast (f := (a 9)) C 9 (fm_at9 _ _ _ _ _) (vp_in_nI hB2 (by decide)) dX6_line_136 (fm_st9 _ _ _ _ _ _) ?_
                        refine fj_aload_n C 0 dX6_line_137 rfl rfl ?_
                        refine fj_get (Cn := RX6) (T := TX6) (N := 44) (ci := 6) (v := .ref (bd 10)) C iX6 0 (fm_at0 _ _ _ _ _) rfl 15 (by decide) kX6_45 rfl dX6_line_138 ?_
                        refine fj_aload_n C 0 dX6_line_141 rfl rfl ?_
                        refine fj_get (Cn := RX6) (T := TX6) (N := 44) (ci := 6) (v := .int (n 5)) C iX6 0 (fm_at0 _ _ _ _ _) rfl 12 (by decide) kX6_197 rfl dX6_line_142 ?_
                        refine fj_at (y := nI B) hn5 ?_
                        refine fj_iload_n C 3 dX6_line_145 rfl rfl ?_
                        refine fj_iast (f := (a 10)) C 10 (fm_at10 _ _ _ _ _) (vp_in_nI hB2 (by decide)) dX6_line_146 (fm_st10 _ _ _ _ _ _) ?_
                        refine fj_aload_n C 0 dX6_line_147 rfl rfl ?_
                        refine fj_get (Cn := RX6) (T := TX6) (N := 44) (ci := 6) (v := .ref (bd 11)) C iX6 0 (fm_at0 _ _ _ _ _) rfl 16 (by decide) kX6_48 rfl dX6_line_148 ?_
                        refine fj_aload_n C 0 dX6_line_151 rfl rfl ?_
                        refine fj_get (Cn := RX6) (T := TX6) (N := 44) (ci := 6) (v := .int (n 5)) C iX6 0 (fm_at0 _ _ _ _ _) rfl 12 (by decide) kX6_197 rfl dX6_line_152 ?_
                        refine fj_at (y := nI B) hn5 ?_
                        refine fj_iload C 4 dX6_line_155 rfl ?_
                        refine fj_iast (f := (a 11)) C 11 (fm_at11 _ _ _ _ _) (vp_in_nI hB2 (by decide)) dX6_line_157 (fm_st11 _ _ _ _ _ _) ?_
                        refine fj_aload_n C 0 dX6_line_158 rfl rfl ?_
                        refine fj_get (Cn := RX6) (T := TX6) (N := 44) (ci := 6) (v := .ref (bd 12)) C iX6 0 (fm_at0 _ _ _ _ _) rfl 17 (by decide) kX6_51 rfl dX6_line_159 ?_
                        refine fj_aload_n C 0 dX6_line_162 rfl rfl ?_
                        refine fj_get (Cn := RX6) (T := TX6) (N := 44) (ci := 6) (v := .int (n 5)) C iX6 0 (fm_at0 _ _ _ _ _) rfl 12 (by decide) kX6_197 rfl dX6_line_163 ?_
                        refine fj_at (y := nI B) hn5 ?_
                        refine fj_iload C 5 dX6_line_166 rfl ?_
                        refine fj_iast (f := (a 12)) C 12 (fm_at12 _ _ _ _ _) (vp_in_nI hB2 (by decide)) dX6_line_168 (fm_st12 _ _ _ _ _ _) ?_
                        refine fj_aload_n C 0 dX6_line_169 rfl rfl ?_
                        refine fj_get (Cn := RX6) (T := TX6) (N := 44) (ci := 6) (v := .ref (bd 13)) C iX6 0 (fm_at0 _ _ _ _ _) rfl 18 (by decide) kX6_54 rfl dX6_line_170 ?_
                        refine fj_aload_n C 0 dX6_line_173 rfl rfl ?_
                        refine fj_get (Cn := RX6) (T := TX6) (N := 44) (ci := 6) (v := .int (n 5)) C iX6 0 (fm_at0 _ _ _ _ _) rfl 12 (by decide) kX6_197 rfl dX6_line_174 ?_
                        refine fj_at (y := nI B) hn5 ?_
                        refine fj_iconst (v := 0) C dX6_line_177 (by decide) ?_
                        refine fj_zast (f := (a 13)) C 13 (fm_at13 _ _ _ _ _) (vp_in_nI hB2 (by decide)) dX6_line_178 (fm_st13 _ _ _ _ _ _) ?_
                        refine fj_aload_n C 0 dX6_line_179 rfl rfl ?_
                        refine fj_dup C dX6_line_180 rfl ?_
                        refine fj_get (Cn := RX6) (T := TX6) (N := 44) (ci := 6) (v := .int (n 5)) C iX6 0 (fm_at0 _ _ _ _ _) rfl 12 (by decide) kX6_197 rfl dX6_line_181 ?_
                        refine fj_at (y := nI B) hn5 ?_
                        refine fj_iconst (v := 1) C dX6_line_184 (by decide) ?_
                        refine fj_iadd C dX6_line_185 ?_
                        refine fj_at (y := nI (B + 1)) (nI_1 B) ?_
                        refine fj_put (Cn := RX6) (T := TX6) (N := 44) (ci := 6) C iX6 tyX6 tyX6_ok nmX6 0 (fm_at0 _ _ _ _ _) rfl 12 (by decide) kX6_197 rfl rfl rfl (Nat.le_of_ble_eq_true rfl) dX6_line_186 (fm_si0_12 _ _ _ _ _ _) ?_
                        refine fj_aload_n C 0 dX6_line_189 rfl rfl ?_
                        refine fj_get (Cn := RX6) (T := TX6) (N := 44) (ci := 6) (v := .int (nI (B + 1))) C iX6 0 (fm_at0 _ _ _ _ _) rfl 12 (by decide) kX6_197 rfl dX6_line_190 ?_
                        refine fj_iconst (v := 1) C dX6_line_193 (by decide) ?_
                        refine fj_isub C dX6_line_194 ?_
                        refine fj_at (y := nI B) (nI_pred B) ?_
                        exact fj_iret C E9 dX6_line_195 ⟨by grind, by rw [if_pos (by grind)]⟩
                      · have hB2 : ¬ B < 120 := fun q => absurd (fx_eqI (b := 120) h110 (by omega) (by decide)) (by omega)
                        refine fj_sipush (v := (-1004)) C dX6_line_113 (by decide) ?_
                        exact fj_iret C E9 dX6_line_116 ⟨by grind, by rw [if_neg (by grind)]⟩
                    · refine fj_sipush (v := (-1002)) C dX6_line_100 (by decide) ?_
                      exact fj_iret C E9 dX6_line_103 ⟨by grind, by rw [if_neg (by grind)]⟩
                · refine fj_iload C 5 dX6_line_69 rfl ?_
                  refine fj_i2l C dX6_line_71 ?_
                  refine fj_lconst (v := 1) C dX6_line_72 (by decide) ?_
                  refine fj_ldc2 (v := 5000) C dX6_line_73 kL193 ?_
                  refine fj_callSw (As := [.long u.toInt64, .long 1, .long 5000]) (rest := []) C (d_X6_inI l D ty t0 (fm_w bd ty a g n) u 1 5000 1 5000 (by decide) (by decide)) (va_cwS 3 C.2.2.2.2.1 gX6_line_X6_in rfl rfl rfl (by decide +kernel) ⟨Nat.le_of_ble_eq_true rfl, Nat.le_of_ble_eq_true rfl⟩)  rfl (Nat.le_of_ble_eq_true rfl) dX6_line_76 ⟨Nat.zero_le _, Nat.zero_le _⟩ (fun v9 w9 hp9 => ?_)
                  obtain ⟨rfl, rfl⟩ := hp9
                  refine fj_st (st' := .int (if (1 ≤ u ∧ u ≤ 5000) then 1 else 0) :: []) rfl ?_
                  refine fj_ifb_eq (tgt := 100) C dX6_line_79 (by decide) (fun h79 => ?_) (fun h79 => ?_)
                  · refine fj_sipush (v := (-1002)) C dX6_line_100 (by decide) ?_
                    exact fj_iret C E9 dX6_line_103 ⟨by grind, by rw [if_neg (by grind)]⟩
                  · refine fj_iload_n C 2 dX6_line_82 rfl rfl ?_
                    refine fj_iconst (v := 2) C dX6_line_83 (by decide) ?_
                    refine fj_icmp_ne (tgt := 104) C dX6_line_84 (by decide) (fun h84 => ?_) (fun h84 => ?_)
                    · refine fj_aload_n C 0 dX6_line_104 rfl rfl ?_
                      refine fj_get (Cn := RX6) (T := TX6) (N := 44) (ci := 6) (v := .int (n 5)) C iX6 0 (fm_at0 _ _ _ _ _) rfl 12 (by decide) kX6_197 rfl dX6_line_105 ?_
                      refine fj_at (y := nI B) hn5 ?_
                      refine fj_bipush (v := 120) C dX6_line_108 (by decide) ?_
                      refine fj_icmp_ne (tgt := 117) C dX6_line_110 (by decide) (fun h110 => ?_) (fun h110 => ?_)
                      · have hB2 : B < 120 := Nat.lt_of_le_of_ne hB fun e => h110 (by rw [e]; rfl)
                        refine fj_aload_n C 0 dX6_line_117 rfl rfl ?_
                        refine fj_get (Cn := RX6) (T := TX6) (N := 44) (ci := 6) (v := .ref (bd 8)) C iX6 0 (fm_at0 _ _ _ _ _) rfl 13 (by decide) kX6_39 rfl dX6_line_118 ?_
                        refine fj_aload_n C 0 dX6_line_121 rfl rfl ?_
                        refine fj_get (Cn := RX6) (T := TX6) (N := 44) (ci := 6) (v := .int (n 5)) C iX6 0 (fm_at0 _ _ _ _ _) rfl 12 (by decide) kX6_197 rfl dX6_line_122 ?_
                        refine fj_at (y := nI B) hn5 ?_
                        refine fj_iload_n C 1 dX6_line_125 rfl rfl ?_
                        refine fj_iast (f := (a 8)) C 8 (fm_at8 _ _ _ _ _) (vp_in_nI hB2 (by decide)) dX6_line_126 (fm_st8 _ _ _ _ _ _) ?_
                        refine fj_aload_n C 0 dX6_line_127 rfl rfl ?_
                        refine fj_get (Cn := RX6) (T := TX6) (N := 44) (ci := 6) (v := .ref (bd 9)) C iX6 0 (fm_at0 _ _ _ _ _) rfl 14 (by decide) kX6_42 rfl dX6_line_128 ?_
                        refine fj_aload_n C 0 dX6_line_131 rfl rfl ?_
                        refine fj_get (Cn := RX6) (T := TX6) (N := 44) (ci := 6) (v := .int (n 5)) C iX6 0 (fm_at0 _ _ _ _ _) rfl 12 (by decide) kX6_197 rfl dX6_line_132 ?_
                        refine fj_at (y := nI B) hn5 ?_
                        refine fj_iload_n C 2 dX6_line_135 rfl rfl ?_
                        refine fj_iast (f := (a 9)) C 9 (fm_at9 _ _ _ _ _) (vp_in_nI hB2 (by decide)) dX6_line_136 (fm_st9 _ _ _ _ _ _) ?_
                        refine fj_aload_n C 0 dX6_line_137 rfl rfl ?_
                        refine fj_get (Cn := RX6) (T := TX6) (N := 44) (ci := 6) (v := .ref (bd 10)) C iX6 0 (fm_at0 _ _ _ _ _) rfl 15 (by decide) kX6_45 rfl dX6_line_138 ?_
                        refine fj_aload_n C 0 dX6_line_141 rfl rfl ?_
                        refine fj_get (Cn := RX6) (T := TX6) (N := 44) (ci := 6) (v := .int (n 5)) C iX6 0 (fm_at0 _ _ _ _ _) rfl 12 (by decide) kX6_197 rfl dX6_line_142 ?_
                        refine fj_at (y := nI B) hn5 ?_
                        refine fj_iload_n C 3 dX6_line_145 rfl rfl ?_
                        refine fj_iast (f := (a 10)) C 10 (fm_at10 _ _ _ _ _) (vp_in_nI hB2 (by decide)) dX6_line_146 (fm_st10 _ _ _ _ _ _) ?_
                        refine fj_aload_n C 0 dX6_line_147 rfl rfl ?_
                        refine fj_get (Cn := RX6) (T := TX6) (N := 44) (ci := 6) (v := .ref (bd 11)) C iX6 0 (fm_at0 _ _ _ _ _) rfl 16 (by decide) kX6_48 rfl dX6_line_148 ?_
                        refine fj_aload_n C 0 dX6_line_151 rfl rfl ?_
                        refine fj_get (Cn := RX6) (T := TX6) (N := 44) (ci := 6) (v := .int (n 5)) C iX6 0 (fm_at0 _ _ _ _ _) rfl 12 (by decide) kX6_197 rfl dX6_line_152 ?_
                        refine fj_at (y := nI B) hn5 ?_
                        refine fj_iload C 4 dX6_line_155 rfl ?_
                        refine fj_iast (f := (a 11)) C 11 (fm_at11 _ _ _ _ _) (vp_in_nI hB2 (by decide)) dX6_line_157 (fm_st11 _ _ _ _ _ _) ?_
                        refine fj_aload_n C 0 dX6_line_158 rfl rfl ?_
                        refine fj_get (Cn := RX6) (T := TX6) (N := 44) (ci := 6) (v := .ref (bd 12)) C iX6 0 (fm_at0 _ _ _ _ _) rfl 17 (by decide) kX6_51 rfl dX6_line_159 ?_
                        refine fj_aload_n C 0 dX6_line_162 rfl rfl ?_
                        refine fj_get (Cn := RX6) (T := TX6) (N := 44) (ci := 6) (v := .int (n 5)) C iX6 0 (fm_at0 _ _ _ _ _) rfl 12 (by decide) kX6_197 rfl dX6_line_163 ?_
                        refine fj_at (y := nI B) hn5 ?_
                        refine fj_iload C 5 dX6_line_166 rfl ?_
                        refine fj_iast (f := (a 12)) C 12 (fm_at12 _ _ _ _ _) (vp_in_nI hB2 (by decide)) dX6_line_168 (fm_st12 _ _ _ _ _ _) ?_
                        refine fj_aload_n C 0 dX6_line_169 rfl rfl ?_
                        refine fj_get (Cn := RX6) (T := TX6) (N := 44) (ci := 6) (v := .ref (bd 13)) C iX6 0 (fm_at0 _ _ _ _ _) rfl 18 (by decide) kX6_54 rfl dX6_line_170 ?_
                        refine fj_aload_n C 0 dX6_line_173 rfl rfl ?_
                        refine fj_get (Cn := RX6) (T := TX6) (N := 44) (ci := 6) (v := .int (n 5)) C iX6 0 (fm_at0 _ _ _ _ _) rfl 12 (by decide) kX6_197 rfl dX6_line_174 ?_
                        refine fj_at (y := nI B) hn5 ?_
                        refine fj_iconst (v := 0) C dX6_line_177 (by decide) ?_
                        refine fj_zast (f := (a 13)) C 13 (fm_at13 _ _ _ _ _) (vp_in_nI hB2 (by decide)) dX6_line_178 (fm_st13 _ _ _ _ _ _) ?_
                        refine fj_aload_n C 0 dX6_line_179 rfl rfl ?_
                        refine fj_dup C dX6_line_180 rfl ?_
                        refine fj_get (Cn := RX6) (T := TX6) (N := 44) (ci := 6) (v := .int (n 5)) C iX6 0 (fm_at0 _ _ _ _ _) rfl 12 (by decide) kX6_197 rfl dX6_line_181 ?_
                        refine fj_at (y := nI B) hn5 ?_
                        refine fj_iconst (v := 1) C dX6_line_184 (by decide) ?_
                        refine fj_iadd C dX6_line_185 ?_
                        refine fj_at (y := nI (B + 1)) (nI_1 B) ?_
                        refine fj_put (Cn := RX6) (T := TX6) (N := 44) (ci := 6) C iX6 tyX6 tyX6_ok nmX6 0 (fm_at0 _ _ _ _ _) rfl 12 (by decide) kX6_197 rfl rfl rfl (Nat.le_of_ble_eq_true rfl) dX6_line_186 (fm_si0_12 _ _ _ _ _ _) ?_
                        refine fj_aload_n C 0 dX6_line_189 rfl rfl ?_
                        refine fj_get (Cn := RX6) (T := TX6) (N := 44) (ci := 6) (v := .int (nI (B + 1))) C iX6 0 (fm_at0 _ _ _ _ _) rfl 12 (by decide) kX6_197 rfl dX6_line_190 ?_
                        refine fj_iconst (v := 1) C dX6_line_193 (by decide) ?_
                        refine fj_isub C dX6_line_194 ?_
                        refine fj_at (y := nI B) (nI_pred B) ?_
                        exact fj_iret C E9 dX6_line_195 ⟨by grind, by rw [if_pos (by grind)]⟩
                      · have hB2 : ¬ B < 120 := fun q => absurd (fx_eqI (b := 120) h110 (by omega) (by decide)) (by omega)
                        refine fj_sipush (v := (-1004)) C dX6_line_113 (by decide) ?_
                        exact fj_iret C E9 dX6_line_116 ⟨by grind, by rw [if_neg (by grind)]⟩
                    · refine fj_iload C 5 dX6_line_87 rfl ?_
                      refine fj_i2l C dX6_line_89 ?_
                      refine fj_lconst (v := 1) C dX6_line_90 (by decide) ?_
                      refine fj_ldc2 (v := 160) C dX6_line_91 kL195 ?_
                      refine fj_callSw (As := [.long u.toInt64, .long 1, .long 160]) (rest := []) C (d_X6_inI l D ty t0 (fm_w bd ty a g n) u 1 160 1 160 (by decide) (by decide)) (va_cwS 3 C.2.2.2.2.1 gX6_line_X6_in rfl rfl rfl (by decide +kernel) ⟨Nat.le_of_ble_eq_true rfl, Nat.le_of_ble_eq_true rfl⟩)  rfl (Nat.le_of_ble_eq_true rfl) dX6_line_94 ⟨Nat.zero_le _, Nat.zero_le _⟩ (fun v9 w9 hp9 => ?_)
                      obtain ⟨rfl, rfl⟩ := hp9
                      refine fj_st (st' := .int (if (1 ≤ u ∧ u ≤ 160) then 1 else 0) :: []) rfl ?_
                      refine fj_ifb_ne (tgt := 104) C dX6_line_97 (by decide) (fun h97 => ?_) (fun h97 => ?_)
                      · refine fj_aload_n C 0 dX6_line_104 rfl rfl ?_
                        refine fj_get (Cn := RX6) (T := TX6) (N := 44) (ci := 6) (v := .int (n 5)) C iX6 0 (fm_at0 _ _ _ _ _) rfl 12 (by decide) kX6_197 rfl dX6_line_105 ?_
                        refine fj_at (y := nI B) hn5 ?_
                        refine fj_bipush (v := 120) C dX6_line_108 (by decide) ?_
                        refine fj_icmp_ne (tgt := 117) C dX6_line_110 (by decide) (fun h110 => ?_) (fun h110 => ?_)
                        · have hB2 : B < 120 := Nat.lt_of_le_of_ne hB fun e => h110 (by rw [e]; rfl)
                          refine fj_aload_n C 0 dX6_line_117 rfl rfl ?_
                          refine fj_get (Cn := RX6) (T := TX6) (N := 44) (ci := 6) (v := .ref (bd 8)) C iX6 0 (fm_at0 _ _ _ _ _) rfl 13 (by decide) kX6_39 rfl dX6_line_118 ?_
                          refine fj_aload_n C 0 dX6_line_121 rfl rfl ?_
                          refine fj_get (Cn := RX6) (T := TX6) (N := 44) (ci := 6) (v := .int (n 5)) C iX6 0 (fm_at0 _ _ _ _ _) rfl 12 (by decide) kX6_197 rfl dX6_line_122 ?_
                          refine fj_at (y := nI B) hn5 ?_
                          refine fj_iload_n C 1 dX6_line_125 rfl rfl ?_
                          refine fj_iast (f := (a 8)) C 8 (fm_at8 _ _ _ _ _) (vp_in_nI hB2 (by decide)) dX6_line_126 (fm_st8 _ _ _ _ _ _) ?_
                          refine fj_aload_n C 0 dX6_line_127 rfl rfl ?_
                          refine fj_get (Cn := RX6) (T := TX6) (N := 44) (ci := 6) (v := .ref (bd 9)) C iX6 0 (fm_at0 _ _ _ _ _) rfl 14 (by decide) kX6_42 rfl dX6_line_128 ?_
                          refine fj_aload_n C 0 dX6_line_131 rfl rfl ?_
                          refine fj_get (Cn := RX6) (T := TX6) (N := 44) (ci := 6) (v := .int (n 5)) C iX6 0 (fm_at0 _ _ _ _ _) rfl 12 (by decide) kX6_197 rfl dX6_line_132 ?_
                          refine fj_at (y := nI B) hn5 ?_
                          refine fj_iload_n C 2 dX6_line_135 rfl rfl ?_
                          refine fj_iast (f := (a 9)) C 9 (fm_at9 _ _ _ _ _) (vp_in_nI hB2 (by decide)) dX6_line_136 (fm_st9 _ _ _ _ _ _) ?_
                          refine fj_aload_n C 0 dX6_line_137 rfl rfl ?_
                          refine fj_get (Cn := RX6) (T := TX6) (N := 44) (ci := 6) (v := .ref (bd 10)) C iX6 0 (fm_at0 _ _ _ _ _) rfl 15 (by decide) kX6_45 rfl dX6_line_138 ?_
                          refine fj_aload_n C 0 dX6_line_141 rfl rfl ?_
                          refine fj_get (Cn := RX6) (T := TX6) (N := 44) (ci := 6) (v := .int (n 5)) C iX6 0 (fm_at0 _ _ _ _ _) rfl 12 (by decide) kX6_197 rfl dX6_line_142 ?_
                          refine fj_at (y := nI B) hn5 ?_
                          refine fj_iload_n C 3 dX6_line_145 rfl rfl ?_
                          refine fj_iast (f := (a 10)) C 10 (fm_at10 _ _ _ _ _) (vp_in_nI hB2 (by decide)) dX6_line_146 (fm_st10 _ _ _ _ _ _) ?_
                          refine fj_aload_n C 0 dX6_line_147 rfl rfl ?_
                          refine fj_get (Cn := RX6) (T := TX6) (N := 44) (ci := 6) (v := .ref (bd 11)) C iX6 0 (fm_at0 _ _ _ _ _) rfl 16 (by decide) kX6_48 rfl dX6_line_148 ?_
                          refine fj_aload_n C 0 dX6_line_151 rfl rfl ?_
                          refine fj_get (Cn := RX6) (T := TX6) (N := 44) (ci := 6) (v := .int (n 5)) C iX6 0 (fm_at0 _ _ _ _ _) rfl 12 (by decide) kX6_197 rfl dX6_line_152 ?_
                          refine fj_at (y := nI B) hn5 ?_
                          refine fj_iload C 4 dX6_line_155 rfl ?_
                          refine fj_iast (f := (a 11)) C 11 (fm_at11 _ _ _ _ _) (vp_in_nI hB2 (by decide)) dX6_line_157 (fm_st11 _ _ _ _ _ _) ?_
                          refine fj_aload_n C 0 dX6_line_158 rfl rfl ?_
                          refine fj_get (Cn := RX6) (T := TX6) (N := 44) (ci := 6) (v := .ref (bd 12)) C iX6 0 (fm_at0 _ _ _ _ _) rfl 17 (by decide) kX6_51 rfl dX6_line_159 ?_
                          refine fj_aload_n C 0 dX6_line_162 rfl rfl ?_
                          refine fj_get (Cn := RX6) (T := TX6) (N := 44) (ci := 6) (v := .int (n 5)) C iX6 0 (fm_at0 _ _ _ _ _) rfl 12 (by decide) kX6_197 rfl dX6_line_163 ?_
                          refine fj_at (y := nI B) hn5 ?_
                          refine fj_iload C 5 dX6_line_166 rfl ?_
                          refine fj_iast (f := (a 12)) C 12 (fm_at12 _ _ _ _ _) (vp_in_nI hB2 (by decide)) dX6_line_168 (fm_st12 _ _ _ _ _ _) ?_
                          refine fj_aload_n C 0 dX6_line_169 rfl rfl ?_
                          refine fj_get (Cn := RX6) (T := TX6) (N := 44) (ci := 6) (v := .ref (bd 13)) C iX6 0 (fm_at0 _ _ _ _ _) rfl 18 (by decide) kX6_54 rfl dX6_line_170 ?_
                          refine fj_aload_n C 0 dX6_line_173 rfl rfl ?_
                          refine fj_get (Cn := RX6) (T := TX6) (N := 44) (ci := 6) (v := .int (n 5)) C iX6 0 (fm_at0 _ _ _ _ _) rfl 12 (by decide) kX6_197 rfl dX6_line_174 ?_
                          refine fj_at (y := nI B) hn5 ?_
                          refine fj_iconst (v := 0) C dX6_line_177 (by decide) ?_
                          refine fj_zast (f := (a 13)) C 13 (fm_at13 _ _ _ _ _) (vp_in_nI hB2 (by decide)) dX6_line_178 (fm_st13 _ _ _ _ _ _) ?_
                          refine fj_aload_n C 0 dX6_line_179 rfl rfl ?_
                          refine fj_dup C dX6_line_180 rfl ?_
                          refine fj_get (Cn := RX6) (T := TX6) (N := 44) (ci := 6) (v := .int (n 5)) C iX6 0 (fm_at0 _ _ _ _ _) rfl 12 (by decide) kX6_197 rfl dX6_line_181 ?_
                          refine fj_at (y := nI B) hn5 ?_
                          refine fj_iconst (v := 1) C dX6_line_184 (by decide) ?_
                          refine fj_iadd C dX6_line_185 ?_
                          refine fj_at (y := nI (B + 1)) (nI_1 B) ?_
                          refine fj_put (Cn := RX6) (T := TX6) (N := 44) (ci := 6) C iX6 tyX6 tyX6_ok nmX6 0 (fm_at0 _ _ _ _ _) rfl 12 (by decide) kX6_197 rfl rfl rfl (Nat.le_of_ble_eq_true rfl) dX6_line_186 (fm_si0_12 _ _ _ _ _ _) ?_
                          refine fj_aload_n C 0 dX6_line_189 rfl rfl ?_
                          refine fj_get (Cn := RX6) (T := TX6) (N := 44) (ci := 6) (v := .int (nI (B + 1))) C iX6 0 (fm_at0 _ _ _ _ _) rfl 12 (by decide) kX6_197 rfl dX6_line_190 ?_
                          refine fj_iconst (v := 1) C dX6_line_193 (by decide) ?_
                          refine fj_isub C dX6_line_194 ?_
                          refine fj_at (y := nI B) (nI_pred B) ?_
                          exact fj_iret C E9 dX6_line_195 ⟨by grind, by rw [if_pos (by grind)]⟩
                        · have hB2 : ¬ B < 120 := fun q => absurd (fx_eqI (b := 120) h110 (by omega) (by decide)) (by omega)
                          refine fj_sipush (v := (-1004)) C dX6_line_113 (by decide) ?_
                          exact fj_iret C E9 dX6_line_116 ⟨by grind, by rw [if_neg (by grind)]⟩
                      · refine fj_sipush (v := (-1002)) C dX6_line_100 (by decide) ?_
                        exact fj_iret C E9 dX6_line_103 ⟨by grind, by rw [if_neg (by grind)]⟩
            · refine fj_sipush (v := (-1001)) C dX6_line_53 (by decide) ?_
              exact fj_iret C E9 dX6_line_56 ⟨by grind, by rw [if_neg (by grind)]⟩
  · refine fj_sipush (v := (-1002)) C dX6_line_12 (by decide) ?_
    exact fj_iret C E9 dX6_line_15 ⟨by grind, by rw [if_neg (by grind)]⟩

set_option maxHeartbeats 4000000 in
set_option maxRecDepth 100000 in
theorem d_X6_strike (l : Launch) (D : va_G) (ty : Nat → ClassId) (t0 : Nat → Nat) (bd : Nat → Nat) (a : Nat → Nat → Int32) (g : Nat → Nat → Int64) (n : Nat → Int32) (P : Nat) (S : Nat) (T : Nat) (B : Nat) (I : YI P S T B a n) (x : Int32) (y : Int32)  : fc l yX6_strike wsX6_strike (fj_rm 2 46 0 0) D ty t0 [.ref (bd 0), .int x, .int y] (fm_w bd ty a g n) 0 0 (fun v w => v = some (.int (if ib x B then (if a 13 x.toNatClampNeg = 0 then 0 else 1) else -1001)) ∧ w = if ib x B then fm_w bd ty (va_up a 13 (upd (a 13) x.toNatClampNeg (vp_nar .boolean y))) g n else fm_w bd ty a g n) := by
  refine fc_start (own := RX6) (cc := cX6_strike) (maxL := 4) (ret := (some .int)) (by decide) rfl (Nat.le_of_ble_eq_true rfl) rfl ?_
  intro p e s m args below meth c Q A C hmn E9
  obtain ⟨hn0, hP, hn2, hT, hn4, hS, hn5, hB, yWho, ySort, yQ, yN, yD, yL⟩ := id I
  have iX6 : ∀ w ∈ u_ws RX6 TX6 44, w ∈ wsX6_strike := ptX6_strike_wsX60
  have kX6_54 : Cond.fieldLink RX6 54 "FreeLandModel" "struck" "[Z" ∈ wsX6_strike := ptX6_strike_woX6_strike _ (by decide +kernel)
  refine fj_lv (lv' := [(0, .ref (bd 0)), (1, .int x), (2, .int y)]) [0, 1, 2] rfl ?_
  refine fj_aload_n C 0 dX6_strike_0 rfl rfl ?_
  refine fj_iload_n C 1 dX6_strike_1 rfl rfl ?_
  refine fj_callVw (As := [.int x]) (rest := []) C (d_X6_isLine l D ty t0 bd a g n P S T B I x) (cwV 1 C.2.2.2.2.1 gX6_strike_X6_isLine rfl rfl rfl (by decide +kernel) ⟨Nat.le_of_ble_eq_true rfl, Nat.le_of_ble_eq_true rfl⟩) ⟨0, 6, _, _, fm_at0 _ _ _ _ _, rfl, rfl⟩ rfl (Nat.le_of_ble_eq_true rfl) dX6_strike_2 ⟨Nat.zero_le _, Nat.zero_le _⟩ (fun v9 w9 hp9 => ?_)
  obtain ⟨rfl, rfl⟩ := hp9
  refine fj_st (st' := .int (if ib x B then 1 else 0) :: []) rfl ?_
  refine fj_ifb_ne (tgt := 12) C dX6_strike_5 (by decide) (fun h5 => ?_) (fun h5 => ?_)
  · refine fj_aload_n C 0 dX6_strike_12 rfl rfl ?_
    refine fj_get (Cn := RX6) (T := TX6) (N := 44) (ci := 6) (v := .ref (bd 13)) C iX6 0 (fm_at0 _ _ _ _ _) rfl 18 (by decide) kX6_54 rfl dX6_strike_13 ?_
    refine fj_iload_n C 1 dX6_strike_16 rfl rfl ?_
    refine fj_zald (f := (a 13)) C 13 (fm_at13 _ _ _ _ _) (by obtain ⟨k, hk, rfl⟩ := ib_nI h5 (by omega); exact vp_in_nI (by omega) (by decide)) dX6_strike_17 ?_
    refine fj_if_eq (tgt := 25) C dX6_strike_18 (by decide) (fun h18 => ?_) (fun h18 => ?_)
    · refine fj_iconst (v := 0) C dX6_strike_25 (by decide) ?_
      refine fj_istore_n (lv' := [(3, .int 0), (0, .ref (bd 0)), (1, .int x), (2, .int y)]) C dX6_strike_26 rfl (by decide) rfl ?_
      refine fj_aload_n C 1 dX6_strike_27 rfl rfl ?_
      refine fj_get (Cn := RX6) (T := TX6) (N := 44) (ci := 6) (v := .ref (bd 13)) C iX6 0 (fm_at0 _ _ _ _ _) rfl 18 (by decide) kX6_54 rfl dX6_strike_28 ?_
      refine fj_iload_n C 2 dX6_strike_31 rfl rfl ?_
      refine fj_iload_n C 3 dX6_strike_32 rfl rfl ?_
      refine fj_zast (f := (a 13)) C 13 (fm_at13 _ _ _ _ _) (by obtain ⟨k, hk, rfl⟩ := ib_nI h5 (by omega); exact vp_in_nI (by omega) (by decide)) dX6_strike_33 (fm_st13 _ _ _ _ _ _) ?_
      refine fj_iload_n C 0 dX6_strike_34 rfl rfl ?_
      exact fj_iret C E9 dX6_strike_35 ⟨by first | (rw [if_neg (by assumption)]; done) | (rw [if_pos (by assumption), if_pos (by assumption)]; done) | (rw [if_pos (by assumption), if_neg (by assumption)]; done), by first | (rw [if_neg (by assumption)]; done) | (rw [if_pos (by assumption)]; done)⟩
    · refine fj_iconst (v := 1) C dX6_strike_21 (by decide) ?_
      refine fj_goto (tgt := 26) C dX6_strike_22 (by decide) ?_
      refine fj_istore_n (lv' := [(3, .int 1), (0, .ref (bd 0)), (1, .int x), (2, .int y)]) C dX6_strike_26 rfl (by decide) rfl ?_
      refine fj_aload_n C 1 dX6_strike_27 rfl rfl ?_
      refine fj_get (Cn := RX6) (T := TX6) (N := 44) (ci := 6) (v := .ref (bd 13)) C iX6 0 (fm_at0 _ _ _ _ _) rfl 18 (by decide) kX6_54 rfl dX6_strike_28 ?_
      refine fj_iload_n C 2 dX6_strike_31 rfl rfl ?_
      refine fj_iload_n C 3 dX6_strike_32 rfl rfl ?_
      refine fj_zast (f := (a 13)) C 13 (fm_at13 _ _ _ _ _) (by obtain ⟨k, hk, rfl⟩ := ib_nI h5 (by omega); exact vp_in_nI (by omega) (by decide)) dX6_strike_33 (fm_st13 _ _ _ _ _ _) ?_
      refine fj_iload_n C 0 dX6_strike_34 rfl rfl ?_
      exact fj_iret C E9 dX6_strike_35 ⟨by first | (rw [if_neg (by assumption)]; done) | (rw [if_pos (by assumption), if_pos (by assumption)]; done) | (rw [if_pos (by assumption), if_neg (by assumption)]; done), by first | (rw [if_neg (by assumption)]; done) | (rw [if_pos (by assumption)]; done)⟩
  · refine fj_sipush (v := (-1001)) C dX6_strike_8 (by decide) ?_
    exact fj_iret C E9 dX6_strike_11 ⟨by first | (rw [if_neg (by assumption)]; done) | (rw [if_pos (by assumption), if_pos (by assumption)]; done) | (rw [if_pos (by assumption), if_neg (by assumption)]; done), by first | (rw [if_neg (by assumption)]; done) | (rw [if_pos (by assumption)]; done)⟩

set_option maxHeartbeats 4000000 in
set_option maxRecDepth 100000 in
theorem d_X6_told (l : Launch) (D : va_G) (ty : Nat → ClassId) (t0 : Nat → Nat) (bd : Nat → Nat) (a : Nat → Nat → Int32) (g : Nat → Nat → Int64) (n : Nat → Int32) (P : Nat) (S : Nat) (T : Nat) (B : Nat) (I : YI P S T B a n) (x : Int32) (y : Int32)  : fc l yX6_told wsX6_told (fj_rm 2 46 0 0) D ty t0 [.ref (bd 0), .int x, .int y] (fm_w bd ty a g n) 0 0 (fun v w => v = some (.int (if ib x B then (if y = 0 then a 8 x.toNatClampNeg else if y = 1 then a 9 x.toNatClampNeg else if y = 2 then a 10 x.toNatClampNeg else if y = 3 then a 11 x.toNatClampNeg else if y = 4 then a 12 x.toNatClampNeg else if y = 5 then (if a 13 x.toNatClampNeg = 0 then 0 else 1) else -1002) else -1001)) ∧ w = fm_w bd ty a g n) := by
  refine fc_start (own := RX6) (cc := cX6_told) (maxL := 3) (ret := (some .int)) (by decide) rfl (Nat.le_of_ble_eq_true rfl) rfl ?_
  intro p e s m args below meth c Q A C hmn E9
  obtain ⟨hn0, hP, hn2, hT, hn4, hS, hn5, hB, yWho, ySort, yQ, yN, yD, yL⟩ := id I
  have iX6 : ∀ w ∈ u_ws RX6 TX6 44, w ∈ wsX6_told := ptX6_told_wsX60
  have kX6_39 : Cond.fieldLink RX6 39 "FreeLandModel" "days" "[I" ∈ wsX6_told := ptX6_told_woX6_told _ (by decide +kernel)
  have kX6_42 : Cond.fieldLink RX6 42 "FreeLandModel" "sorts" "[I" ∈ wsX6_told := ptX6_told_woX6_told _ (by decide +kernel)
  have kX6_45 : Cond.fieldLink RX6 45 "FreeLandModel" "people" "[I" ∈ wsX6_told := ptX6_told_woX6_told _ (by decide +kernel)
  have kX6_48 : Cond.fieldLink RX6 48 "FreeLandModel" "quarters" "[I" ∈ wsX6_told := ptX6_told_woX6_told _ (by decide +kernel)
  have kX6_51 : Cond.fieldLink RX6 51 "FreeLandModel" "numbers" "[I" ∈ wsX6_told := ptX6_told_woX6_told _ (by decide +kernel)
  have kX6_54 : Cond.fieldLink RX6 54 "FreeLandModel" "struck" "[Z" ∈ wsX6_told := ptX6_told_woX6_told _ (by decide +kernel)
  refine fj_lv (lv' := [(0, .ref (bd 0)), (1, .int x), (2, .int y)]) [0, 1, 2] rfl ?_
  refine fj_aload_n C 0 dX6_told_0 rfl rfl ?_
  refine fj_iload_n C 1 dX6_told_1 rfl rfl ?_
  refine fj_callVw (As := [.int x]) (rest := []) C (d_X6_isLine l D ty t0 bd a g n P S T B I x) (cwV 1 C.2.2.2.2.1 gX6_told_X6_isLine rfl rfl rfl (by decide +kernel) ⟨Nat.le_of_ble_eq_true rfl, Nat.le_of_ble_eq_true rfl⟩) ⟨0, 6, _, _, fm_at0 _ _ _ _ _, rfl, rfl⟩ rfl (Nat.le_of_ble_eq_true rfl) dX6_told_2 ⟨Nat.zero_le _, Nat.zero_le _⟩ (fun v9 w9 hp9 => ?_)
  obtain ⟨rfl, rfl⟩ := hp9
  refine fj_st (st' := .int (if ib x B then 1 else 0) :: []) rfl ?_
  refine fj_ifb_ne (tgt := 12) C dX6_told_5 (by decide) (fun h5 => ?_) (fun h5 => ?_)
  · refine fj_iload_n C 2 dX6_told_12 rfl rfl ?_
    rcases fx_sw y 0 5 with hsw | hsw
    · refine fj_tableOut (tgt := 102) C dX6_told_13 hsw (by decide) ?_
      have ey : ¬ y = 0 ∧ ¬ y = 1 ∧ ¬ y = 2 ∧ ¬ y = 3 ∧ ¬ y = 4 ∧ ¬ y = 5 := ⟨(fun e => by subst e; revert hsw; decide), (fun e => by subst e; revert hsw; decide), (fun e => by subst e; revert hsw; decide), (fun e => by subst e; revert hsw; decide), (fun e => by subst e; revert hsw; decide), (fun e => by subst e; revert hsw; decide)⟩
      refine fj_sipush (v := (-1002)) C dX6_told_102 (by decide) ?_
      exact fj_iret C E9 dX6_told_105 ⟨by first | (rw [if_neg (by assumption)]; done) | (rw [if_pos (by assumption)]; grind) | grind, rfl⟩
    · obtain ⟨hs1, hs2⟩ := hsw
      rcases (show y.toInt = 0 ∨ y.toInt = 1 ∨ y.toInt = 2 ∨ y.toInt = 3 ∨ y.toInt = 4 ∨ y.toInt = 5 by omega) with hsw | hsw | hsw | hsw | hsw | hsw
      · refine fj_tableIn (off := 39) (tgt := 52) C dX6_told_13 (by omega) (by omega) (by rw [hsw]; rfl) (by decide) ?_
        obtain rfl : y = 0 := Int32.toInt_inj.mp (by simp [hsw])
        refine fj_aload_n C 0 dX6_told_52 rfl rfl ?_
        refine fj_get (Cn := RX6) (T := TX6) (N := 44) (ci := 6) (v := .ref (bd 8)) C iX6 0 (fm_at0 _ _ _ _ _) rfl 13 (by decide) kX6_39 rfl dX6_told_53 ?_
        refine fj_iload_n C 1 dX6_told_56 rfl rfl ?_
        refine fj_iald (f := (a 8)) C 8 (fm_at8 _ _ _ _ _) (by obtain ⟨k, hk, rfl⟩ := ib_nI h5 (by omega); exact vp_in_nI (by omega) (by decide)) dX6_told_57 ?_
        exact fj_iret C E9 dX6_told_58 ⟨by first | (rw [if_neg (by assumption)]; done) | (rw [if_pos (by assumption)]; grind) | grind, rfl⟩
      · refine fj_tableIn (off := 46) (tgt := 59) C dX6_told_13 (by omega) (by omega) (by rw [hsw]; rfl) (by decide) ?_
        obtain rfl : y = 1 := Int32.toInt_inj.mp (by simp [hsw])
        refine fj_aload_n C 0 dX6_told_59 rfl rfl ?_
        refine fj_get (Cn := RX6) (T := TX6) (N := 44) (ci := 6) (v := .ref (bd 9)) C iX6 0 (fm_at0 _ _ _ _ _) rfl 14 (by decide) kX6_42 rfl dX6_told_60 ?_
        refine fj_iload_n C 1 dX6_told_63 rfl rfl ?_
        refine fj_iald (f := (a 9)) C 9 (fm_at9 _ _ _ _ _) (by obtain ⟨k, hk, rfl⟩ := ib_nI h5 (by omega); exact vp_in_nI (by omega) (by decide)) dX6_told_64 ?_
        exact fj_iret C E9 dX6_told_65 ⟨by first | (rw [if_neg (by assumption)]; done) | (rw [if_pos (by assumption)]; grind) | grind, rfl⟩
      · refine fj_tableIn (off := 53) (tgt := 66) C dX6_told_13 (by omega) (by omega) (by rw [hsw]; rfl) (by decide) ?_
        obtain rfl : y = 2 := Int32.toInt_inj.mp (by simp [hsw])
        refine fj_aload_n C 0 dX6_told_66 rfl rfl ?_
        refine fj_get (Cn := RX6) (T := TX6) (N := 44) (ci := 6) (v := .ref (bd 10)) C iX6 0 (fm_at0 _ _ _ _ _) rfl 15 (by decide) kX6_45 rfl dX6_told_67 ?_
        refine fj_iload_n C 1 dX6_told_70 rfl rfl ?_
        refine fj_iald (f := (a 10)) C 10 (fm_at10 _ _ _ _ _) (by obtain ⟨k, hk, rfl⟩ := ib_nI h5 (by omega); exact vp_in_nI (by omega) (by decide)) dX6_told_71 ?_
        exact fj_iret C E9 dX6_told_72 ⟨by first | (rw [if_neg (by assumption)]; done) | (rw [if_pos (by assumption)]; grind) | grind, rfl⟩
      · refine fj_tableIn (off := 60) (tgt := 73) C dX6_told_13 (by omega) (by omega) (by rw [hsw]; rfl) (by decide) ?_
        obtain rfl : y = 3 := Int32.toInt_inj.mp (by simp [hsw])
        refine fj_aload_n C 0 dX6_told_73 rfl rfl ?_
        refine fj_get (Cn := RX6) (T := TX6) (N := 44) (ci := 6) (v := .ref (bd 11)) C iX6 0 (fm_at0 _ _ _ _ _) rfl 16 (by decide) kX6_48 rfl dX6_told_74 ?_
        refine fj_iload_n C 1 dX6_told_77 rfl rfl ?_
        refine fj_iald (f := (a 11)) C 11 (fm_at11 _ _ _ _ _) (by obtain ⟨k, hk, rfl⟩ := ib_nI h5 (by omega); exact vp_in_nI (by omega) (by decide)) dX6_told_78 ?_
        exact fj_iret C E9 dX6_told_79 ⟨by first | (rw [if_neg (by assumption)]; done) | (rw [if_pos (by assumption)]; grind) | grind, rfl⟩
      · refine fj_tableIn (off := 67) (tgt := 80) C dX6_told_13 (by omega) (by omega) (by rw [hsw]; rfl) (by decide) ?_
        obtain rfl : y = 4 := Int32.toInt_inj.mp (by simp [hsw])
        refine fj_aload_n C 0 dX6_told_80 rfl rfl ?_
        refine fj_get (Cn := RX6) (T := TX6) (N := 44) (ci := 6) (v := .ref (bd 12)) C iX6 0 (fm_at0 _ _ _ _ _) rfl 17 (by decide) kX6_51 rfl dX6_told_81 ?_
        refine fj_iload_n C 1 dX6_told_84 rfl rfl ?_
        refine fj_iald (f := (a 12)) C 12 (fm_at12 _ _ _ _ _) (by obtain ⟨k, hk, rfl⟩ := ib_nI h5 (by omega); exact vp_in_nI (by omega) (by decide)) dX6_told_85 ?_
        exact fj_iret C E9 dX6_told_86 ⟨by first | (rw [if_neg (by assumption)]; done) | (rw [if_pos (by assumption)]; grind) | grind, rfl⟩
      · refine fj_tableIn (off := 74) (tgt := 87) C dX6_told_13 (by omega) (by omega) (by rw [hsw]; rfl) (by decide) ?_
        obtain rfl : y = 5 := Int32.toInt_inj.mp (by simp [hsw])
        refine fj_aload_n C 0 dX6_told_87 rfl rfl ?_
        refine fj_get (Cn := RX6) (T := TX6) (N := 44) (ci := 6) (v := .ref (bd 13)) C iX6 0 (fm_at0 _ _ _ _ _) rfl 18 (by decide) kX6_54 rfl dX6_told_88 ?_
        refine fj_iload_n C 1 dX6_told_91 rfl rfl ?_
        refine fj_zald (f := (a 13)) C 13 (fm_at13 _ _ _ _ _) (by obtain ⟨k, hk, rfl⟩ := ib_nI h5 (by omega); exact vp_in_nI (by omega) (by decide)) dX6_told_92 ?_
        refine fj_if_eq (tgt := 100) C dX6_told_93 (by decide) (fun h93 => ?_) (fun h93 => ?_)
        · refine fj_iconst (v := 0) C dX6_told_100 (by decide) ?_
          exact fj_iret C E9 dX6_told_101 ⟨by first | (rw [if_neg (by assumption)]; done) | (rw [if_pos (by assumption)]; grind) | grind, rfl⟩
        · refine fj_iconst (v := 1) C dX6_told_96 (by decide) ?_
          refine fj_goto (tgt := 101) C dX6_told_97 (by decide) ?_
          exact fj_iret C E9 dX6_told_101 ⟨by first | (rw [if_neg (by assumption)]; done) | (rw [if_pos (by assumption)]; grind) | grind, rfl⟩
  · refine fj_sipush (v := (-1001)) C dX6_told_8 (by decide) ?_
    exact fj_iret C E9 dX6_told_11 ⟨by first | (rw [if_neg (by assumption)]; done) | (rw [if_pos (by assumption)]; grind) | grind, rfl⟩

set_option maxHeartbeats 4000000 in
set_option maxRecDepth 100000 in
theorem d_X6_corner (l : Launch) (D : va_G) (ty : Nat → ClassId) (t0 : Nat → Nat) (bd : Nat → Nat) (a : Nat → Nat → Int32) (g : Nat → Nat → Int64) (n : Nat → Int32)  (i : Int32) (j : Int32) (x : Int32) (y : Int32)  : fc l yX6_corner wsX6_corner (fj_rm 2 46 0 0) D ty t0 [.ref (bd 0), .int i, .int j, .int x, .int y] (fm_w bd ty a g n) 0 0 (fun v w => v = some (.int (if (((0 ≤ i ∧ i ≤ 8) ∧ (0 ≤ j ∧ j ≤ 8)) ∧ (-10000 ≤ x ∧ x ≤ 10000) ∧ (-10000 ≤ y ∧ y ≤ 10000)) then 1 else -1002)) ∧ w = if (((0 ≤ i ∧ i ≤ 8) ∧ (0 ≤ j ∧ j ≤ 8)) ∧ (-10000 ≤ x ∧ x ≤ 10000) ∧ (-10000 ≤ y ∧ y ≤ 10000)) then fm_w bd ty (va_up (va_up (va_up a 14 (upd (a 14) (9 * j + i).toNatClampNeg (vp_nar .boolean 1))) 15 (upd (a 15) (9 * j + i).toNatClampNeg x)) 16 (upd (a 16) (9 * j + i).toNatClampNeg y)) g n else fm_w bd ty a g n) := by
  refine fc_start (own := RX6) (cc := cX6_corner) (maxL := 6) (ret := (some .int)) (by decide) rfl (Nat.le_of_ble_eq_true rfl) rfl ?_
  intro p e s m args below meth c Q A C hmn E9
  have kL288 : Cond.constantLong RX6 288 (-10000) ∈ wsX6_corner := ptX6_corner_woX6_corner _ (by decide +kernel)
  have kL290 : Cond.constantLong RX6 290 (10000) ∈ wsX6_corner := ptX6_corner_woX6_corner _ (by decide +kernel)
  have iX6 : ∀ w ∈ u_ws RX6 TX6 44, w ∈ wsX6_corner := ptX6_corner_wsX60
  have kX6_58 : Cond.fieldLink RX6 58 "FreeLandModel" "known" "[Z" ∈ wsX6_corner := ptX6_corner_woX6_corner _ (by decide +kernel)
  have kX6_61 : Cond.fieldLink RX6 61 "FreeLandModel" "cornerX" "[I" ∈ wsX6_corner := ptX6_corner_woX6_corner _ (by decide +kernel)
  have kX6_64 : Cond.fieldLink RX6 64 "FreeLandModel" "cornerY" "[I" ∈ wsX6_corner := ptX6_corner_woX6_corner _ (by decide +kernel)
  refine fj_lv (lv' := [(0, .ref (bd 0)), (1, .int i), (2, .int j), (3, .int x), (4, .int y)]) [0, 1, 2, 3, 4] rfl ?_
  refine fj_iload_n C 1 dX6_corner_0 rfl rfl ?_
  refine fj_iload_n C 2 dX6_corner_1 rfl rfl ?_
  refine fj_callSw (As := [.int i, .int j]) (rest := []) C (d_X6_isCorner l D ty t0 (fm_w bd ty a g n) i j) (va_cwS 2 C.2.2.2.2.1 gX6_corner_X6_isCorner rfl rfl rfl (by decide +kernel) ⟨Nat.le_of_ble_eq_true rfl, Nat.le_of_ble_eq_true rfl⟩)  rfl (Nat.le_of_ble_eq_true rfl) dX6_corner_2 ⟨Nat.zero_le _, Nat.zero_le _⟩ (fun v9 w9 hp9 => ?_)
  obtain ⟨rfl, rfl⟩ := hp9
  refine fj_st (st' := .int (if ((0 ≤ i ∧ i ≤ 8) ∧ (0 ≤ j ∧ j ≤ 8)) then 1 else 0) :: []) rfl ?_
  refine fj_ifb_eq (tgt := 37) C dX6_corner_5 (by decide) (fun h5 => ?_) (fun h5 => ?_)
  · refine fj_sipush (v := (-1002)) C dX6_corner_37 (by decide) ?_
    exact fj_iret C E9 dX6_corner_40 ⟨by first | (rw [if_pos (by grind)]; done) | (rw [if_neg (by grind)]; done), by first | (rw [if_pos (by grind)]; done) | (rw [if_neg (by grind)]; done)⟩
  · refine fj_iload_n C 3 dX6_corner_8 rfl rfl ?_
    refine fj_i2l C dX6_corner_9 ?_
    refine fj_ldc2 (v := (-10000)) C dX6_corner_10 kL288 ?_
    refine fj_ldc2 (v := 10000) C dX6_corner_13 kL290 ?_
    refine fj_callSw (As := [.long x.toInt64, .long (-10000), .long 10000]) (rest := []) C (d_X6_inI l D ty t0 (fm_w bd ty a g n) x (-10000) 10000 (-10000) 10000 (by decide) (by decide)) (va_cwS 3 C.2.2.2.2.1 gX6_corner_X6_in rfl rfl rfl (by decide +kernel) ⟨Nat.le_of_ble_eq_true rfl, Nat.le_of_ble_eq_true rfl⟩)  rfl (Nat.le_of_ble_eq_true rfl) dX6_corner_16 ⟨Nat.zero_le _, Nat.zero_le _⟩ (fun v9 w9 hp9 => ?_)
    obtain ⟨rfl, rfl⟩ := hp9
    refine fj_st (st' := .int (if ((-10000) ≤ x ∧ x ≤ 10000) then 1 else 0) :: []) rfl ?_
    refine fj_ifb_eq (tgt := 37) C dX6_corner_19 (by decide) (fun h19 => ?_) (fun h19 => ?_)
    · refine fj_sipush (v := (-1002)) C dX6_corner_37 (by decide) ?_
      exact fj_iret C E9 dX6_corner_40 ⟨by first | (rw [if_pos (by grind)]; done) | (rw [if_neg (by grind)]; done), by first | (rw [if_pos (by grind)]; done) | (rw [if_neg (by grind)]; done)⟩
    · refine fj_iload C 4 dX6_corner_22 rfl ?_
      refine fj_i2l C dX6_corner_24 ?_
      refine fj_ldc2 (v := (-10000)) C dX6_corner_25 kL288 ?_
      refine fj_ldc2 (v := 10000) C dX6_corner_28 kL290 ?_
      refine fj_callSw (As := [.long y.toInt64, .long (-10000), .long 10000]) (rest := []) C (d_X6_inI l D ty t0 (fm_w bd ty a g n) y (-10000) 10000 (-10000) 10000 (by decide) (by decide)) (va_cwS 3 C.2.2.2.2.1 gX6_corner_X6_in rfl rfl rfl (by decide +kernel) ⟨Nat.le_of_ble_eq_true rfl, Nat.le_of_ble_eq_true rfl⟩)  rfl (Nat.le_of_ble_eq_true rfl) dX6_corner_31 ⟨Nat.zero_le _, Nat.zero_le _⟩ (fun v9 w9 hp9 => ?_)
      obtain ⟨rfl, rfl⟩ := hp9
      refine fj_st (st' := .int (if ((-10000) ≤ y ∧ y ≤ 10000) then 1 else 0) :: []) rfl ?_
      refine fj_ifb_ne (tgt := 41) C dX6_corner_34 (by decide) (fun h34 => ?_) (fun h34 => ?_)
      · refine fj_bipush (v := 9) C dX6_corner_41 (by decide) ?_
        refine fj_iload_n C 2 dX6_corner_43 rfl rfl ?_
        refine fj_imul C dX6_corner_44 ?_
        refine fj_iload_n C 1 dX6_corner_45 rfl rfl ?_
        refine fj_iadd C dX6_corner_46 ?_
        refine fj_istore (lv' := [(5, .int ((9 * j) + i)), (0, .ref (bd 0)), (1, .int i), (2, .int j), (3, .int x), (4, .int y)]) C dX6_corner_47 (by decide) rfl ?_
        refine fj_aload_n C 1 dX6_corner_49 rfl rfl ?_
        refine fj_get (Cn := RX6) (T := TX6) (N := 44) (ci := 6) (v := .ref (bd 14)) C iX6 0 (fm_at0 _ _ _ _ _) rfl 19 (by decide) kX6_58 rfl dX6_corner_50 ?_
        refine fj_iload C 0 dX6_corner_53 rfl ?_
        refine fj_iconst (v := 1) C dX6_corner_55 (by decide) ?_
        refine fj_zast (f := (a 14)) C 14 (fm_at14 _ _ _ _ _) (fx_ij (by grind) (by grind)) dX6_corner_56 (fm_st14 _ _ _ _ _ _) ?_
        refine fj_aload_n C 1 dX6_corner_57 rfl rfl ?_
        refine fj_get (Cn := RX6) (T := TX6) (N := 44) (ci := 6) (v := .ref (bd 15)) C iX6 0 (fm_at0 _ _ _ _ _) rfl 20 (by decide) kX6_61 rfl dX6_corner_58 ?_
        refine fj_iload C 0 dX6_corner_61 rfl ?_
        refine fj_iload_n C 4 dX6_corner_63 rfl rfl ?_
        refine fj_iast (f := (a 15)) C 15 (fm_at15 _ _ _ _ _) (fx_ij (by grind) (by grind)) dX6_corner_64 (fm_st15 _ _ _ _ _ _) ?_
        refine fj_aload_n C 1 dX6_corner_65 rfl rfl ?_
        refine fj_get (Cn := RX6) (T := TX6) (N := 44) (ci := 6) (v := .ref (bd 16)) C iX6 0 (fm_at0 _ _ _ _ _) rfl 21 (by decide) kX6_64 rfl dX6_corner_66 ?_
        refine fj_iload C 0 dX6_corner_69 rfl ?_
        refine fj_iload C 5 dX6_corner_71 rfl ?_
        refine fj_iast (f := (a 16)) C 16 (fm_at16 _ _ _ _ _) (fx_ij (by grind) (by grind)) dX6_corner_73 (fm_st16 _ _ _ _ _ _) ?_
        refine fj_iconst (v := 1) C dX6_corner_74 (by decide) ?_
        exact fj_iret C E9 dX6_corner_75 ⟨by first | (rw [if_pos (by grind)]; done) | (rw [if_neg (by grind)]; done), by first | (rw [if_pos (by grind)]; done) | (rw [if_neg (by grind)]; done)⟩
      · refine fj_sipush (v := (-1002)) C dX6_corner_37 (by decide) ?_
        exact fj_iret C E9 dX6_corner_40 ⟨by first | (rw [if_pos (by grind)]; done) | (rw [if_neg (by grind)]; done), by first | (rw [if_pos (by grind)]; done) | (rw [if_neg (by grind)]; done)⟩

set_option maxHeartbeats 4000000 in
set_option maxRecDepth 100000 in
theorem d_X6_lose (l : Launch) (D : va_G) (ty : Nat → ClassId) (t0 : Nat → Nat) (bd : Nat → Nat) (a : Nat → Nat → Int32) (g : Nat → Nat → Int64) (n : Nat → Int32)  (i : Int32) (j : Int32)  : fc l yX6_lose wsX6_lose (fj_rm 2 46 0 0) D ty t0 [.ref (bd 0), .int i, .int j] (fm_w bd ty a g n) 0 0 (fun v w => v = some (.int (if ((0 ≤ i ∧ i ≤ 8) ∧ (0 ≤ j ∧ j ≤ 8)) then (if a 14 (9 * j + i).toNatClampNeg = 0 then 0 else 1) else -1002)) ∧ w = if ((0 ≤ i ∧ i ≤ 8) ∧ (0 ≤ j ∧ j ≤ 8)) then fm_w bd ty (va_up a 14 (upd (a 14) (9 * j + i).toNatClampNeg (vp_nar .boolean 0))) g n else fm_w bd ty a g n) := by
  refine fc_start (own := RX6) (cc := cX6_lose) (maxL := 4) (ret := (some .int)) (by decide) rfl (Nat.le_of_ble_eq_true rfl) rfl ?_
  intro p e s m args below meth c Q A C hmn E9
  have iX6 : ∀ w ∈ u_ws RX6 TX6 44, w ∈ wsX6_lose := ptX6_lose_wsX60
  have kX6_58 : Cond.fieldLink RX6 58 "FreeLandModel" "known" "[Z" ∈ wsX6_lose := ptX6_lose_woX6_lose _ (by decide +kernel)
  refine fj_lv (lv' := [(0, .ref (bd 0)), (1, .int i), (2, .int j)]) [0, 1, 2] rfl ?_
  refine fj_iload_n C 1 dX6_lose_0 rfl rfl ?_
  refine fj_iload_n C 2 dX6_lose_1 rfl rfl ?_
  refine fj_callSw (As := [.int i, .int j]) (rest := []) C (d_X6_isCorner l D ty t0 (fm_w bd ty a g n) i j) (va_cwS 2 C.2.2.2.2.1 gX6_lose_X6_isCorner rfl rfl rfl (by decide +kernel) ⟨Nat.le_of_ble_eq_true rfl, Nat.le_of_ble_eq_true rfl⟩)  rfl (Nat.le_of_ble_eq_true rfl) dX6_lose_2 ⟨Nat.zero_le _, Nat.zero_le _⟩ (fun v9 w9 hp9 => ?_)
  obtain ⟨rfl, rfl⟩ := hp9
  refine fj_st (st' := .int (if ((0 ≤ i ∧ i ≤ 8) ∧ (0 ≤ j ∧ j ≤ 8)) then 1 else 0) :: []) rfl ?_
  refine fj_ifb_ne (tgt := 12) C dX6_lose_5 (by decide) (fun h5 => ?_) (fun h5 => ?_)
  · refine fj_aload_n C 0 dX6_lose_12 rfl rfl ?_
    refine fj_get (Cn := RX6) (T := TX6) (N := 44) (ci := 6) (v := .ref (bd 14)) C iX6 0 (fm_at0 _ _ _ _ _) rfl 19 (by decide) kX6_58 rfl dX6_lose_13 ?_
    refine fj_bipush (v := 9) C dX6_lose_16 (by decide) ?_
    refine fj_iload_n C 2 dX6_lose_18 rfl rfl ?_
    refine fj_imul C dX6_lose_19 ?_
    refine fj_iload_n C 1 dX6_lose_20 rfl rfl ?_
    refine fj_iadd C dX6_lose_21 ?_
    refine fj_zald (f := (a 14)) C 14 (fm_at14 _ _ _ _ _) (fx_ij (by grind) (by grind)) dX6_lose_22 ?_
    refine fj_if_eq (tgt := 30) C dX6_lose_23 (by decide) (fun h23 => ?_) (fun h23 => ?_)
    · refine fj_iconst (v := 0) C dX6_lose_30 (by decide) ?_
      refine fj_istore_n (lv' := [(3, .int 0), (0, .ref (bd 0)), (1, .int i), (2, .int j)]) C dX6_lose_31 rfl (by decide) rfl ?_
      refine fj_aload_n C 1 dX6_lose_32 rfl rfl ?_
      refine fj_get (Cn := RX6) (T := TX6) (N := 44) (ci := 6) (v := .ref (bd 14)) C iX6 0 (fm_at0 _ _ _ _ _) rfl 19 (by decide) kX6_58 rfl dX6_lose_33 ?_
      refine fj_bipush (v := 9) C dX6_lose_36 (by decide) ?_
      refine fj_iload_n C 3 dX6_lose_38 rfl rfl ?_
      refine fj_imul C dX6_lose_39 ?_
      refine fj_iload_n C 2 dX6_lose_40 rfl rfl ?_
      refine fj_iadd C dX6_lose_41 ?_
      refine fj_iconst (v := 0) C dX6_lose_42 (by decide) ?_
      refine fj_zast (f := (a 14)) C 14 (fm_at14 _ _ _ _ _) (fx_ij (by grind) (by grind)) dX6_lose_43 (fm_st14 _ _ _ _ _ _) ?_
      refine fj_iload_n C 0 dX6_lose_44 rfl rfl ?_
      exact fj_iret C E9 dX6_lose_45 ⟨by first | (rw [if_neg (by grind)]; done) | (rw [if_pos (by grind), if_pos (by assumption)]; done) | (rw [if_pos (by grind), if_neg (by assumption)]; done), by first | (rw [if_neg (by grind)]; done) | (rw [if_pos (by grind)]; done)⟩
    · refine fj_iconst (v := 1) C dX6_lose_26 (by decide) ?_
      refine fj_goto (tgt := 31) C dX6_lose_27 (by decide) ?_
      refine fj_istore_n (lv' := [(3, .int 1), (0, .ref (bd 0)), (1, .int i), (2, .int j)]) C dX6_lose_31 rfl (by decide) rfl ?_
      refine fj_aload_n C 1 dX6_lose_32 rfl rfl ?_
      refine fj_get (Cn := RX6) (T := TX6) (N := 44) (ci := 6) (v := .ref (bd 14)) C iX6 0 (fm_at0 _ _ _ _ _) rfl 19 (by decide) kX6_58 rfl dX6_lose_33 ?_
      refine fj_bipush (v := 9) C dX6_lose_36 (by decide) ?_
      refine fj_iload_n C 3 dX6_lose_38 rfl rfl ?_
      refine fj_imul C dX6_lose_39 ?_
      refine fj_iload_n C 2 dX6_lose_40 rfl rfl ?_
      refine fj_iadd C dX6_lose_41 ?_
      refine fj_iconst (v := 0) C dX6_lose_42 (by decide) ?_
      refine fj_zast (f := (a 14)) C 14 (fm_at14 _ _ _ _ _) (fx_ij (by grind) (by grind)) dX6_lose_43 (fm_st14 _ _ _ _ _ _) ?_
      refine fj_iload_n C 0 dX6_lose_44 rfl rfl ?_
      exact fj_iret C E9 dX6_lose_45 ⟨by first | (rw [if_neg (by grind)]; done) | (rw [if_pos (by grind), if_pos (by assumption)]; done) | (rw [if_pos (by grind), if_neg (by assumption)]; done), by first | (rw [if_neg (by grind)]; done) | (rw [if_pos (by grind)]; done)⟩
  · refine fj_sipush (v := (-1002)) C dX6_lose_8 (by decide) ?_
    exact fj_iret C E9 dX6_lose_11 ⟨by first | (rw [if_neg (by grind)]; done) | (rw [if_pos (by grind), if_pos (by assumption)]; done) | (rw [if_pos (by grind), if_neg (by assumption)]; done), by first | (rw [if_neg (by grind)]; done) | (rw [if_pos (by grind)]; done)⟩
