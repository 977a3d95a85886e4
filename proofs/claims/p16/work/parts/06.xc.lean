/-- the book as it stands, worked through for the first ln lines up to a day -/
def THP (P S T B : Nat) (a : Nat → Nat → Int32) (n : Nat → Int32) (N : Nat) (y : Int32) (z : Nat → Nat → Int32) (u : Nat → Int32) : Prop := ∃ r, r ≤ B ∧ (r = B ∨ y < a 18 (a 24 r).toNatClampNeg) ∧ (∀ j, j < r → a 18 (a 24 j).toNatClampNeg ≤ y) ∧ z = THR a n S B (nI N) r ∧ (∀ j, j ≠ 6 → j ≠ 7 → u j = n j) ∧ (∀ q, q < 26 ∨ 37 < q → z q = a q) ∧ XI P S T B z u ∧ WI B z
/-- of the first how many -/
def LNS (B : Nat) (x : Int32) (N : Nat) : Prop := N ≤ B ∧ (if x = -1 then nI B else x) = nI N
theorem LNS_of {B : Nat} {x : Int32} (h : -1 ≤ x ∧ x ≤ nI B) (hB : B ≤ 120) : ∃ N, LNS B x N := by
  by_cases e : x = -1
  · exact ⟨B, Nat.le_refl B, by rw [if_pos e]⟩
  · obtain ⟨k, hk, rfl⟩ := fx_le8 (x := x) (N := B) (y := nI B) ⟨by
      have h1 := Int32.le_iff_toInt_le.mp h.1
      have c : (-1 : Int32).toInt = -1 := by decide
      have c0 : (0 : Int32).toInt = 0 := by decide
      have ne : x.toInt ≠ -1 := fun z => e (Int32.toInt_inj.mp (by rw [z, c]))
      exact Int32.le_iff_toInt_le.mpr (by omega), h.2⟩ rfl (by omega)
    exact ⟨k, hk, by rw [if_neg e]⟩
def CWA (z : Nat → Nat → Int32) (B : Nat) (x r : Int32) : Prop := (x = 5 ∧ r = nI (cnE (z 27) 1 B) + nI (cnE (z 27) 2 B) + nI (cnE (z 27) 3 B)) ∨ (x = 6 ∧ r = nI (cnE (z 27) 1 B)) ∨ (x = 7 ∧ r = nI (cnE (z 27) 2 B)) ∨ (x = 8 ∧ r = nI (cnE (z 27) 3 B)) ∨ (x = 9 ∧ r = nI (cst (z 36) 12)) ∨ (x = 10 ∧ r = nI (cnG (z 26) B))
abbrev HOL (z : Nat → Nat → Int32) (k : Nat) : Int32 := if z 33 k = -1 then -1 else z 28 (z 33 k).toNatClampNeg
def HDA (z : Nat → Nat → Int32) (u : Nat → Int32) (B k : Nat) (y q r : Int32) : Prop := (q = 0 ∧ r = HOL z k) ∨ (q = 1 ∧ r = if z 33 k = -1 then (if RLR (u 5) y k then 4 else 0) else if z 27 (z 33 k).toNatClampNeg = 2 ∧ z 31 (z 33 k).toNatClampNeg ≤ y then 3 else z 27 (z 33 k).toNatClampNeg) ∨ (q = 2 ∧ r = z 33 k) ∨ (q = 3 ∧ r = PFO z k y) ∨ (q = 4 ∧ ((z 33 k = -1 ∧ r = 0) ∨ ∃ e t, e < B ∧ z 33 k = nI e ∧ t < B ∧ z 32 e = nI t ∧ r = (lkF z e (z 18 e) y B).2.1)) ∨ (q = 5 ∧ r = if z 33 k = -1 then 0 else acF z (z 33 k).toNatClampNeg (z 32 (z 33 k).toNatClampNeg).toNatClampNeg (B - (z 32 (z 33 k).toNatClampNeg).toNatClampNeg))
def cnH (z : Nat → Nat → Int32) (x : Int32) : Nat → Nat
  | 0 => 0
  | k + 1 => cnH z x k + if HOL z k = x then 1 else 0
theorem cnH_p {z : Nat → Nat → Int32} {x : Int32} {k : Nat} (h : HOL z k = x) : cnH z x (k + 1) = cnH z x k + 1 := by simp [cnH, h]
theorem cnH_z {z : Nat → Nat → Int32} {x : Int32} {k : Nat} (h : ¬ HOL z k = x) : cnH z x (k + 1) = cnH z x k := by simp [cnH, h]
def dgF (f : Nat → Int32) (d0 : Int32) : Nat → Int32
  | 0 => d0
  | k + 1 => 31 * dgF f d0 k + f k
theorem fx_ten {x : Int32} (h : 5 ≤ x ∧ x ≤ 10) (hs : x.toInt < 5 ∨ 9 < x.toInt) : x = 10 := by
  have a1 := Int32.le_iff_toInt_le.mp h.1
  have a2 := Int32.le_iff_toInt_le.mp h.2
  have a3 : (5 : Int32).toInt = 5 := by decide
  have a4 : (10 : Int32).toInt = 10 := by decide
  exact Int32.toInt_inj.mp (by omega)
theorem fx_five {x : Int32} (h : 0 ≤ x ∧ x ≤ 5) (hs : x.toInt < 0 ∨ 4 < x.toInt) : x = 5 := by
  have a1 := Int32.le_iff_toInt_le.mp h.1
  have a2 := Int32.le_iff_toInt_le.mp h.2
  have a3 : (0 : Int32).toInt = 0 := by decide
  have a4 : (5 : Int32).toInt = 5 := by decide
  exact Int32.toInt_inj.mp (by omega)
set_option maxHeartbeats 4000000 in
set_option maxRecDepth 100000 in
theorem d_X5_outcome (l : Launch) (D : va_G) (ty : Nat → ClassId) (t0 : Nat → Nat) (ad : Nat → Nat) (a : Nat → Nat → Int32) (g : Nat → Nat → Int64) (n : Nat → Int32) (P : Nat) (S : Nat) (T : Nat) (B : Nat) (I : XI P S T B a n) (x : Int32) (y : Int32)  : fc l yX5_outcome wsX5_outcome (fj_rm 5 122 0 0) D ty t0 [.ref (ad 0), .int x, .int y] (fx_w ad ty a g n) 0 0 (fun v w => (¬ ib x B ∧ v = some (.int (-1001)) ∧ w = fx_w ad ty a g n) ∨ (ib x B ∧ ¬ (-1 ≤ y ∧ y ≤ nI B) ∧ v = some (.int (-1002)) ∧ w = fx_w ad ty a g n) ∨ (ib x B ∧ (-1 ≤ y ∧ y ≤ nI B) ∧ ∃ N, LNS B y N ∧ ∃ (z : Nat → Nat → Int32) (u : Nat → Int32), THP P S T B a n N 20000 z u ∧ v = some (.int (z 26 x.toNatClampNeg)) ∧ w = fx_w ad ty z g u)) := by
  refine fc_start (own := RX5) (cc := cX5_outcome) (maxL := 3) (ret := (some .int)) (by decide) rfl (Nat.le_of_ble_eq_true rfl) rfl ?_
  intro p e s m args below meth c Q A C hmn E9
  obtain ⟨hn0, hP, hn1, hT, hn3, hS, hn4, hB, iLO, iBO, iWho, iSort, iQ, iN⟩ := id I
  have iX5 : ∀ w ∈ u_ws RX5 TX5 5, w ∈ wsX5_outcome := ptX5_outcome_wsX50
  have kX5_35 : Cond.fieldLink RX5 35 "FreeLand" "work" "LFreeLand$Work;" ∈ wsX5_outcome := ptX5_outcome_woX5_outcome _ (by decide +kernel)
  have kN130 : (RX5, 130, yX4_through) ∈ nw_M := (by decide +kernel)
  have kIX4 : Cond.initialized RX4 ∈ wsX5_outcome := ptX5_outcome_woX5_outcome _ (by decide +kernel)
  have kVX4_through : Cond.instanceMethod yX4_through ∈ wsX5_outcome := ptX5_outcome_woX5_outcome _ (by decide +kernel)
  have kSX4_through : Cond.selects RX4 yX4_through yX4_through ∈ wsX5_outcome := ptX5_outcome_woX5_outcome _ (by decide +kernel)
  have iX4 : ∀ w ∈ u_ws RX4 TX4 18, w ∈ wsX5_outcome := ptX5_outcome_wsX40
  have kX5_134 : (RX5, 134, "FreeLand$Work", "result", "[I") ∈ nw_F := (by decide +kernel)
  refine fj_lv (lv' := [(0, .ref (ad 0)), (1, .int x), (2, .int y)]) [0, 1, 2] rfl ?_
  refine fj_aload_n C 0 dX5_outcome_0 rfl rfl ?_
  refine fj_iload_n C 1 dX5_outcome_1 rfl rfl ?_
  refine fj_callVw (As := [.int x]) (rest := []) C (d_X5_isLine l D ty t0 ad a g n P S T B I x) (cwV 1 C.2.2.2.2.1 gX5_outcome_X5_isLine rfl rfl rfl (by decide +kernel) ⟨Nat.le_of_ble_eq_true rfl, Nat.le_of_ble_eq_true rfl⟩) ⟨0, 5, _, _, fx_at0 _ _ _ _ _, rfl, rfl⟩ rfl (Nat.le_of_ble_eq_true rfl) dX5_outcome_2 ⟨Nat.zero_le _, Nat.zero_le _⟩ (fun v9 w9 hp9 => ?_)
  obtain ⟨rfl, rfl⟩ := hp9
  refine fj_st (st' := .int (if ib x B then 1 else 0) :: []) rfl ?_
  refine fj_ifb_ne (tgt := 12) C dX5_outcome_5 (by decide) (fun h5 => ?_) (fun h5 => ?_)
  · refine fj_aload_n C 0 dX5_outcome_12 rfl rfl ?_
    refine fj_iload_n C 2 dX5_outcome_13 rfl rfl ?_
    refine fj_callVw (As := [.int y]) (rest := []) C (d_X5_isKnownBy l D ty t0 ad a g n P S T B I y) (cwV 1 C.2.2.2.2.1 gX5_outcome_X5_isKnownBy rfl rfl rfl (by decide +kernel) ⟨Nat.le_of_ble_eq_true rfl, Nat.le_of_ble_eq_true rfl⟩) ⟨0, 5, _, _, fx_at0 _ _ _ _ _, rfl, rfl⟩ rfl (Nat.le_of_ble_eq_true rfl) dX5_outcome_14 ⟨Nat.zero_le _, Nat.zero_le _⟩ (fun v9 w9 hp9 => ?_)
    obtain ⟨rfl, rfl⟩ := hp9
    refine fj_st (st' := .int (if (-1 ≤ y ∧ y ≤ nI B) then 1 else 0) :: []) rfl ?_
    refine fj_ifb_ne (tgt := 24) C dX5_outcome_17 (by decide) (fun h17 => ?_) (fun h17 => ?_)
    · refine fj_aload_n C 0 dX5_outcome_24 rfl rfl ?_
      refine fj_get (Cn := RX5) (T := TX5) (N := 5) (ci := 5) (v := .ref (ad 25)) C iX5 0 (fx_at0 _ _ _ _ _) rfl 3 (by decide) kX5_35 rfl dX5_outcome_25 ?_
      refine fj_aload_n C 0 dX5_outcome_28 rfl rfl ?_
      refine fj_iload_n C 2 dX5_outcome_29 rfl rfl ?_
      refine fj_callVw (As := [.int y]) (rest := [.ref (ad 25)]) C (d_X5_linesOf l D ty t0 ad a g n P S T B I y) (cwV 1 C.2.2.2.2.1 gX5_outcome_X5_linesOf rfl rfl rfl (by decide +kernel) ⟨Nat.le_of_ble_eq_true rfl, Nat.le_of_ble_eq_true rfl⟩) ⟨0, 5, _, _, fx_at0 _ _ _ _ _, rfl, rfl⟩ rfl (Nat.le_of_ble_eq_true rfl) dX5_outcome_30 ⟨Nat.zero_le _, Nat.zero_le _⟩ (fun v9 w9 hp9 => ?_)
      obtain ⟨rfl, rfl⟩ := hp9
      refine fj_st (st' := .int (if y = -1 then nI B else y) :: [.ref (ad 25)]) rfl ?_
      obtain ⟨N9, hN9⟩ := LNS_of h17 hB
      have hNB := hN9.1
      refine fj_at (y := nI N9) hN9.2 ?_
      refine fj_sipush (v := 20000) C dX5_outcome_33 (by decide) ?_
      refine fj_callVNw (As := [.int (nI N9), .int 20000]) (rest := []) C (d_X4_through l D ty t0 ad a g n P S T B I (nI N9) 20000) ⟨va_cnB 2 C.2.2.2.2.1 gX5_outcome_X4_through_n130 rfl rfl rfl (nw_m C.2.2.2.2.2.2.2.1 kN130) (C.2.2.2.2.1 _ kIX4) (by decide +kernel) ⟨Nat.le_of_ble_eq_true rfl, Nat.le_of_ble_eq_true rfl⟩, C.2.2.2.2.1 _ kVX4_through, C.2.2.2.2.1 _ kSX4_through⟩ ⟨25, 4, _, _, fx_at25 _ _ _ _ _, rfl, rfl⟩ rfl (Nat.le_of_ble_eq_true rfl) dX5_outcome_36 ⟨Nat.zero_le _, Nat.zero_le _⟩ (fun v9 w9 hp9 => ?_)
      obtain ⟨rfl, r9, z9, u9, hr9, hb9, hd9, hz9, hm9, hs9, I9, Wz9, rfl⟩ := hp9
      have T9 : THP P S T B a n N9 20000 z9 u9 := ⟨r9, hr9, hb9, hd9, hz9, hm9, hs9, I9, Wz9⟩
      obtain ⟨hn0, hP, hn1, hT, hn3, hS, hn4, hB, iLO, iBO, iWho, iSort, iQ, iN⟩ := id I9
      refine fj_st (st' := []) rfl ?_
      refine fj_aload_n C 0 dX5_outcome_39 rfl rfl ?_
      refine fj_get (Cn := RX5) (T := TX5) (N := 5) (ci := 5) (v := .ref (ad 25)) C iX5 0 (fx_at0 _ _ _ _ _) rfl 3 (by decide) kX5_35 rfl dX5_outcome_40 ?_
      refine fj_getN (Cn := RX4) (T := TX4) (N := 18) (ci := 4) (v := .ref (ad 26)) C iX4 25 (fx_at25 _ _ _ _ _) rfl 4 (by decide) kX5_134 rfl dX5_outcome_43 ?_
      refine fj_iload_n C 1 dX5_outcome_46 rfl rfl ?_
      refine fj_iald (f := (z9 26)) C 26 (fx_at26 _ _ _ _ _) (by obtain ⟨k, hk, rfl⟩ := ib_nI h5 (by omega); exact vp_in_nI (by omega) (by decide)) dX5_outcome_47 ?_
      exact fj_iret C E9 dX5_outcome_48 (Or.inr (Or.inr ⟨h5, h17, N9, hN9, z9, u9, T9, rfl, rfl⟩))
    · refine fj_sipush (v := (-1002)) C dX5_outcome_20 (by decide) ?_
      exact fj_iret C E9 dX5_outcome_23 (Or.inr (Or.inl ⟨h5, h17, rfl, rfl⟩))
  · refine fj_sipush (v := (-1001)) C dX5_outcome_8 (by decide) ?_
    exact fj_iret C E9 dX5_outcome_11 (Or.inl ⟨h5, rfl, rfl⟩)

set_option maxHeartbeats 4000000 in
set_option maxRecDepth 100000 in
theorem d_X5_countOfWork (l : Launch) (D : va_G) (ty : Nat → ClassId) (t0 : Nat → Nat) (ad : Nat → Nat) (a : Nat → Nat → Int32) (g : Nat → Nat → Int64) (n : Nat → Int32) (P : Nat) (S : Nat) (T : Nat) (B : Nat) (I : XI P S T B a n) (x : Int32)  : fc l yX5_countOfWork wsX5_countOfWork (fj_rm 5 122 0 0) D ty t0 [.ref (ad 0), .int x] (fx_w ad ty a g n) 0 0 (fun v w => (¬ (5 ≤ x ∧ x ≤ 10) ∧ v = some (.int (-1002)) ∧ w = fx_w ad ty a g n) ∨ ((5 ≤ x ∧ x ≤ 10) ∧ ∃ (z : Nat → Nat → Int32) (u : Nat → Int32), THP P S T B a n B 20000 z u ∧ ∃ r, CWA z B x r ∧ v = some (.int r) ∧ w = fx_w ad ty z g u)) := by
  refine fc_start (own := RX5) (cc := cX5_countOfWork) (maxL := 2) (ret := (some .int)) (by decide) rfl (Nat.le_of_ble_eq_true rfl) rfl ?_
  intro p e s m args below meth c Q A C hmn E9
  obtain ⟨hn0, hP, hn1, hT, hn3, hS, hn4, hB, iLO, iBO, iWho, iSort, iQ, iN⟩ := id I
  have iX5 : ∀ w ∈ u_ws RX5 TX5 5, w ∈ wsX5_countOfWork := ptX5_countOfWork_wsX50
  have kX5_35 : Cond.fieldLink RX5 35 "FreeLand" "work" "LFreeLand$Work;" ∈ wsX5_countOfWork := ptX5_countOfWork_woX5_countOfWork _ (by decide +kernel)
  have kX5_26 : Cond.fieldLink RX5 26 "FreeLand" "book" "LFreeLand$Book;" ∈ wsX5_countOfWork := ptX5_countOfWork_woX5_countOfWork _ (by decide +kernel)
  have iX0 : ∀ w ∈ u_ws RX0 TX0 8, w ∈ wsX5_countOfWork := ptX5_countOfWork_wsX00
  have kX5_100 : (RX5, 100, "FreeLand$Book", "size", "I") ∈ nw_F := (by decide +kernel)
  have kN130 : (RX5, 130, yX4_through) ∈ nw_M := (by decide +kernel)
  have kIX4 : Cond.initialized RX4 ∈ wsX5_countOfWork := ptX5_countOfWork_woX5_countOfWork _ (by decide +kernel)
  have kVX4_through : Cond.instanceMethod yX4_through ∈ wsX5_countOfWork := ptX5_countOfWork_woX5_countOfWork _ (by decide +kernel)
  have kSX4_through : Cond.selects RX4 yX4_through yX4_through ∈ wsX5_countOfWork := ptX5_countOfWork_woX5_countOfWork _ (by decide +kernel)
  have kN150 : (RX5, 150, yX4_countNotDone) ∈ nw_M := (by decide +kernel)
  have kVX4_countNotDone : Cond.instanceMethod yX4_countNotDone ∈ wsX5_countOfWork := ptX5_countOfWork_woX5_countOfWork _ (by decide +kernel)
  have kSX4_countNotDone : Cond.selects RX4 yX4_countNotDone yX4_countNotDone ∈ wsX5_countOfWork := ptX5_countOfWork_woX5_countOfWork _ (by decide +kernel)
  have kN144 : (RX5, 144, yX4_countEntries) ∈ nw_M := (by decide +kernel)
  have kVX4_countEntries : Cond.instanceMethod yX4_countEntries ∈ wsX5_countOfWork := ptX5_countOfWork_woX5_countOfWork _ (by decide +kernel)
  have kSX4_countEntries : Cond.selects RX4 yX4_countEntries yX4_countEntries ∈ wsX5_countOfWork := ptX5_countOfWork_woX5_countOfWork _ (by decide +kernel)
  have kN147 : (RX5, 147, yX4_countDead) ∈ nw_M := (by decide +kernel)
  have kVX4_countDead : Cond.instanceMethod yX4_countDead ∈ wsX5_countOfWork := ptX5_countOfWork_woX5_countOfWork _ (by decide +kernel)
  have kSX4_countDead : Cond.selects RX4 yX4_countDead yX4_countDead ∈ wsX5_countOfWork := ptX5_countOfWork_woX5_countOfWork _ (by decide +kernel)
  refine fj_lv (lv' := [(0, .ref (ad 0)), (1, .int x)]) [0, 1] rfl ?_
  refine fj_iload_n C 1 dX5_countOfWork_0 rfl rfl ?_
  refine fj_iconst (v := 5) C dX5_countOfWork_1 (by decide) ?_
  refine fj_bipush (v := 10) C dX5_countOfWork_2 (by decide) ?_
  refine fj_callSw (As := [.int x, .int 5, .int 10]) (rest := []) C (d_X5_within l D ty t0 (fx_w ad ty a g n) x 5 10) (va_cwS 3 C.2.2.2.2.1 gX5_countOfWork_X5_within rfl rfl rfl (by decide +kernel) ⟨Nat.le_of_ble_eq_true rfl, Nat.le_of_ble_eq_true rfl⟩)  rfl (Nat.le_of_ble_eq_true rfl) dX5_countOfWork_4 ⟨Nat.zero_le _, Nat.zero_le _⟩ (fun v9 w9 hp9 => ?_)
  obtain ⟨rfl, rfl⟩ := hp9
  refine fj_st (st' := .int (if (5 ≤ x ∧ x ≤ 10) then 1 else 0) :: []) rfl ?_
  refine fj_ifb_ne (tgt := 14) C dX5_countOfWork_7 (by decide) (fun h7 => ?_) (fun h7 => ?_)
  · refine fj_aload_n C 0 dX5_countOfWork_14 rfl rfl ?_
    refine fj_get (Cn := RX5) (T := TX5) (N := 5) (ci := 5) (v := .ref (ad 25)) C iX5 0 (fx_at0 _ _ _ _ _) rfl 3 (by decide) kX5_35 rfl dX5_countOfWork_15 ?_
    refine fj_aload_n C 0 dX5_countOfWork_18 rfl rfl ?_
    refine fj_get (Cn := RX5) (T := TX5) (N := 5) (ci := 5) (v := .ref (ad 17)) C iX5 0 (fx_at0 _ _ _ _ _) rfl 2 (by decide) kX5_26 rfl dX5_countOfWork_19 ?_
    refine fj_getN (Cn := RX0) (T := TX0) (N := 8) (ci := 0) (v := .int (n 4)) C iX0 17 (fx_at17 _ _ _ _ _) rfl 7 (by decide) kX5_100 rfl dX5_countOfWork_22 ?_
    refine fj_at (y := nI B) hn4 ?_
    refine fj_sipush (v := 20000) C dX5_countOfWork_25 (by decide) ?_
    refine fj_callVNw (As := [.int (nI B), .int 20000]) (rest := []) C (d_X4_through l D ty t0 ad a g n P S T B I (nI B) 20000) ⟨va_cnB 2 C.2.2.2.2.1 gX5_countOfWork_X4_through_n130 rfl rfl rfl (nw_m C.2.2.2.2.2.2.2.1 kN130) (C.2.2.2.2.1 _ kIX4) (by decide +kernel) ⟨Nat.le_of_ble_eq_true rfl, Nat.le_of_ble_eq_true rfl⟩, C.2.2.2.2.1 _ kVX4_through, C.2.2.2.2.1 _ kSX4_through⟩ ⟨25, 4, _, _, fx_at25 _ _ _ _ _, rfl, rfl⟩ rfl (Nat.le_of_ble_eq_true rfl) dX5_countOfWork_28 ⟨Nat.zero_le _, Nat.zero_le _⟩ (fun v9 w9 hp9 => ?_)
    obtain ⟨rfl, r9, z9, u9, hr9, hb9, hd9, hz9, hm9, hs9, I9, Wz9, rfl⟩ := hp9
    have T9 : THP P S T B a n B 20000 z9 u9 := ⟨r9, hr9, hb9, hd9, hz9, hm9, hs9, I9, Wz9⟩
    obtain ⟨hn0, hP, hn1, hT, hn3, hS, hn4, hB, iLO, iBO, iWho, iSort, iQ, iN⟩ := id I9
    refine fj_st (st' := []) rfl ?_
    refine fj_iload_n C 1 dX5_countOfWork_31 rfl rfl ?_
    rcases fx_sw x 5 9 with hsw | hsw
    · refine fj_tableOut (tgt := 130) C dX5_countOfWork_32 hsw (by decide) ?_
      have hs := fx_ten h7 hsw
      refine fj_aload_n C 0 dX5_countOfWork_130 rfl rfl ?_
      refine fj_get (Cn := RX5) (T := TX5) (N := 5) (ci := 5) (v := .ref (ad 25)) C iX5 0 (fx_at0 _ _ _ _ _) rfl 3 (by decide) kX5_35 rfl dX5_countOfWork_131 ?_
      refine fj_callVNw (As := []) (rest := []) C (d_X4_countNotDone l D ty t0 ad z9 g u9 P S T B I9) ⟨va_cnB 0 C.2.2.2.2.1 gX5_countOfWork_X4_countNotDone_n150 rfl rfl rfl (nw_m C.2.2.2.2.2.2.2.1 kN150) (C.2.2.2.2.1 _ kIX4) (by decide +kernel) ⟨Nat.le_of_ble_eq_true rfl, Nat.le_of_ble_eq_true rfl⟩, C.2.2.2.2.1 _ kVX4_countNotDone, C.2.2.2.2.1 _ kSX4_countNotDone⟩ ⟨25, 4, _, _, fx_at25 _ _ _ _ _, rfl, rfl⟩ rfl (Nat.le_of_ble_eq_true rfl) dX5_countOfWork_134 ⟨Nat.zero_le _, Nat.zero_le _⟩ (fun v9 w9 hp9 => ?_)
      obtain ⟨rfl, rfl⟩ := hp9
      refine fj_st (st' := .int (nI (cnG (z9 26) B)) :: []) rfl ?_
      exact fj_iret C E9 dX5_countOfWork_137 (Or.inr ⟨h7, z9, u9, T9, _, (Or.inr (Or.inr (Or.inr (Or.inr (Or.inr (⟨hs, rfl⟩)))))), rfl, rfl⟩)
    · obtain ⟨hs1, hs2⟩ := hsw
      rcases (show x.toInt = 5 ∨ x.toInt = 6 ∨ x.toInt = 7 ∨ x.toInt = 8 ∨ x.toInt = 9 by omega) with hsw | hsw | hsw | hsw | hsw
      · refine fj_tableIn (off := 36) (tgt := 68) C dX5_countOfWork_32 (by omega) (by omega) (by rw [hsw]; rfl) (by decide) ?_
        have hs : x = 5 := Int32.toInt_inj.mp (by rw [hsw]; decide)
        refine fj_aload_n C 0 dX5_countOfWork_68 rfl rfl ?_
        refine fj_get (Cn := RX5) (T := TX5) (N := 5) (ci := 5) (v := .ref (ad 25)) C iX5 0 (fx_at0 _ _ _ _ _) rfl 3 (by decide) kX5_35 rfl dX5_countOfWork_69 ?_
        refine fj_iconst (v := 1) C dX5_countOfWork_72 (by decide) ?_
        refine fj_callVNw (As := [.int 1]) (rest := []) C (d_X4_countEntries l D ty t0 ad z9 g u9 P S T B I9 1) ⟨va_cnB 1 C.2.2.2.2.1 gX5_countOfWork_X4_countEntries_n144 rfl rfl rfl (nw_m C.2.2.2.2.2.2.2.1 kN144) (C.2.2.2.2.1 _ kIX4) (by decide +kernel) ⟨Nat.le_of_ble_eq_true rfl, Nat.le_of_ble_eq_true rfl⟩, C.2.2.2.2.1 _ kVX4_countEntries, C.2.2.2.2.1 _ kSX4_countEntries⟩ ⟨25, 4, _, _, fx_at25 _ _ _ _ _, rfl, rfl⟩ rfl (Nat.le_of_ble_eq_true rfl) dX5_countOfWork_73 ⟨Nat.zero_le _, Nat.zero_le _⟩ (fun v9 w9 hp9 => ?_)
        obtain ⟨rfl, rfl⟩ := hp9
        refine fj_st (st' := .int (nI (cnE (z9 27) 1 B)) :: []) rfl ?_
        refine fj_aload_n C 0 dX5_countOfWork_76 rfl rfl ?_
        refine fj_get (Cn := RX5) (T := TX5) (N := 5) (ci := 5) (v := .ref (ad 25)) C iX5 0 (fx_at0 _ _ _ _ _) rfl 3 (by decide) kX5_35 rfl dX5_countOfWork_77 ?_
        refine fj_iconst (v := 2) C dX5_countOfWork_80 (by decide) ?_
        refine fj_callVNw (As := [.int 2]) (rest := [.int (nI (cnE (z9 27) 1 B))]) C (d_X4_countEntries l D ty t0 ad z9 g u9 P S T B I9 2) ⟨va_cnB 1 C.2.2.2.2.1 gX5_countOfWork_X4_countEntries_n144 rfl rfl rfl (nw_m C.2.2.2.2.2.2.2.1 kN144) (C.2.2.2.2.1 _ kIX4) (by decide +kernel) ⟨Nat.le_of_ble_eq_true rfl, Nat.le_of_ble_eq_true rfl⟩, C.2.2.2.2.1 _ kVX4_countEntries, C.2.2.2.2.1 _ kSX4_countEntries⟩ ⟨25, 4, _, _, fx_at25 _ _ _ _ _, rfl, rfl⟩ rfl (Nat.le_of_ble_eq_true rfl) dX5_countOfWork_81 ⟨Nat.zero_le _, Nat.zero_le _⟩ (fun v9 w9 hp9 => ?_)
        obtain ⟨rfl, rfl⟩ := hp9
        refine fj_st (st' := .int (nI (cnE (z9 27) 2 B)) :: [.int (nI (cnE (z9 27) 1 B))]) rfl ?_
        refine fj_iadd C dX5_countOfWork_84 ?_
        refine fj_aload_n C 0 dX5_countOfWork_85 rfl rfl ?_
        refine fj_get (Cn := RX5) (T := TX5) (N := 5) (ci := 5) (v := .ref (ad 25)) C iX5 0 (fx_at0 _ _ _ _ _) rfl 3 (by decide) kX5_35 rfl dX5_countOfWork_86 ?_
        refine fj_iconst (v := 3) C dX5_countOfWork_89 (by decide) ?_
        refine fj_callVNw (As := [.int 3]) (rest := [.int ((nI (cnE (z9 27) 1 B)) + (nI (cnE (z9 27) 2 B)))]) C (d_X4_countEntries l D ty t0 ad z9 g u9 P S T B I9 3) ⟨va_cnB 1 C.2.2.2.2.1 gX5_countOfWork_X4_countEntries_n144 rfl rfl rfl (nw_m C.2.2.2.2.2.2.2.1 kN144) (C.2.2.2.2.1 _ kIX4) (by decide +kernel) ⟨Nat.le_of_ble_eq_true rfl, Nat.le_of_ble_eq_true rfl⟩, C.2.2.2.2.1 _ kVX4_countEntries, C.2.2.2.2.1 _ kSX4_countEntries⟩ ⟨25, 4, _, _, fx_at25 _ _ _ _ _, rfl, rfl⟩ rfl (Nat.le_of_ble_eq_true rfl) dX5_countOfWork_90 ⟨Nat.zero_le _, Nat.zero_le _⟩ (fun v9 w9 hp9 => ?_)
        obtain ⟨rfl, rfl⟩ := hp9
        refine fj_st (st' := .int (nI (cnE (z9 27) 3 B)) :: [.int ((nI (cnE (z9 27) 1 B)) + (nI (cnE (z9 27) 2 B)))]) rfl ?_
        refine fj_iadd C dX5_countOfWork_93 ?_
        exact fj_iret C E9 dX5_countOfWork_94 (Or.inr ⟨h7, z9, u9, T9, _, (Or.inl ⟨hs, rfl⟩), rfl, rfl⟩)
      · refine fj_tableIn (off := 63) (tgt := 95) C dX5_countOfWork_32 (by omega) (by omega) (by rw [hsw]; rfl) (by decide) ?_
        have hs : x = 6 := Int32.toInt_inj.mp (by rw [hsw]; decide)
        refine fj_aload_n C 0 dX5_countOfWork_95 rfl rfl ?_
        refine fj_get (Cn := RX5) (T := TX5) (N := 5) (ci := 5) (v := .ref (ad 25)) C iX5 0 (fx_at0 _ _ _ _ _) rfl 3 (by decide) kX5_35 rfl dX5_countOfWork_96 ?_
        refine fj_iconst (v := 1) C dX5_countOfWork_99 (by decide) ?_
        refine fj_callVNw (As := [.int 1]) (rest := []) C (d_X4_countEntries l D ty t0 ad z9 g u9 P S T B I9 1) ⟨va_cnB 1 C.2.2.2.2.1 gX5_countOfWork_X4_countEntries_n144 rfl rfl rfl (nw_m C.2.2.2.2.2.2.2.1 kN144) (C.2.2.2.2.1 _ kIX4) (by decide +kernel) ⟨Nat.le_of_ble_eq_true rfl, Nat.le_of_ble_eq_true rfl⟩, C.2.2.2.2.1 _ kVX4_countEntries, C.2.2.2.2.1 _ kSX4_countEntries⟩ ⟨25, 4, _, _, fx_at25 _ _ _ _ _, rfl, rfl⟩ rfl (Nat.le_of_ble_eq_true rfl) dX5_countOfWork_100 ⟨Nat.zero_le _, Nat.zero_le _⟩ (fun v9 w9 hp9 => ?_)
        obtain ⟨rfl, rfl⟩ := hp9
        refine fj_st (st' := .int (nI (cnE (z9 27) 1 B)) :: []) rfl ?_
        exact fj_iret C E9 dX5_countOfWork_103 (Or.inr ⟨h7, z9, u9, T9, _, (Or.inr (Or.inl ⟨hs, rfl⟩)), rfl, rfl⟩)
      · refine fj_tableIn (off := 72) (tgt := 104) C dX5_countOfWork_32 (by omega) (by omega) (by rw [hsw]; rfl) (by decide) ?_
        have hs : x = 7 := Int32.toInt_inj.mp (by rw [hsw]; decide)
        refine fj_aload_n C 0 dX5_countOfWork_104 rfl rfl ?_
        refine fj_get (Cn := RX5) (T := TX5) (N := 5) (ci := 5) (v := .ref (ad 25)) C iX5 0 (fx_at0 _ _ _ _ _) rfl 3 (by decide) kX5_35 rfl dX5_countOfWork_105 ?_
        refine fj_iconst (v := 2) C dX5_countOfWork_108 (by decide) ?_
        refine fj_callVNw (As := [.int 2]) (rest := []) C (d_X4_countEntries l D ty t0 ad z9 g u9 P S T B I9 2) ⟨va_cnB 1 C.2.2.2.2.1 gX5_countOfWork_X4_countEntries_n144 rfl rfl rfl (nw_m C.2.2.2.2.2.2.2.1 kN144) (C.2.2.2.2.1 _ kIX4) (by decide +kernel) ⟨Nat.le_of_ble_eq_true rfl, Nat.le_of_ble_eq_true rfl⟩, C.2.2.2.2.1 _ kVX4_countEntries, C.2.2.2.2.1 _ kSX4_countEntries⟩ ⟨25, 4, _, _, fx_at25 _ _ _ _ _, rfl, rfl⟩ rfl (Nat.le_of_ble_eq_true rfl) dX5_countOfWork_109 ⟨Nat.zero_le _, Nat.zero_le _⟩ (fun v9 w9 hp9 => ?_)
        obtain ⟨rfl, rfl⟩ := hp9
        refine fj_st (st' := .int (nI (cnE (z9 27) 2 B)) :: []) rfl ?_
        exact fj_iret C E9 dX5_countOfWork_112 (Or.inr ⟨h7, z9, u9, T9, _, (Or.inr (Or.inr (Or.inl ⟨hs, rfl⟩))), rfl, rfl⟩)
      · refine fj_tableIn (off := 81) (tgt := 113) C dX5_countOfWork_32 (by omega) (by omega) (by rw [hsw]; rfl) (by decide) ?_
        have hs : x = 8 := Int32.toInt_inj.mp (by rw [hsw]; decide)
        refine fj_aload_n C 0 dX5_countOfWork_113 rfl rfl ?_
        refine fj_get (Cn := RX5) (T := TX5) (N := 5) (ci := 5) (v := .ref (ad 25)) C iX5 0 (fx_at0 _ _ _ _ _) rfl 3 (by decide) kX5_35 rfl dX5_countOfWork_114 ?_
        refine fj_iconst (v := 3) C dX5_countOfWork_117 (by decide) ?_
        refine fj_callVNw (As := [.int 3]) (rest := []) C (d_X4_countEntries l D ty t0 ad z9 g u9 P S T B I9 3) ⟨va_cnB 1 C.2.2.2.2.1 gX5_countOfWork_X4_countEntries_n144 rfl rfl rfl (nw_m C.2.2.2.2.2.2.2.1 kN144) (C.2.2.2.2.1 _ kIX4) (by decide +kernel) ⟨Nat.le_of_ble_eq_true rfl, Nat.le_of_ble_eq_true rfl⟩, C.2.2.2.2.1 _ kVX4_countEntries, C.2.2.2.2.1 _ kSX4_countEntries⟩ ⟨25, 4, _, _, fx_at25 _ _ _ _ _, rfl, rfl⟩ rfl (Nat.le_of_ble_eq_true rfl) dX5_countOfWork_118 ⟨Nat.zero_le _, Nat.zero_le _⟩ (fun v9 w9 hp9 => ?_)
        obtain ⟨rfl, rfl⟩ := hp9
        refine fj_st (st' := .int (nI (cnE (z9 27) 3 B)) :: []) rfl ?_
        exact fj_iret C E9 dX5_countOfWork_121 (Or.inr ⟨h7, z9, u9, T9, _, (Or.inr (Or.inr (Or.inr (Or.inl ⟨hs, rfl⟩)))), rfl, rfl⟩)
      · refine fj_tableIn (off := 90) (tgt := 122) C dX5_countOfWork_32 (by omega) (by omega) (by rw [hsw]; rfl) (by decide) ?_
        have hs : x = 9 := Int32.toInt_inj.mp (by rw [hsw]; decide)
        refine fj_aload_n C 0 dX5_countOfWork_122 rfl rfl ?_
        refine fj_get (Cn := RX5) (T := TX5) (N := 5) (ci := 5) (v := .ref (ad 25)) C iX5 0 (fx_at0 _ _ _ _ _) rfl 3 (by decide) kX5_35 rfl dX5_countOfWork_123 ?_
        refine fj_callVNw (As := []) (rest := []) C (d_X4_countDead l D ty t0 ad z9 g u9) ⟨va_cnB 0 C.2.2.2.2.1 gX5_countOfWork_X4_countDead_n147 rfl rfl rfl (nw_m C.2.2.2.2.2.2.2.1 kN147) (C.2.2.2.2.1 _ kIX4) (by decide +kernel) ⟨Nat.le_of_ble_eq_true rfl, Nat.le_of_ble_eq_true rfl⟩, C.2.2.2.2.1 _ kVX4_countDead, C.2.2.2.2.1 _ kSX4_countDead⟩ ⟨25, 4, _, _, fx_at25 _ _ _ _ _, rfl, rfl⟩ rfl (Nat.le_of_ble_eq_true rfl) dX5_countOfWork_126 ⟨Nat.zero_le _, Nat.zero_le _⟩ (fun v9 w9 hp9 => ?_)
        obtain ⟨rfl, rfl⟩ := hp9
        refine fj_st (st' := .int (nI (cst (z9 36) 12)) :: []) rfl ?_
        exact fj_iret C E9 dX5_countOfWork_129 (Or.inr ⟨h7, z9, u9, T9, _, (Or.inr (Or.inr (Or.inr (Or.inr (Or.inl ⟨hs, rfl⟩))))), rfl, rfl⟩)
  · refine fj_sipush (v := (-1002)) C dX5_countOfWork_10 (by decide) ?_
    exact fj_iret C E9 dX5_countOfWork_13 (Or.inl ⟨h7, rfl, rfl⟩)

set_option maxHeartbeats 4000000 in
set_option maxRecDepth 100000 in
theorem d_X5_count (l : Launch) (D : va_G) (ty : Nat → ClassId) (t0 : Nat → Nat) (ad : Nat → Nat) (a : Nat → Nat → Int32) (g : Nat → Nat → Int64) (n : Nat → Int32) (P : Nat) (S : Nat) (T : Nat) (B : Nat) (I : XI P S T B a n) (x : Int32)  : fc l yX5_count wsX5_count (fj_rm 6 143 0 0) D ty t0 [.ref (ad 0), .int x] (fx_w ad ty a g n) 0 0 (fun v w => (x = 0 ∧ v = some (.int (nI P)) ∧ w = fx_w ad ty a g n) ∨ (x = 1 ∧ v = some (.int (nI S)) ∧ w = fx_w ad ty a g n) ∨ (x = 2 ∧ v = some (.int (nI B)) ∧ w = fx_w ad ty a g n) ∨ (x = 3 ∧ v = some (.int (nI (cst (a 23) B))) ∧ w = fx_w ad ty a g n) ∨ (x = 4 ∧ v = some (.int (nI T)) ∧ w = fx_w ad ty a g n) ∨ (¬ (5 ≤ x ∧ x ≤ 10) ∧ (x.toInt < 0 ∨ 4 < x.toInt) ∧ v = some (.int (-1002)) ∧ w = fx_w ad ty a g n) ∨ ((5 ≤ x ∧ x ≤ 10) ∧ ∃ (z : Nat → Nat → Int32) (u : Nat → Int32), THP P S T B a n B 20000 z u ∧ ∃ r, CWA z B x r ∧ v = some (.int r) ∧ w = fx_w ad ty z g u)) := by
  refine fc_start (own := RX5) (cc := cX5_count) (maxL := 2) (ret := (some .int)) (by decide) rfl (Nat.le_of_ble_eq_true rfl) rfl ?_
  intro p e s m args below meth c Q A C hmn E9
  obtain ⟨hn0, hP, hn1, hT, hn3, hS, hn4, hB, iLO, iBO, iWho, iSort, iQ, iN⟩ := id I
  have iX5 : ∀ w ∈ u_ws RX5 TX5 5, w ∈ wsX5_count := ptX5_count_wsX50
  have kX5_12 : Cond.fieldLink RX5 12 "FreeLand" "persons" "LFreeLand$Persons;" ∈ wsX5_count := ptX5_count_woX5_count _ (by decide +kernel)
  have iX3 : ∀ w ∈ u_ws RX3 TX3 3, w ∈ wsX5_count := ptX5_count_wsX30
  have kX5_50 : (RX5, 50, "FreeLand$Persons", "size", "I") ∈ nw_F := (by decide +kernel)
  have kX5_19 : Cond.fieldLink RX5 19 "FreeLand" "laws" "LFreeLand$Laws;" ∈ wsX5_count := ptX5_count_woX5_count _ (by decide +kernel)
  have iX2 : ∀ w ∈ u_ws RX2 TX2 7, w ∈ wsX5_count := ptX5_count_wsX20
  have kX5_72 : (RX5, 72, "FreeLand$Laws", "size", "I") ∈ nw_F := (by decide +kernel)
  have kX5_26 : Cond.fieldLink RX5 26 "FreeLand" "book" "LFreeLand$Book;" ∈ wsX5_count := ptX5_count_woX5_count _ (by decide +kernel)
  have iX0 : ∀ w ∈ u_ws RX0 TX0 8, w ∈ wsX5_count := ptX5_count_wsX00
  have kX5_100 : (RX5, 100, "FreeLand$Book", "size", "I") ∈ nw_F := (by decide +kernel)
  have kN137 : (RX5, 137, yX0_countStruck) ∈ nw_M := (by decide +kernel)
  have kIX0 : Cond.initialized RX0 ∈ wsX5_count := ptX5_count_woX5_count _ (by decide +kernel)
  have kVX0_countStruck : Cond.instanceMethod yX0_countStruck ∈ wsX5_count := ptX5_count_woX5_count _ (by decide +kernel)
  have kSX0_countStruck : Cond.selects RX0 yX0_countStruck yX0_countStruck ∈ wsX5_count := ptX5_count_woX5_count _ (by decide +kernel)
  have kX5_61 : (RX5, 61, "FreeLand$Laws", "length", "I") ∈ nw_F := (by decide +kernel)
  refine fj_lv (lv' := [(0, .ref (ad 0)), (1, .int x)]) [0, 1] rfl ?_
  refine fj_iload_n C 1 dX5_count_0 rfl rfl ?_
  rcases fx_sw x 0 4 with hsw | hsw
  · refine fj_tableOut (tgt := 76) C dX5_count_1 hsw (by decide) ?_
    refine fj_aload_n C 0 dX5_count_76 rfl rfl ?_
    refine fj_iload_n C 1 dX5_count_77 rfl rfl ?_
    refine fj_callVw (As := [.int x]) (rest := []) C (d_X5_countOfWork l D ty t0 ad a g n P S T B I x) (cwV 1 C.2.2.2.2.1 gX5_count_X5_countOfWork rfl rfl rfl (by decide +kernel) ⟨Nat.le_of_ble_eq_true rfl, Nat.le_of_ble_eq_true rfl⟩) ⟨0, 5, _, _, fx_at0 _ _ _ _ _, rfl, rfl⟩ rfl (Nat.le_of_ble_eq_true rfl) dX5_count_78 ⟨Nat.zero_le _, Nat.zero_le _⟩ (fun v9 w9 hp9 => ?_)
    rcases hp9 with ⟨h7, rfl, rfl⟩ | ⟨h7, z9, u9, T9, r9, hA9, rfl, rfl⟩
    · refine fj_st (st' := .int (-1002) :: []) rfl ?_
      exact fj_iret C E9 dX5_count_81 (by first | exact Or.inr (Or.inr (Or.inr (Or.inr (Or.inr (Or.inl ⟨h7, hsw, rfl, rfl⟩))))) | exact Or.inr (Or.inr (Or.inr (Or.inr (Or.inr (Or.inr ⟨h7, z9, u9, T9, r9, hA9, rfl, rfl⟩))))))
    · refine fj_st (st' := .int r9 :: []) rfl ?_
      exact fj_iret C E9 dX5_count_81 (by first | exact Or.inr (Or.inr (Or.inr (Or.inr (Or.inr (Or.inl ⟨h7, hsw, rfl, rfl⟩))))) | exact Or.inr (Or.inr (Or.inr (Or.inr (Or.inr (Or.inr ⟨h7, z9, u9, T9, r9, hA9, rfl, rfl⟩))))))
  · obtain ⟨hs1, hs2⟩ := hsw
    rcases (show x.toInt = 0 ∨ x.toInt = 1 ∨ x.toInt = 2 ∨ x.toInt = 3 ∨ x.toInt = 4 by omega) with hsw | hsw | hsw | hsw | hsw
    · refine fj_tableIn (off := 35) (tgt := 36) C dX5_count_1 (by omega) (by omega) (by rw [hsw]; rfl) (by decide) ?_
      have hs : x = 0 := Int32.toInt_inj.mp (by rw [hsw]; decide)
      refine fj_aload_n C 0 dX5_count_36 rfl rfl ?_
      refine fj_get (Cn := RX5) (T := TX5) (N := 5) (ci := 5) (v := .ref (ad 1)) C iX5 0 (fx_at0 _ _ _ _ _) rfl 0 (by decide) kX5_12 rfl dX5_count_37 ?_
      refine fj_getN (Cn := RX3) (T := TX3) (N := 3) (ci := 3) (v := .int (n 0)) C iX3 1 (fx_at1 _ _ _ _ _) rfl 2 (by decide) kX5_50 rfl dX5_count_40 ?_
      refine fj_at (y := nI P) hn0 ?_
      exact fj_iret C E9 dX5_count_43 (Or.inl ⟨hs, rfl, rfl⟩)
    · refine fj_tableIn (off := 43) (tgt := 44) C dX5_count_1 (by omega) (by omega) (by rw [hsw]; rfl) (by decide) ?_
      have hs : x = 1 := Int32.toInt_inj.mp (by rw [hsw]; decide)
      refine fj_aload_n C 0 dX5_count_44 rfl rfl ?_
      refine fj_get (Cn := RX5) (T := TX5) (N := 5) (ci := 5) (v := .ref (ad 4)) C iX5 0 (fx_at0 _ _ _ _ _) rfl 1 (by decide) kX5_19 rfl dX5_count_45 ?_
      refine fj_getN (Cn := RX2) (T := TX2) (N := 7) (ci := 2) (v := .int (n 3)) C iX2 4 (fx_at4 _ _ _ _ _) rfl 6 (by decide) kX5_72 rfl dX5_count_48 ?_
      refine fj_at (y := nI S) hn3 ?_
      exact fj_iret C E9 dX5_count_51 (Or.inr (Or.inl ⟨hs, rfl, rfl⟩))
    · refine fj_tableIn (off := 51) (tgt := 52) C dX5_count_1 (by omega) (by omega) (by rw [hsw]; rfl) (by decide) ?_
      have hs : x = 2 := Int32.toInt_inj.mp (by rw [hsw]; decide)
      refine fj_aload_n C 0 dX5_count_52 rfl rfl ?_
      refine fj_get (Cn := RX5) (T := TX5) (N := 5) (ci := 5) (v := .ref (ad 17)) C iX5 0 (fx_at0 _ _ _ _ _) rfl 2 (by decide) kX5_26 rfl dX5_count_53 ?_
      refine fj_getN (Cn := RX0) (T := TX0) (N := 8) (ci := 0) (v := .int (n 4)) C iX0 17 (fx_at17 _ _ _ _ _) rfl 7 (by decide) kX5_100 rfl dX5_count_56 ?_
      refine fj_at (y := nI B) hn4 ?_
      exact fj_iret C E9 dX5_count_59 (Or.inr (Or.inr (Or.inl ⟨hs, rfl, rfl⟩)))
    · refine fj_tableIn (off := 59) (tgt := 60) C dX5_count_1 (by omega) (by omega) (by rw [hsw]; rfl) (by decide) ?_
      have hs : x = 3 := Int32.toInt_inj.mp (by rw [hsw]; decide)
      refine fj_aload_n C 0 dX5_count_60 rfl rfl ?_
      refine fj_get (Cn := RX5) (T := TX5) (N := 5) (ci := 5) (v := .ref (ad 17)) C iX5 0 (fx_at0 _ _ _ _ _) rfl 2 (by decide) kX5_26 rfl dX5_count_61 ?_
      refine fj_callVNw (As := []) (rest := []) C (d_X0_countStruck l D ty t0 ad a g n P S T B I) ⟨va_cnB 0 C.2.2.2.2.1 gX5_count_X0_countStruck_n137 rfl rfl rfl (nw_m C.2.2.2.2.2.2.2.1 kN137) (C.2.2.2.2.1 _ kIX0) (by decide +kernel) ⟨Nat.le_of_ble_eq_true rfl, Nat.le_of_ble_eq_true rfl⟩, C.2.2.2.2.1 _ kVX0_countStruck, C.2.2.2.2.1 _ kSX0_countStruck⟩ ⟨17, 0, _, _, fx_at17 _ _ _ _ _, rfl, rfl⟩ rfl (Nat.le_of_ble_eq_true rfl) dX5_count_64 ⟨Nat.zero_le _, Nat.zero_le _⟩ (fun v9 w9 hp9 => ?_)
      obtain ⟨rfl, rfl⟩ := hp9
      refine fj_st (st' := .int (nI (cst (a 23) B)) :: []) rfl ?_
      exact fj_iret C E9 dX5_count_67 (Or.inr (Or.inr (Or.inr (Or.inl ⟨hs, rfl, rfl⟩))))
    · refine fj_tableIn (off := 67) (tgt := 68) C dX5_count_1 (by omega) (by omega) (by rw [hsw]; rfl) (by decide) ?_
      have hs : x = 4 := Int32.toInt_inj.mp (by rw [hsw]; decide)
      refine fj_aload_n C 0 dX5_count_68 rfl rfl ?_
      refine fj_get (Cn := RX5) (T := TX5) (N := 5) (ci := 5) (v := .ref (ad 4)) C iX5 0 (fx_at0 _ _ _ _ _) rfl 1 (by decide) kX5_19 rfl dX5_count_69 ?_
      refine fj_getN (Cn := RX2) (T := TX2) (N := 7) (ci := 2) (v := .int (n 1)) C iX2 4 (fx_at4 _ _ _ _ _) rfl 1 (by decide) kX5_61 rfl dX5_count_72 ?_
      refine fj_at (y := nI T) hn1 ?_
      exact fj_iret C E9 dX5_count_75 (Or.inr (Or.inr (Or.inr (Or.inr (Or.inl ⟨hs, rfl, rfl⟩)))))

set_option maxHeartbeats 4000000 in
set_option maxRecDepth 100000 in
theorem d_X5_holds (l : Launch) (D : va_G) (ty : Nat → ClassId) (t0 : Nat → Nat) (ad : Nat → Nat) (a : Nat → Nat → Int32) (g : Nat → Nat → Int64) (n : Nat → Int32) (P : Nat) (S : Nat) (T : Nat) (B : Nat) (I : XI P S T B a n) (x : Int32) (y : Int32) (u : Int32) (q : Int32)  : fc l yX5_holds wsX5_holds (fj_rm 5 122 0 0) D ty t0 [.ref (ad 0), .int x, .int y, .int u, .int q] (fx_w ad ty a g n) 0 0 (fun v w => (¬ (0 ≤ x ∧ x ≤ 63) ∧ v = some (.int (-1001)) ∧ w = fx_w ad ty a g n) ∨ ((0 ≤ x ∧ x ≤ 63) ∧ ¬ ((0 ≤ y ∧ y ≤ 20000) ∧ (-1 ≤ u ∧ u ≤ nI B) ∧ (0 ≤ q ∧ q ≤ 5)) ∧ v = some (.int (-1002)) ∧ w = fx_w ad ty a g n) ∨ (∃ k, k ≤ 63 ∧ x = nI k ∧ ((0 ≤ y ∧ y ≤ 20000) ∧ (-1 ≤ u ∧ u ≤ nI B) ∧ (0 ≤ q ∧ q ≤ 5)) ∧ ∃ N, LNS B u N ∧ ∃ (z : Nat → Nat → Int32) (u1 u2 : Nat → Int32), THP P S T B a n N y z u1 ∧ (∀ j, j ≠ 6 → j ≠ 7 → u2 j = u1 j) ∧ ∃ r, HDA z u1 B k y q r ∧ v = some (.int r) ∧ w = fx_w ad ty z g u2)) := by
  refine fc_start (own := RX5) (cc := cX5_holds) (maxL := 5) (ret := (some .int)) (by decide) rfl (Nat.le_of_ble_eq_true rfl) rfl ?_
  intro p e s m args below meth c Q A C hmn E9
  obtain ⟨hn0, hP, hn1, hT, hn3, hS, hn4, hB, iLO, iBO, iWho, iSort, iQ, iN⟩ := id I
  have iX5 : ∀ w ∈ u_ws RX5 TX5 5, w ∈ wsX5_holds := ptX5_holds_wsX50
  have kX5_35 : Cond.fieldLink RX5 35 "FreeLand" "work" "LFreeLand$Work;" ∈ wsX5_holds := ptX5_holds_woX5_holds _ (by decide +kernel)
  have kN130 : (RX5, 130, yX4_through) ∈ nw_M := (by decide +kernel)
  have kIX4 : Cond.initialized RX4 ∈ wsX5_holds := ptX5_holds_woX5_holds _ (by decide +kernel)
  have kVX4_through : Cond.instanceMethod yX4_through ∈ wsX5_holds := ptX5_holds_woX5_holds _ (by decide +kernel)
  have kSX4_through : Cond.selects RX4 yX4_through yX4_through ∈ wsX5_holds := ptX5_holds_woX5_holds _ (by decide +kernel)
  have kN168 : (RX5, 168, yX4_acres) ∈ nw_M := (by decide +kernel)
  have kVX4_acres : Cond.instanceMethod yX4_acres ∈ wsX5_holds := ptX5_holds_woX5_holds _ (by decide +kernel)
  have kSX4_acres : Cond.selects RX4 yX4_acres yX4_acres ∈ wsX5_holds := ptX5_holds_woX5_holds _ (by decide +kernel)
  have kN153 : (RX5, 153, yX4_holderOf) ∈ nw_M := (by decide +kernel)
  have kVX4_holderOf : Cond.instanceMethod yX4_holderOf ∈ wsX5_holds := ptX5_holds_woX5_holds _ (by decide +kernel)
  have kSX4_holderOf : Cond.selects RX4 yX4_holderOf yX4_holderOf ∈ wsX5_holds := ptX5_holds_woX5_holds _ (by decide +kernel)
  have kN156 : (RX5, 156, yX4_standing) ∈ nw_M := (by decide +kernel)
  have kVX4_standing : Cond.instanceMethod yX4_standing ∈ wsX5_holds := ptX5_holds_woX5_holds _ (by decide +kernel)
  have kSX4_standing : Cond.selects RX4 yX4_standing yX4_standing ∈ wsX5_holds := ptX5_holds_woX5_holds _ (by decide +kernel)
  have iX4 : ∀ w ∈ u_ws RX4 TX4 18, w ∈ wsX5_holds := ptX5_holds_wsX40
  have kX5_159 : (RX5, 159, "FreeLand$Work", "held", "[I") ∈ nw_F := (by decide +kernel)
  have kN162 : (RX5, 162, yX4_preferredOn) ∈ nw_M := (by decide +kernel)
  have kVX4_preferredOn : Cond.instanceMethod yX4_preferredOn ∈ wsX5_holds := ptX5_holds_woX5_holds _ (by decide +kernel)
  have kSX4_preferredOn : Cond.selects RX4 yX4_preferredOn yX4_preferredOn ∈ wsX5_holds := ptX5_holds_woX5_holds _ (by decide +kernel)
  have kN165 : (RX5, 165, yX4_daysLived) ∈ nw_M := (by decide +kernel)
  have kVX4_daysLived : Cond.instanceMethod yX4_daysLived ∈ wsX5_holds := ptX5_holds_woX5_holds _ (by decide +kernel)
  have kSX4_daysLived : Cond.selects RX4 yX4_daysLived yX4_daysLived ∈ wsX5_holds := ptX5_holds_woX5_holds _ (by decide +kernel)
  refine fj_lv (lv' := [(0, .ref (ad 0)), (1, .int x), (2, .int y), (3, .int u), (4, .int q)]) [0, 1, 2, 3, 4] rfl ?_
  refine fj_iload_n C 1 dX5_holds_0 rfl rfl ?_
  refine fj_callSw (As := [.int x]) (rest := []) C (d_X5_isQuarter l D ty t0 (fx_w ad ty a g n) x) (va_cwS 1 C.2.2.2.2.1 gX5_holds_X5_isQuarter rfl rfl rfl (by decide +kernel) ⟨Nat.le_of_ble_eq_true rfl, Nat.le_of_ble_eq_true rfl⟩)  rfl (Nat.le_of_ble_eq_true rfl) dX5_holds_1 ⟨Nat.zero_le _, Nat.zero_le _⟩ (fun v9 w9 hp9 => ?_)
  obtain ⟨rfl, rfl⟩ := hp9
  refine fj_st (st' := .int (if (0 ≤ x ∧ x ≤ 63) then 1 else 0) :: []) rfl ?_
  refine fj_ifb_ne (tgt := 11) C dX5_holds_4 (by decide) (fun h4 => ?_) (fun h4 => ?_)
  · obtain ⟨k, hk, rfl⟩ := fx_le8 h4 (N := 63) rfl (by decide)
    refine fj_iload_n C 2 dX5_holds_11 rfl rfl ?_
    refine fj_callSw (As := [.int y]) (rest := []) C (d_X5_isDay l D ty t0 (fx_w ad ty a g n) y) (va_cwS 1 C.2.2.2.2.1 gX5_holds_X5_isDay rfl rfl rfl (by decide +kernel) ⟨Nat.le_of_ble_eq_true rfl, Nat.le_of_ble_eq_true rfl⟩)  rfl (Nat.le_of_ble_eq_true rfl) dX5_holds_12 ⟨Nat.zero_le _, Nat.zero_le _⟩ (fun v9 w9 hp9 => ?_)
    obtain ⟨rfl, rfl⟩ := hp9
    refine fj_st (st' := .int (if (0 ≤ y ∧ y ≤ 20000) then 1 else 0) :: []) rfl ?_
    refine fj_ifb_eq (tgt := 36) C dX5_holds_15 (by decide) (fun h15 => ?_) (fun h15 => ?_)
    · refine fj_sipush (v := (-1002)) C dX5_holds_36 (by decide) ?_
      exact fj_iret C E9 dX5_holds_39 (Or.inr (Or.inl ⟨h4, (fun z8 => by first | exact h15 z8.1 | exact h23 z8.2.1 | exact h33 z8.2.2), rfl, rfl⟩))
    · refine fj_aload_n C 0 dX5_holds_18 rfl rfl ?_
      refine fj_iload_n C 3 dX5_holds_19 rfl rfl ?_
      refine fj_callVw (As := [.int u]) (rest := []) C (d_X5_isKnownBy l D ty t0 ad a g n P S T B I u) (cwV 1 C.2.2.2.2.1 gX5_holds_X5_isKnownBy rfl rfl rfl (by decide +kernel) ⟨Nat.le_of_ble_eq_true rfl, Nat.le_of_ble_eq_true rfl⟩) ⟨0, 5, _, _, fx_at0 _ _ _ _ _, rfl, rfl⟩ rfl (Nat.le_of_ble_eq_true rfl) dX5_holds_20 ⟨Nat.zero_le _, Nat.zero_le _⟩ (fun v9 w9 hp9 => ?_)
      obtain ⟨rfl, rfl⟩ := hp9
      refine fj_st (st' := .int (if (-1 ≤ u ∧ u ≤ nI B) then 1 else 0) :: []) rfl ?_
      refine fj_ifb_eq (tgt := 36) C dX5_holds_23 (by decide) (fun h23 => ?_) (fun h23 => ?_)
      · refine fj_sipush (v := (-1002)) C dX5_holds_36 (by decide) ?_
        exact fj_iret C E9 dX5_holds_39 (Or.inr (Or.inl ⟨h4, (fun z8 => by first | exact h15 z8.1 | exact h23 z8.2.1 | exact h33 z8.2.2), rfl, rfl⟩))
      · refine fj_iload C 4 dX5_holds_26 rfl ?_
        refine fj_iconst (v := 0) C dX5_holds_28 (by decide) ?_
        refine fj_iconst (v := 5) C dX5_holds_29 (by decide) ?_
        refine fj_callSw (As := [.int q, .int 0, .int 5]) (rest := []) C (d_X5_within l D ty t0 (fx_w ad ty a g n) q 0 5) (va_cwS 3 C.2.2.2.2.1 gX5_holds_X5_within rfl rfl rfl (by decide +kernel) ⟨Nat.le_of_ble_eq_true rfl, Nat.le_of_ble_eq_true rfl⟩)  rfl (Nat.le_of_ble_eq_true rfl) dX5_holds_30 ⟨Nat.zero_le _, Nat.zero_le _⟩ (fun v9 w9 hp9 => ?_)
        obtain ⟨rfl, rfl⟩ := hp9
        refine fj_st (st' := .int (if (0 ≤ q ∧ q ≤ 5) then 1 else 0) :: []) rfl ?_
        refine fj_ifb_ne (tgt := 40) C dX5_holds_33 (by decide) (fun h33 => ?_) (fun h33 => ?_)
        · refine fj_aload_n C 0 dX5_holds_40 rfl rfl ?_
          refine fj_get (Cn := RX5) (T := TX5) (N := 5) (ci := 5) (v := .ref (ad 25)) C iX5 0 (fx_at0 _ _ _ _ _) rfl 3 (by decide) kX5_35 rfl dX5_holds_41 ?_
          refine fj_aload_n C 0 dX5_holds_44 rfl rfl ?_
          refine fj_iload_n C 3 dX5_holds_45 rfl rfl ?_
          refine fj_callVw (As := [.int u]) (rest := [.ref (ad 25)]) C (d_X5_linesOf l D ty t0 ad a g n P S T B I u) (cwV 1 C.2.2.2.2.1 gX5_holds_X5_linesOf rfl rfl rfl (by decide +kernel) ⟨Nat.le_of_ble_eq_true rfl, Nat.le_of_ble_eq_true rfl⟩) ⟨0, 5, _, _, fx_at0 _ _ _ _ _, rfl, rfl⟩ rfl (Nat.le_of_ble_eq_true rfl) dX5_holds_46 ⟨Nat.zero_le _, Nat.zero_le _⟩ (fun v9 w9 hp9 => ?_)
          obtain ⟨rfl, rfl⟩ := hp9
          refine fj_st (st' := .int (if u = -1 then nI B else u) :: [.ref (ad 25)]) rfl ?_
          obtain ⟨N9, hN9⟩ := LNS_of h23 hB
          have hNB := hN9.1
          refine fj_at (y := nI N9) hN9.2 ?_
          refine fj_iload_n C 2 dX5_holds_49 rfl rfl ?_
          refine fj_callVNw (As := [.int (nI N9), .int y]) (rest := []) C (d_X4_through l D ty t0 ad a g n P S T B I (nI N9) y) ⟨va_cnB 2 C.2.2.2.2.1 gX5_holds_X4_through_n130 rfl rfl rfl (nw_m C.2.2.2.2.2.2.2.1 kN130) (C.2.2.2.2.1 _ kIX4) (by decide +kernel) ⟨Nat.le_of_ble_eq_true rfl, Nat.le_of_ble_eq_true rfl⟩, C.2.2.2.2.1 _ kVX4_through, C.2.2.2.2.1 _ kSX4_through⟩ ⟨25, 4, _, _, fx_at25 _ _ _ _ _, rfl, rfl⟩ rfl (Nat.le_of_ble_eq_true rfl) dX5_holds_50 ⟨Nat.zero_le _, Nat.zero_le _⟩ (fun v9 w9 hp9 => ?_)
          obtain ⟨rfl, r9, z9, u9, hr9, hb9, hd9, hz9, hm9, hs9, I9, Wz9, rfl⟩ := hp9
          have T9 : THP P S T B a n N9 y z9 u9 := ⟨r9, hr9, hb9, hd9, hz9, hm9, hs9, I9, Wz9⟩
          obtain ⟨hn0, hP, hn1, hT, hn3, hS, hn4, hB, iLO, iBO, iWho, iSort, iQ, iN⟩ := id I9
          refine fj_st (st' := []) rfl ?_
          refine fj_iload C 4 dX5_holds_53 rfl ?_
          rcases fx_sw q 0 4 with hsw | hsw
          · refine fj_tableOut (tgt := 137) C dX5_holds_55 hsw (by decide) ?_
            have hs := fx_five h33 hsw
            refine fj_aload_n C 0 dX5_holds_137 rfl rfl ?_
            refine fj_get (Cn := RX5) (T := TX5) (N := 5) (ci := 5) (v := .ref (ad 25)) C iX5 0 (fx_at0 _ _ _ _ _) rfl 3 (by decide) kX5_35 rfl dX5_holds_138 ?_
            refine fj_iload_n C 1 dX5_holds_141 rfl rfl ?_
            refine fj_callVNw (As := [.int (nI k)]) (rest := []) C (d_X4_acres l D ty t0 ad z9 g u9 P S T B I9 (nI k) k rfl (by omega) Wz9) ⟨va_cnB 1 C.2.2.2.2.1 gX5_holds_X4_acres_n168 rfl rfl rfl (nw_m C.2.2.2.2.2.2.2.1 kN168) (C.2.2.2.2.1 _ kIX4) (by decide +kernel) ⟨Nat.le_of_ble_eq_true rfl, Nat.le_of_ble_eq_true rfl⟩, C.2.2.2.2.1 _ kVX4_acres, C.2.2.2.2.1 _ kSX4_acres⟩ ⟨25, 4, _, _, fx_at25 _ _ _ _ _, rfl, rfl⟩ rfl (Nat.le_of_ble_eq_true rfl) dX5_holds_142 ⟨Nat.zero_le _, Nat.zero_le _⟩ (fun v9 w9 hp9 => ?_)
            obtain ⟨rfl, rfl⟩ := hp9
            refine fj_st (st' := .int (if (z9 33) k = -1 then 0 else acF z9 ((z9 33) k).toNatClampNeg ((z9 32) ((z9 33) k).toNatClampNeg).toNatClampNeg (B - ((z9 32) ((z9 33) k).toNatClampNeg).toNatClampNeg)) :: []) rfl ?_
            exact fj_iret C E9 dX5_holds_145 (Or.inr (Or.inr ⟨k, hk, rfl, ⟨h15, h23, h33⟩, N9, hN9, z9, u9, u9, T9, (fun _ _ _ => rfl), _, (Or.inr (Or.inr (Or.inr (Or.inr (Or.inr (⟨hs, rfl⟩)))))), rfl, rfl⟩))
          · obtain ⟨hs1, hs2⟩ := hsw
            rcases (show q.toInt = 0 ∨ q.toInt = 1 ∨ q.toInt = 2 ∨ q.toInt = 3 ∨ q.toInt = 4 by omega) with hsw | hsw | hsw | hsw | hsw
            · refine fj_tableIn (off := 33) (tgt := 88) C dX5_holds_55 (by omega) (by omega) (by rw [hsw]; rfl) (by decide) ?_
              have hs : q = 0 := Int32.toInt_inj.mp (by rw [hsw]; decide)
              refine fj_aload_n C 0 dX5_holds_88 rfl rfl ?_
              refine fj_get (Cn := RX5) (T := TX5) (N := 5) (ci := 5) (v := .ref (ad 25)) C iX5 0 (fx_at0 _ _ _ _ _) rfl 3 (by decide) kX5_35 rfl dX5_holds_89 ?_
              refine fj_iload_n C 1 dX5_holds_92 rfl rfl ?_
              refine fj_callVNw (As := [.int (nI k)]) (rest := []) C (d_X4_holderOf l D ty t0 ad z9 g u9 P S T B I9 (nI k) k rfl (by omega) Wz9) ⟨va_cnB 1 C.2.2.2.2.1 gX5_holds_X4_holderOf_n153 rfl rfl rfl (nw_m C.2.2.2.2.2.2.2.1 kN153) (C.2.2.2.2.1 _ kIX4) (by decide +kernel) ⟨Nat.le_of_ble_eq_true rfl, Nat.le_of_ble_eq_true rfl⟩, C.2.2.2.2.1 _ kVX4_holderOf, C.2.2.2.2.1 _ kSX4_holderOf⟩ ⟨25, 4, _, _, fx_at25 _ _ _ _ _, rfl, rfl⟩ rfl (Nat.le_of_ble_eq_true rfl) dX5_holds_93 ⟨Nat.zero_le _, Nat.zero_le _⟩ (fun v9 w9 hp9 => ?_)
              obtain ⟨rfl, rfl⟩ := hp9
              refine fj_st (st' := .int (if (z9 33) k = -1 then -1 else (z9 28) ((z9 33) k).toNatClampNeg) :: []) rfl ?_
              exact fj_iret C E9 dX5_holds_96 (Or.inr (Or.inr ⟨k, hk, rfl, ⟨h15, h23, h33⟩, N9, hN9, z9, u9, u9, T9, (fun _ _ _ => rfl), _, (Or.inl ⟨hs, rfl⟩), rfl, rfl⟩))
            · refine fj_tableIn (off := 42) (tgt := 97) C dX5_holds_55 (by omega) (by omega) (by rw [hsw]; rfl) (by decide) ?_
              have hs : q = 1 := Int32.toInt_inj.mp (by rw [hsw]; decide)
              refine fj_aload_n C 0 dX5_holds_97 rfl rfl ?_
              refine fj_get (Cn := RX5) (T := TX5) (N := 5) (ci := 5) (v := .ref (ad 25)) C iX5 0 (fx_at0 _ _ _ _ _) rfl 3 (by decide) kX5_35 rfl dX5_holds_98 ?_
              refine fj_iload_n C 1 dX5_holds_101 rfl rfl ?_
              refine fj_iload_n C 2 dX5_holds_102 rfl rfl ?_
              refine fj_callVNw (As := [.int (nI k), .int y]) (rest := []) C (d_X4_standing l D ty t0 ad z9 g u9 P S T B I9 (nI k) y k rfl (by omega) Wz9) ⟨va_cnB 2 C.2.2.2.2.1 gX5_holds_X4_standing_n156 rfl rfl rfl (nw_m C.2.2.2.2.2.2.2.1 kN156) (C.2.2.2.2.1 _ kIX4) (by decide +kernel) ⟨Nat.le_of_ble_eq_true rfl, Nat.le_of_ble_eq_true rfl⟩, C.2.2.2.2.1 _ kVX4_standing, C.2.2.2.2.1 _ kSX4_standing⟩ ⟨25, 4, _, _, fx_at25 _ _ _ _ _, rfl, rfl⟩ rfl (Nat.le_of_ble_eq_true rfl) dX5_holds_103 ⟨Nat.zero_le _, Nat.zero_le _⟩ (fun v9 w9 hp9 => ?_)
              obtain ⟨rfl, rfl⟩ := hp9
              refine fj_st (st' := .int (if z9 33 k = -1 then (if RLR (u9 5) y k then 4 else 0) else if z9 27 (z9 33 k).toNatClampNeg = 2 ∧ z9 31 (z9 33 k).toNatClampNeg ≤ y then 3 else z9 27 (z9 33 k).toNatClampNeg) :: []) rfl ?_
              exact fj_iret C E9 dX5_holds_106 (Or.inr (Or.inr ⟨k, hk, rfl, ⟨h15, h23, h33⟩, N9, hN9, z9, u9, u9, T9, (fun _ _ _ => rfl), _, (Or.inr (Or.inl ⟨hs, rfl⟩)), rfl, rfl⟩))
            · refine fj_tableIn (off := 52) (tgt := 107) C dX5_holds_55 (by omega) (by omega) (by rw [hsw]; rfl) (by decide) ?_
              have hs : q = 2 := Int32.toInt_inj.mp (by rw [hsw]; decide)
              refine fj_aload_n C 0 dX5_holds_107 rfl rfl ?_
              refine fj_get (Cn := RX5) (T := TX5) (N := 5) (ci := 5) (v := .ref (ad 25)) C iX5 0 (fx_at0 _ _ _ _ _) rfl 3 (by decide) kX5_35 rfl dX5_holds_108 ?_
              refine fj_getN (Cn := RX4) (T := TX4) (N := 18) (ci := 4) (v := .ref (ad 33)) C iX4 25 (fx_at25 _ _ _ _ _) rfl 11 (by decide) kX5_159 rfl dX5_holds_111 ?_
              refine fj_iload_n C 1 dX5_holds_114 rfl rfl ?_
              refine fj_iald (f := (z9 33)) C 33 (fx_at33 _ _ _ _ _) (vp_in_nI (by omega) (by decide)) dX5_holds_115 ?_
              refine fj_at (y := z9 33 k) (by rw [nI_clamp (by omega)]) ?_
              exact fj_iret C E9 dX5_holds_116 (Or.inr (Or.inr ⟨k, hk, rfl, ⟨h15, h23, h33⟩, N9, hN9, z9, u9, u9, T9, (fun _ _ _ => rfl), _, (Or.inr (Or.inr (Or.inl ⟨hs, rfl⟩))), rfl, rfl⟩))
            · refine fj_tableIn (off := 62) (tgt := 117) C dX5_holds_55 (by omega) (by omega) (by rw [hsw]; rfl) (by decide) ?_
              have hs : q = 3 := Int32.toInt_inj.mp (by rw [hsw]; decide)
              refine fj_aload_n C 0 dX5_holds_117 rfl rfl ?_
              refine fj_get (Cn := RX5) (T := TX5) (N := 5) (ci := 5) (v := .ref (ad 25)) C iX5 0 (fx_at0 _ _ _ _ _) rfl 3 (by decide) kX5_35 rfl dX5_holds_118 ?_
              refine fj_iload_n C 1 dX5_holds_121 rfl rfl ?_
              refine fj_iload_n C 2 dX5_holds_122 rfl rfl ?_
              refine fj_callVNw (As := [.int (nI k), .int y]) (rest := []) C (d_X4_preferredOn l D ty t0 ad z9 g u9 (nI k) y k rfl (by omega)) ⟨va_cnB 2 C.2.2.2.2.1 gX5_holds_X4_preferredOn_n162 rfl rfl rfl (nw_m C.2.2.2.2.2.2.2.1 kN162) (C.2.2.2.2.1 _ kIX4) (by decide +kernel) ⟨Nat.le_of_ble_eq_true rfl, Nat.le_of_ble_eq_true rfl⟩, C.2.2.2.2.1 _ kVX4_preferredOn, C.2.2.2.2.1 _ kSX4_preferredOn⟩ ⟨25, 4, _, _, fx_at25 _ _ _ _ _, rfl, rfl⟩ rfl (Nat.le_of_ble_eq_true rfl) dX5_holds_123 ⟨Nat.zero_le _, Nat.zero_le _⟩ (fun v9 w9 hp9 => ?_)
              obtain ⟨rfl, rfl⟩ := hp9
              refine fj_st (st' := .int (if ¬ (z9 34) k = -1 ∧ y ≤ (z9 35) k then (z9 34) k else -1) :: []) rfl ?_
              exact fj_iret C E9 dX5_holds_126 (Or.inr (Or.inr ⟨k, hk, rfl, ⟨h15, h23, h33⟩, N9, hN9, z9, u9, u9, T9, (fun _ _ _ => rfl), _, (Or.inr (Or.inr (Or.inr (Or.inl ⟨hs, rfl⟩)))), rfl, rfl⟩))
            · refine fj_tableIn (off := 72) (tgt := 127) C dX5_holds_55 (by omega) (by omega) (by rw [hsw]; rfl) (by decide) ?_
              have hs : q = 4 := Int32.toInt_inj.mp (by rw [hsw]; decide)
              refine fj_aload_n C 0 dX5_holds_127 rfl rfl ?_
              refine fj_get (Cn := RX5) (T := TX5) (N := 5) (ci := 5) (v := .ref (ad 25)) C iX5 0 (fx_at0 _ _ _ _ _) rfl 3 (by decide) kX5_35 rfl dX5_holds_128 ?_
              refine fj_iload_n C 1 dX5_holds_131 rfl rfl ?_
              refine fj_iload_n C 2 dX5_holds_132 rfl rfl ?_
              refine fj_callVNw (As := [.int (nI k), .int y]) (rest := []) C (d_X4_daysLived l D ty t0 ad z9 g u9 P S T B I9 (nI k) y k rfl (by omega) Wz9) ⟨va_cnB 2 C.2.2.2.2.1 gX5_holds_X4_daysLived_n165 rfl rfl rfl (nw_m C.2.2.2.2.2.2.2.1 kN165) (C.2.2.2.2.1 _ kIX4) (by decide +kernel) ⟨Nat.le_of_ble_eq_true rfl, Nat.le_of_ble_eq_true rfl⟩, C.2.2.2.2.1 _ kVX4_daysLived, C.2.2.2.2.1 _ kSX4_daysLived⟩ ⟨25, 4, _, _, fx_at25 _ _ _ _ _, rfl, rfl⟩ rfl (Nat.le_of_ble_eq_true rfl) dX5_holds_133 ⟨Nat.zero_le _, Nat.zero_le _⟩ (fun v9 w9 hp9 => ?_)
              rcases hp9 with ⟨hz4, rfl, rfl⟩ | ⟨e4, t4, he4, ee4, ht4, et4, rfl, rfl⟩
              · refine fj_st (st' := .int 0 :: []) rfl ?_
                exact fj_iret C E9 dX5_holds_136 (Or.inr (Or.inr ⟨k, hk, rfl, ⟨h15, h23, h33⟩, N9, hN9, z9, u9, u9, T9, (fun _ _ _ => rfl), _, (Or.inr (Or.inr (Or.inr (Or.inr (Or.inl ⟨hs, (Or.inl ⟨hz4, rfl⟩)⟩))))), rfl, rfl⟩))
              · refine fj_st (st' := .int ((lkF z9 e4 (z9 18 e4) y B).2.1) :: []) rfl ?_
                exact fj_iret C E9 dX5_holds_136 (Or.inr (Or.inr ⟨k, hk, rfl, ⟨h15, h23, h33⟩, N9, hN9, z9, u9, (va_up (va_up u9 6 ((lkF z9 e4 (z9 18 e4) y B).2.1)) 7 (lkG y (lkF z9 e4 (z9 18 e4) y B))), T9, (fx_67 _ _ _), _, (Or.inr (Or.inr (Or.inr (Or.inr (Or.inl ⟨hs, (Or.inr ⟨e4, t4, he4, ee4, ht4, et4, rfl⟩)⟩))))), rfl, rfl⟩))
        · refine fj_sipush (v := (-1002)) C dX5_holds_36 (by decide) ?_
          exact fj_iret C E9 dX5_holds_39 (Or.inr (Or.inl ⟨h4, (fun z8 => by first | exact h15 z8.1 | exact h23 z8.2.1 | exact h33 z8.2.2), rfl, rfl⟩))
  · refine fj_sipush (v := (-1001)) C dX5_holds_7 (by decide) ?_
    exact fj_iret C E9 dX5_holds_10 (Or.inl ⟨h4, rfl, rfl⟩)

set_option maxHeartbeats 4000000 in
set_option maxRecDepth 100000 in
theorem d_X5_holdings (l : Launch) (D : va_G) (ty : Nat → ClassId) (t0 : Nat → Nat) (ad : Nat → Nat) (a : Nat → Nat → Int32) (g : Nat → Nat → Int64) (n : Nat → Int32) (P : Nat) (S : Nat) (T : Nat) (B : Nat) (I : XI P S T B a n) (x : Int32) (y : Int32)  : fc l yX5_holdings wsX5_holdings (fj_rm 5 122 0 0) D ty t0 [.ref (ad 0), .int x, .int y] (fx_w ad ty a g n) 0 0 (fun v w => (¬ ib x P ∧ v = some (.int (-1001)) ∧ w = fx_w ad ty a g n) ∨ (ib x P ∧ ¬ (-1 ≤ y ∧ y ≤ nI B) ∧ v = some (.int (-1002)) ∧ w = fx_w ad ty a g n) ∨ (ib x P ∧ (-1 ≤ y ∧ y ≤ nI B) ∧ ∃ N, LNS B y N ∧ ∃ (z : Nat → Nat → Int32) (u : Nat → Int32), THP P S T B a n N 20000 z u ∧ v = some (.int (nI (cnH z x 64))) ∧ w = fx_w ad ty z g u)) := by
  refine fc_start (own := RX5) (cc := cX5_holdings) (maxL := 5) (ret := (some .int)) (by decide) rfl (Nat.le_of_ble_eq_true rfl) rfl ?_
  intro p e s m args below meth c Q A C hmn E9
  obtain ⟨hn0, hP, hn1, hT, hn3, hS, hn4, hB, iLO, iBO, iWho, iSort, iQ, iN⟩ := id I
  have iX5 : ∀ w ∈ u_ws RX5 TX5 5, w ∈ wsX5_holdings := ptX5_holdings_wsX50
  have kX5_35 : Cond.fieldLink RX5 35 "FreeLand" "work" "LFreeLand$Work;" ∈ wsX5_holdings := ptX5_holdings_woX5_holdings _ (by decide +kernel)
  have kN130 : (RX5, 130, yX4_through) ∈ nw_M := (by decide +kernel)
  have kIX4 : Cond.initialized RX4 ∈ wsX5_holdings := ptX5_holdings_woX5_holdings _ (by decide +kernel)
  have kVX4_through : Cond.instanceMethod yX4_through ∈ wsX5_holdings := ptX5_holdings_woX5_holdings _ (by decide +kernel)
  have kSX4_through : Cond.selects RX4 yX4_through yX4_through ∈ wsX5_holdings := ptX5_holdings_woX5_holdings _ (by decide +kernel)
  have kN153 : (RX5, 153, yX4_holderOf) ∈ nw_M := (by decide +kernel)
  have kVX4_holderOf : Cond.instanceMethod yX4_holderOf ∈ wsX5_holdings := ptX5_holdings_woX5_holdings _ (by decide +kernel)
  have kSX4_holderOf : Cond.selects RX4 yX4_holderOf yX4_holderOf ∈ wsX5_holdings := ptX5_holdings_woX5_holdings _ (by decide +kernel)
  refine fj_lv (lv' := [(0, .ref (ad 0)), (1, .int x), (2, .int y)]) [0, 1, 2] rfl ?_
  refine fj_aload_n C 0 dX5_holdings_0 rfl rfl ?_
  refine fj_iload_n C 1 dX5_holdings_1 rfl rfl ?_
  refine fj_callVw (As := [.int x]) (rest := []) C (d_X5_isPerson l D ty t0 ad a g n P S T B I x) (cwV 1 C.2.2.2.2.1 gX5_holdings_X5_isPerson rfl rfl rfl (by decide +kernel) ⟨Nat.le_of_ble_eq_true rfl, Nat.le_of_ble_eq_true rfl⟩) ⟨0, 5, _, _, fx_at0 _ _ _ _ _, rfl, rfl⟩ rfl (Nat.le_of_ble_eq_true rfl) dX5_holdings_2 ⟨Nat.zero_le _, Nat.zero_le _⟩ (fun v9 w9 hp9 => ?_)
  obtain ⟨rfl, rfl⟩ := hp9
  refine fj_st (st' := .int (if ib x P then 1 else 0) :: []) rfl ?_
  refine fj_ifb_ne (tgt := 12) C dX5_holdings_5 (by decide) (fun h5 => ?_) (fun h5 => ?_)
  · refine fj_aload_n C 0 dX5_holdings_12 rfl rfl ?_
    refine fj_iload_n C 2 dX5_holdings_13 rfl rfl ?_
    refine fj_callVw (As := [.int y]) (rest := []) C (d_X5_isKnownBy l D ty t0 ad a g n P S T B I y) (cwV 1 C.2.2.2.2.1 gX5_holdings_X5_isKnownBy rfl rfl rfl (by decide +kernel) ⟨Nat.le_of_ble_eq_true rfl, Nat.le_of_ble_eq_true rfl⟩) ⟨0, 5, _, _, fx_at0 _ _ _ _ _, rfl, rfl⟩ rfl (Nat.le_of_ble_eq_true rfl) dX5_holdings_14 ⟨Nat.zero_le _, Nat.zero_le _⟩ (fun v9 w9 hp9 => ?_)
    obtain ⟨rfl, rfl⟩ := hp9
    refine fj_st (st' := .int (if (-1 ≤ y ∧ y ≤ nI B) then 1 else 0) :: []) rfl ?_
    refine fj_ifb_ne (tgt := 24) C dX5_holdings_17 (by decide) (fun h17 => ?_) (fun h17 => ?_)
    · refine fj_aload_n C 0 dX5_holdings_24 rfl rfl ?_
      refine fj_get (Cn := RX5) (T := TX5) (N := 5) (ci := 5) (v := .ref (ad 25)) C iX5 0 (fx_at0 _ _ _ _ _) rfl 3 (by decide) kX5_35 rfl dX5_holdings_25 ?_
      refine fj_aload_n C 0 dX5_holdings_28 rfl rfl ?_
      refine fj_iload_n C 2 dX5_holdings_29 rfl rfl ?_
      refine fj_callVw (As := [.int y]) (rest := [.ref (ad 25)]) C (d_X5_linesOf l D ty t0 ad a g n P S T B I y) (cwV 1 C.2.2.2.2.1 gX5_holdings_X5_linesOf rfl rfl rfl (by decide +kernel) ⟨Nat.le_of_ble_eq_true rfl, Nat.le_of_ble_eq_true rfl⟩) ⟨0, 5, _, _, fx_at0 _ _ _ _ _, rfl, rfl⟩ rfl (Nat.le_of_ble_eq_true rfl) dX5_holdings_30 ⟨Nat.zero_le _, Nat.zero_le _⟩ (fun v9 w9 hp9 => ?_)
      obtain ⟨rfl, rfl⟩ := hp9
      refine fj_st (st' := .int (if y = -1 then nI B else y) :: [.ref (ad 25)]) rfl ?_
      obtain ⟨N9, hN9⟩ := LNS_of h17 hB
      have hNB := hN9.1
      refine fj_at (y := nI N9) hN9.2 ?_
      refine fj_sipush (v := 20000) C dX5_holdings_33 (by decide) ?_
      refine fj_callVNw (As := [.int (nI N9), .int 20000]) (rest := []) C (d_X4_through l D ty t0 ad a g n P S T B I (nI N9) 20000) ⟨va_cnB 2 C.2.2.2.2.1 gX5_holdings_X4_through_n130 rfl rfl rfl (nw_m C.2.2.2.2.2.2.2.1 kN130) (C.2.2.2.2.1 _ kIX4) (by decide +kernel) ⟨Nat.le_of_ble_eq_true rfl, Nat.le_of_ble_eq_true rfl⟩, C.2.2.2.2.1 _ kVX4_through, C.2.2.2.2.1 _ kSX4_through⟩ ⟨25, 4, _, _, fx_at25 _ _ _ _ _, rfl, rfl⟩ rfl (Nat.le_of_ble_eq_true rfl) dX5_holdings_36 ⟨Nat.zero_le _, Nat.zero_le _⟩ (fun v9 w9 hp9 => ?_)
      obtain ⟨rfl, r9, z9, u9, hr9, hb9, hd9, hz9, hm9, hs9, I9, Wz9, rfl⟩ := hp9
      have T9 : THP P S T B a n N9 20000 z9 u9 := ⟨r9, hr9, hb9, hd9, hz9, hm9, hs9, I9, Wz9⟩
      obtain ⟨hn0, hP, hn1, hT, hn3, hS, hn4, hB, iLO, iBO, iWho, iSort, iQ, iN⟩ := id I9
      refine fj_st (st' := []) rfl ?_
      refine fj_iconst (v := 0) C dX5_holdings_39 (by decide) ?_
      refine fj_istore_n (lv' := [(3, .int 0), (0, .ref (ad 0)), (1, .int x), (2, .int y)]) C dX5_holdings_40 rfl (by decide) rfl ?_
      refine fj_iconst (v := 0) C dX5_holdings_41 (by decide) ?_
      refine fj_istore (lv' := [(4, .int 0), (3, .int 0), (0, .ref (ad 0)), (1, .int x), (2, .int y)]) C dX5_holdings_42 (by decide) rfl ?_
      refine fj_lv (lv' := [(0, .ref (ad 0)), (1, .int x), (2, .int y), (3, .int 0), (4, .int 0)]) [2, 3, 4, 1, 0] rfl ?_
      have lp44 : ∀ (i : Nat), (i ≤ 64) → fj p l e (fj_rm 5 122 0 0) s m args below meth c Q A D 5 0 0 (fx_w ad ty z9 g u9) [(0, .ref (ad 0)), (1, .int x), (2, .int y), (3, .int (nI (cnH z9 x i))), (4, .int (nI i))] 44 [] := by
        have key : ∀ zz : Nat, (fun (i : Nat) => (i ≤ 64) → fj p l e (fj_rm 5 122 0 0) s m args below meth c Q A D 5 0 0 (fx_w ad ty z9 g u9) [(0, .ref (ad 0)), (1, .int x), (2, .int y), (3, .int (nI (cnH z9 x i))), (4, .int (nI i))] 44 []) zz := by
          refine fx_ind (fun (i : Nat) => 64 - i) _ ?_
          rintro i ih hi
          refine fj_iload C 4 dX5_holdings_44 rfl ?_
          refine fj_bipush (v := 64) C dX5_holdings_46 (by decide) ?_
          refine fj_icmp_ge (tgt := 73) C dX5_holdings_48 (by decide) (fun h48 => ?_) (fun h48 => ?_)
          · obtain rfl : i = 64 := by have := (nI_leI (a := 64) (by decide) (by omega)).mp h48; omega
            refine fj_iload_n C 3 dX5_holdings_73 rfl rfl ?_
            exact fj_iret C E9 dX5_holdings_74 (Or.inr (Or.inr ⟨h5, h17, N9, hN9, z9, u9, T9, rfl, rfl⟩))
          · have hlt : i < 64 := Nat.lt_of_not_le fun q => h48 ((nI_leI (a := 64) (by decide) (by omega)).mpr q)
            refine fj_aload_n C 0 dX5_holdings_51 rfl rfl ?_
            refine fj_get (Cn := RX5) (T := TX5) (N := 5) (ci := 5) (v := .ref (ad 25)) C iX5 0 (fx_at0 _ _ _ _ _) rfl 3 (by decide) kX5_35 rfl dX5_holdings_52 ?_
            refine fj_iload C 4 dX5_holdings_55 rfl ?_
            refine fj_callVNw (As := [.int (nI i)]) (rest := []) C (d_X4_holderOf l D ty t0 ad z9 g u9 P S T B I9 (nI i) i rfl (by omega) Wz9) ⟨va_cnB 1 C.2.2.2.2.1 gX5_holdings_X4_holderOf_n153 rfl rfl rfl (nw_m C.2.2.2.2.2.2.2.1 kN153) (C.2.2.2.2.1 _ kIX4) (by decide +kernel) ⟨Nat.le_of_ble_eq_true rfl, Nat.le_of_ble_eq_true rfl⟩, C.2.2.2.2.1 _ kVX4_holderOf, C.2.2.2.2.1 _ kSX4_holderOf⟩ ⟨25, 4, _, _, fx_at25 _ _ _ _ _, rfl, rfl⟩ rfl (Nat.le_of_ble_eq_true rfl) dX5_holdings_57 ⟨Nat.zero_le _, Nat.zero_le _⟩ (fun v9 w9 hp9 => ?_)
            obtain ⟨rfl, rfl⟩ := hp9
            refine fj_st (st' := .int (if (z9 33) i = -1 then -1 else (z9 28) ((z9 33) i).toNatClampNeg) :: []) rfl ?_
            refine fj_at (y := HOL z9 i) rfl ?_
            refine fj_iload_n C 1 dX5_holdings_60 rfl rfl ?_
            refine fj_icmp_ne (tgt := 67) C dX5_holdings_61 (by decide) (fun h61 => ?_) (fun h61 => ?_)
            · refine fj_iinc (v := nI (i + 1)) (lv' := [(4, .int (nI (i + 1))), (0, .ref (ad 0)), (1, .int x), (2, .int y), (3, .int (nI (cnH z9 x i)))]) C 4 dX5_holdings_67 rfl (nI_1 i) (by decide) rfl ?_
              refine fj_goto (tgt := 44) C dX5_holdings_70 (by decide) ?_
              refine fj_lv (lv' := [(0, .ref (ad 0)), (1, .int x), (2, .int y), (3, .int (nI (cnH z9 x i))), (4, .int (nI (i + 1)))]) [1, 2, 3, 4, 0] rfl ?_
              refine fj_lv (lv' := [(0, .ref (ad 0)), (1, .int x), (2, .int y), (3, .int (nI (cnH z9 x (i + 1)))), (4, .int (nI (i + 1)))]) [0, 1, 2, 3, 4] (by rw [cnH_z h61]; rfl) ?_
              exact ih (i + 1) (by show 64 - (i + 1) < 64 - i; omega) (by omega)
            · refine fj_iinc (v := nI (cnH z9 x (i + 1))) (lv' := [(3, .int (nI (cnH z9 x (i + 1)))), (0, .ref (ad 0)), (1, .int x), (2, .int y), (4, .int (nI i))]) C 3 dX5_holdings_64 rfl (by rw [cnH_p h61]; exact nI_1 _) (by decide) rfl ?_
              refine fj_iinc (v := nI (i + 1)) (lv' := [(4, .int (nI (i + 1))), (3, .int (nI (cnH z9 x (i + 1)))), (0, .ref (ad 0)), (1, .int x), (2, .int y)]) C 4 dX5_holdings_67 rfl (nI_1 i) (by decide) rfl ?_
              refine fj_goto (tgt := 44) C dX5_holdings_70 (by decide) ?_
              refine fj_lv (lv' := [(0, .ref (ad 0)), (1, .int x), (2, .int y), (3, .int (nI (cnH z9 x (i + 1)))), (4, .int (nI (i + 1)))]) [2, 3, 4, 1, 0] rfl ?_
              exact ih (i + 1) (by show 64 - (i + 1) < 64 - i; omega) (by omega)
        intro i
        exact key i
      exact lp44 0 (Nat.zero_le _)
    · refine fj_sipush (v := (-1002)) C dX5_holdings_20 (by decide) ?_
      exact fj_iret C E9 dX5_holdings_23 (Or.inr (Or.inl ⟨h5, h17, rfl, rfl⟩))
  · refine fj_sipush (v := (-1001)) C dX5_holdings_8 (by decide) ?_
    exact fj_iret C E9 dX5_holdings_11 (Or.inl ⟨h5, rfl, rfl⟩)

set_option maxHeartbeats 4000000 in
set_option maxRecDepth 100000 in
theorem d_X5_digest (l : Launch) (D : va_G) (ty : Nat → ClassId) (t0 : Nat → Nat) (ad : Nat → Nat) (a : Nat → Nat → Int32) (g : Nat → Nat → Int64) (n : Nat → Int32) (P : Nat) (S : Nat) (T : Nat) (B : Nat) (I : XI P S T B a n) (x : Int32)  : fc l yX5_digest wsX5_digest (fj_rm 5 122 0 0) D ty t0 [.ref (ad 0), .int x] (fx_w ad ty a g n) 0 0 (fun v w => (¬ (-1 ≤ x ∧ x ≤ nI B) ∧ v = some (.int (-1002)) ∧ w = fx_w ad ty a g n) ∨ ((-1 ≤ x ∧ x ≤ nI B) ∧ ∃ N, LNS B x N ∧ ∃ (z : Nat → Nat → Int32) (u : Nat → Int32), THP P S T B a n N 20000 z u ∧ v = some (.int (dgF (HOL z) (dgF (z 26) 7 N) 64)) ∧ w = fx_w ad ty z g u)) := by
  refine fc_start (own := RX5) (cc := cX5_digest) (maxL := 5) (ret := (some .int)) (by decide) rfl (Nat.le_of_ble_eq_true rfl) rfl ?_
  intro p e s m args below meth c Q A C hmn E9
  obtain ⟨hn0, hP, hn1, hT, hn3, hS, hn4, hB, iLO, iBO, iWho, iSort, iQ, iN⟩ := id I
  have iX5 : ∀ w ∈ u_ws RX5 TX5 5, w ∈ wsX5_digest := ptX5_digest_wsX50
  have kX5_35 : Cond.fieldLink RX5 35 "FreeLand" "work" "LFreeLand$Work;" ∈ wsX5_digest := ptX5_digest_woX5_digest _ (by decide +kernel)
  have kN130 : (RX5, 130, yX4_through) ∈ nw_M := (by decide +kernel)
  have kIX4 : Cond.initialized RX4 ∈ wsX5_digest := ptX5_digest_woX5_digest _ (by decide +kernel)
  have kVX4_through : Cond.instanceMethod yX4_through ∈ wsX5_digest := ptX5_digest_woX5_digest _ (by decide +kernel)
  have kSX4_through : Cond.selects RX4 yX4_through yX4_through ∈ wsX5_digest := ptX5_digest_woX5_digest _ (by decide +kernel)
  have kN153 : (RX5, 153, yX4_holderOf) ∈ nw_M := (by decide +kernel)
  have kVX4_holderOf : Cond.instanceMethod yX4_holderOf ∈ wsX5_digest := ptX5_digest_woX5_digest _ (by decide +kernel)
  have kSX4_holderOf : Cond.selects RX4 yX4_holderOf yX4_holderOf ∈ wsX5_digest := ptX5_digest_woX5_digest _ (by decide +kernel)
  have iX4 : ∀ w ∈ u_ws RX4 TX4 18, w ∈ wsX5_digest := ptX5_digest_wsX40
  have kX5_134 : (RX5, 134, "FreeLand$Work", "result", "[I") ∈ nw_F := (by decide +kernel)
  refine fj_lv (lv' := [(0, .ref (ad 0)), (1, .int x)]) [0, 1] rfl ?_
  refine fj_aload_n C 0 dX5_digest_0 rfl rfl ?_
  refine fj_iload_n C 1 dX5_digest_1 rfl rfl ?_
  refine fj_callVw (As := [.int x]) (rest := []) C (d_X5_isKnownBy l D ty t0 ad a g n P S T B I x) (cwV 1 C.2.2.2.2.1 gX5_digest_X5_isKnownBy rfl rfl rfl (by decide +kernel) ⟨Nat.le_of_ble_eq_true rfl, Nat.le_of_ble_eq_true rfl⟩) ⟨0, 5, _, _, fx_at0 _ _ _ _ _, rfl, rfl⟩ rfl (Nat.le_of_ble_eq_true rfl) dX5_digest_2 ⟨Nat.zero_le _, Nat.zero_le _⟩ (fun v9 w9 hp9 => ?_)
  obtain ⟨rfl, rfl⟩ := hp9
  refine fj_st (st' := .int (if (-1 ≤ x ∧ x ≤ nI B) then 1 else 0) :: []) rfl ?_
  refine fj_ifb_ne (tgt := 12) C dX5_digest_5 (by decide) (fun h5 => ?_) (fun h5 => ?_)
  · refine fj_aload_n C 0 dX5_digest_12 rfl rfl ?_
    refine fj_iload_n C 1 dX5_digest_13 rfl rfl ?_
    refine fj_callVw (As := [.int x]) (rest := []) C (d_X5_linesOf l D ty t0 ad a g n P S T B I x) (cwV 1 C.2.2.2.2.1 gX5_digest_X5_linesOf rfl rfl rfl (by decide +kernel) ⟨Nat.le_of_ble_eq_true rfl, Nat.le_of_ble_eq_true rfl⟩) ⟨0, 5, _, _, fx_at0 _ _ _ _ _, rfl, rfl⟩ rfl (Nat.le_of_ble_eq_true rfl) dX5_digest_14 ⟨Nat.zero_le _, Nat.zero_le _⟩ (fun v9 w9 hp9 => ?_)
    obtain ⟨rfl, rfl⟩ := hp9
    refine fj_st (st' := .int (if x = -1 then nI B else x) :: []) rfl ?_
    obtain ⟨N9, hN9⟩ := LNS_of h5 hB
    have hNB := hN9.1
    refine fj_at (y := nI N9) hN9.2 ?_
    refine fj_istore_n (lv' := [(2, .int (nI N9)), (0, .ref (ad 0)), (1, .int x)]) C dX5_digest_17 rfl (by decide) rfl ?_
    refine fj_aload_n C 1 dX5_digest_18 rfl rfl ?_
    refine fj_get (Cn := RX5) (T := TX5) (N := 5) (ci := 5) (v := .ref (ad 25)) C iX5 0 (fx_at0 _ _ _ _ _) rfl 3 (by decide) kX5_35 rfl dX5_digest_19 ?_
    refine fj_iload_n C 0 dX5_digest_22 rfl rfl ?_
    refine fj_sipush (v := 20000) C dX5_digest_23 (by decide) ?_
    refine fj_callVNw (As := [.int (nI N9), .int 20000]) (rest := []) C (d_X4_through l D ty t0 ad a g n P S T B I (nI N9) 20000) ⟨va_cnB 2 C.2.2.2.2.1 gX5_digest_X4_through_n130 rfl rfl rfl (nw_m C.2.2.2.2.2.2.2.1 kN130) (C.2.2.2.2.1 _ kIX4) (by decide +kernel) ⟨Nat.le_of_ble_eq_true rfl, Nat.le_of_ble_eq_true rfl⟩, C.2.2.2.2.1 _ kVX4_through, C.2.2.2.2.1 _ kSX4_through⟩ ⟨25, 4, _, _, fx_at25 _ _ _ _ _, rfl, rfl⟩ rfl (Nat.le_of_ble_eq_true rfl) dX5_digest_26 ⟨Nat.zero_le _, Nat.zero_le _⟩ (fun v9 w9 hp9 => ?_)
    obtain ⟨rfl, r9, z9, u9, hr9, hb9, hd9, hz9, hm9, hs9, I9, Wz9, rfl⟩ := hp9
    have T9 : THP P S T B a n N9 20000 z9 u9 := ⟨r9, hr9, hb9, hd9, hz9, hm9, hs9, I9, Wz9⟩
    obtain ⟨hn0, hP, hn1, hT, hn3, hS, hn4, hB, iLO, iBO, iWho, iSort, iQ, iN⟩ := id I9
    refine fj_st (st' := []) rfl ?_
    refine fj_bipush (v := 7) C dX5_digest_29 (by decide) ?_
    refine fj_istore_n (lv' := [(3, .int 7), (2, .int (nI N9)), (0, .ref (ad 0)), (1, .int x)]) C dX5_digest_31 rfl (by decide) rfl ?_
    refine fj_iconst (v := 0) C dX5_digest_32 (by decide) ?_
    refine fj_istore (lv' := [(4, .int 0), (3, .int 7), (2, .int (nI N9)), (0, .ref (ad 0)), (1, .int x)]) C dX5_digest_33 (by decide) rfl ?_
    refine fj_lv (lv' := [(0, .ref (ad 0)), (1, .int x), (2, .int (nI N9)), (3, .int 7), (4, .int 0)]) [3, 4, 2, 1, 0] rfl ?_
    have lp35 : ∀ (i : Nat), (i ≤ N9) → fj p l e (fj_rm 5 122 0 0) s m args below meth c Q A D 5 0 0 (fx_w ad ty z9 g u9) [(0, .ref (ad 0)), (1, .int x), (2, .int (nI N9)), (3, .int (dgF (z9 26) 7 i)), (4, .int (nI i))] 35 [] := by
      have key : ∀ zz : Nat, (fun (i : Nat) => (i ≤ N9) → fj p l e (fj_rm 5 122 0 0) s m args below meth c Q A D 5 0 0 (fx_w ad ty z9 g u9) [(0, .ref (ad 0)), (1, .int x), (2, .int (nI N9)), (3, .int (dgF (z9 26) 7 i)), (4, .int (nI i))] 35 []) zz := by
        refine fx_ind (fun (i : Nat) => N9 - i) _ ?_
        rintro i ih hi
        refine fj_iload C 4 dX5_digest_35 rfl ?_
        refine fj_iload_n C 2 dX5_digest_37 rfl rfl ?_
        refine fj_icmp_ge (tgt := 63) C dX5_digest_38 (by decide) (fun h38 => ?_) (fun h38 => ?_)
        · obtain rfl : N9 = i := by have := (nI_leI (a := N9) (by omega) (by omega)).mp h38; omega
          refine fj_iconst (v := 0) C dX5_digest_63 (by decide) ?_
          refine fj_istore (lv' := [(4, .int 0), (0, .ref (ad 0)), (1, .int x), (2, .int (nI N9)), (3, .int (dgF (z9 26) 7 N9))]) C dX5_digest_64 (by decide) rfl ?_
          refine fj_lv (lv' := [(0, .ref (ad 0)), (1, .int x), (2, .int (nI N9)), (3, .int (dgF (z9 26) 7 N9)), (4, .int 0)]) [1, 2, 3, 4, 0] rfl ?_
          have lp66 : ∀ (i2 : Nat), (i2 ≤ 64) → fj p l e (fj_rm 5 122 0 0) s m args below meth c Q A D 5 0 0 (fx_w ad ty z9 g u9) [(0, .ref (ad 0)), (1, .int x), (2, .int (nI N9)), (3, .int (dgF (HOL z9) (dgF (z9 26) 7 N9) i2)), (4, .int (nI i2))] 66 [] := by
            have key : ∀ zz : Nat, (fun (i2 : Nat) => (i2 ≤ 64) → fj p l e (fj_rm 5 122 0 0) s m args below meth c Q A D 5 0 0 (fx_w ad ty z9 g u9) [(0, .ref (ad 0)), (1, .int x), (2, .int (nI N9)), (3, .int (dgF (HOL z9) (dgF (z9 26) 7 N9) i2)), (4, .int (nI i2))] 66 []) zz := by
              refine fx_ind (fun (i2 : Nat) => 64 - i2) _ ?_
              rintro i2 ih hi2
              refine fj_iload C 4 dX5_digest_66 rfl ?_
              refine fj_bipush (v := 64) C dX5_digest_68 (by decide) ?_
              refine fj_icmp_ge (tgt := 94) C dX5_digest_70 (by decide) (fun h70 => ?_) (fun h70 => ?_)
              · obtain rfl : i2 = 64 := by have := (nI_leI (a := 64) (by decide) (by omega)).mp h70; omega
                refine fj_iload_n C 3 dX5_digest_94 rfl rfl ?_
                exact fj_iret C E9 dX5_digest_95 (Or.inr ⟨h5, N9, hN9, z9, u9, T9, rfl, rfl⟩)
              · have hlt : i2 < 64 := Nat.lt_of_not_le fun q => h70 ((nI_leI (a := 64) (by decide) (by omega)).mpr q)
                refine fj_bipush (v := 31) C dX5_digest_73 (by decide) ?_
                refine fj_iload_n C 3 dX5_digest_75 rfl rfl ?_
                refine fj_imul C dX5_digest_76 ?_
                refine fj_aload_n C 0 dX5_digest_77 rfl rfl ?_
                refine fj_get (Cn := RX5) (T := TX5) (N := 5) (ci := 5) (v := .ref (ad 25)) C iX5 0 (fx_at0 _ _ _ _ _) rfl 3 (by decide) kX5_35 rfl dX5_digest_78 ?_
                refine fj_iload C 4 dX5_digest_81 rfl ?_
                refine fj_callVNw (As := [.int (nI i2)]) (rest := [.int (31 * (dgF (HOL z9) (dgF (z9 26) 7 N9) i2))]) C (d_X4_holderOf l D ty t0 ad z9 g u9 P S T B I9 (nI i2) i2 rfl (by omega) Wz9) ⟨va_cnB 1 C.2.2.2.2.1 gX5_digest_X4_holderOf_n153 rfl rfl rfl (nw_m C.2.2.2.2.2.2.2.1 kN153) (C.2.2.2.2.1 _ kIX4) (by decide +kernel) ⟨Nat.le_of_ble_eq_true rfl, Nat.le_of_ble_eq_true rfl⟩, C.2.2.2.2.1 _ kVX4_holderOf, C.2.2.2.2.1 _ kSX4_holderOf⟩ ⟨25, 4, _, _, fx_at25 _ _ _ _ _, rfl, rfl⟩ rfl (Nat.le_of_ble_eq_true rfl) dX5_digest_83 ⟨Nat.zero_le _, Nat.zero_le _⟩ (fun v9 w9 hp9 => ?_)
                obtain ⟨rfl, rfl⟩ := hp9
                refine fj_st (st' := .int (if (z9 33) i2 = -1 then -1 else (z9 28) ((z9 33) i2).toNatClampNeg) :: [.int (31 * (dgF (HOL z9) (dgF (z9 26) 7 N9) i2))]) rfl ?_
                refine fj_at (y := HOL z9 i2) rfl ?_
                refine fj_iadd C dX5_digest_86 ?_
                refine fj_at (y := dgF (HOL z9) (dgF (z9 26) 7 N9) (i2 + 1)) rfl ?_
                refine fj_istore_n (lv' := [(3, .int (dgF (HOL z9) (dgF (z9 26) 7 N9) (i2 + 1))), (0, .ref (ad 0)), (1, .int x), (2, .int (nI N9)), (4, .int (nI i2))]) C dX5_digest_87 rfl (by decide) rfl ?_
                refine fj_iinc (v := nI (i2 + 1)) (lv' := [(4, .int (nI (i2 + 1))), (3, .int (dgF (HOL z9) (dgF (z9 26) 7 N9) (i2 + 1))), (0, .ref (ad 0)), (1, .int x), (2, .int (nI N9))]) C 4 dX5_digest_88 rfl (nI_1 i2) (by decide) rfl ?_
                refine fj_goto (tgt := 66) C dX5_digest_91 (by decide) ?_
                refine fj_lv (lv' := [(0, .ref (ad 0)), (1, .int x), (2, .int (nI N9)), (3, .int (dgF (HOL z9) (dgF (z9 26) 7 N9) (i2 + 1))), (4, .int (nI (i2 + 1)))]) [2, 3, 4, 1, 0] rfl ?_
                exact ih (i2 + 1) (by show 64 - (i2 + 1) < 64 - i2; omega) (by omega)
            intro i2
            exact key i2
          exact lp66 0 (Nat.zero_le _)
        · have hlt9 : i < N9 := Nat.lt_of_not_le fun q => h38 ((nI_leI (a := N9) (by omega) (by omega)).mpr q)
          refine fj_bipush (v := 31) C dX5_digest_41 (by decide) ?_
          refine fj_iload_n C 3 dX5_digest_43 rfl rfl ?_
          refine fj_imul C dX5_digest_44 ?_
          refine fj_aload_n C 0 dX5_digest_45 rfl rfl ?_
          refine fj_get (Cn := RX5) (T := TX5) (N := 5) (ci := 5) (v := .ref (ad 25)) C iX5 0 (fx_at0 _ _ _ _ _) rfl 3 (by decide) kX5_35 rfl dX5_digest_46 ?_
          refine fj_getN (Cn := RX4) (T := TX4) (N := 18) (ci := 4) (v := .ref (ad 26)) C iX4 25 (fx_at25 _ _ _ _ _) rfl 4 (by decide) kX5_134 rfl dX5_digest_49 ?_
          refine fj_iload C 4 dX5_digest_52 rfl ?_
          refine fj_iald (f := (z9 26)) C 26 (fx_at26 _ _ _ _ _) (vp_in_nI (by omega) (by decide)) dX5_digest_54 ?_
          refine fj_at (y := z9 26 i) (by rw [nI_clamp (by omega)]) ?_
          refine fj_iadd C dX5_digest_55 ?_
          refine fj_at (y := dgF (z9 26) 7 (i + 1)) rfl ?_
          refine fj_istore_n (lv' := [(3, .int (dgF (z9 26) 7 (i + 1))), (0, .ref (ad 0)), (1, .int x), (2, .int (nI N9)), (4, .int (nI i))]) C dX5_digest_56 rfl (by decide) rfl ?_
          refine fj_iinc (v := nI (i + 1)) (lv' := [(4, .int (nI (i + 1))), (3, .int (dgF (z9 26) 7 (i + 1))), (0, .ref (ad 0)), (1, .int x), (2, .int (nI N9))]) C 4 dX5_digest_57 rfl (nI_1 i) (by decide) rfl ?_
          refine fj_goto (tgt := 35) C dX5_digest_60 (by decide) ?_
          refine fj_lv (lv' := [(0, .ref (ad 0)), (1, .int x), (2, .int (nI N9)), (3, .int (dgF (z9 26) 7 (i + 1))), (4, .int (nI (i + 1)))]) [2, 3, 4, 1, 0] rfl ?_
          exact ih (i + 1) (by show N9 - (i + 1) < N9 - i; omega) (by omega)
      intro i
      exact key i
    exact lp35 0 (Nat.zero_le _)
  · refine fj_sipush (v := (-1002)) C dX5_digest_8 (by decide) ?_
    exact fj_iret C E9 dX5_digest_11 (Or.inl ⟨h5, rfl, rfl⟩)
