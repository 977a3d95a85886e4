def ar4 (f : Nat → Int64) (x0 x1 x2 x3 : Int32) : Nat → Int64 := vp_updL (vp_updL (vp_updL (vp_updL f 0 x0.toInt64) 1 x1.toInt64) 2 x2.toInt64) 3 x3.toInt64
/-- twice the area of a polygon of four corners, as the class sums it -/
def cs4 (X Y : Nat → Int64) : Int64 := 0 + (X 0 * Y 1 - X 1 * Y 0) + (X 1 * Y 2 - X 2 * Y 1) + (X 2 * Y 3 - X 3 * Y 2) + (X 3 * Y 0 - X 0 * Y 3)
theorem q_div : ∀ k, k < 64 → nI k / 8 = nI (k / 8) := by decide +kernel
theorem q_mod : ∀ k, k < 64 → nI k - nI k / 8 * 8 = nI (k % 8) := by decide +kernel
theorem fx_le8 {x : Int32} {N : Nat} {y : Int32} (h : 0 ≤ x ∧ x ≤ y) (hy : y = nI N) (hN : N + 1 < 2 ^ 31) : ∃ k, k ≤ N ∧ x = nI k := by
  subst hy
  obtain ⟨k, hk, e⟩ := vp_in_of (vp_in_iff.mpr (show 0 ≤ x.toInt ∧ x.toInt < ((N + 1 : Nat) : Int) by
    have a := Int32.le_iff_toInt_le.mp h.1
    have b := Int32.le_iff_toInt_le.mp h.2
    rw [nI_toInt (by omega)] at b
    have c : (0 : Int32).toInt = 0 := by decide
    omega)) hN
  exact ⟨k, by omega, e⟩
theorem fx_two {q : Int32} (h : 0 ≤ q ∧ q ≤ 2) (h0 : ¬ (0 : Int) = q.toInt) (h1 : ¬ (1 : Int) = q.toInt) : q = 2 := by
  have a := Int32.le_iff_toInt_le.mp h.1
  have b := Int32.le_iff_toInt_le.mp h.2
  have a0 : (0 : Int32).toInt = 0 := by decide
  have b0 : (2 : Int32).toInt = 2 := by decide
  exact Int32.toInt_inj.mp (by omega)
set_option maxHeartbeats 4000000 in
set_option maxRecDepth 100000 in
theorem d_X1_find (l : Launch) (D : va_G) (ty : Nat → ClassId) (t0 : Nat → Nat) (ad : Nat → Nat) (a : Nat → Nat → Int32) (g : Nat → Nat → Int64) (n : Nat → Int32)  (x : Int32) (y : Int32) (ci : Nat) (cj : Nat) (ec : x = nI ci) (ej : y = nI cj) (hci : ci ≤ 8) (hcj : cj ≤ 8) : fc l yX1_find wsX1_find (fj_rm 1 28 0 0) D ty t0 [.ref (ad 38), .int x, .int y] (fx_w ad ty a g n) 0 0 (fun v w => (∃ x y, LIE (a 39) (a 40) (a 41) ci cj x y ∧ v = some (.int 1) ∧ w = fx_w ad ty a g (va_up (va_up n 8 x) 9 y)) ∨ (NOL (a 39) ci cj ∧ v = some (.int 0) ∧ w = fx_w ad ty a g n)) := by
  subst ec ej
  refine fc_start (own := RX1) (cc := cX1_find) (maxL := 4) (ret := (some .boolean)) (by decide) rfl (Nat.le_of_ble_eq_true rfl) rfl ?_
  intro p e s m args below meth c Q A C hmn E9
  have iX1 : ∀ w ∈ u_ws RX1 TX1 7, w ∈ wsX1_find := ptX1_find_wsX10
  have kX1_9 : Cond.fieldLink RX1 9 "FreeLand$Corners" "known" "[Z" ∈ wsX1_find := ptX1_find_woX1_find _ (by decide +kernel)
  have kX1_13 : Cond.fieldLink RX1 13 "FreeLand$Corners" "x" "[I" ∈ wsX1_find := ptX1_find_woX1_find _ (by decide +kernel)
  have kX1_31 : Cond.fieldLink RX1 31 "FreeLand$Corners" "foundX" "I" ∈ wsX1_find := ptX1_find_woX1_find _ (by decide +kernel)
  have kX1_17 : Cond.fieldLink RX1 17 "FreeLand$Corners" "y" "[I" ∈ wsX1_find := ptX1_find_woX1_find _ (by decide +kernel)
  have kX1_35 : Cond.fieldLink RX1 35 "FreeLand$Corners" "foundY" "I" ∈ wsX1_find := ptX1_find_woX1_find _ (by decide +kernel)
  refine fj_lv (lv' := [(0, .ref (ad 38)), (1, .int (nI ci)), (2, .int (nI cj))]) [0, 1, 2] rfl ?_
  refine fj_bipush (v := 9) C dX1_find_0 (by decide) ?_
  refine fj_iload_n C 2 dX1_find_2 rfl rfl ?_
  refine fj_imul C dX1_find_3 ?_
  refine fj_at (y := nI (9 * cj)) (pk_mul 9 cj) ?_
  refine fj_iload_n C 1 dX1_find_4 rfl rfl ?_
  refine fj_iadd C dX1_find_5 ?_
  refine fj_at (y := nI (9 * cj + ci)) (nI_add (9 * cj) ci) ?_
  refine fj_istore_n (lv' := [(3, .int (nI (9 * cj + ci))), (0, .ref (ad 38)), (1, .int (nI ci)), (2, .int (nI cj))]) C dX1_find_6 rfl (by decide) rfl ?_
  refine fj_aload_n C 1 dX1_find_7 rfl rfl ?_
  refine fj_get (Cn := RX1) (T := TX1) (N := 7) (ci := 1) (v := .ref (ad 39)) C iX1 38 (fx_at38 _ _ _ _ _) rfl 0 (by decide) kX1_9 rfl dX1_find_8 ?_
  refine fj_iload_n C 0 dX1_find_11 rfl rfl ?_
  refine fj_zald (f := (a 39)) C 39 (fx_at39 _ _ _ _ _) (vp_in_nI (by omega) (by decide)) dX1_find_12 ?_
  refine fj_at (y := a 39 (9 * cj + ci)) (by rw [nI_clamp (by omega)]) ?_
  refine fj_if_eq (tgt := 46) C dX1_find_13 (by decide) (fun h13 => ?_) (fun h13 => ?_)
  · refine fj_aload_n C 1 dX1_find_46 rfl rfl ?_
    refine fj_iload_n C 0 dX1_find_47 rfl rfl ?_
    refine fj_iload_n C 2 dX1_find_48 rfl rfl ?_
    refine fj_iconst (v := 1) C dX1_find_49 (by decide) ?_
    refine fj_callVw (As := [.int (nI (9 * cj + ci)), .int (nI ci), .int 1]) (rest := []) C (d_X1_findBetween l D ty t0 ad a g n (nI (9 * cj + ci)) (nI ci) 1 (9 * cj + ci) ci 1 rfl rfl rfl (by omega) (by omega) (by omega) (by decide)) (cwV 3 C.2.2.2.2.1 gX1_find_X1_findBetween rfl rfl rfl (by decide +kernel) ⟨Nat.le_of_ble_eq_true rfl, Nat.le_of_ble_eq_true rfl⟩) ⟨38, 1, _, _, fx_at38 _ _ _ _ _, rfl, rfl⟩ rfl (Nat.le_of_ble_eq_true rfl) dX1_find_50 ⟨Nat.zero_le _, Nat.zero_le _⟩ (fun v9 w9 hp9 => ?_)
    rcases hp9 with ⟨b1, o1, F1, rfl, rfl⟩ | ⟨F1, rfl, rfl⟩
    · refine fj_st (st' := .int 1 :: []) rfl ?_
      refine fj_ws (ws' := (fx_w ad ty a g (va_up (va_up n 8 (fbv (a 40) (9 * cj + ci) 1 b1 o1)) 9 (fbv (a 41) (9 * cj + ci) 1 b1 o1)))) rfl ?_
      refine fj_if_ne (tgt := 67) C dX1_find_53 (by decide) (fun _ => ?_) (fun h => absurd h (by decide))
      refine fj_iconst (v := 1) C dX1_find_67 (by decide) ?_
      refine fj_goto (tgt := 72) C dX1_find_68 (by decide) ?_
      exact fj_zret C E9 rfl dX1_find_72 (by first | exact Or.inr ⟨⟨h13, F1, F9⟩, rfl, rfl⟩ | exact Or.inl ⟨_, _, Or.inr (Or.inl ⟨h13, b1, o1, F1, rfl, rfl⟩), rfl, rfl⟩ | exact Or.inl ⟨_, _, Or.inr (Or.inr ⟨h13, F1, b9, o9, F9, rfl, rfl⟩), rfl, rfl⟩)
    · refine fj_st (st' := .int 0 :: []) rfl ?_
      refine fj_if_ne (tgt := 67) C dX1_find_53 (by decide) (fun h => absurd (by decide) h) (fun _ => ?_)
      refine fj_aload_n C 1 dX1_find_56 rfl rfl ?_
      refine fj_iload_n C 0 dX1_find_57 rfl rfl ?_
      refine fj_iload_n C 3 dX1_find_58 rfl rfl ?_
      refine fj_bipush (v := 9) C dX1_find_59 (by decide) ?_
      refine fj_callVw (As := [.int (nI (9 * cj + ci)), .int (nI cj), .int 9]) (rest := []) C (d_X1_findBetween l D ty t0 ad a g n (nI (9 * cj + ci)) (nI cj) 9 (9 * cj + ci) cj 9 rfl rfl rfl (by omega) (by omega) (by omega) (by decide)) (cwV 3 C.2.2.2.2.1 gX1_find_X1_findBetween rfl rfl rfl (by decide +kernel) ⟨Nat.le_of_ble_eq_true rfl, Nat.le_of_ble_eq_true rfl⟩) ⟨38, 1, _, _, fx_at38 _ _ _ _ _, rfl, rfl⟩ rfl (Nat.le_of_ble_eq_true rfl) dX1_find_61 ⟨Nat.zero_le _, Nat.zero_le _⟩ (fun v9 w9 hp9 => ?_)
      rcases hp9 with ⟨b9, o9, F9, rfl, rfl⟩ | ⟨F9, rfl, rfl⟩
      · refine fj_st (st' := .int 1 :: []) rfl ?_
        refine fj_ws (ws' := (fx_w ad ty a g (va_up (va_up n 8 (fbv (a 40) (9 * cj + ci) 9 b9 o9)) 9 (fbv (a 41) (9 * cj + ci) 9 b9 o9)))) rfl ?_
        refine fj_if_eq (tgt := 71) C dX1_find_64 (by decide) (fun h => absurd h (by decide)) (fun _ => ?_)
        refine fj_iconst (v := 1) C dX1_find_67 (by decide) ?_
        refine fj_goto (tgt := 72) C dX1_find_68 (by decide) ?_
        exact fj_zret C E9 rfl dX1_find_72 (by first | exact Or.inr ⟨⟨h13, F1, F9⟩, rfl, rfl⟩ | exact Or.inl ⟨_, _, Or.inr (Or.inl ⟨h13, b1, o1, F1, rfl, rfl⟩), rfl, rfl⟩ | exact Or.inl ⟨_, _, Or.inr (Or.inr ⟨h13, F1, b9, o9, F9, rfl, rfl⟩), rfl, rfl⟩)
      · refine fj_st (st' := .int 0 :: []) rfl ?_
        refine fj_if_eq (tgt := 71) C dX1_find_64 (by decide) (fun _ => ?_) (fun h => absurd (by decide) h)
        refine fj_iconst (v := 0) C dX1_find_71 (by decide) ?_
        exact fj_zret C E9 rfl dX1_find_72 (by first | exact Or.inr ⟨⟨h13, F1, F9⟩, rfl, rfl⟩ | exact Or.inl ⟨_, _, Or.inr (Or.inl ⟨h13, b1, o1, F1, rfl, rfl⟩), rfl, rfl⟩ | exact Or.inl ⟨_, _, Or.inr (Or.inr ⟨h13, F1, b9, o9, F9, rfl, rfl⟩), rfl, rfl⟩)
  · refine fj_aload_n C 1 dX1_find_16 rfl rfl ?_
    refine fj_sipush (v := 840) C dX1_find_17 (by decide) ?_
    refine fj_aload_n C 1 dX1_find_20 rfl rfl ?_
    refine fj_get (Cn := RX1) (T := TX1) (N := 7) (ci := 1) (v := .ref (ad 40)) C iX1 38 (fx_at38 _ _ _ _ _) rfl 1 (by decide) kX1_13 rfl dX1_find_21 ?_
    refine fj_iload_n C 0 dX1_find_24 rfl rfl ?_
    refine fj_iald (f := (a 40)) C 40 (fx_at40 _ _ _ _ _) (vp_in_nI (by omega) (by decide)) dX1_find_25 ?_
    refine fj_at (y := a 40 (9 * cj + ci)) (by rw [nI_clamp (by omega)]) ?_
    refine fj_imul C dX1_find_26 ?_
    refine fj_put (Cn := RX1) (T := TX1) (N := 7) (ci := 1) C iX1 tyX1 tyX1_ok nmX1 38 (fx_at38 _ _ _ _ _) rfl 3 (by decide) kX1_31 rfl rfl rfl (Nat.le_of_ble_eq_true rfl) dX1_find_27 (fx_si38_3 _ _ _ _ _ _) ?_
    refine fj_aload_n C 1 dX1_find_30 rfl rfl ?_
    refine fj_sipush (v := 840) C dX1_find_31 (by decide) ?_
    refine fj_aload_n C 1 dX1_find_34 rfl rfl ?_
    refine fj_get (Cn := RX1) (T := TX1) (N := 7) (ci := 1) (v := .ref (ad 41)) C iX1 38 (fx_at38 _ _ _ _ _) rfl 2 (by decide) kX1_17 rfl dX1_find_35 ?_
    refine fj_iload_n C 0 dX1_find_38 rfl rfl ?_
    refine fj_iald (f := (a 41)) C 41 (fx_at41 _ _ _ _ _) (vp_in_nI (by omega) (by decide)) dX1_find_39 ?_
    refine fj_at (y := a 41 (9 * cj + ci)) (by rw [nI_clamp (by omega)]) ?_
    refine fj_imul C dX1_find_40 ?_
    refine fj_put (Cn := RX1) (T := TX1) (N := 7) (ci := 1) C iX1 tyX1 tyX1_ok nmX1 38 (fx_at38 _ _ _ _ _) rfl 4 (by decide) kX1_35 rfl rfl rfl (Nat.le_of_ble_eq_true rfl) dX1_find_41 (fx_si38_4 _ _ _ _ _ _) ?_
    refine fj_iconst (v := 1) C dX1_find_44 (by decide) ?_
    exact fj_zret C E9 rfl dX1_find_45 (Or.inl ⟨_, _, Or.inl ⟨h13, rfl, rfl⟩, rfl, rfl⟩)

set_option maxHeartbeats 4000000 in
set_option maxRecDepth 100000 in
theorem d_X1_findAround (l : Launch) (D : va_G) (ty : Nat → ClassId) (t0 : Nat → Nat) (ad : Nat → Nat) (a : Nat → Nat → Int32) (g : Nat → Nat → Int64) (n : Nat → Int32)  (x : Int32) (y : Int32) (ci : Nat) (cj : Nat) (ec : x = nI ci) (ej : y = nI cj) (hci : ci ≤ 7) (hcj : cj ≤ 7) : fc l yX1_findAround wsX1_findAround (fj_rm 2 51 0 0) D ty t0 [.ref (ad 38), .int x, .int y] (fx_w ad ty a g n) 0 0 (fun v w => (∃ x0 y0 x1 y1 x2 y2 x3 y3, LIE (a 39) (a 40) (a 41) ci cj x0 y0 ∧ LIE (a 39) (a 40) (a 41) (ci + 1) cj x1 y1 ∧ LIE (a 39) (a 40) (a 41) (ci + 1) (cj + 1) x2 y2 ∧ LIE (a 39) (a 40) (a 41) ci (cj + 1) x3 y3 ∧ v = some (.int 1) ∧ w = fx_w ad ty a (va_up (va_up g 42 (ar4 (g 42) x0 x1 x2 x3)) 43 (ar4 (g 43) y0 y1 y2 y3)) (va_up (va_up n 8 x3) 9 y3)) ∨ (∃ x y G, (NOL (a 39) ci cj ∨ NOL (a 39) (ci + 1) cj ∨ NOL (a 39) (ci + 1) (cj + 1) ∨ NOL (a 39) ci (cj + 1)) ∧ v = some (.int 0) ∧ w = fx_w ad ty a G (va_up (va_up n 8 x) 9 y))) := by
  subst ec ej
  refine fc_start (own := RX1) (cc := cX1_findAround) (maxL := 6) (ret := (some .boolean)) (by decide) rfl (Nat.le_of_ble_eq_true rfl) rfl ?_
  intro p e s m args below meth c Q A C hmn E9
  have iX1 : ∀ w ∈ u_ws RX1 TX1 7, w ∈ wsX1_findAround := ptX1_findAround_wsX10
  have kX1_20 : Cond.fieldLink RX1 20 "FreeLand$Corners" "aroundX" "[J" ∈ wsX1_findAround := ptX1_findAround_woX1_findAround _ (by decide +kernel)
  have kX1_31 : Cond.fieldLink RX1 31 "FreeLand$Corners" "foundX" "I" ∈ wsX1_findAround := ptX1_findAround_woX1_findAround _ (by decide +kernel)
  have kX1_24 : Cond.fieldLink RX1 24 "FreeLand$Corners" "aroundY" "[J" ∈ wsX1_findAround := ptX1_findAround_woX1_findAround _ (by decide +kernel)
  have kX1_35 : Cond.fieldLink RX1 35 "FreeLand$Corners" "foundY" "I" ∈ wsX1_findAround := ptX1_findAround_woX1_findAround _ (by decide +kernel)
  refine fj_lv (lv' := [(0, .ref (ad 38)), (1, .int (nI ci)), (2, .int (nI cj))]) [0, 1, 2] rfl ?_
  refine fj_iconst (v := 0) C dX1_findAround_0 (by decide) ?_
  refine fj_istore_n (lv' := [(3, .int 0), (0, .ref (ad 38)), (1, .int (nI ci)), (2, .int (nI cj))]) C dX1_findAround_1 rfl (by decide) rfl ?_
  refine fj_iload_n C 0 dX1_findAround_2 rfl rfl ?_
  refine fj_iconst (v := 4) C dX1_findAround_3 (by decide) ?_
  refine fj_icmp_ge (tgt := 81) C dX1_findAround_4 (by decide) (fun h => absurd h (by decide)) (fun _ => ?_)
  refine fj_iload_n C 0 dX1_findAround_7 rfl rfl ?_
  refine fj_iconst (v := 1) C dX1_findAround_8 (by decide) ?_
  refine fj_icmp_eq (tgt := 17) C dX1_findAround_9 (by decide) (fun h => absurd h (by decide)) (fun _ => ?_)
  refine fj_iload_n C 0 dX1_findAround_12 rfl rfl ?_
  refine fj_iconst (v := 2) C dX1_findAround_13 (by decide) ?_
  refine fj_icmp_ne (tgt := 21) C dX1_findAround_14 (by decide) (fun _ => ?_) (fun h => absurd h (by decide))
  refine fj_iconst (v := 0) C dX1_findAround_21 (by decide) ?_
  refine fj_istore (lv' := [(4, .int 0), (3, .int 0), (0, .ref (ad 38)), (1, .int (nI ci)), (2, .int (nI cj))]) C dX1_findAround_22 (by decide) rfl ?_
  refine fj_iload_n C 1 dX1_findAround_24 rfl rfl ?_
  refine fj_iconst (v := 2) C dX1_findAround_25 (by decide) ?_
  refine fj_icmp_lt (tgt := 33) C dX1_findAround_26 (by decide) (fun _ => ?_) (fun h => absurd (by decide) h)
  refine fj_iconst (v := 0) C dX1_findAround_33 (by decide) ?_
  refine fj_istore (lv' := [(5, .int 0), (4, .int 0), (3, .int 0), (0, .ref (ad 38)), (1, .int (nI ci)), (2, .int (nI cj))]) C dX1_findAround_34 (by decide) rfl ?_
  refine fj_aload_n C 3 dX1_findAround_36 rfl rfl ?_
  refine fj_iload_n C 4 dX1_findAround_37 rfl rfl ?_
  refine fj_iload C 1 dX1_findAround_38 rfl ?_
  refine fj_iadd C dX1_findAround_40 ?_
  refine fj_at (y := nI (ci + 0)) (by first | exact nI_add ci 0 | exact nI_add ci 1) ?_
  refine fj_iload_n C 5 dX1_findAround_41 rfl rfl ?_
  refine fj_iload C 0 dX1_findAround_42 rfl ?_
  refine fj_iadd C dX1_findAround_44 ?_
  refine fj_at (y := nI (cj + 0)) (by first | exact nI_add cj 0 | exact nI_add cj 1) ?_
  refine fj_callVw (As := [.int (nI (ci + 0)), .int (nI (cj + 0))]) (rest := []) C (d_X1_find l D ty t0 ad a g n (nI (ci + 0)) (nI (cj + 0)) (ci + 0) (cj + 0) rfl rfl (by omega) (by omega)) (cwV 2 C.2.2.2.2.1 gX1_findAround_X1_find rfl rfl rfl (by decide +kernel) ⟨Nat.le_of_ble_eq_true rfl, Nat.le_of_ble_eq_true rfl⟩) ⟨38, 1, _, _, fx_at38 _ _ _ _ _, rfl, rfl⟩ rfl (Nat.le_of_ble_eq_true rfl) dX1_findAround_45 ⟨Nat.zero_le _, Nat.zero_le _⟩ (fun v9 w9 hp9 => ?_)
  rcases hp9 with ⟨x0, y0, L0, rfl, rfl⟩ | ⟨L0, rfl, rfl⟩
  · refine fj_st (st' := .int 1 :: []) rfl ?_
    refine fj_ws (ws' := (fx_w ad ty a g (va_up (va_up n 8 x0) 9 y0))) rfl ?_
    refine fj_if_ne (tgt := 53) C dX1_findAround_48 (by decide) (fun _ => ?_) (fun h => absurd h (by decide))
    refine fj_aload_n C 3 dX1_findAround_53 rfl rfl ?_
    refine fj_get (Cn := RX1) (T := TX1) (N := 7) (ci := 1) (v := .ref (ad 42)) C iX1 38 (fx_at38 _ _ _ _ _) rfl 5 (by decide) kX1_20 rfl dX1_findAround_54 ?_
    refine fj_iload_n C 2 dX1_findAround_57 rfl rfl ?_
    refine fj_aload_n C 3 dX1_findAround_58 rfl rfl ?_
    refine fj_get (Cn := RX1) (T := TX1) (N := 7) (ci := 1) (v := .int x0) C iX1 38 (fx_at38 _ _ _ _ _) rfl 3 (by decide) kX1_31 rfl dX1_findAround_59 ?_
    refine fj_i2l C dX1_findAround_62 ?_
    refine fj_last (f := (g 42)) C 42 (fx_at42 _ _ _ _ _) (vp_in_iff.mpr ⟨by decide, by decide⟩) dX1_findAround_63 (fx_st42 _ _ _ _ _ _) ?_
    refine fj_aload_n C 3 dX1_findAround_64 rfl rfl ?_
    refine fj_get (Cn := RX1) (T := TX1) (N := 7) (ci := 1) (v := .ref (ad 43)) C iX1 38 (fx_at38 _ _ _ _ _) rfl 6 (by decide) kX1_24 rfl dX1_findAround_65 ?_
    refine fj_iload_n C 2 dX1_findAround_68 rfl rfl ?_
    refine fj_aload_n C 3 dX1_findAround_69 rfl rfl ?_
    refine fj_get (Cn := RX1) (T := TX1) (N := 7) (ci := 1) (v := .int y0) C iX1 38 (fx_at38 _ _ _ _ _) rfl 4 (by decide) kX1_35 rfl dX1_findAround_70 ?_
    refine fj_i2l C dX1_findAround_73 ?_
    refine fj_last (f := (g 43)) C 43 (fx_at43 _ _ _ _ _) (vp_in_iff.mpr ⟨by decide, by decide⟩) dX1_findAround_74 (fx_st43 _ _ _ _ _ _) ?_
    refine fj_iinc (v := 1) (lv' := [(3, .int 1), (5, .int 0), (4, .int 0), (0, .ref (ad 38)), (1, .int (nI ci)), (2, .int (nI cj))]) C 2 dX1_findAround_75 rfl (by decide) (by decide) rfl ?_
    refine fj_goto (tgt := 2) C dX1_findAround_78 (by decide) ?_
    refine fj_iload_n C 0 dX1_findAround_2 rfl rfl ?_
    refine fj_iconst (v := 4) C dX1_findAround_3 (by decide) ?_
    refine fj_icmp_ge (tgt := 81) C dX1_findAround_4 (by decide) (fun h => absurd h (by decide)) (fun _ => ?_)
    refine fj_iload_n C 0 dX1_findAround_7 rfl rfl ?_
    refine fj_iconst (v := 1) C dX1_findAround_8 (by decide) ?_
    refine fj_icmp_eq (tgt := 17) C dX1_findAround_9 (by decide) (fun _ => ?_) (fun h => absurd (by decide) h)
    refine fj_iconst (v := 1) C dX1_findAround_17 (by decide) ?_
    refine fj_goto (tgt := 22) C dX1_findAround_18 (by decide) ?_
    refine fj_istore (lv' := [(4, .int 1), (3, .int 1), (5, .int 0), (0, .ref (ad 38)), (1, .int (nI ci)), (2, .int (nI cj))]) C dX1_findAround_22 (by decide) rfl ?_
    refine fj_iload_n C 1 dX1_findAround_24 rfl rfl ?_
    refine fj_iconst (v := 2) C dX1_findAround_25 (by decide) ?_
    refine fj_icmp_lt (tgt := 33) C dX1_findAround_26 (by decide) (fun _ => ?_) (fun h => absurd (by decide) h)
    refine fj_iconst (v := 0) C dX1_findAround_33 (by decide) ?_
    refine fj_istore (lv' := [(5, .int 0), (4, .int 1), (3, .int 1), (0, .ref (ad 38)), (1, .int (nI ci)), (2, .int (nI cj))]) C dX1_findAround_34 (by decide) rfl ?_
    refine fj_aload_n C 3 dX1_findAround_36 rfl rfl ?_
    refine fj_iload_n C 4 dX1_findAround_37 rfl rfl ?_
    refine fj_iload C 1 dX1_findAround_38 rfl ?_
    refine fj_iadd C dX1_findAround_40 ?_
    refine fj_at (y := nI (ci + 1)) (by first | exact nI_add ci 0 | exact nI_add ci 1) ?_
    refine fj_iload_n C 5 dX1_findAround_41 rfl rfl ?_
    refine fj_iload C 0 dX1_findAround_42 rfl ?_
    refine fj_iadd C dX1_findAround_44 ?_
    refine fj_at (y := nI (cj + 0)) (by first | exact nI_add cj 0 | exact nI_add cj 1) ?_
    refine fj_callVw (As := [.int (nI (ci + 1)), .int (nI (cj + 0))]) (rest := []) C (d_X1_find l D ty t0 ad a (va_up (va_up g 42 (vp_updL (g 42) 0 x0.toInt64)) 43 (vp_updL (g 43) 0 y0.toInt64)) (va_up (va_up n 8 x0) 9 y0) (nI (ci + 1)) (nI (cj + 0)) (ci + 1) (cj + 0) rfl rfl (by omega) (by omega)) (cwV 2 C.2.2.2.2.1 gX1_findAround_X1_find rfl rfl rfl (by decide +kernel) ⟨Nat.le_of_ble_eq_true rfl, Nat.le_of_ble_eq_true rfl⟩) ⟨38, 1, _, _, fx_at38 _ _ _ _ _, rfl, rfl⟩ rfl (Nat.le_of_ble_eq_true rfl) dX1_findAround_45 ⟨Nat.zero_le _, Nat.zero_le _⟩ (fun v9 w9 hp9 => ?_)
    rcases hp9 with ⟨x1, y1, L1, rfl, rfl⟩ | ⟨L1, rfl, rfl⟩
    · refine fj_st (st' := .int 1 :: []) rfl ?_
      refine fj_ws (ws' := (fx_w ad ty a (va_up (va_up g 42 (vp_updL (g 42) 0 x0.toInt64)) 43 (vp_updL (g 43) 0 y0.toInt64)) (va_up (va_up n 8 x1) 9 y1))) rfl ?_
      refine fj_if_ne (tgt := 53) C dX1_findAround_48 (by decide) (fun _ => ?_) (fun h => absurd h (by decide))
      refine fj_aload_n C 3 dX1_findAround_53 rfl rfl ?_
      refine fj_get (Cn := RX1) (T := TX1) (N := 7) (ci := 1) (v := .ref (ad 42)) C iX1 38 (fx_at38 _ _ _ _ _) rfl 5 (by decide) kX1_20 rfl dX1_findAround_54 ?_
      refine fj_iload_n C 2 dX1_findAround_57 rfl rfl ?_
      refine fj_aload_n C 3 dX1_findAround_58 rfl rfl ?_
      refine fj_get (Cn := RX1) (T := TX1) (N := 7) (ci := 1) (v := .int x1) C iX1 38 (fx_at38 _ _ _ _ _) rfl 3 (by decide) kX1_31 rfl dX1_findAround_59 ?_
      refine fj_i2l C dX1_findAround_62 ?_
      refine fj_last (f := (vp_updL (g 42) 0 x0.toInt64)) C 42 (fx_at42 _ _ _ _ _) (vp_in_iff.mpr ⟨by decide, by decide⟩) dX1_findAround_63 (fx_st42 _ _ _ _ _ _) ?_
      refine fj_ws (ws' := (fx_w ad ty a (va_up (va_up g 43 (vp_updL (g 43) 0 y0.toInt64)) 42 (vp_updL (vp_updL (g 42) 0 x0.toInt64) 1 x1.toInt64)) (va_up (va_up n 8 x1) 9 y1))) rfl ?_
      refine fj_aload_n C 3 dX1_findAround_64 rfl rfl ?_
      refine fj_get (Cn := RX1) (T := TX1) (N := 7) (ci := 1) (v := .ref (ad 43)) C iX1 38 (fx_at38 _ _ _ _ _) rfl 6 (by decide) kX1_24 rfl dX1_findAround_65 ?_
      refine fj_iload_n C 2 dX1_findAround_68 rfl rfl ?_
      refine fj_aload_n C 3 dX1_findAround_69 rfl rfl ?_
      refine fj_get (Cn := RX1) (T := TX1) (N := 7) (ci := 1) (v := .int y1) C iX1 38 (fx_at38 _ _ _ _ _) rfl 4 (by decide) kX1_35 rfl dX1_findAround_70 ?_
      refine fj_i2l C dX1_findAround_73 ?_
      refine fj_last (f := (vp_updL (g 43) 0 y0.toInt64)) C 43 (fx_at43 _ _ _ _ _) (vp_in_iff.mpr ⟨by decide, by decide⟩) dX1_findAround_74 (fx_st43 _ _ _ _ _ _) ?_
      refine fj_ws (ws' := (fx_w ad ty a (va_up (va_up g 42 (vp_updL (vp_updL (g 42) 0 x0.toInt64) 1 x1.toInt64)) 43 (vp_updL (vp_updL (g 43) 0 y0.toInt64) 1 y1.toInt64)) (va_up (va_up n 8 x1) 9 y1))) rfl ?_
      refine fj_iinc (v := 2) (lv' := [(3, .int 2), (5, .int 0), (4, .int 1), (0, .ref (ad 38)), (1, .int (nI ci)), (2, .int (nI cj))]) C 2 dX1_findAround_75 rfl (by decide) (by decide) rfl ?_
      refine fj_goto (tgt := 2) C dX1_findAround_78 (by decide) ?_
      refine fj_iload_n C 0 dX1_findAround_2 rfl rfl ?_
      refine fj_iconst (v := 4) C dX1_findAround_3 (by decide) ?_
      refine fj_icmp_ge (tgt := 81) C dX1_findAround_4 (by decide) (fun h => absurd h (by decide)) (fun _ => ?_)
      refine fj_iload_n C 0 dX1_findAround_7 rfl rfl ?_
      refine fj_iconst (v := 1) C dX1_findAround_8 (by decide) ?_
      refine fj_icmp_eq (tgt := 17) C dX1_findAround_9 (by decide) (fun h => absurd h (by decide)) (fun _ => ?_)
      refine fj_iload_n C 0 dX1_findAround_12 rfl rfl ?_
      refine fj_iconst (v := 2) C dX1_findAround_13 (by decide) ?_
      refine fj_icmp_ne (tgt := 21) C dX1_findAround_14 (by decide) (fun h => absurd (by decide) h) (fun _ => ?_)
      refine fj_iconst (v := 1) C dX1_findAround_17 (by decide) ?_
      refine fj_goto (tgt := 22) C dX1_findAround_18 (by decide) ?_
      refine fj_istore (lv' := [(4, .int 1), (3, .int 2), (5, .int 0), (0, .ref (ad 38)), (1, .int (nI ci)), (2, .int (nI cj))]) C dX1_findAround_22 (by decide) rfl ?_
      refine fj_iload_n C 1 dX1_findAround_24 rfl rfl ?_
      refine fj_iconst (v := 2) C dX1_findAround_25 (by decide) ?_
      refine fj_icmp_lt (tgt := 33) C dX1_findAround_26 (by decide) (fun h => absurd h (by decide)) (fun _ => ?_)
      refine fj_iconst (v := 1) C dX1_findAround_29 (by decide) ?_
      refine fj_goto (tgt := 34) C dX1_findAround_30 (by decide) ?_
      refine fj_istore (lv' := [(5, .int 1), (4, .int 1), (3, .int 2), (0, .ref (ad 38)), (1, .int (nI ci)), (2, .int (nI cj))]) C dX1_findAround_34 (by decide) rfl ?_
      refine fj_aload_n C 3 dX1_findAround_36 rfl rfl ?_
      refine fj_iload_n C 4 dX1_findAround_37 rfl rfl ?_
      refine fj_iload C 1 dX1_findAround_38 rfl ?_
      refine fj_iadd C dX1_findAround_40 ?_
      refine fj_at (y := nI (ci + 1)) (by first | exact nI_add ci 0 | exact nI_add ci 1) ?_
      refine fj_iload_n C 5 dX1_findAround_41 rfl rfl ?_
      refine fj_iload C 0 dX1_findAround_42 rfl ?_
      refine fj_iadd C dX1_findAround_44 ?_
      refine fj_at (y := nI (cj + 1)) (by first | exact nI_add cj 0 | exact nI_add cj 1) ?_
      refine fj_callVw (As := [.int (nI (ci + 1)), .int (nI (cj + 1))]) (rest := []) C (d_X1_find l D ty t0 ad a (va_up (va_up g 42 (vp_updL (vp_updL (g 42) 0 x0.toInt64) 1 x1.toInt64)) 43 (vp_updL (vp_updL (g 43) 0 y0.toInt64) 1 y1.toInt64)) (va_up (va_up n 8 x1) 9 y1) (nI (ci + 1)) (nI (cj + 1)) (ci + 1) (cj + 1) rfl rfl (by omega) (by omega)) (cwV 2 C.2.2.2.2.1 gX1_findAround_X1_find rfl rfl rfl (by decide +kernel) ⟨Nat.le_of_ble_eq_true rfl, Nat.le_of_ble_eq_true rfl⟩) ⟨38, 1, _, _, fx_at38 _ _ _ _ _, rfl, rfl⟩ rfl (Nat.le_of_ble_eq_true rfl) dX1_findAround_45 ⟨Nat.zero_le _, Nat.zero_le _⟩ (fun v9 w9 hp9 => ?_)
      rcases hp9 with ⟨x2, y2, L2, rfl, rfl⟩ | ⟨L2, rfl, rfl⟩
      · refine fj_st (st' := .int 1 :: []) rfl ?_
        refine fj_ws (ws' := (fx_w ad ty a (va_up (va_up g 42 (vp_updL (vp_updL (g 42) 0 x0.toInt64) 1 x1.toInt64)) 43 (vp_updL (vp_updL (g 43) 0 y0.toInt64) 1 y1.toInt64)) (va_up (va_up n 8 x2) 9 y2))) rfl ?_
        refine fj_if_ne (tgt := 53) C dX1_findAround_48 (by decide) (fun _ => ?_) (fun h => absurd h (by decide))
        refine fj_aload_n C 3 dX1_findAround_53 rfl rfl ?_
        refine fj_get (Cn := RX1) (T := TX1) (N := 7) (ci := 1) (v := .ref (ad 42)) C iX1 38 (fx_at38 _ _ _ _ _) rfl 5 (by decide) kX1_20 rfl dX1_findAround_54 ?_
        refine fj_iload_n C 2 dX1_findAround_57 rfl rfl ?_
        refine fj_aload_n C 3 dX1_findAround_58 rfl rfl ?_
        refine fj_get (Cn := RX1) (T := TX1) (N := 7) (ci := 1) (v := .int x2) C iX1 38 (fx_at38 _ _ _ _ _) rfl 3 (by decide) kX1_31 rfl dX1_findAround_59 ?_
        refine fj_i2l C dX1_findAround_62 ?_
        refine fj_last (f := (vp_updL (vp_updL (g 42) 0 x0.toInt64) 1 x1.toInt64)) C 42 (fx_at42 _ _ _ _ _) (vp_in_iff.mpr ⟨by decide, by decide⟩) dX1_findAround_63 (fx_st42 _ _ _ _ _ _) ?_
        refine fj_ws (ws' := (fx_w ad ty a (va_up (va_up g 43 (vp_updL (vp_updL (g 43) 0 y0.toInt64) 1 y1.toInt64)) 42 (vp_updL (vp_updL (vp_updL (g 42) 0 x0.toInt64) 1 x1.toInt64) 2 x2.toInt64)) (va_up (va_up n 8 x2) 9 y2))) rfl ?_
        refine fj_aload_n C 3 dX1_findAround_64 rfl rfl ?_
        refine fj_get (Cn := RX1) (T := TX1) (N := 7) (ci := 1) (v := .ref (ad 43)) C iX1 38 (fx_at38 _ _ _ _ _) rfl 6 (by decide) kX1_24 rfl dX1_findAround_65 ?_
        refine fj_iload_n C 2 dX1_findAround_68 rfl rfl ?_
        refine fj_aload_n C 3 dX1_findAround_69 rfl rfl ?_
        refine fj_get (Cn := RX1) (T := TX1) (N := 7) (ci := 1) (v := .int y2) C iX1 38 (fx_at38 _ _ _ _ _) rfl 4 (by decide) kX1_35 rfl dX1_findAround_70 ?_
        refine fj_i2l C dX1_findAround_73 ?_
        refine fj_last (f := (vp_updL (vp_updL (g 43) 0 y0.toInt64) 1 y1.toInt64)) C 43 (fx_at43 _ _ _ _ _) (vp_in_iff.mpr ⟨by decide, by decide⟩) dX1_findAround_74 (fx_st43 _ _ _ _ _ _) ?_
        refine fj_ws (ws' := (fx_w ad ty a (va_up (va_up g 42 (vp_updL (vp_updL (vp_updL (g 42) 0 x0.toInt64) 1 x1.toInt64) 2 x2.toInt64)) 43 (vp_updL (vp_updL (vp_updL (g 43) 0 y0.toInt64) 1 y1.toInt64) 2 y2.toInt64)) (va_up (va_up n 8 x2) 9 y2))) rfl ?_
        refine fj_iinc (v := 3) (lv' := [(3, .int 3), (5, .int 1), (4, .int 1), (0, .ref (ad 38)), (1, .int (nI ci)), (2, .int (nI cj))]) C 2 dX1_findAround_75 rfl (by decide) (by decide) rfl ?_
        refine fj_goto (tgt := 2) C dX1_findAround_78 (by decide) ?_
        refine fj_iload_n C 0 dX1_findAround_2 rfl rfl ?_
        refine fj_iconst (v := 4) C dX1_findAround_3 (by decide) ?_
        refine fj_icmp_ge (tgt := 81) C dX1_findAround_4 (by decide) (fun h => absurd h (by decide)) (fun _ => ?_)
        refine fj_iload_n C 0 dX1_findAround_7 rfl rfl ?_
        refine fj_iconst (v := 1) C dX1_findAround_8 (by decide) ?_
        refine fj_icmp_eq (tgt := 17) C dX1_findAround_9 (by decide) (fun h => absurd h (by decide)) (fun _ => ?_)
        refine fj_iload_n C 0 dX1_findAround_12 rfl rfl ?_
        refine fj_iconst (v := 2) C dX1_findAround_13 (by decide) ?_
        refine fj_icmp_ne (tgt := 21) C dX1_findAround_14 (by decide) (fun _ => ?_) (fun h => absurd h (by decide))
        refine fj_iconst (v := 0) C dX1_findAround_21 (by decide) ?_
        refine fj_istore (lv' := [(4, .int 0), (3, .int 3), (5, .int 1), (0, .ref (ad 38)), (1, .int (nI ci)), (2, .int (nI cj))]) C dX1_findAround_22 (by decide) rfl ?_
        refine fj_iload_n C 1 dX1_findAround_24 rfl rfl ?_
        refine fj_iconst (v := 2) C dX1_findAround_25 (by decide) ?_
        refine fj_icmp_lt (tgt := 33) C dX1_findAround_26 (by decide) (fun h => absurd h (by decide)) (fun _ => ?_)
        refine fj_iconst (v := 1) C dX1_findAround_29 (by decide) ?_
        refine fj_goto (tgt := 34) C dX1_findAround_30 (by decide) ?_
        refine fj_istore (lv' := [(5, .int 1), (4, .int 0), (3, .int 3), (0, .ref (ad 38)), (1, .int (nI ci)), (2, .int (nI cj))]) C dX1_findAround_34 (by decide) rfl ?_
        refine fj_aload_n C 3 dX1_findAround_36 rfl rfl ?_
        refine fj_iload_n C 4 dX1_findAround_37 rfl rfl ?_
        refine fj_iload C 1 dX1_findAround_38 rfl ?_
        refine fj_iadd C dX1_findAround_40 ?_
        refine fj_at (y := nI (ci + 0)) (by first | exact nI_add ci 0 | exact nI_add ci 1) ?_
        refine fj_iload_n C 5 dX1_findAround_41 rfl rfl ?_
        refine fj_iload C 0 dX1_findAround_42 rfl ?_
        refine fj_iadd C dX1_findAround_44 ?_
        refine fj_at (y := nI (cj + 1)) (by first | exact nI_add cj 0 | exact nI_add cj 1) ?_
        refine fj_callVw (As := [.int (nI (ci + 0)), .int (nI (cj + 1))]) (rest := []) C (d_X1_find l D ty t0 ad a (va_up (va_up g 42 (vp_updL (vp_updL (vp_updL (g 42) 0 x0.toInt64) 1 x1.toInt64) 2 x2.toInt64)) 43 (vp_updL (vp_updL (vp_updL (g 43) 0 y0.toInt64) 1 y1.toInt64) 2 y2.toInt64)) (va_up (va_up n 8 x2) 9 y2) (nI (ci + 0)) (nI (cj + 1)) (ci + 0) (cj + 1) rfl rfl (by omega) (by omega)) (cwV 2 C.2.2.2.2.1 gX1_findAround_X1_find rfl rfl rfl (by decide +kernel) ⟨Nat.le_of_ble_eq_true rfl, Nat.le_of_ble_eq_true rfl⟩) ⟨38, 1, _, _, fx_at38 _ _ _ _ _, rfl, rfl⟩ rfl (Nat.le_of_ble_eq_true rfl) dX1_findAround_45 ⟨Nat.zero_le _, Nat.zero_le _⟩ (fun v9 w9 hp9 => ?_)
        rcases hp9 with ⟨x3, y3, L3, rfl, rfl⟩ | ⟨L3, rfl, rfl⟩
        · refine fj_st (st' := .int 1 :: []) rfl ?_
          refine fj_ws (ws' := (fx_w ad ty a (va_up (va_up g 42 (vp_updL (vp_updL (vp_updL (g 42) 0 x0.toInt64) 1 x1.toInt64) 2 x2.toInt64)) 43 (vp_updL (vp_updL (vp_updL (g 43) 0 y0.toInt64) 1 y1.toInt64) 2 y2.toInt64)) (va_up (va_up n 8 x3) 9 y3))) rfl ?_
          refine fj_if_ne (tgt := 53) C dX1_findAround_48 (by decide) (fun _ => ?_) (fun h => absurd h (by decide))
          refine fj_aload_n C 3 dX1_findAround_53 rfl rfl ?_
          refine fj_get (Cn := RX1) (T := TX1) (N := 7) (ci := 1) (v := .ref (ad 42)) C iX1 38 (fx_at38 _ _ _ _ _) rfl 5 (by decide) kX1_20 rfl dX1_findAround_54 ?_
          refine fj_iload_n C 2 dX1_findAround_57 rfl rfl ?_
          refine fj_aload_n C 3 dX1_findAround_58 rfl rfl ?_
          refine fj_get (Cn := RX1) (T := TX1) (N := 7) (ci := 1) (v := .int x3) C iX1 38 (fx_at38 _ _ _ _ _) rfl 3 (by decide) kX1_31 rfl dX1_findAround_59 ?_
          refine fj_i2l C dX1_findAround_62 ?_
          refine fj_last (f := (vp_updL (vp_updL (vp_updL (g 42) 0 x0.toInt64) 1 x1.toInt64) 2 x2.toInt64)) C 42 (fx_at42 _ _ _ _ _) (vp_in_iff.mpr ⟨by decide, by decide⟩) dX1_findAround_63 (fx_st42 _ _ _ _ _ _) ?_
          refine fj_ws (ws' := (fx_w ad ty a (va_up (va_up g 43 (vp_updL (vp_updL (vp_updL (g 43) 0 y0.toInt64) 1 y1.toInt64) 2 y2.toInt64)) 42 (vp_updL (vp_updL (vp_updL (vp_updL (g 42) 0 x0.toInt64) 1 x1.toInt64) 2 x2.toInt64) 3 x3.toInt64)) (va_up (va_up n 8 x3) 9 y3))) rfl ?_
          refine fj_aload_n C 3 dX1_findAround_64 rfl rfl ?_
          refine fj_get (Cn := RX1) (T := TX1) (N := 7) (ci := 1) (v := .ref (ad 43)) C iX1 38 (fx_at38 _ _ _ _ _) rfl 6 (by decide) kX1_24 rfl dX1_findAround_65 ?_
          refine fj_iload_n C 2 dX1_findAround_68 rfl rfl ?_
          refine fj_aload_n C 3 dX1_findAround_69 rfl rfl ?_
          refine fj_get (Cn := RX1) (T := TX1) (N := 7) (ci := 1) (v := .int y3) C iX1 38 (fx_at38 _ _ _ _ _) rfl 4 (by decide) kX1_35 rfl dX1_findAround_70 ?_
          refine fj_i2l C dX1_findAround_73 ?_
          refine fj_last (f := (vp_updL (vp_updL (vp_updL (g 43) 0 y0.toInt64) 1 y1.toInt64) 2 y2.toInt64)) C 43 (fx_at43 _ _ _ _ _) (vp_in_iff.mpr ⟨by decide, by decide⟩) dX1_findAround_74 (fx_st43 _ _ _ _ _ _) ?_
          refine fj_ws (ws' := (fx_w ad ty a (va_up (va_up g 42 (vp_updL (vp_updL (vp_updL (vp_updL (g 42) 0 x0.toInt64) 1 x1.toInt64) 2 x2.toInt64) 3 x3.toInt64)) 43 (vp_updL (vp_updL (vp_updL (vp_updL (g 43) 0 y0.toInt64) 1 y1.toInt64) 2 y2.toInt64) 3 y3.toInt64)) (va_up (va_up n 8 x3) 9 y3))) rfl ?_
          refine fj_iinc (v := 4) (lv' := [(3, .int 4), (5, .int 1), (4, .int 0), (0, .ref (ad 38)), (1, .int (nI ci)), (2, .int (nI cj))]) C 2 dX1_findAround_75 rfl (by decide) (by decide) rfl ?_
          refine fj_goto (tgt := 2) C dX1_findAround_78 (by decide) ?_
          refine fj_iload_n C 0 dX1_findAround_2 rfl rfl ?_
          refine fj_iconst (v := 4) C dX1_findAround_3 (by decide) ?_
          refine fj_icmp_ge (tgt := 81) C dX1_findAround_4 (by decide) (fun _ => ?_) (fun h => absurd (by decide) h)
          refine fj_iconst (v := 1) C dX1_findAround_81 (by decide) ?_
          exact fj_zret C E9 rfl dX1_findAround_82 (Or.inl ⟨x0, y0, x1, y1, x2, y2, x3, y3, L0, L1, L2, L3, rfl, rfl⟩)
        · refine fj_st (st' := .int 0 :: []) rfl ?_
          refine fj_if_ne (tgt := 53) C dX1_findAround_48 (by decide) (fun h => absurd (by decide) h) (fun _ => ?_)
          refine fj_iconst (v := 0) C dX1_findAround_51 (by decide) ?_
          exact fj_zret C E9 rfl dX1_findAround_52 (Or.inr ⟨x2, y2, (va_up (va_up g 42 (vp_updL (vp_updL (vp_updL (g 42) 0 x0.toInt64) 1 x1.toInt64) 2 x2.toInt64)) 43 (vp_updL (vp_updL (vp_updL (g 43) 0 y0.toInt64) 1 y1.toInt64) 2 y2.toInt64)), Or.inr (Or.inr (Or.inr (L3))), rfl, rfl⟩)
      · refine fj_st (st' := .int 0 :: []) rfl ?_
        refine fj_if_ne (tgt := 53) C dX1_findAround_48 (by decide) (fun h => absurd (by decide) h) (fun _ => ?_)
        refine fj_iconst (v := 0) C dX1_findAround_51 (by decide) ?_
        exact fj_zret C E9 rfl dX1_findAround_52 (Or.inr ⟨x1, y1, (va_up (va_up g 42 (vp_updL (vp_updL (g 42) 0 x0.toInt64) 1 x1.toInt64)) 43 (vp_updL (vp_updL (g 43) 0 y0.toInt64) 1 y1.toInt64)), Or.inr (Or.inr (Or.inl L2)), rfl, rfl⟩)
    · refine fj_st (st' := .int 0 :: []) rfl ?_
      refine fj_if_ne (tgt := 53) C dX1_findAround_48 (by decide) (fun h => absurd (by decide) h) (fun _ => ?_)
      refine fj_iconst (v := 0) C dX1_findAround_51 (by decide) ?_
      exact fj_zret C E9 rfl dX1_findAround_52 (Or.inr ⟨x0, y0, (va_up (va_up g 42 (vp_updL (g 42) 0 x0.toInt64)) 43 (vp_updL (g 43) 0 y0.toInt64)), Or.inr (Or.inl L1), rfl, rfl⟩)
  · refine fj_st (st' := .int 0 :: []) rfl ?_
    refine fj_if_ne (tgt := 53) C dX1_findAround_48 (by decide) (fun h => absurd (by decide) h) (fun _ => ?_)
    refine fj_iconst (v := 0) C dX1_findAround_51 (by decide) ?_
    exact fj_zret C E9 rfl dX1_findAround_52 (Or.inr ⟨(n 8), (n 9), g, Or.inl L0, rfl, rfl⟩)

set_option maxHeartbeats 4000000 in
set_option maxRecDepth 100000 in
theorem d_X1_crossSum (l : Launch) (D : va_G) (ty : Nat → ClassId) (t0 : Nat → Nat) (ad : Nat → Nat) (a : Nat → Nat → Int32) (g : Nat → Nat → Int64) (n : Nat → Int32)    : fc l yX1_crossSum wsX1_crossSum (fj_rm 0 0 0 0) D ty t0 [.ref (ad 38)] (fx_w ad ty a g n) 0 0 (fun v w => v = some (.long (cs4 (g 42) (g 43))) ∧ w = fx_w ad ty a g n) := by
  refine fc_start (own := RX1) (cc := cX1_crossSum) (maxL := 5) (ret := (some .long)) (by decide) rfl (Nat.le_of_ble_eq_true rfl) rfl ?_
  intro p e s m args below meth c Q A C hmn E9
  have iX1 : ∀ w ∈ u_ws RX1 TX1 7, w ∈ wsX1_crossSum := ptX1_crossSum_wsX10
  have kX1_20 : Cond.fieldLink RX1 20 "FreeLand$Corners" "aroundX" "[J" ∈ wsX1_crossSum := ptX1_crossSum_woX1_crossSum _ (by decide +kernel)
  have kX1_24 : Cond.fieldLink RX1 24 "FreeLand$Corners" "aroundY" "[J" ∈ wsX1_crossSum := ptX1_crossSum_woX1_crossSum _ (by decide +kernel)
  refine fj_lv (lv' := [(0, .ref (ad 38))]) [0] rfl ?_
  refine fj_lconst (v := 0) C dX1_crossSum_0 (by decide) ?_
  refine fj_lstore_n (lv' := [(1, .long 0), (0, .ref (ad 38))]) C dX1_crossSum_1 rfl (by decide) rfl ?_
  refine fj_iconst (v := 0) C dX1_crossSum_2 (by decide) ?_
  refine fj_istore_n (lv' := [(3, .int 0), (1, .long 0), (0, .ref (ad 38))]) C dX1_crossSum_3 rfl (by decide) rfl ?_
  refine fj_iload_n C 0 dX1_crossSum_4 rfl rfl ?_
  refine fj_iconst (v := 4) C dX1_crossSum_5 (by decide) ?_
  refine fj_icmp_ge (tgt := 54) C dX1_crossSum_6 (by decide) (fun h => absurd h (by decide)) (fun _ => ?_)
  refine fj_iload_n C 0 dX1_crossSum_9 rfl rfl ?_
  refine fj_iconst (v := 1) C dX1_crossSum_10 (by decide) ?_
  refine fj_iadd C dX1_crossSum_11 ?_
  refine fj_at (y := 1) (by decide) ?_
  refine fj_iconst (v := 4) C dX1_crossSum_12 (by decide) ?_
  refine fj_irem C dX1_crossSum_13 (by decide) ?_
  refine fj_at (y := 1) (by decide) ?_
  refine fj_istore (lv' := [(4, .int 1), (3, .int 0), (1, .long 0), (0, .ref (ad 38))]) C dX1_crossSum_14 (by decide) rfl ?_
  refine fj_lload_n C 2 dX1_crossSum_16 rfl rfl ?_
  refine fj_aload_n C 3 dX1_crossSum_17 rfl rfl ?_
  refine fj_get (Cn := RX1) (T := TX1) (N := 7) (ci := 1) (v := .ref (ad 42)) C iX1 38 (fx_at38 _ _ _ _ _) rfl 5 (by decide) kX1_20 rfl dX1_crossSum_18 ?_
  refine fj_iload_n C 1 dX1_crossSum_21 rfl rfl ?_
  refine fj_lald (f := (g 42)) C 42 (fx_at42 _ _ _ _ _) (vp_in_iff.mpr ⟨by decide, by decide⟩) dX1_crossSum_22 ?_
  refine fj_aload_n C 3 dX1_crossSum_23 rfl rfl ?_
  refine fj_get (Cn := RX1) (T := TX1) (N := 7) (ci := 1) (v := .ref (ad 43)) C iX1 38 (fx_at38 _ _ _ _ _) rfl 6 (by decide) kX1_24 rfl dX1_crossSum_24 ?_
  refine fj_iload C 0 dX1_crossSum_27 rfl ?_
  refine fj_lald (f := (g 43)) C 43 (fx_at43 _ _ _ _ _) (vp_in_iff.mpr ⟨by decide, by decide⟩) dX1_crossSum_29 ?_
  refine fj_lmul C dX1_crossSum_30 ?_
  refine fj_aload_n C 3 dX1_crossSum_31 rfl rfl ?_
  refine fj_get (Cn := RX1) (T := TX1) (N := 7) (ci := 1) (v := .ref (ad 42)) C iX1 38 (fx_at38 _ _ _ _ _) rfl 5 (by decide) kX1_20 rfl dX1_crossSum_32 ?_
  refine fj_iload C 0 dX1_crossSum_35 rfl ?_
  refine fj_lald (f := (g 42)) C 42 (fx_at42 _ _ _ _ _) (vp_in_iff.mpr ⟨by decide, by decide⟩) dX1_crossSum_37 ?_
  refine fj_aload_n C 3 dX1_crossSum_38 rfl rfl ?_
  refine fj_get (Cn := RX1) (T := TX1) (N := 7) (ci := 1) (v := .ref (ad 43)) C iX1 38 (fx_at38 _ _ _ _ _) rfl 6 (by decide) kX1_24 rfl dX1_crossSum_39 ?_
  refine fj_iload_n C 1 dX1_crossSum_42 rfl rfl ?_
  refine fj_lald (f := (g 43)) C 43 (fx_at43 _ _ _ _ _) (vp_in_iff.mpr ⟨by decide, by decide⟩) dX1_crossSum_43 ?_
  refine fj_lmul C dX1_crossSum_44 ?_
  refine fj_lsub C dX1_crossSum_45 ?_
  refine fj_ladd C dX1_crossSum_46 ?_
  refine fj_lstore_n (lv' := [(1, .long (0 + ((((g 42) 0) * ((g 43) 1)) - (((g 42) 1) * ((g 43) 0))))), (4, .int 1), (3, .int 0), (0, .ref (ad 38))]) C dX1_crossSum_47 rfl (by decide) rfl ?_
  refine fj_iinc (v := 1) (lv' := [(3, .int 1), (1, .long (0 + ((((g 42) 0) * ((g 43) 1)) - (((g 42) 1) * ((g 43) 0))))), (4, .int 1), (0, .ref (ad 38))]) C 2 dX1_crossSum_48 rfl (by decide) (by decide) rfl ?_
  refine fj_goto (tgt := 4) C dX1_crossSum_51 (by decide) ?_
  refine fj_iload_n C 0 dX1_crossSum_4 rfl rfl ?_
  refine fj_iconst (v := 4) C dX1_crossSum_5 (by decide) ?_
  refine fj_icmp_ge (tgt := 54) C dX1_crossSum_6 (by decide) (fun h => absurd h (by decide)) (fun _ => ?_)
  refine fj_iload_n C 0 dX1_crossSum_9 rfl rfl ?_
  refine fj_iconst (v := 1) C dX1_crossSum_10 (by decide) ?_
  refine fj_iadd C dX1_crossSum_11 ?_
  refine fj_at (y := 2) (by decide) ?_
  refine fj_iconst (v := 4) C dX1_crossSum_12 (by decide) ?_
  refine fj_irem C dX1_crossSum_13 (by decide) ?_
  refine fj_at (y := 2) (by decide) ?_
  refine fj_istore (lv' := [(4, .int 2), (3, .int 1), (1, .long (0 + ((((g 42) 0) * ((g 43) 1)) - (((g 42) 1) * ((g 43) 0))))), (0, .ref (ad 38))]) C dX1_crossSum_14 (by decide) rfl ?_
  refine fj_lload_n C 2 dX1_crossSum_16 rfl rfl ?_
  refine fj_aload_n C 3 dX1_crossSum_17 rfl rfl ?_
  refine fj_get (Cn := RX1) (T := TX1) (N := 7) (ci := 1) (v := .ref (ad 42)) C iX1 38 (fx_at38 _ _ _ _ _) rfl 5 (by decide) kX1_20 rfl dX1_crossSum_18 ?_
  refine fj_iload_n C 1 dX1_crossSum_21 rfl rfl ?_
  refine fj_lald (f := (g 42)) C 42 (fx_at42 _ _ _ _ _) (vp_in_iff.mpr ⟨by decide, by decide⟩) dX1_crossSum_22 ?_
  refine fj_aload_n C 3 dX1_crossSum_23 rfl rfl ?_
  refine fj_get (Cn := RX1) (T := TX1) (N := 7) (ci := 1) (v := .ref (ad 43)) C iX1 38 (fx_at38 _ _ _ _ _) rfl 6 (by decide) kX1_24 rfl dX1_crossSum_24 ?_
  refine fj_iload C 0 dX1_crossSum_27 rfl ?_
  refine fj_lald (f := (g 43)) C 43 (fx_at43 _ _ _ _ _) (vp_in_iff.mpr ⟨by decide, by decide⟩) dX1_crossSum_29 ?_
  refine fj_lmul C dX1_crossSum_30 ?_
  refine fj_aload_n C 3 dX1_crossSum_31 rfl rfl ?_
  refine fj_get (Cn := RX1) (T := TX1) (N := 7) (ci := 1) (v := .ref (ad 42)) C iX1 38 (fx_at38 _ _ _ _ _) rfl 5 (by decide) kX1_20 rfl dX1_crossSum_32 ?_
  refine fj_iload C 0 dX1_crossSum_35 rfl ?_
  refine fj_lald (f := (g 42)) C 42 (fx_at42 _ _ _ _ _) (vp_in_iff.mpr ⟨by decide, by decide⟩) dX1_crossSum_37 ?_
  refine fj_aload_n C 3 dX1_crossSum_38 rfl rfl ?_
  refine fj_get (Cn := RX1) (T := TX1) (N := 7) (ci := 1) (v := .ref (ad 43)) C iX1 38 (fx_at38 _ _ _ _ _) rfl 6 (by decide) kX1_24 rfl dX1_crossSum_39 ?_
  refine fj_iload_n C 1 dX1_crossSum_42 rfl rfl ?_
  refine fj_lald (f := (g 43)) C 43 (fx_at43 _ _ _ _ _) (vp_in_iff.mpr ⟨by decide, by decide⟩) dX1_crossSum_43 ?_
  refine fj_lmul C dX1_crossSum_44 ?_
  refine fj_lsub C dX1_crossSum_45 ?_
  refine fj_ladd C dX1_crossSum_46 ?_
  refine fj_lstore_n (lv' := [(1, .long ((0 + ((((g 42) 0) * ((g 43) 1)) - (((g 42) 1) * ((g 43) 0)))) + ((((g 42) 1) * ((g 43) 2)) - (((g 42) 2) * ((g 43) 1))))), (4, .int 2), (3, .int 1), (0, .ref (ad 38))]) C dX1_crossSum_47 rfl (by decide) rfl ?_
  refine fj_iinc (v := 2) (lv' := [(3, .int 2), (1, .long ((0 + ((((g 42) 0) * ((g 43) 1)) - (((g 42) 1) * ((g 43) 0)))) + ((((g 42) 1) * ((g 43) 2)) - (((g 42) 2) * ((g 43) 1))))), (4, .int 2), (0, .ref (ad 38))]) C 2 dX1_crossSum_48 rfl (by decide) (by decide) rfl ?_
  refine fj_goto (tgt := 4) C dX1_crossSum_51 (by decide) ?_
  refine fj_iload_n C 0 dX1_crossSum_4 rfl rfl ?_
  refine fj_iconst (v := 4) C dX1_crossSum_5 (by decide) ?_
  refine fj_icmp_ge (tgt := 54) C dX1_crossSum_6 (by decide) (fun h => absurd h (by decide)) (fun _ => ?_)
  refine fj_iload_n C 0 dX1_crossSum_9 rfl rfl ?_
  refine fj_iconst (v := 1) C dX1_crossSum_10 (by decide) ?_
  refine fj_iadd C dX1_crossSum_11 ?_
  refine fj_at (y := 3) (by decide) ?_
  refine fj_iconst (v := 4) C dX1_crossSum_12 (by decide) ?_
  refine fj_irem C dX1_crossSum_13 (by decide) ?_
  refine fj_at (y := 3) (by decide) ?_
  refine fj_istore (lv' := [(4, .int 3), (3, .int 2), (1, .long ((0 + ((((g 42) 0) * ((g 43) 1)) - (((g 42) 1) * ((g 43) 0)))) + ((((g 42) 1) * ((g 43) 2)) - (((g 42) 2) * ((g 43) 1))))), (0, .ref (ad 38))]) C dX1_crossSum_14 (by decide) rfl ?_
  refine fj_lload_n C 2 dX1_crossSum_16 rfl rfl ?_
  refine fj_aload_n C 3 dX1_crossSum_17 rfl rfl ?_
  refine fj_get (Cn := RX1) (T := TX1) (N := 7) (ci := 1) (v := .ref (ad 42)) C iX1 38 (fx_at38 _ _ _ _ _) rfl 5 (by decide) kX1_20 rfl dX1_crossSum_18 ?_
  refine fj_iload_n C 1 dX1_crossSum_21 rfl rfl ?_
  refine fj_lald (f := (g 42)) C 42 (fx_at42 _ _ _ _ _) (vp_in_iff.mpr ⟨by decide, by decide⟩) dX1_crossSum_22 ?_
  refine fj_aload_n C 3 dX1_crossSum_23 rfl rfl ?_
  refine fj_get (Cn := RX1) (T := TX1) (N := 7) (ci := 1) (v := .ref (ad 43)) C iX1 38 (fx_at38 _ _ _ _ _) rfl 6 (by decide) kX1_24 rfl dX1_crossSum_24 ?_
  refine fj_iload C 0 dX1_crossSum_27 rfl ?_
  refine fj_lald (f := (g 43)) C 43 (fx_at43 _ _ _ _ _) (vp_in_iff.mpr ⟨by decide, by decide⟩) dX1_crossSum_29 ?_
  refine fj_lmul C dX1_crossSum_30 ?_
  refine fj_aload_n C 3 dX1_crossSum_31 rfl rfl ?_
  refine fj_get (Cn := RX1) (T := TX1) (N := 7) (ci := 1) (v := .ref (ad 42)) C iX1 38 (fx_at38 _ _ _ _ _) rfl 5 (by decide) kX1_20 rfl dX1_crossSum_32 ?_
  refine fj_iload C 0 dX1_crossSum_35 rfl ?_
  refine fj_lald (f := (g 42)) C 42 (fx_at42 _ _ _ _ _) (vp_in_iff.mpr ⟨by decide, by decide⟩) dX1_crossSum_37 ?_
  refine fj_aload_n C 3 dX1_crossSum_38 rfl rfl ?_
  refine fj_get (Cn := RX1) (T := TX1) (N := 7) (ci := 1) (v := .ref (ad 43)) C iX1 38 (fx_at38 _ _ _ _ _) rfl 6 (by decide) kX1_24 rfl dX1_crossSum_39 ?_
  refine fj_iload_n C 1 dX1_crossSum_42 rfl rfl ?_
  refine fj_lald (f := (g 43)) C 43 (fx_at43 _ _ _ _ _) (vp_in_iff.mpr ⟨by decide, by decide⟩) dX1_crossSum_43 ?_
  refine fj_lmul C dX1_crossSum_44 ?_
  refine fj_lsub C dX1_crossSum_45 ?_
  refine fj_ladd C dX1_crossSum_46 ?_
  refine fj_lstore_n (lv' := [(1, .long (((0 + ((((g 42) 0) * ((g 43) 1)) - (((g 42) 1) * ((g 43) 0)))) + ((((g 42) 1) * ((g 43) 2)) - (((g 42) 2) * ((g 43) 1)))) + ((((g 42) 2) * ((g 43) 3)) - (((g 42) 3) * ((g 43) 2))))), (4, .int 3), (3, .int 2), (0, .ref (ad 38))]) C dX1_crossSum_47 rfl (by decide) rfl ?_
  refine fj_iinc (v := 3) (lv' := [(3, .int 3), (1, .long (((0 + ((((g 42) 0) * ((g 43) 1)) - (((g 42) 1) * ((g 43) 0)))) + ((((g 42) 1) * ((g 43) 2)) - (((g 42) 2) * ((g 43) 1)))) + ((((g 42) 2) * ((g 43) 3)) - (((g 42) 3) * ((g 43) 2))))), (4, .int 3), (0, .ref (ad 38))]) C 2 dX1_crossSum_48 rfl (by decide) (by decide) rfl ?_
  refine fj_goto (tgt := 4) C dX1_crossSum_51 (by decide) ?_
  refine fj_iload_n C 0 dX1_crossSum_4 rfl rfl ?_
  refine fj_iconst (v := 4) C dX1_crossSum_5 (by decide) ?_
  refine fj_icmp_ge (tgt := 54) C dX1_crossSum_6 (by decide) (fun h => absurd h (by decide)) (fun _ => ?_)
  refine fj_iload_n C 0 dX1_crossSum_9 rfl rfl ?_
  refine fj_iconst (v := 1) C dX1_crossSum_10 (by decide) ?_
  refine fj_iadd C dX1_crossSum_11 ?_
  refine fj_at (y := 4) (by decide) ?_
  refine fj_iconst (v := 4) C dX1_crossSum_12 (by decide) ?_
  refine fj_irem C dX1_crossSum_13 (by decide) ?_
  refine fj_at (y := 0) (by decide) ?_
  refine fj_istore (lv' := [(4, .int 0), (3, .int 3), (1, .long (((0 + ((((g 42) 0) * ((g 43) 1)) - (((g 42) 1) * ((g 43) 0)))) + ((((g 42) 1) * ((g 43) 2)) - (((g 42) 2) * ((g 43) 1)))) + ((((g 42) 2) * ((g 43) 3)) - (((g 42) 3) * ((g 43) 2))))), (0, .ref (ad 38))]) C dX1_crossSum_14 (by decide) rfl ?_
  refine fj_lload_n C 2 dX1_crossSum_16 rfl rfl ?_
  refine fj_aload_n C 3 dX1_crossSum_17 rfl rfl ?_
  refine fj_get (Cn := RX1) (T := TX1) (N := 7) (ci := 1) (v := .ref (ad 42)) C iX1 38 (fx_at38 _ _ _ _ _) rfl 5 (by decide) kX1_20 rfl dX1_crossSum_18 ?_
  refine fj_iload_n C 1 dX1_crossSum_21 rfl rfl ?_
  refine fj_lald (f := (g 42)) C 42 (fx_at42 _ _ _ _ _) (vp_in_iff.mpr ⟨by decide, by decide⟩) dX1_crossSum_22 ?_
  refine fj_aload_n C 3 dX1_crossSum_23 rfl rfl ?_
  refine fj_get (Cn := RX1) (T := TX1) (N := 7) (ci := 1) (v := .ref (ad 43)) C iX1 38 (fx_at38 _ _ _ _ _) rfl 6 (by decide) kX1_24 rfl dX1_crossSum_24 ?_
  refine fj_iload C 0 dX1_crossSum_27 rfl ?_
  refine fj_lald (f := (g 43)) C 43 (fx_at43 _ _ _ _ _) (vp_in_iff.mpr ⟨by decide, by decide⟩) dX1_crossSum_29 ?_
  refine fj_lmul C dX1_crossSum_30 ?_
  refine fj_aload_n C 3 dX1_crossSum_31 rfl rfl ?_
  refine fj_get (Cn := RX1) (T := TX1) (N := 7) (ci := 1) (v := .ref (ad 42)) C iX1 38 (fx_at38 _ _ _ _ _) rfl 5 (by decide) kX1_20 rfl dX1_crossSum_32 ?_
  refine fj_iload C 0 dX1_crossSum_35 rfl ?_
  refine fj_lald (f := (g 42)) C 42 (fx_at42 _ _ _ _ _) (vp_in_iff.mpr ⟨by decide, by decide⟩) dX1_crossSum_37 ?_
  refine fj_aload_n C 3 dX1_crossSum_38 rfl rfl ?_
  refine fj_get (Cn := RX1) (T := TX1) (N := 7) (ci := 1) (v := .ref (ad 43)) C iX1 38 (fx_at38 _ _ _ _ _) rfl 6 (by decide) kX1_24 rfl dX1_crossSum_39 ?_
  refine fj_iload_n C 1 dX1_crossSum_42 rfl rfl ?_
  refine fj_lald (f := (g 43)) C 43 (fx_at43 _ _ _ _ _) (vp_in_iff.mpr ⟨by decide, by decide⟩) dX1_crossSum_43 ?_
  refine fj_lmul C dX1_crossSum_44 ?_
  refine fj_lsub C dX1_crossSum_45 ?_
  refine fj_ladd C dX1_crossSum_46 ?_
  refine fj_lstore_n (lv' := [(1, .long ((((0 + ((((g 42) 0) * ((g 43) 1)) - (((g 42) 1) * ((g 43) 0)))) + ((((g 42) 1) * ((g 43) 2)) - (((g 42) 2) * ((g 43) 1)))) + ((((g 42) 2) * ((g 43) 3)) - (((g 42) 3) * ((g 43) 2)))) + ((((g 42) 3) * ((g 43) 0)) - (((g 42) 0) * ((g 43) 3))))), (4, .int 0), (3, .int 3), (0, .ref (ad 38))]) C dX1_crossSum_47 rfl (by decide) rfl ?_
  refine fj_iinc (v := 4) (lv' := [(3, .int 4), (1, .long ((((0 + ((((g 42) 0) * ((g 43) 1)) - (((g 42) 1) * ((g 43) 0)))) + ((((g 42) 1) * ((g 43) 2)) - (((g 42) 2) * ((g 43) 1)))) + ((((g 42) 2) * ((g 43) 3)) - (((g 42) 3) * ((g 43) 2)))) + ((((g 42) 3) * ((g 43) 0)) - (((g 42) 0) * ((g 43) 3))))), (4, .int 0), (0, .ref (ad 38))]) C 2 dX1_crossSum_48 rfl (by decide) (by decide) rfl ?_
  refine fj_goto (tgt := 4) C dX1_crossSum_51 (by decide) ?_
  refine fj_iload_n C 0 dX1_crossSum_4 rfl rfl ?_
  refine fj_iconst (v := 4) C dX1_crossSum_5 (by decide) ?_
  refine fj_icmp_ge (tgt := 54) C dX1_crossSum_6 (by decide) (fun _ => ?_) (fun h => absurd (by decide) h)
  refine fj_lload_n C 1 dX1_crossSum_54 rfl rfl ?_
  exact fj_lret C E9 dX1_crossSum_55 ⟨rfl, rfl⟩

set_option maxHeartbeats 4000000 in
set_option maxRecDepth 100000 in
theorem d_X5_lies (l : Launch) (D : va_G) (ty : Nat → ClassId) (t0 : Nat → Nat) (ad : Nat → Nat) (a : Nat → Nat → Int32) (g : Nat → Nat → Int64) (n : Nat → Int32)  (i : Int32) (j : Int32) (q : Int32) (hz : ∀ k, k < 81 → a 39 k = 0 ∨ a 39 k = 1) : fc l yX5_lies wsX5_lies (fj_rm 2 51 0 0) D ty t0 [.ref (ad 0), .int i, .int j, .int q] (fx_w ad ty a g n) 0 0 (fun v w => (¬ (((0 ≤ i ∧ i ≤ 8) ∧ (0 ≤ j ∧ j ≤ 8)) ∧ (0 ≤ q ∧ q ≤ 2)) ∧ v = some (.int (-1002)) ∧ w = fx_w ad ty a g n) ∨ (∃ ci cj, ci ≤ 8 ∧ cj ≤ 8 ∧ i = nI ci ∧ j = nI cj ∧ (0 ≤ q ∧ q ≤ 2) ∧ ((∃ x y, LIE (a 39) (a 40) (a 41) ci cj x y ∧ (q = 0 → v = some (.int x)) ∧ (q = 1 → v = some (.int y)) ∧ (q = 2 → v = some (.int (if a 39 (9 * cj + ci) = 0 then 0 else 1))) ∧ w = fx_w ad ty a g (va_up (va_up n 8 x) 9 y)) ∨ (NOL (a 39) ci cj ∧ v = some (.int (-1003)) ∧ w = fx_w ad ty a g n)))) := by
  refine fc_start (own := RX5) (cc := cX5_lies) (maxL := 4) (ret := (some .int)) (by decide) rfl (Nat.le_of_ble_eq_true rfl) rfl ?_
  intro p e s m args below meth c Q A C hmn E9
  have iX5 : ∀ w ∈ u_ws RX5 TX5 5, w ∈ wsX5_lies := ptX5_lies_wsX50
  have kX5_42 : Cond.fieldLink RX5 42 "FreeLand" "corners" "LFreeLand$Corners;" ∈ wsX5_lies := ptX5_lies_woX5_lies _ (by decide +kernel)
  have kN181 : (RX5, 181, yX1_find) ∈ nw_M := (by decide +kernel)
  have kIX1 : Cond.initialized RX1 ∈ wsX5_lies := ptX5_lies_woX5_lies _ (by decide +kernel)
  have kVX1_find : Cond.instanceMethod yX1_find ∈ wsX5_lies := ptX5_lies_woX5_lies _ (by decide +kernel)
  have kSX1_find : Cond.selects RX1 yX1_find yX1_find ∈ wsX5_lies := ptX5_lies_woX5_lies _ (by decide +kernel)
  have iX1 : ∀ w ∈ u_ws RX1 TX1 7, w ∈ wsX5_lies := ptX5_lies_wsX10
  have kX5_184 : (RX5, 184, "FreeLand$Corners", "foundX", "I") ∈ nw_F := (by decide +kernel)
  have kX5_187 : (RX5, 187, "FreeLand$Corners", "foundY", "I") ∈ nw_F := (by decide +kernel)
  have kN190 : (RX5, 190, yX1_isKnown) ∈ nw_M := (by decide +kernel)
  have kVX1_isKnown : Cond.instanceMethod yX1_isKnown ∈ wsX5_lies := ptX5_lies_woX5_lies _ (by decide +kernel)
  have kSX1_isKnown : Cond.selects RX1 yX1_isKnown yX1_isKnown ∈ wsX5_lies := ptX5_lies_woX5_lies _ (by decide +kernel)
  refine fj_lv (lv' := [(0, .ref (ad 0)), (1, .int i), (2, .int j), (3, .int q)]) [0, 1, 2, 3] rfl ?_
  refine fj_iload_n C 1 dX5_lies_0 rfl rfl ?_
  refine fj_iload_n C 2 dX5_lies_1 rfl rfl ?_
  refine fj_callSw (As := [.int i, .int j]) (rest := []) C (d_X5_isCorner l D ty t0 (fx_w ad ty a g n) i j) (va_cwS 2 C.2.2.2.2.1 gX5_lies_X5_isCorner rfl rfl rfl (by decide +kernel) ⟨Nat.le_of_ble_eq_true rfl, Nat.le_of_ble_eq_true rfl⟩)  rfl (Nat.le_of_ble_eq_true rfl) dX5_lies_2 ⟨Nat.zero_le _, Nat.zero_le _⟩ (fun v9 w9 hp9 => ?_)
  obtain ⟨rfl, rfl⟩ := hp9
  refine fj_st (st' := .int (if ((0 ≤ i ∧ i ≤ 8) ∧ (0 ≤ j ∧ j ≤ 8)) then 1 else 0) :: []) rfl ?_
  refine fj_ifb_eq (tgt := 17) C dX5_lies_5 (by decide) (fun h5 => ?_) (fun h5 => ?_)
  · refine fj_sipush (v := (-1002)) C dX5_lies_17 (by decide) ?_
    exact fj_iret C E9 dX5_lies_20 (Or.inl ⟨by grind, rfl, rfl⟩)
  · obtain ⟨ci, hci, rfl⟩ := fx_le8 h5.1 (N := 8) rfl (by decide)
    obtain ⟨cj, hcj, rfl⟩ := fx_le8 h5.2 (N := 8) rfl (by decide)
    refine fj_iload_n C 3 dX5_lies_8 rfl rfl ?_
    refine fj_iconst (v := 0) C dX5_lies_9 (by decide) ?_
    refine fj_iconst (v := 2) C dX5_lies_10 (by decide) ?_
    refine fj_callSw (As := [.int q, .int 0, .int 2]) (rest := []) C (d_X5_within l D ty t0 (fx_w ad ty a g n) q 0 2) (va_cwS 3 C.2.2.2.2.1 gX5_lies_X5_within rfl rfl rfl (by decide +kernel) ⟨Nat.le_of_ble_eq_true rfl, Nat.le_of_ble_eq_true rfl⟩)  rfl (Nat.le_of_ble_eq_true rfl) dX5_lies_11 ⟨Nat.zero_le _, Nat.zero_le _⟩ (fun v9 w9 hp9 => ?_)
    obtain ⟨rfl, rfl⟩ := hp9
    refine fj_st (st' := .int (if (0 ≤ q ∧ q ≤ 2) then 1 else 0) :: []) rfl ?_
    refine fj_ifb_ne (tgt := 21) C dX5_lies_14 (by decide) (fun h14 => ?_) (fun h14 => ?_)
    · refine fj_aload_n C 0 dX5_lies_21 rfl rfl ?_
      refine fj_get (Cn := RX5) (T := TX5) (N := 5) (ci := 5) (v := .ref (ad 38)) C iX5 0 (fx_at0 _ _ _ _ _) rfl 4 (by decide) kX5_42 rfl dX5_lies_22 ?_
      refine fj_iload_n C 1 dX5_lies_25 rfl rfl ?_
      refine fj_iload_n C 2 dX5_lies_26 rfl rfl ?_
      refine fj_callVNw (As := [.int (nI ci), .int (nI cj)]) (rest := []) C (d_X1_find l D ty t0 ad a g n (nI ci) (nI cj) ci cj rfl rfl hci hcj) ⟨va_cnB 2 C.2.2.2.2.1 gX5_lies_X1_find_n181 rfl rfl rfl (nw_m C.2.2.2.2.2.2.2.1 kN181) (C.2.2.2.2.1 _ kIX1) (by decide +kernel) ⟨Nat.le_of_ble_eq_true rfl, Nat.le_of_ble_eq_true rfl⟩, C.2.2.2.2.1 _ kVX1_find, C.2.2.2.2.1 _ kSX1_find⟩ ⟨38, 1, _, _, fx_at38 _ _ _ _ _, rfl, rfl⟩ rfl (Nat.le_of_ble_eq_true rfl) dX5_lies_27 ⟨Nat.zero_le _, Nat.zero_le _⟩ (fun v9 w9 hp9 => ?_)
      rcases hp9 with ⟨x0, y0, L0, rfl, rfl⟩ | ⟨L0, rfl, rfl⟩
      · refine fj_st (st' := .int 1 :: []) rfl ?_
        refine fj_ws (ws' := (fx_w ad ty a g (va_up (va_up n 8 x0) 9 y0))) rfl ?_
        refine fj_if_ne (tgt := 37) C dX5_lies_30 (by decide) (fun _ => ?_) (fun h => absurd h (by decide))
        refine fj_iload_n C 3 dX5_lies_37 rfl rfl ?_
        rcases (show q.toInt = 0 ∨ q.toInt = 1 ∨ (¬ (0 : Int) = q.toInt ∧ ¬ (1 : Int) = q.toInt) by omega) with hsw | hsw | hsw
        · refine fj_lookup (off := 26) (tgt := 64) C dX5_lies_38 (by decide) (by rw [hsw]; rfl) (by decide) ?_
          obtain rfl : q = 0 := Int32.toInt_inj.mp (by simp [hsw])
          refine fj_aload_n C 0 dX5_lies_64 rfl rfl ?_
          refine fj_get (Cn := RX5) (T := TX5) (N := 5) (ci := 5) (v := .ref (ad 38)) C iX5 0 (fx_at0 _ _ _ _ _) rfl 4 (by decide) kX5_42 rfl dX5_lies_65 ?_
          refine fj_getN (Cn := RX1) (T := TX1) (N := 7) (ci := 1) (v := .int x0) C iX1 38 (fx_at38 _ _ _ _ _) rfl 3 (by decide) kX5_184 rfl dX5_lies_68 ?_
          exact fj_iret C E9 dX5_lies_71 (Or.inr ⟨ci, cj, hci, hcj, rfl, rfl, h14, Or.inl ⟨x0, y0, L0, by grind, by grind, by grind, rfl⟩⟩)
        · refine fj_lookup (off := 34) (tgt := 72) C dX5_lies_38 (by decide) (by rw [hsw]; rfl) (by decide) ?_
          obtain rfl : q = 1 := Int32.toInt_inj.mp (by simp [hsw])
          refine fj_aload_n C 0 dX5_lies_72 rfl rfl ?_
          refine fj_get (Cn := RX5) (T := TX5) (N := 5) (ci := 5) (v := .ref (ad 38)) C iX5 0 (fx_at0 _ _ _ _ _) rfl 4 (by decide) kX5_42 rfl dX5_lies_73 ?_
          refine fj_getN (Cn := RX1) (T := TX1) (N := 7) (ci := 1) (v := .int y0) C iX1 38 (fx_at38 _ _ _ _ _) rfl 4 (by decide) kX5_187 rfl dX5_lies_76 ?_
          exact fj_iret C E9 dX5_lies_79 (Or.inr ⟨ci, cj, hci, hcj, rfl, rfl, h14, Or.inl ⟨x0, y0, L0, by grind, by grind, by grind, rfl⟩⟩)
        · refine fj_lookup (off := 42) (tgt := 80) C dX5_lies_38 (by decide) (by simp [Op.lookupswitch.offset, hsw]) (by decide) ?_
          have eq2 : q = 2 := fx_two h14 hsw.1 hsw.2
          refine fj_aload_n C 0 dX5_lies_80 rfl rfl ?_
          refine fj_get (Cn := RX5) (T := TX5) (N := 5) (ci := 5) (v := .ref (ad 38)) C iX5 0 (fx_at0 _ _ _ _ _) rfl 4 (by decide) kX5_42 rfl dX5_lies_81 ?_
          refine fj_iload_n C 1 dX5_lies_84 rfl rfl ?_
          refine fj_iload_n C 2 dX5_lies_85 rfl rfl ?_
          refine fj_callVNw (As := [.int (nI ci), .int (nI cj)]) (rest := []) C (d_X1_isKnown l D ty t0 ad a g (va_up (va_up n 8 x0) 9 y0) (nI ci) (nI cj) h5.1 h5.2 hz) ⟨va_cnB 2 C.2.2.2.2.1 gX5_lies_X1_isKnown_n190 rfl rfl rfl (nw_m C.2.2.2.2.2.2.2.1 kN190) (C.2.2.2.2.1 _ kIX1) (by decide +kernel) ⟨Nat.le_of_ble_eq_true rfl, Nat.le_of_ble_eq_true rfl⟩, C.2.2.2.2.1 _ kVX1_isKnown, C.2.2.2.2.1 _ kSX1_isKnown⟩ ⟨38, 1, _, _, fx_at38 _ _ _ _ _, rfl, rfl⟩ rfl (Nat.le_of_ble_eq_true rfl) dX5_lies_86 ⟨Nat.zero_le _, Nat.zero_le _⟩ (fun v9 w9 hp9 => ?_)
          obtain ⟨rfl, rfl⟩ := hp9
          refine fj_st (st' := .int (a 39 (9 * (nI cj) + (nI ci)).toNatClampNeg) :: []) rfl ?_
          refine fj_at (y := a 39 (9 * cj + ci)) (by rw [show (9 : Int32) = nI 9 from rfl, pk_mul, nI_add, nI_clamp (by omega)]) ?_
          refine fj_if_eq (tgt := 96) C dX5_lies_89 (by decide) (fun h89 => ?_) (fun h89 => ?_)
          · refine fj_iconst (v := 0) C dX5_lies_96 (by decide) ?_
            exact fj_iret C E9 dX5_lies_97 (Or.inr ⟨ci, cj, hci, hcj, rfl, rfl, h14, Or.inl ⟨x0, y0, L0, by grind, by grind, by grind, rfl⟩⟩)
          · refine fj_iconst (v := 1) C dX5_lies_92 (by decide) ?_
            refine fj_goto (tgt := 97) C dX5_lies_93 (by decide) ?_
            exact fj_iret C E9 dX5_lies_97 (Or.inr ⟨ci, cj, hci, hcj, rfl, rfl, h14, Or.inl ⟨x0, y0, L0, by grind, by grind, by grind, rfl⟩⟩)
      · refine fj_st (st' := .int 0 :: []) rfl ?_
        refine fj_if_ne (tgt := 37) C dX5_lies_30 (by decide) (fun h => absurd (by decide) h) (fun _ => ?_)
        refine fj_sipush (v := (-1003)) C dX5_lies_33 (by decide) ?_
        exact fj_iret C E9 dX5_lies_36 (Or.inr ⟨ci, cj, hci, hcj, rfl, rfl, h14, Or.inr ⟨L0, rfl, rfl⟩⟩)
    · refine fj_sipush (v := (-1002)) C dX5_lies_17 (by decide) ?_
      exact fj_iret C E9 dX5_lies_20 (Or.inl ⟨by grind, rfl, rfl⟩)

set_option maxHeartbeats 4000000 in
set_option maxRecDepth 100000 in
theorem d_X5_area (l : Launch) (D : va_G) (ty : Nat → ClassId) (t0 : Nat → Nat) (ad : Nat → Nat) (a : Nat → Nat → Int32) (g : Nat → Nat → Int64) (n : Nat → Int32)  (q : Int32)  : fc l yX5_area wsX5_area (fj_rm 3 76 0 0) D ty t0 [.ref (ad 0), .int q] (fx_w ad ty a g n) 0 0 (fun v w => (¬ (0 ≤ q ∧ q ≤ 63) ∧ v = some (.long (-1001)) ∧ w = fx_w ad ty a g n) ∨ (∃ k, k ≤ 63 ∧ q = nI k ∧ ((∃ x0 y0 x1 y1 x2 y2 x3 y3, LIE (a 39) (a 40) (a 41) (k % 8) (k / 8) x0 y0 ∧ LIE (a 39) (a 40) (a 41) ((k % 8) + 1) (k / 8) x1 y1 ∧ LIE (a 39) (a 40) (a 41) ((k % 8) + 1) ((k / 8) + 1) x2 y2 ∧ LIE (a 39) (a 40) (a 41) (k % 8) ((k / 8) + 1) x3 y3 ∧ v = some (.long (cs4 (ar4 (g 42) x0 x1 x2 x3) (ar4 (g 43) y0 y1 y2 y3))) ∧ w = fx_w ad ty a (va_up (va_up g 42 (ar4 (g 42) x0 x1 x2 x3)) 43 (ar4 (g 43) y0 y1 y2 y3)) (va_up (va_up n 8 x3) 9 y3)) ∨ (∃ x y G, (NOL (a 39) (k % 8) (k / 8) ∨ NOL (a 39) ((k % 8) + 1) (k / 8) ∨ NOL (a 39) ((k % 8) + 1) ((k / 8) + 1) ∨ NOL (a 39) (k % 8) ((k / 8) + 1)) ∧ v = some (.long (-1003)) ∧ w = fx_w ad ty a G (va_up (va_up n 8 x) 9 y))))) := by
  refine fc_start (own := RX5) (cc := cX5_area) (maxL := 2) (ret := (some .long)) (by decide) rfl (Nat.le_of_ble_eq_true rfl) rfl ?_
  intro p e s m args below meth c Q A C hmn E9
  have iX5 : ∀ w ∈ u_ws RX5 TX5 5, w ∈ wsX5_area := ptX5_area_wsX50
  have kX5_42 : Cond.fieldLink RX5 42 "FreeLand" "corners" "LFreeLand$Corners;" ∈ wsX5_area := ptX5_area_woX5_area _ (by decide +kernel)
  have kN195 : (RX5, 195, yX1_findAround) ∈ nw_M := (by decide +kernel)
  have kIX1 : Cond.initialized RX1 ∈ wsX5_area := ptX5_area_woX5_area _ (by decide +kernel)
  have kVX1_findAround : Cond.instanceMethod yX1_findAround ∈ wsX5_area := ptX5_area_woX5_area _ (by decide +kernel)
  have kSX1_findAround : Cond.selects RX1 yX1_findAround yX1_findAround ∈ wsX5_area := ptX5_area_woX5_area _ (by decide +kernel)
  have kN200 : (RX5, 200, yX1_crossSum) ∈ nw_M := (by decide +kernel)
  have kVX1_crossSum : Cond.instanceMethod yX1_crossSum ∈ wsX5_area := ptX5_area_woX5_area _ (by decide +kernel)
  have kSX1_crossSum : Cond.selects RX1 yX1_crossSum yX1_crossSum ∈ wsX5_area := ptX5_area_woX5_area _ (by decide +kernel)
  have kL198 : Cond.constantLong RX5 198 (-1003) ∈ wsX5_area := ptX5_area_woX5_area _ (by decide +kernel)
  have kL193 : Cond.constantLong RX5 193 (-1001) ∈ wsX5_area := ptX5_area_woX5_area _ (by decide +kernel)
  refine fj_lv (lv' := [(0, .ref (ad 0)), (1, .int q)]) [0, 1] rfl ?_
  refine fj_iload_n C 1 dX5_area_0 rfl rfl ?_
  refine fj_callSw (As := [.int q]) (rest := []) C (d_X5_isQuarter l D ty t0 (fx_w ad ty a g n) q) (va_cwS 1 C.2.2.2.2.1 gX5_area_X5_isQuarter rfl rfl rfl (by decide +kernel) ⟨Nat.le_of_ble_eq_true rfl, Nat.le_of_ble_eq_true rfl⟩)  rfl (Nat.le_of_ble_eq_true rfl) dX5_area_1 ⟨Nat.zero_le _, Nat.zero_le _⟩ (fun v9 w9 hp9 => ?_)
  obtain ⟨rfl, rfl⟩ := hp9
  refine fj_st (st' := .int (if (0 ≤ q ∧ q ≤ 63) then 1 else 0) :: []) rfl ?_
  refine fj_ifb_ne (tgt := 11) C dX5_area_4 (by decide) (fun h4 => ?_) (fun h4 => ?_)
  · obtain ⟨k, hk, rfl⟩ := fx_le8 h4 (N := 63) rfl (by decide)
    refine fj_aload_n C 0 dX5_area_11 rfl rfl ?_
    refine fj_get (Cn := RX5) (T := TX5) (N := 5) (ci := 5) (v := .ref (ad 38)) C iX5 0 (fx_at0 _ _ _ _ _) rfl 4 (by decide) kX5_42 rfl dX5_area_12 ?_
    refine fj_iload_n C 1 dX5_area_15 rfl rfl ?_
    refine fj_bipush (v := 8) C dX5_area_16 (by decide) ?_
    refine fj_irem C dX5_area_18 (by decide) ?_
    refine fj_at (y := nI (k % 8)) (q_mod k (by omega)) ?_
    refine fj_iload_n C 1 dX5_area_19 rfl rfl ?_
    refine fj_bipush (v := 8) C dX5_area_20 (by decide) ?_
    refine fj_idiv C dX5_area_22 (by decide) ?_
    refine fj_at (y := nI (k / 8)) (q_div k (by omega)) ?_
    refine fj_callVNw (As := [.int (nI (k % 8)), .int (nI (k / 8))]) (rest := []) C (d_X1_findAround l D ty t0 ad a g n (nI (k % 8)) (nI (k / 8)) (k % 8) (k / 8) rfl rfl (by omega) (by omega)) ⟨va_cnB 2 C.2.2.2.2.1 gX5_area_X1_findAround_n195 rfl rfl rfl (nw_m C.2.2.2.2.2.2.2.1 kN195) (C.2.2.2.2.1 _ kIX1) (by decide +kernel) ⟨Nat.le_of_ble_eq_true rfl, Nat.le_of_ble_eq_true rfl⟩, C.2.2.2.2.1 _ kVX1_findAround, C.2.2.2.2.1 _ kSX1_findAround⟩ ⟨38, 1, _, _, fx_at38 _ _ _ _ _, rfl, rfl⟩ rfl (Nat.le_of_ble_eq_true rfl) dX5_area_23 ⟨Nat.zero_le _, Nat.zero_le _⟩ (fun v9 w9 hp9 => ?_)
    rcases hp9 with ⟨x0, y0, x1, y1, x2, y2, x3, y3, L0, L1, L2, L3, rfl, rfl⟩ | ⟨x9, y9, G9, L9, rfl, rfl⟩
    · refine fj_st (st' := .int 1 :: []) rfl ?_
      refine fj_if_ne (tgt := 33) C dX5_area_26 (by decide) (fun _ => ?_) (fun h => absurd h (by decide))
      refine fj_aload_n C 0 dX5_area_33 rfl rfl ?_
      refine fj_get (Cn := RX5) (T := TX5) (N := 5) (ci := 5) (v := .ref (ad 38)) C iX5 0 (fx_at0 _ _ _ _ _) rfl 4 (by decide) kX5_42 rfl dX5_area_34 ?_
      refine fj_callVNw (As := []) (rest := []) C (d_X1_crossSum l D ty t0 ad a (va_up (va_up g 42 (ar4 (g 42) x0 x1 x2 x3)) 43 (ar4 (g 43) y0 y1 y2 y3)) (va_up (va_up n 8 x3) 9 y3)) ⟨va_cnB 0 C.2.2.2.2.1 gX5_area_X1_crossSum_n200 rfl rfl rfl (nw_m C.2.2.2.2.2.2.2.1 kN200) (C.2.2.2.2.1 _ kIX1) (by decide +kernel) ⟨Nat.le_of_ble_eq_true rfl, Nat.le_of_ble_eq_true rfl⟩, C.2.2.2.2.1 _ kVX1_crossSum, C.2.2.2.2.1 _ kSX1_crossSum⟩ ⟨38, 1, _, _, fx_at38 _ _ _ _ _, rfl, rfl⟩ rfl (Nat.le_of_ble_eq_true rfl) dX5_area_37 ⟨Nat.zero_le _, Nat.zero_le _⟩ (fun v9 w9 hp9 => ?_)
      obtain ⟨rfl, rfl⟩ := hp9
      refine fj_st (st' := .long (cs4 (ar4 (g 42) x0 x1 x2 x3) (ar4 (g 43) y0 y1 y2 y3)) :: []) rfl ?_
      exact fj_lret C E9 dX5_area_40 (Or.inr ⟨k, hk, rfl, Or.inl ⟨x0, y0, x1, y1, x2, y2, x3, y3, L0, L1, L2, L3, rfl, rfl⟩⟩)
    · refine fj_st (st' := .int 0 :: []) rfl ?_
      refine fj_if_ne (tgt := 33) C dX5_area_26 (by decide) (fun h => absurd (by decide) h) (fun _ => ?_)
      refine fj_ldc2 (v := (-1003)) C dX5_area_29 kL198 ?_
      exact fj_lret C E9 dX5_area_32 (Or.inr ⟨k, hk, rfl, Or.inr ⟨x9, y9, G9, L9, rfl, rfl⟩⟩)
  · refine fj_ldc2 (v := (-1001)) C dX5_area_7 kL193 ?_
    exact fj_lret C E9 dX5_area_10 (Or.inl ⟨by assumption, rfl, rfl⟩)
