set_option maxHeartbeats 4000000 in
set_option maxRecDepth 100000 in
theorem c_X4_acres (l : Launch) (D : va_G) (ty : Nat → ClassId) (t0 : Nat) (ad : Nat → Nat) (q : Int32) (hq : 0 ≤ q ∧ q ≤ 63) : fc l yX4_acres wsX4_acres (fj_rm 0 0 0 0) D ty t0 [.ref (ad 25), .int q] (fx_w ad ty (fx_cl fx_a0) fx_g0 fx_n0) 0 0 (fun v w => v = some (.int 0) ∧ w = fx_w ad ty (fx_cl fx_a0) fx_g0 fx_n0) := by
  refine fc_start (own := RX4) (cc := cX4_acres) (maxL := 6) (ret := (some .int)) (by decide) rfl (Nat.le_of_ble_eq_true rfl) rfl ?_
  intro p e s m args below meth c Q A C hmn E9
  have iX4 : ∀ w ∈ u_ws RX4 TX4 18, w ∈ wsX4_acres := fun _ h => List.mem_cons_of_mem _ (List.mem_append_left _ (List.mem_append_right _ h))
  have kX4_37 : Cond.fieldLink RX4 37 "FreeLand$Work" "held" "[I" ∈ wsX4_acres := (by decide +kernel)
  refine fj_lv (lv' := [(0, .ref (ad 25)), (1, .int q)]) [0, 1] rfl ?_
  refine fj_aload_n C 0 dX4_acres_0 rfl rfl ?_
  refine fj_get (Cn := RX4) (T := TX4) (N := 18) (ci := 4) (v := .ref (ad 33)) C iX4 25 (fx_at25 _ _ _ _ _) rfl 11 (by decide) kX4_37 rfl dX4_acres_1 ?_
  refine fj_iload_n C 1 dX4_acres_4 rfl rfl ?_
  refine fj_iald (f := ((fx_cl fx_a0) 33)) C 33 (fx_at33 _ _ _ _ _) (fx_in hq.1 hq.2 (by decide) (by decide)) dX4_acres_5 ?_
  refine fj_at (y := (-1)) (fx_cl33 _ (fx_ix hq)) ?_
  refine fj_istore_n (lv' := [(2, .int (-1)), (0, .ref (ad 25)), (1, .int q)]) C dX4_acres_6 rfl (by decide) rfl ?_
  refine fj_iload_n C 0 dX4_acres_7 rfl rfl ?_
  refine fj_iconst (v := (-1)) C dX4_acres_8 (by decide) ?_
  refine fj_icmp_ne (tgt := 14) C dX4_acres_9 (by decide) (fun h => absurd (by decide) h) (fun _ => ?_)
  refine fj_iconst (v := 0) C dX4_acres_12 (by decide) ?_
  exact fj_iret C E9 dX4_acres_13 ⟨rfl, rfl⟩

set_option maxHeartbeats 4000000 in
set_option maxRecDepth 100000 in
theorem c_X4_countEntries (l : Launch) (D : va_G) (ty : Nat → ClassId) (t0 : Nat) (ad : Nat → Nat) (x : Int32)  : fc l yX4_countEntries wsX4_countEntries (fj_rm 0 0 0 0) D ty t0 [.ref (ad 25), .int x] (fx_w ad ty (fx_cl fx_a0) fx_g0 fx_n0) 0 0 (fun v w => v = some (.int 0) ∧ w = fx_w ad ty (fx_cl fx_a0) fx_g0 fx_n0) := by
  refine fc_start (own := RX4) (cc := cX4_countEntries) (maxL := 4) (ret := (some .int)) (by decide) rfl (Nat.le_of_ble_eq_true rfl) rfl ?_
  intro p e s m args below meth c Q A C hmn E9
  have iX4 : ∀ w ∈ u_ws RX4 TX4 18, w ∈ wsX4_countEntries := fun _ h => List.mem_cons_of_mem _ (List.mem_append_left _ (List.mem_append_right _ h))
  have kX4_61 : Cond.fieldLink RX4 61 "FreeLand$Work" "book" "LFreeLand$Book;" ∈ wsX4_countEntries := (by decide +kernel)
  have iX0 : ∀ w ∈ u_ws RX0 TX0 8, w ∈ wsX4_countEntries := fun _ h => List.mem_cons_of_mem _ (List.mem_append_right _ h)
  have kX4_68 : (RX4, 68, "FreeLand$Book", "size", "I") ∈ nw_F := (by decide +kernel)
  refine fj_lv (lv' := [(0, .ref (ad 25)), (1, .int x)]) [0, 1] rfl ?_
  refine fj_iconst (v := 0) C dX4_countEntries_0 (by decide) ?_
  refine fj_istore_n (lv' := [(2, .int 0), (0, .ref (ad 25)), (1, .int x)]) C dX4_countEntries_1 rfl (by decide) rfl ?_
  refine fj_iconst (v := 0) C dX4_countEntries_2 (by decide) ?_
  refine fj_istore_n (lv' := [(3, .int 0), (2, .int 0), (0, .ref (ad 25)), (1, .int x)]) C dX4_countEntries_3 rfl (by decide) rfl ?_
  refine fj_iload_n C 0 dX4_countEntries_4 rfl rfl ?_
  refine fj_aload_n C 2 dX4_countEntries_5 rfl rfl ?_
  refine fj_get (Cn := RX4) (T := TX4) (N := 18) (ci := 4) (v := .ref (ad 17)) C iX4 25 (fx_at25 _ _ _ _ _) rfl 2 (by decide) kX4_61 rfl dX4_countEntries_6 ?_
  refine fj_getN (Cn := RX0) (T := TX0) (N := 8) (ci := 0) (v := .int 0) C iX0 17 (fx_at17 _ _ _ _ _) rfl 7 (by decide) kX4_68 rfl dX4_countEntries_9 ?_
  refine fj_icmp_ge (tgt := 34) C dX4_countEntries_12 (by decide) (fun _ => ?_) (fun h => absurd (by decide) h)
  refine fj_iload_n C 1 dX4_countEntries_34 rfl rfl ?_
  exact fj_iret C E9 dX4_countEntries_35 ⟨rfl, rfl⟩

set_option maxHeartbeats 4000000 in
set_option maxRecDepth 100000 in
theorem c_X4_countNotDone (l : Launch) (D : va_G) (ty : Nat → ClassId) (t0 : Nat) (ad : Nat → Nat)   : fc l yX4_countNotDone wsX4_countNotDone (fj_rm 0 0 0 0) D ty t0 [.ref (ad 25)] (fx_w ad ty (fx_cl fx_a0) fx_g0 fx_n0) 0 0 (fun v w => v = some (.int 0) ∧ w = fx_w ad ty (fx_cl fx_a0) fx_g0 fx_n0) := by
  refine fc_start (own := RX4) (cc := cX4_countNotDone) (maxL := 3) (ret := (some .int)) (by decide) rfl (Nat.le_of_ble_eq_true rfl) rfl ?_
  intro p e s m args below meth c Q A C hmn E9
  have iX4 : ∀ w ∈ u_ws RX4 TX4 18, w ∈ wsX4_countNotDone := fun _ h => List.mem_cons_of_mem _ (List.mem_append_left _ (List.mem_append_right _ h))
  have kX4_61 : Cond.fieldLink RX4 61 "FreeLand$Work" "book" "LFreeLand$Book;" ∈ wsX4_countNotDone := (by decide +kernel)
  have iX0 : ∀ w ∈ u_ws RX0 TX0 8, w ∈ wsX4_countNotDone := fun _ h => List.mem_cons_of_mem _ (List.mem_append_right _ h)
  have kX4_68 : (RX4, 68, "FreeLand$Book", "size", "I") ∈ nw_F := (by decide +kernel)
  refine fj_lv (lv' := [(0, .ref (ad 25))]) [0] rfl ?_
  refine fj_iconst (v := 0) C dX4_countNotDone_0 (by decide) ?_
  refine fj_istore_n (lv' := [(1, .int 0), (0, .ref (ad 25))]) C dX4_countNotDone_1 rfl (by decide) rfl ?_
  refine fj_iconst (v := 0) C dX4_countNotDone_2 (by decide) ?_
  refine fj_istore_n (lv' := [(2, .int 0), (1, .int 0), (0, .ref (ad 25))]) C dX4_countNotDone_3 rfl (by decide) rfl ?_
  refine fj_iload_n C 0 dX4_countNotDone_4 rfl rfl ?_
  refine fj_aload_n C 2 dX4_countNotDone_5 rfl rfl ?_
  refine fj_get (Cn := RX4) (T := TX4) (N := 18) (ci := 4) (v := .ref (ad 17)) C iX4 25 (fx_at25 _ _ _ _ _) rfl 2 (by decide) kX4_61 rfl dX4_countNotDone_6 ?_
  refine fj_getN (Cn := RX0) (T := TX0) (N := 8) (ci := 0) (v := .int 0) C iX0 17 (fx_at17 _ _ _ _ _) rfl 7 (by decide) kX4_68 rfl dX4_countNotDone_9 ?_
  refine fj_icmp_ge (tgt := 33) C dX4_countNotDone_12 (by decide) (fun _ => ?_) (fun h => absurd (by decide) h)
  refine fj_iload_n C 1 dX4_countNotDone_33 rfl rfl ?_
  exact fj_iret C E9 dX4_countNotDone_34 ⟨rfl, rfl⟩

set_option maxHeartbeats 4000000 in
set_option maxRecDepth 100000 in
theorem c_X4_countDead (l : Launch) (D : va_G) (ty : Nat → ClassId) (t0 : Nat) (ad : Nat → Nat)   : fc l yX4_countDead wsX4_countDead (fj_rm 0 0 0 0) D ty t0 [.ref (ad 25)] (fx_w ad ty (fx_cl fx_a0) fx_g0 fx_n0) 0 0 (fun v w => v = some (.int 0) ∧ w = fx_w ad ty (fx_cl fx_a0) fx_g0 fx_n0) := by
  refine fc_start (own := RX4) (cc := cX4_countDead) (maxL := 3) (ret := (some .int)) (by decide) rfl (Nat.le_of_ble_eq_true rfl) rfl ?_
  intro p e s m args below meth c Q A C hmn E9
  have iX4 : ∀ w ∈ u_ws RX4 TX4 18, w ∈ wsX4_countDead := fun _ h => List.mem_cons_of_mem _ (List.mem_append_right _ h)
  have kX4_46 : Cond.fieldLink RX4 46 "FreeLand$Work" "dead" "[Z" ∈ wsX4_countDead := (by decide +kernel)
  refine fj_lv (lv' := [(0, .ref (ad 25))]) [0] rfl ?_
  refine fj_iconst (v := 0) C dX4_countDead_0 (by decide) ?_
  refine fj_istore_n (lv' := [(1, .int 0), (0, .ref (ad 25))]) C dX4_countDead_1 rfl (by decide) rfl ?_
  refine fj_iconst (v := 0) C dX4_countDead_2 (by decide) ?_
  refine fj_istore_n (lv' := [(2, .int 0), (1, .int 0), (0, .ref (ad 25))]) C dX4_countDead_3 rfl (by decide) rfl ?_
  refine fj_lv (lv' := [(0, .ref (ad 25)), (1, .int 0), (2, .int 0)]) [2, 1, 0] rfl ?_
  have lp4 : ∀ (i : Nat), (i ≤ 12) → fj p l e (fj_rm 0 0 0 0) s m args below meth c Q A D 3 0 0 (fx_w ad ty (fx_cl fx_a0) fx_g0 fx_n0) [(0, .ref (ad 25)), (1, .int 0), (2, .int (nI i))] 4 [] := by
    have key : ∀ z : Nat, (fun (i : Nat) => (i ≤ 12) → fj p l e (fj_rm 0 0 0 0) s m args below meth c Q A D 3 0 0 (fx_w ad ty (fx_cl fx_a0) fx_g0 fx_n0) [(0, .ref (ad 25)), (1, .int 0), (2, .int (nI i))] 4 []) z := by
      refine fx_ind (fun (i : Nat) => 12 - i) _ ?_
      rintro i ih ii
      refine fj_iload_n C 2 dX4_countDead_4 rfl rfl ?_
      refine fj_bipush (v := 12) C dX4_countDead_5 (by decide) ?_
      refine fj_icmp_ge (tgt := 28) C dX4_countDead_7 (by decide) (fun h7 => ?_) (fun h7 => ?_)
      · have q7 : 12 ≤ i := (nI_leI (a := 12) (by decide) (by omega)).mp h7
        obtain rfl : i = 12 := by omega
        refine fj_iload_n C 1 dX4_countDead_28 rfl rfl ?_
        exact fj_iret C E9 dX4_countDead_29 ⟨rfl, rfl⟩
      · have q7 : i < 12 := Nat.lt_of_not_le (fun q => h7 ((nI_leI (a := 12) (by decide) (by omega)).mpr q))
        refine fj_aload_n C 0 dX4_countDead_10 rfl rfl ?_
        refine fj_get (Cn := RX4) (T := TX4) (N := 18) (ci := 4) (v := .ref (ad 36)) C iX4 25 (fx_at25 _ _ _ _ _) rfl 14 (by decide) kX4_46 rfl dX4_countDead_11 ?_
        refine fj_iload_n C 2 dX4_countDead_14 rfl rfl ?_
        refine fj_zald (f := ((fx_cl fx_a0) 36)) C 36 (fx_at36 _ _ _ _ _) (vp_in_nI q7 (by decide)) dX4_countDead_15 ?_
        refine fj_at (y := 0) (fx_cl36 _ (by rw [nI_clamp (by omega)]; exact q7)) ?_
        refine fj_if_eq (tgt := 22) C dX4_countDead_16 (by decide) (fun _ => ?_) (fun h => absurd (by decide) h)
        refine fj_iinc (v := nI (i + 1)) (lv' := [(2, .int (nI (i + 1))), (0, .ref (ad 25)), (1, .int 0)]) C 2 dX4_countDead_22 rfl (nI_1 i) (by decide) rfl ?_
        refine fj_goto (tgt := 4) C dX4_countDead_25 (by decide) ?_
        refine fj_lv (lv' := [(0, .ref (ad 25)), (1, .int 0), (2, .int (nI (i + 1)))]) [1, 2, 0] rfl ?_
        exact ih (i + 1) (by show 12 - (i + 1) < 12 - i; omega) (by omega)
    intro i
    exact key i
  exact lp4 0 (Nat.zero_le _)

set_option maxHeartbeats 4000000 in
set_option maxRecDepth 100000 in
theorem c_X0_countStruck (l : Launch) (D : va_G) (ty : Nat → ClassId) (t0 : Nat) (ad : Nat → Nat)   : fc l yX0_countStruck wsX0_countStruck (fj_rm 0 0 0 0) D ty t0 [.ref (ad 17)] (fx_w ad ty fx_a0 fx_g0 fx_n0) 0 0 (fun v w => v = some (.int 0) ∧ w = fx_w ad ty fx_a0 fx_g0 fx_n0) := by
  refine fc_start (own := RX0) (cc := cX0_countStruck) (maxL := 3) (ret := (some .int)) (by decide) rfl (Nat.le_of_ble_eq_true rfl) rfl ?_
  intro p e s m args below meth c Q A C hmn E9
  have iX0 : ∀ w ∈ u_ws RX0 TX0 8, w ∈ wsX0_countStruck := fun _ h => List.mem_cons_of_mem _ (List.mem_append_right _ h)
  have kX0_34 : Cond.fieldLink RX0 34 "FreeLand$Book" "size" "I" ∈ wsX0_countStruck := (by decide +kernel)
  refine fj_lv (lv' := [(0, .ref (ad 17))]) [0] rfl ?_
  refine fj_iconst (v := 0) C dX0_countStruck_0 (by decide) ?_
  refine fj_istore_n (lv' := [(1, .int 0), (0, .ref (ad 17))]) C dX0_countStruck_1 rfl (by decide) rfl ?_
  refine fj_iconst (v := 0) C dX0_countStruck_2 (by decide) ?_
  refine fj_istore_n (lv' := [(2, .int 0), (1, .int 0), (0, .ref (ad 17))]) C dX0_countStruck_3 rfl (by decide) rfl ?_
  refine fj_iload_n C 0 dX0_countStruck_4 rfl rfl ?_
  refine fj_aload_n C 2 dX0_countStruck_5 rfl rfl ?_
  refine fj_get (Cn := RX0) (T := TX0) (N := 8) (ci := 0) (v := .int 0) C iX0 17 (fx_at17 _ _ _ _ _) rfl 7 (by decide) kX0_34 rfl dX0_countStruck_6 ?_
  refine fj_icmp_ge (tgt := 30) C dX0_countStruck_9 (by decide) (fun _ => ?_) (fun h => absurd (by decide) h)
  refine fj_iload_n C 1 dX0_countStruck_30 rfl rfl ?_
  exact fj_iret C E9 dX0_countStruck_31 ⟨rfl, rfl⟩

set_option maxHeartbeats 4000000 in
set_option maxRecDepth 100000 in
theorem c_X5_countOfWork (l : Launch) (D : va_G) (ty : Nat → ClassId) (t0 : Nat) (ad : Nat → Nat) (x : Int32)  : fc l yX5_countOfWork wsX5_countOfWork (fj_rm 2 45 0 0) D ty t0 [.ref (ad 0), .int x] (fx_w ad ty fx_a0 fx_g0 fx_n0) 0 0 (fun v w => v = some (.int (if (5 ≤ x ∧ x ≤ 10) then 0 else -1002))) := by
  refine fc_start (own := RX5) (cc := cX5_countOfWork) (maxL := 2) (ret := (some .int)) (by decide) rfl (Nat.le_of_ble_eq_true rfl) rfl ?_
  intro p e s m args below meth c Q A C hmn E9
  have iX5 : ∀ w ∈ u_ws RX5 TX5 5, w ∈ wsX5_countOfWork := fun _ h => List.mem_cons_of_mem _ (List.mem_append_left _ (List.mem_append_left _ (List.mem_append_left _ (List.mem_append_left _ (List.mem_append_right _ h)))))
  have kX5_35 : Cond.fieldLink RX5 35 "FreeLand" "work" "LFreeLand$Work;" ∈ wsX5_countOfWork := (by decide +kernel)
  have kX5_26 : Cond.fieldLink RX5 26 "FreeLand" "book" "LFreeLand$Book;" ∈ wsX5_countOfWork := (by decide +kernel)
  have iX0 : ∀ w ∈ u_ws RX0 TX0 8, w ∈ wsX5_countOfWork := fun _ h => List.mem_cons_of_mem _ (List.mem_append_left _ (List.mem_append_left _ (List.mem_append_left _ (List.mem_append_right _ h))))
  have kX5_100 : (RX5, 100, "FreeLand$Book", "size", "I") ∈ nw_F := (by decide +kernel)
  have kN130 : (RX5, 130, yX4_through) ∈ nw_M := (by decide +kernel)
  have kIX4 : Cond.initialized RX4 ∈ wsX5_countOfWork := (by decide +kernel)
  have kVX4_through : Cond.instanceMethod yX4_through ∈ wsX5_countOfWork := (by decide +kernel)
  have kSX4_through : Cond.selects RX4 yX4_through yX4_through ∈ wsX5_countOfWork := (by decide +kernel)
  have kN150 : (RX5, 150, yX4_countNotDone) ∈ nw_M := (by decide +kernel)
  have kVX4_countNotDone : Cond.instanceMethod yX4_countNotDone ∈ wsX5_countOfWork := (by decide +kernel)
  have kSX4_countNotDone : Cond.selects RX4 yX4_countNotDone yX4_countNotDone ∈ wsX5_countOfWork := (by decide +kernel)
  have kN144 : (RX5, 144, yX4_countEntries) ∈ nw_M := (by decide +kernel)
  have kVX4_countEntries : Cond.instanceMethod yX4_countEntries ∈ wsX5_countOfWork := (by decide +kernel)
  have kSX4_countEntries : Cond.selects RX4 yX4_countEntries yX4_countEntries ∈ wsX5_countOfWork := (by decide +kernel)
  have kN147 : (RX5, 147, yX4_countDead) ∈ nw_M := (by decide +kernel)
  have kVX4_countDead : Cond.instanceMethod yX4_countDead ∈ wsX5_countOfWork := (by decide +kernel)
  have kSX4_countDead : Cond.selects RX4 yX4_countDead yX4_countDead ∈ wsX5_countOfWork := (by decide +kernel)
  refine fj_lv (lv' := [(0, .ref (ad 0)), (1, .int x)]) [0, 1] rfl ?_
  refine fj_iload_n C 1 dX5_countOfWork_0 rfl rfl ?_
  refine fj_iconst (v := 5) C dX5_countOfWork_1 (by decide) ?_
  refine fj_bipush (v := 10) C dX5_countOfWork_2 (by decide) ?_
  refine fj_callSw (As := [.int x, .int 5, .int 10]) (rest := []) C (c_X5_within l D ty t0 (fx_w ad ty fx_a0 fx_g0 fx_n0) x 5 10) (va_cwS 3 C.2.2.2.2.1 gX5_countOfWork_X5_within rfl rfl rfl (by decide +kernel) ⟨Nat.le_of_ble_eq_true rfl, Nat.le_of_ble_eq_true rfl⟩)  rfl (Nat.le_of_ble_eq_true rfl) dX5_countOfWork_4 ⟨Nat.zero_le _, Nat.zero_le _⟩ (fun v9 w9 hp9 => ?_)
  obtain ⟨rfl, rfl⟩ := hp9
  refine fj_st (st' := .int (if (5 ≤ x ∧ x ≤ 10) then 1 else 0) :: []) rfl ?_
  refine fj_ifb_ne (tgt := 14) C dX5_countOfWork_7 (by decide) (fun h7 => ?_) (fun h7 => ?_)
  · refine fj_aload_n C 0 dX5_countOfWork_14 rfl rfl ?_
    refine fj_get (Cn := RX5) (T := TX5) (N := 5) (ci := 5) (v := .ref (ad 25)) C iX5 0 (fx_at0 _ _ _ _ _) rfl 3 (by decide) kX5_35 rfl dX5_countOfWork_15 ?_
    refine fj_aload_n C 0 dX5_countOfWork_18 rfl rfl ?_
    refine fj_get (Cn := RX5) (T := TX5) (N := 5) (ci := 5) (v := .ref (ad 17)) C iX5 0 (fx_at0 _ _ _ _ _) rfl 2 (by decide) kX5_26 rfl dX5_countOfWork_19 ?_
    refine fj_getN (Cn := RX0) (T := TX0) (N := 8) (ci := 0) (v := .int 0) C iX0 17 (fx_at17 _ _ _ _ _) rfl 7 (by decide) kX5_100 rfl dX5_countOfWork_22 ?_
    refine fj_sipush (v := 20000) C dX5_countOfWork_25 (by decide) ?_
    refine fj_callVNw (As := [.int 0, .int 20000]) (rest := []) C (c_X4_through l D ty t0 ad 0 20000) ⟨va_cnB 2 C.2.2.2.2.1 gX5_countOfWork_X4_through_n130 rfl rfl rfl (C.2.2.2.2.2.2.2.1.1 _ kN130) (C.2.2.2.2.1 _ kIX4) (by decide +kernel) ⟨Nat.le_of_ble_eq_true rfl, Nat.le_of_ble_eq_true rfl⟩, C.2.2.2.2.1 _ kVX4_through, C.2.2.2.2.1 _ kSX4_through⟩ ⟨25, 4, _, _, fx_at25 _ _ _ _ _, rfl, rfl⟩ rfl (Nat.le_of_ble_eq_true rfl) dX5_countOfWork_28 ⟨Nat.zero_le _, Nat.zero_le _⟩ (fun v9 w9 hp9 => ?_)
    obtain ⟨rfl, rfl⟩ := hp9
    refine fj_st (st' := []) rfl ?_
    refine fj_iload_n C 1 dX5_countOfWork_31 rfl rfl ?_
    rcases fx_sw x 5 9 with hsw | hsw
    · refine fj_tableOut (tgt := 130) C dX5_countOfWork_32 hsw (by decide) ?_
      refine fj_aload_n C 0 dX5_countOfWork_130 rfl rfl ?_
      refine fj_get (Cn := RX5) (T := TX5) (N := 5) (ci := 5) (v := .ref (ad 25)) C iX5 0 (fx_at0 _ _ _ _ _) rfl 3 (by decide) kX5_35 rfl dX5_countOfWork_131 ?_
      refine fj_callVNw (As := []) (rest := []) C (c_X4_countNotDone l D ty t0 ad) ⟨va_cnB 0 C.2.2.2.2.1 gX5_countOfWork_X4_countNotDone_n150 rfl rfl rfl (C.2.2.2.2.2.2.2.1.1 _ kN150) (C.2.2.2.2.1 _ kIX4) (by decide +kernel) ⟨Nat.le_of_ble_eq_true rfl, Nat.le_of_ble_eq_true rfl⟩, C.2.2.2.2.1 _ kVX4_countNotDone, C.2.2.2.2.1 _ kSX4_countNotDone⟩ ⟨25, 4, _, _, fx_at25 _ _ _ _ _, rfl, rfl⟩ rfl (Nat.le_of_ble_eq_true rfl) dX5_countOfWork_134 ⟨Nat.zero_le _, Nat.zero_le _⟩ (fun v9 w9 hp9 => ?_)
      obtain ⟨rfl, rfl⟩ := hp9
      refine fj_st (st' := .int 0 :: []) rfl ?_
      exact fj_iret C E9 dX5_countOfWork_137 (by (repeat' split) <;> first | rfl | (exfalso; grind) | grind)
    · obtain ⟨hs1, hs2⟩ := hsw
      rcases (show x.toInt = 5 ∨ x.toInt = 6 ∨ x.toInt = 7 ∨ x.toInt = 8 ∨ x.toInt = 9 by omega) with hsw | hsw | hsw | hsw | hsw
      · refine fj_tableIn (off := 36) (tgt := 68) C dX5_countOfWork_32 (by omega) (by omega) (by rw [hsw]; rfl) (by decide) ?_
        refine fj_aload_n C 0 dX5_countOfWork_68 rfl rfl ?_
        refine fj_get (Cn := RX5) (T := TX5) (N := 5) (ci := 5) (v := .ref (ad 25)) C iX5 0 (fx_at0 _ _ _ _ _) rfl 3 (by decide) kX5_35 rfl dX5_countOfWork_69 ?_
        refine fj_iconst (v := 1) C dX5_countOfWork_72 (by decide) ?_
        refine fj_callVNw (As := [.int 1]) (rest := []) C (c_X4_countEntries l D ty t0 ad 1) ⟨va_cnB 1 C.2.2.2.2.1 gX5_countOfWork_X4_countEntries_n144 rfl rfl rfl (C.2.2.2.2.2.2.2.1.1 _ kN144) (C.2.2.2.2.1 _ kIX4) (by decide +kernel) ⟨Nat.le_of_ble_eq_true rfl, Nat.le_of_ble_eq_true rfl⟩, C.2.2.2.2.1 _ kVX4_countEntries, C.2.2.2.2.1 _ kSX4_countEntries⟩ ⟨25, 4, _, _, fx_at25 _ _ _ _ _, rfl, rfl⟩ rfl (Nat.le_of_ble_eq_true rfl) dX5_countOfWork_73 ⟨Nat.zero_le _, Nat.zero_le _⟩ (fun v9 w9 hp9 => ?_)
        obtain ⟨rfl, rfl⟩ := hp9
        refine fj_st (st' := .int 0 :: []) rfl ?_
        refine fj_aload_n C 0 dX5_countOfWork_76 rfl rfl ?_
        refine fj_get (Cn := RX5) (T := TX5) (N := 5) (ci := 5) (v := .ref (ad 25)) C iX5 0 (fx_at0 _ _ _ _ _) rfl 3 (by decide) kX5_35 rfl dX5_countOfWork_77 ?_
        refine fj_iconst (v := 2) C dX5_countOfWork_80 (by decide) ?_
        refine fj_callVNw (As := [.int 2]) (rest := [.int 0]) C (c_X4_countEntries l D ty t0 ad 2) ⟨va_cnB 1 C.2.2.2.2.1 gX5_countOfWork_X4_countEntries_n144 rfl rfl rfl (C.2.2.2.2.2.2.2.1.1 _ kN144) (C.2.2.2.2.1 _ kIX4) (by decide +kernel) ⟨Nat.le_of_ble_eq_true rfl, Nat.le_of_ble_eq_true rfl⟩, C.2.2.2.2.1 _ kVX4_countEntries, C.2.2.2.2.1 _ kSX4_countEntries⟩ ⟨25, 4, _, _, fx_at25 _ _ _ _ _, rfl, rfl⟩ rfl (Nat.le_of_ble_eq_true rfl) dX5_countOfWork_81 ⟨Nat.zero_le _, Nat.zero_le _⟩ (fun v9 w9 hp9 => ?_)
        obtain ⟨rfl, rfl⟩ := hp9
        refine fj_st (st' := .int 0 :: [.int 0]) rfl ?_
        refine fj_iadd C dX5_countOfWork_84 ?_
        refine fj_at (y := 0) (by decide) ?_
        refine fj_aload_n C 0 dX5_countOfWork_85 rfl rfl ?_
        refine fj_get (Cn := RX5) (T := TX5) (N := 5) (ci := 5) (v := .ref (ad 25)) C iX5 0 (fx_at0 _ _ _ _ _) rfl 3 (by decide) kX5_35 rfl dX5_countOfWork_86 ?_
        refine fj_iconst (v := 3) C dX5_countOfWork_89 (by decide) ?_
        refine fj_callVNw (As := [.int 3]) (rest := [.int 0]) C (c_X4_countEntries l D ty t0 ad 3) ⟨va_cnB 1 C.2.2.2.2.1 gX5_countOfWork_X4_countEntries_n144 rfl rfl rfl (C.2.2.2.2.2.2.2.1.1 _ kN144) (C.2.2.2.2.1 _ kIX4) (by decide +kernel) ⟨Nat.le_of_ble_eq_true rfl, Nat.le_of_ble_eq_true rfl⟩, C.2.2.2.2.1 _ kVX4_countEntries, C.2.2.2.2.1 _ kSX4_countEntries⟩ ⟨25, 4, _, _, fx_at25 _ _ _ _ _, rfl, rfl⟩ rfl (Nat.le_of_ble_eq_true rfl) dX5_countOfWork_90 ⟨Nat.zero_le _, Nat.zero_le _⟩ (fun v9 w9 hp9 => ?_)
        obtain ⟨rfl, rfl⟩ := hp9
        refine fj_st (st' := .int 0 :: [.int 0]) rfl ?_
        refine fj_iadd C dX5_countOfWork_93 ?_
        refine fj_at (y := 0) (by decide) ?_
        exact fj_iret C E9 dX5_countOfWork_94 (by (repeat' split) <;> first | rfl | (exfalso; grind) | grind)
      · refine fj_tableIn (off := 63) (tgt := 95) C dX5_countOfWork_32 (by omega) (by omega) (by rw [hsw]; rfl) (by decide) ?_
        refine fj_aload_n C 0 dX5_countOfWork_95 rfl rfl ?_
        refine fj_get (Cn := RX5) (T := TX5) (N := 5) (ci := 5) (v := .ref (ad 25)) C iX5 0 (fx_at0 _ _ _ _ _) rfl 3 (by decide) kX5_35 rfl dX5_countOfWork_96 ?_
        refine fj_iconst (v := 1) C dX5_countOfWork_99 (by decide) ?_
        refine fj_callVNw (As := [.int 1]) (rest := []) C (c_X4_countEntries l D ty t0 ad 1) ⟨va_cnB 1 C.2.2.2.2.1 gX5_countOfWork_X4_countEntries_n144 rfl rfl rfl (C.2.2.2.2.2.2.2.1.1 _ kN144) (C.2.2.2.2.1 _ kIX4) (by decide +kernel) ⟨Nat.le_of_ble_eq_true rfl, Nat.le_of_ble_eq_true rfl⟩, C.2.2.2.2.1 _ kVX4_countEntries, C.2.2.2.2.1 _ kSX4_countEntries⟩ ⟨25, 4, _, _, fx_at25 _ _ _ _ _, rfl, rfl⟩ rfl (Nat.le_of_ble_eq_true rfl) dX5_countOfWork_100 ⟨Nat.zero_le _, Nat.zero_le _⟩ (fun v9 w9 hp9 => ?_)
        obtain ⟨rfl, rfl⟩ := hp9
        refine fj_st (st' := .int 0 :: []) rfl ?_
        exact fj_iret C E9 dX5_countOfWork_103 (by (repeat' split) <;> first | rfl | (exfalso; grind) | grind)
      · refine fj_tableIn (off := 72) (tgt := 104) C dX5_countOfWork_32 (by omega) (by omega) (by rw [hsw]; rfl) (by decide) ?_
        refine fj_aload_n C 0 dX5_countOfWork_104 rfl rfl ?_
        refine fj_get (Cn := RX5) (T := TX5) (N := 5) (ci := 5) (v := .ref (ad 25)) C iX5 0 (fx_at0 _ _ _ _ _) rfl 3 (by decide) kX5_35 rfl dX5_countOfWork_105 ?_
        refine fj_iconst (v := 2) C dX5_countOfWork_108 (by decide) ?_
        refine fj_callVNw (As := [.int 2]) (rest := []) C (c_X4_countEntries l D ty t0 ad 2) ⟨va_cnB 1 C.2.2.2.2.1 gX5_countOfWork_X4_countEntries_n144 rfl rfl rfl (C.2.2.2.2.2.2.2.1.1 _ kN144) (C.2.2.2.2.1 _ kIX4) (by decide +kernel) ⟨Nat.le_of_ble_eq_true rfl, Nat.le_of_ble_eq_true rfl⟩, C.2.2.2.2.1 _ kVX4_countEntries, C.2.2.2.2.1 _ kSX4_countEntries⟩ ⟨25, 4, _, _, fx_at25 _ _ _ _ _, rfl, rfl⟩ rfl (Nat.le_of_ble_eq_true rfl) dX5_countOfWork_109 ⟨Nat.zero_le _, Nat.zero_le _⟩ (fun v9 w9 hp9 => ?_)
        obtain ⟨rfl, rfl⟩ := hp9
        refine fj_st (st' := .int 0 :: []) rfl ?_
        exact fj_iret C E9 dX5_countOfWork_112 (by (repeat' split) <;> first | rfl | (exfalso; grind) | grind)
      · refine fj_tableIn (off := 81) (tgt := 113) C dX5_countOfWork_32 (by omega) (by omega) (by rw [hsw]; rfl) (by decide) ?_
        refine fj_aload_n C 0 dX5_countOfWork_113 rfl rfl ?_
        refine fj_get (Cn := RX5) (T := TX5) (N := 5) (ci := 5) (v := .ref (ad 25)) C iX5 0 (fx_at0 _ _ _ _ _) rfl 3 (by decide) kX5_35 rfl dX5_countOfWork_114 ?_
        refine fj_iconst (v := 3) C dX5_countOfWork_117 (by decide) ?_
        refine fj_callVNw (As := [.int 3]) (rest := []) C (c_X4_countEntries l D ty t0 ad 3) ⟨va_cnB 1 C.2.2.2.2.1 gX5_countOfWork_X4_countEntries_n144 rfl rfl rfl (C.2.2.2.2.2.2.2.1.1 _ kN144) (C.2.2.2.2.1 _ kIX4) (by decide +kernel) ⟨Nat.le_of_ble_eq_true rfl, Nat.le_of_ble_eq_true rfl⟩, C.2.2.2.2.1 _ kVX4_countEntries, C.2.2.2.2.1 _ kSX4_countEntries⟩ ⟨25, 4, _, _, fx_at25 _ _ _ _ _, rfl, rfl⟩ rfl (Nat.le_of_ble_eq_true rfl) dX5_countOfWork_118 ⟨Nat.zero_le _, Nat.zero_le _⟩ (fun v9 w9 hp9 => ?_)
        obtain ⟨rfl, rfl⟩ := hp9
        refine fj_st (st' := .int 0 :: []) rfl ?_
        exact fj_iret C E9 dX5_countOfWork_121 (by (repeat' split) <;> first | rfl | (exfalso; grind) | grind)
      · refine fj_tableIn (off := 90) (tgt := 122) C dX5_countOfWork_32 (by omega) (by omega) (by rw [hsw]; rfl) (by decide) ?_
        refine fj_aload_n C 0 dX5_countOfWork_122 rfl rfl ?_
        refine fj_get (Cn := RX5) (T := TX5) (N := 5) (ci := 5) (v := .ref (ad 25)) C iX5 0 (fx_at0 _ _ _ _ _) rfl 3 (by decide) kX5_35 rfl dX5_countOfWork_123 ?_
        refine fj_callVNw (As := []) (rest := []) C (c_X4_countDead l D ty t0 ad) ⟨va_cnB 0 C.2.2.2.2.1 gX5_countOfWork_X4_countDead_n147 rfl rfl rfl (C.2.2.2.2.2.2.2.1.1 _ kN147) (C.2.2.2.2.1 _ kIX4) (by decide +kernel) ⟨Nat.le_of_ble_eq_true rfl, Nat.le_of_ble_eq_true rfl⟩, C.2.2.2.2.1 _ kVX4_countDead, C.2.2.2.2.1 _ kSX4_countDead⟩ ⟨25, 4, _, _, fx_at25 _ _ _ _ _, rfl, rfl⟩ rfl (Nat.le_of_ble_eq_true rfl) dX5_countOfWork_126 ⟨Nat.zero_le _, Nat.zero_le _⟩ (fun v9 w9 hp9 => ?_)
        obtain ⟨rfl, rfl⟩ := hp9
        refine fj_st (st' := .int 0 :: []) rfl ?_
        exact fj_iret C E9 dX5_countOfWork_129 (by (repeat' split) <;> first | rfl | (exfalso; grind) | grind)
  · refine fj_sipush (v := (-1002)) C dX5_countOfWork_10 (by decide) ?_
    exact fj_iret C E9 dX5_countOfWork_13 (by (repeat' split) <;> first | rfl | (exfalso; grind) | grind)

set_option maxHeartbeats 4000000 in
set_option maxRecDepth 100000 in
theorem c_X5_count (l : Launch) (D : va_G) (ty : Nat → ClassId) (t0 : Nat) (ad : Nat → Nat) (x : Int32)  : fc l yX5_count wsX5_count (fj_rm 3 66 0 0) D ty t0 [.ref (ad 0), .int x] (fx_w ad ty fx_a0 fx_g0 fx_n0) 0 0 (fun v w => v = some (.int (if (0 ≤ x ∧ x ≤ 10) then 0 else -1002))) := by
  refine fc_start (own := RX5) (cc := cX5_count) (maxL := 2) (ret := (some .int)) (by decide) rfl (Nat.le_of_ble_eq_true rfl) rfl ?_
  intro p e s m args below meth c Q A C hmn E9
  have iX5 : ∀ w ∈ u_ws RX5 TX5 5, w ∈ wsX5_count := fun _ h => List.mem_cons_of_mem _ (List.mem_append_left _ (List.mem_append_left _ (List.mem_append_left _ (List.mem_append_left _ (List.mem_append_right _ h)))))
  have kX5_12 : Cond.fieldLink RX5 12 "FreeLand" "persons" "LFreeLand$Persons;" ∈ wsX5_count := (by decide +kernel)
  have iX3 : ∀ w ∈ u_ws RX3 TX3 3, w ∈ wsX5_count := fun _ h => List.mem_cons_of_mem _ (List.mem_append_left _ (List.mem_append_left _ (List.mem_append_left _ (List.mem_append_right _ h))))
  have kX5_50 : (RX5, 50, "FreeLand$Persons", "size", "I") ∈ nw_F := (by decide +kernel)
  have kX5_19 : Cond.fieldLink RX5 19 "FreeLand" "laws" "LFreeLand$Laws;" ∈ wsX5_count := (by decide +kernel)
  have iX2 : ∀ w ∈ u_ws RX2 TX2 7, w ∈ wsX5_count := fun _ h => List.mem_cons_of_mem _ (List.mem_append_left _ (List.mem_append_left _ (List.mem_append_right _ h)))
  have kX5_72 : (RX5, 72, "FreeLand$Laws", "size", "I") ∈ nw_F := (by decide +kernel)
  have kX5_26 : Cond.fieldLink RX5 26 "FreeLand" "book" "LFreeLand$Book;" ∈ wsX5_count := (by decide +kernel)
  have iX0 : ∀ w ∈ u_ws RX0 TX0 8, w ∈ wsX5_count := fun _ h => List.mem_cons_of_mem _ (List.mem_append_left _ (List.mem_append_right _ h))
  have kX5_100 : (RX5, 100, "FreeLand$Book", "size", "I") ∈ nw_F := (by decide +kernel)
  have kN137 : (RX5, 137, yX0_countStruck) ∈ nw_M := (by decide +kernel)
  have kIX0 : Cond.initialized RX0 ∈ wsX5_count := (by decide +kernel)
  have kVX0_countStruck : Cond.instanceMethod yX0_countStruck ∈ wsX5_count := (by decide +kernel)
  have kSX0_countStruck : Cond.selects RX0 yX0_countStruck yX0_countStruck ∈ wsX5_count := (by decide +kernel)
  have kX5_61 : (RX5, 61, "FreeLand$Laws", "length", "I") ∈ nw_F := (by decide +kernel)
  refine fj_lv (lv' := [(0, .ref (ad 0)), (1, .int x)]) [0, 1] rfl ?_
  refine fj_iload_n C 1 dX5_count_0 rfl rfl ?_
  rcases fx_sw x 0 4 with hsw | hsw
  · refine fj_tableOut (tgt := 76) C dX5_count_1 hsw (by decide) ?_
    have z1 : ¬ (0 ≤ x ∧ x ≤ 4) := (by simp only [Int32.le_iff_toInt_le]; simp; omega)
    refine fj_aload_n C 0 dX5_count_76 rfl rfl ?_
    refine fj_iload_n C 1 dX5_count_77 rfl rfl ?_
    refine fj_callVw (As := [.int x]) (rest := []) C (c_X5_countOfWork l D ty t0 ad x) (cwV 1 C.2.2.2.2.1 gX5_count_X5_countOfWork rfl rfl rfl (by decide +kernel) ⟨Nat.le_of_ble_eq_true rfl, Nat.le_of_ble_eq_true rfl⟩) ⟨0, 5, _, _, fx_at0 _ _ _ _ _, rfl, rfl⟩ rfl (Nat.le_of_ble_eq_true rfl) dX5_count_78 ⟨Nat.zero_le _, Nat.zero_le _⟩ (fun v9 w9 hp9 => ?_)
    obtain rfl := hp9
    refine fj_st (st' := .int (if (5 ≤ x ∧ x ≤ 10) then 0 else -1002) :: []) rfl ?_
    exact fj_iret C E9 dX5_count_81 (by (repeat' split) <;> first | rfl | (exfalso; grind) | grind)
  · obtain ⟨hs1, hs2⟩ := hsw
    rcases (show x.toInt = 0 ∨ x.toInt = 1 ∨ x.toInt = 2 ∨ x.toInt = 3 ∨ x.toInt = 4 by omega) with hsw | hsw | hsw | hsw | hsw
    · refine fj_tableIn (off := 35) (tgt := 36) C dX5_count_1 (by omega) (by omega) (by rw [hsw]; rfl) (by decide) ?_
      have ex : x = 0 := Int32.toInt_inj.mp (by simp [hsw])
      refine fj_aload_n C 0 dX5_count_36 rfl rfl ?_
      refine fj_get (Cn := RX5) (T := TX5) (N := 5) (ci := 5) (v := .ref (ad 1)) C iX5 0 (fx_at0 _ _ _ _ _) rfl 0 (by decide) kX5_12 rfl dX5_count_37 ?_
      refine fj_getN (Cn := RX3) (T := TX3) (N := 3) (ci := 3) (v := .int 0) C iX3 1 (fx_at1 _ _ _ _ _) rfl 2 (by decide) kX5_50 rfl dX5_count_40 ?_
      exact fj_iret C E9 dX5_count_43 (by (repeat' split) <;> first | rfl | (exfalso; grind) | grind)
    · refine fj_tableIn (off := 43) (tgt := 44) C dX5_count_1 (by omega) (by omega) (by rw [hsw]; rfl) (by decide) ?_
      have ex : x = 1 := Int32.toInt_inj.mp (by simp [hsw])
      refine fj_aload_n C 0 dX5_count_44 rfl rfl ?_
      refine fj_get (Cn := RX5) (T := TX5) (N := 5) (ci := 5) (v := .ref (ad 4)) C iX5 0 (fx_at0 _ _ _ _ _) rfl 1 (by decide) kX5_19 rfl dX5_count_45 ?_
      refine fj_getN (Cn := RX2) (T := TX2) (N := 7) (ci := 2) (v := .int 0) C iX2 4 (fx_at4 _ _ _ _ _) rfl 6 (by decide) kX5_72 rfl dX5_count_48 ?_
      exact fj_iret C E9 dX5_count_51 (by (repeat' split) <;> first | rfl | (exfalso; grind) | grind)
    · refine fj_tableIn (off := 51) (tgt := 52) C dX5_count_1 (by omega) (by omega) (by rw [hsw]; rfl) (by decide) ?_
      have ex : x = 2 := Int32.toInt_inj.mp (by simp [hsw])
      refine fj_aload_n C 0 dX5_count_52 rfl rfl ?_
      refine fj_get (Cn := RX5) (T := TX5) (N := 5) (ci := 5) (v := .ref (ad 17)) C iX5 0 (fx_at0 _ _ _ _ _) rfl 2 (by decide) kX5_26 rfl dX5_count_53 ?_
      refine fj_getN (Cn := RX0) (T := TX0) (N := 8) (ci := 0) (v := .int 0) C iX0 17 (fx_at17 _ _ _ _ _) rfl 7 (by decide) kX5_100 rfl dX5_count_56 ?_
      exact fj_iret C E9 dX5_count_59 (by (repeat' split) <;> first | rfl | (exfalso; grind) | grind)
    · refine fj_tableIn (off := 59) (tgt := 60) C dX5_count_1 (by omega) (by omega) (by rw [hsw]; rfl) (by decide) ?_
      have ex : x = 3 := Int32.toInt_inj.mp (by simp [hsw])
      refine fj_aload_n C 0 dX5_count_60 rfl rfl ?_
      refine fj_get (Cn := RX5) (T := TX5) (N := 5) (ci := 5) (v := .ref (ad 17)) C iX5 0 (fx_at0 _ _ _ _ _) rfl 2 (by decide) kX5_26 rfl dX5_count_61 ?_
      refine fj_callVNw (As := []) (rest := []) C (c_X0_countStruck l D ty t0 ad) ⟨va_cnB 0 C.2.2.2.2.1 gX5_count_X0_countStruck_n137 rfl rfl rfl (C.2.2.2.2.2.2.2.1.1 _ kN137) (C.2.2.2.2.1 _ kIX0) (by decide +kernel) ⟨Nat.le_of_ble_eq_true rfl, Nat.le_of_ble_eq_true rfl⟩, C.2.2.2.2.1 _ kVX0_countStruck, C.2.2.2.2.1 _ kSX0_countStruck⟩ ⟨17, 0, _, _, fx_at17 _ _ _ _ _, rfl, rfl⟩ rfl (Nat.le_of_ble_eq_true rfl) dX5_count_64 ⟨Nat.zero_le _, Nat.zero_le _⟩ (fun v9 w9 hp9 => ?_)
      obtain ⟨rfl, rfl⟩ := hp9
      refine fj_st (st' := .int 0 :: []) rfl ?_
      exact fj_iret C E9 dX5_count_67 (by (repeat' split) <;> first | rfl | (exfalso; grind) | grind)
    · refine fj_tableIn (off := 67) (tgt := 68) C dX5_count_1 (by omega) (by omega) (by rw [hsw]; rfl) (by decide) ?_
      have ex : x = 4 := Int32.toInt_inj.mp (by simp [hsw])
      refine fj_aload_n C 0 dX5_count_68 rfl rfl ?_
      refine fj_get (Cn := RX5) (T := TX5) (N := 5) (ci := 5) (v := .ref (ad 4)) C iX5 0 (fx_at0 _ _ _ _ _) rfl 1 (by decide) kX5_19 rfl dX5_count_69 ?_
      refine fj_getN (Cn := RX2) (T := TX2) (N := 7) (ci := 2) (v := .int 0) C iX2 4 (fx_at4 _ _ _ _ _) rfl 1 (by decide) kX5_61 rfl dX5_count_72 ?_
      exact fj_iret C E9 dX5_count_75 (by (repeat' split) <;> first | rfl | (exfalso; grind) | grind)

set_option maxHeartbeats 4000000 in
set_option maxRecDepth 100000 in
theorem c_X5_holds (l : Launch) (D : va_G) (ty : Nat → ClassId) (t0 : Nat) (ad : Nat → Nat) (q : Int32) (d : Int32) (k : Int32) (u : Int32)  : fc l yX5_holds wsX5_holds (fj_rm 2 47 0 0) D ty t0 [.ref (ad 0), .int q, .int d, .int k, .int u] (fx_w ad ty fx_a0 fx_g0 fx_n0) 0 0 (fun v w => v = some (.int (if (0 ≤ q ∧ q ≤ 63) then (if (0 ≤ d ∧ d ≤ 20000) ∧ (-1 ≤ k ∧ k ≤ 0) ∧ (0 ≤ u ∧ u ≤ 5) then (if u = 0 ∨ u = 2 ∨ u = 3 then -1 else 0) else -1002) else -1001))) := by
  refine fc_start (own := RX5) (cc := cX5_holds) (maxL := 5) (ret := (some .int)) (by decide) rfl (Nat.le_of_ble_eq_true rfl) rfl ?_
  intro p e s m args below meth c Q A C hmn E9
  have iX5 : ∀ w ∈ u_ws RX5 TX5 5, w ∈ wsX5_holds := fun _ h => List.mem_cons_of_mem _ (List.mem_append_left _ (List.mem_append_left _ (List.mem_append_left _ (List.mem_append_left _ (List.mem_append_right _ h)))))
  have kX5_35 : Cond.fieldLink RX5 35 "FreeLand" "work" "LFreeLand$Work;" ∈ wsX5_holds := (by decide +kernel)
  have kN130 : (RX5, 130, yX4_through) ∈ nw_M := (by decide +kernel)
  have kIX4 : Cond.initialized RX4 ∈ wsX5_holds := (by decide +kernel)
  have kVX4_through : Cond.instanceMethod yX4_through ∈ wsX5_holds := (by decide +kernel)
  have kSX4_through : Cond.selects RX4 yX4_through yX4_through ∈ wsX5_holds := (by decide +kernel)
  have kN168 : (RX5, 168, yX4_acres) ∈ nw_M := (by decide +kernel)
  have kVX4_acres : Cond.instanceMethod yX4_acres ∈ wsX5_holds := (by decide +kernel)
  have kSX4_acres : Cond.selects RX4 yX4_acres yX4_acres ∈ wsX5_holds := (by decide +kernel)
  have kN153 : (RX5, 153, yX4_holderOf) ∈ nw_M := (by decide +kernel)
  have kVX4_holderOf : Cond.instanceMethod yX4_holderOf ∈ wsX5_holds := (by decide +kernel)
  have kSX4_holderOf : Cond.selects RX4 yX4_holderOf yX4_holderOf ∈ wsX5_holds := (by decide +kernel)
  have kN156 : (RX5, 156, yX4_standing) ∈ nw_M := (by decide +kernel)
  have kVX4_standing : Cond.instanceMethod yX4_standing ∈ wsX5_holds := (by decide +kernel)
  have kSX4_standing : Cond.selects RX4 yX4_standing yX4_standing ∈ wsX5_holds := (by decide +kernel)
  have iX4 : ∀ w ∈ u_ws RX4 TX4 18, w ∈ wsX5_holds := fun _ h => List.mem_cons_of_mem _ (List.mem_append_left _ (List.mem_append_left _ (List.mem_append_left _ (List.mem_append_right _ h))))
  have kX5_159 : (RX5, 159, "FreeLand$Work", "held", "[I") ∈ nw_F := (by decide +kernel)
  have kN162 : (RX5, 162, yX4_preferredOn) ∈ nw_M := (by decide +kernel)
  have kVX4_preferredOn : Cond.instanceMethod yX4_preferredOn ∈ wsX5_holds := (by decide +kernel)
  have kSX4_preferredOn : Cond.selects RX4 yX4_preferredOn yX4_preferredOn ∈ wsX5_holds := (by decide +kernel)
  have kN165 : (RX5, 165, yX4_daysLived) ∈ nw_M := (by decide +kernel)
  have kVX4_daysLived : Cond.instanceMethod yX4_daysLived ∈ wsX5_holds := (by decide +kernel)
  have kSX4_daysLived : Cond.selects RX4 yX4_daysLived yX4_daysLived ∈ wsX5_holds := (by decide +kernel)
  refine fj_lv (lv' := [(0, .ref (ad 0)), (1, .int q), (2, .int d), (3, .int k), (4, .int u)]) [0, 1, 2, 3, 4] rfl ?_
  refine fj_iload_n C 1 dX5_holds_0 rfl rfl ?_
  refine fj_callSw (As := [.int q]) (rest := []) C (c_X5_isQuarter l D ty t0 (fx_w ad ty fx_a0 fx_g0 fx_n0) q) (va_cwS 1 C.2.2.2.2.1 gX5_holds_X5_isQuarter rfl rfl rfl (by decide +kernel) ⟨Nat.le_of_ble_eq_true rfl, Nat.le_of_ble_eq_true rfl⟩)  rfl (Nat.le_of_ble_eq_true rfl) dX5_holds_1 ⟨Nat.zero_le _, Nat.zero_le _⟩ (fun v9 w9 hp9 => ?_)
  obtain ⟨rfl, rfl⟩ := hp9
  refine fj_st (st' := .int (if (0 ≤ q ∧ q ≤ 63) then 1 else 0) :: []) rfl ?_
  refine fj_ifb_ne (tgt := 11) C dX5_holds_4 (by decide) (fun h4 => ?_) (fun h4 => ?_)
  · refine fj_iload_n C 2 dX5_holds_11 rfl rfl ?_
    refine fj_callSw (As := [.int d]) (rest := []) C (c_X5_isDay l D ty t0 (fx_w ad ty fx_a0 fx_g0 fx_n0) d) (va_cwS 1 C.2.2.2.2.1 gX5_holds_X5_isDay rfl rfl rfl (by decide +kernel) ⟨Nat.le_of_ble_eq_true rfl, Nat.le_of_ble_eq_true rfl⟩)  rfl (Nat.le_of_ble_eq_true rfl) dX5_holds_12 ⟨Nat.zero_le _, Nat.zero_le _⟩ (fun v9 w9 hp9 => ?_)
    obtain ⟨rfl, rfl⟩ := hp9
    refine fj_st (st' := .int (if (0 ≤ d ∧ d ≤ 20000) then 1 else 0) :: []) rfl ?_
    refine fj_ifb_eq (tgt := 36) C dX5_holds_15 (by decide) (fun h15 => ?_) (fun h15 => ?_)
    · refine fj_sipush (v := (-1002)) C dX5_holds_36 (by decide) ?_
      exact fj_iret C E9 dX5_holds_39 (by (repeat' split) <;> first | rfl | (exfalso; grind) | grind)
    · refine fj_aload_n C 0 dX5_holds_18 rfl rfl ?_
      refine fj_iload_n C 3 dX5_holds_19 rfl rfl ?_
      refine fj_callVw (As := [.int k]) (rest := []) C (c_X5_isKnownBy l D ty t0 ad k) (cwV 1 C.2.2.2.2.1 gX5_holds_X5_isKnownBy rfl rfl rfl (by decide +kernel) ⟨Nat.le_of_ble_eq_true rfl, Nat.le_of_ble_eq_true rfl⟩) ⟨0, 5, _, _, fx_at0 _ _ _ _ _, rfl, rfl⟩ rfl (Nat.le_of_ble_eq_true rfl) dX5_holds_20 ⟨Nat.zero_le _, Nat.zero_le _⟩ (fun v9 w9 hp9 => ?_)
      obtain ⟨rfl, rfl⟩ := hp9
      refine fj_st (st' := .int (if (-1 ≤ k ∧ k ≤ 0) then 1 else 0) :: []) rfl ?_
      refine fj_ifb_eq (tgt := 36) C dX5_holds_23 (by decide) (fun h23 => ?_) (fun h23 => ?_)
      · refine fj_sipush (v := (-1002)) C dX5_holds_36 (by decide) ?_
        exact fj_iret C E9 dX5_holds_39 (by (repeat' split) <;> first | rfl | (exfalso; grind) | grind)
      · refine fj_iload C 4 dX5_holds_26 rfl ?_
        refine fj_iconst (v := 0) C dX5_holds_28 (by decide) ?_
        refine fj_iconst (v := 5) C dX5_holds_29 (by decide) ?_
        refine fj_callSw (As := [.int u, .int 0, .int 5]) (rest := []) C (c_X5_within l D ty t0 (fx_w ad ty fx_a0 fx_g0 fx_n0) u 0 5) (va_cwS 3 C.2.2.2.2.1 gX5_holds_X5_within rfl rfl rfl (by decide +kernel) ⟨Nat.le_of_ble_eq_true rfl, Nat.le_of_ble_eq_true rfl⟩)  rfl (Nat.le_of_ble_eq_true rfl) dX5_holds_30 ⟨Nat.zero_le _, Nat.zero_le _⟩ (fun v9 w9 hp9 => ?_)
        obtain ⟨rfl, rfl⟩ := hp9
        refine fj_st (st' := .int (if (0 ≤ u ∧ u ≤ 5) then 1 else 0) :: []) rfl ?_
        refine fj_ifb_ne (tgt := 40) C dX5_holds_33 (by decide) (fun h33 => ?_) (fun h33 => ?_)
        · refine fj_aload_n C 0 dX5_holds_40 rfl rfl ?_
          refine fj_get (Cn := RX5) (T := TX5) (N := 5) (ci := 5) (v := .ref (ad 25)) C iX5 0 (fx_at0 _ _ _ _ _) rfl 3 (by decide) kX5_35 rfl dX5_holds_41 ?_
          refine fj_aload_n C 0 dX5_holds_44 rfl rfl ?_
          refine fj_iload_n C 3 dX5_holds_45 rfl rfl ?_
          refine fj_callVw (As := [.int k]) (rest := [.ref (ad 25)]) C (c_X5_linesOf l D ty t0 ad k) (cwV 1 C.2.2.2.2.1 gX5_holds_X5_linesOf rfl rfl rfl (by decide +kernel) ⟨Nat.le_of_ble_eq_true rfl, Nat.le_of_ble_eq_true rfl⟩) ⟨0, 5, _, _, fx_at0 _ _ _ _ _, rfl, rfl⟩ rfl (Nat.le_of_ble_eq_true rfl) dX5_holds_46 ⟨Nat.zero_le _, Nat.zero_le _⟩ (fun v9 w9 hp9 => ?_)
          obtain ⟨rfl, rfl⟩ := hp9
          refine fj_st (st' := .int (if k = -1 then 0 else k) :: [.ref (ad 25)]) rfl ?_
          refine fj_iload_n C 2 dX5_holds_49 rfl rfl ?_
          refine fj_callVNw (As := [.int (if k = -1 then 0 else k), .int d]) (rest := []) C (c_X4_through l D ty t0 ad (if k = -1 then 0 else k) d) ⟨va_cnB 2 C.2.2.2.2.1 gX5_holds_X4_through_n130 rfl rfl rfl (C.2.2.2.2.2.2.2.1.1 _ kN130) (C.2.2.2.2.1 _ kIX4) (by decide +kernel) ⟨Nat.le_of_ble_eq_true rfl, Nat.le_of_ble_eq_true rfl⟩, C.2.2.2.2.1 _ kVX4_through, C.2.2.2.2.1 _ kSX4_through⟩ ⟨25, 4, _, _, fx_at25 _ _ _ _ _, rfl, rfl⟩ rfl (Nat.le_of_ble_eq_true rfl) dX5_holds_50 ⟨Nat.zero_le _, Nat.zero_le _⟩ (fun v9 w9 hp9 => ?_)
          obtain ⟨rfl, rfl⟩ := hp9
          refine fj_st (st' := []) rfl ?_
          refine fj_iload C 4 dX5_holds_53 rfl ?_
          rcases fx_sw u 0 4 with hsw | hsw
          · refine fj_tableOut (tgt := 137) C dX5_holds_55 hsw (by decide) ?_
            have eu : ¬ (u = 0 ∨ u = 2 ∨ u = 3) := by rintro (e | e | e) <;> (subst e; revert hsw; decide)
            refine fj_aload_n C 0 dX5_holds_137 rfl rfl ?_
            refine fj_get (Cn := RX5) (T := TX5) (N := 5) (ci := 5) (v := .ref (ad 25)) C iX5 0 (fx_at0 _ _ _ _ _) rfl 3 (by decide) kX5_35 rfl dX5_holds_138 ?_
            refine fj_iload_n C 1 dX5_holds_141 rfl rfl ?_
            refine fj_callVNw (As := [.int q]) (rest := []) C (c_X4_acres l D ty t0 ad q h4) ⟨va_cnB 1 C.2.2.2.2.1 gX5_holds_X4_acres_n168 rfl rfl rfl (C.2.2.2.2.2.2.2.1.1 _ kN168) (C.2.2.2.2.1 _ kIX4) (by decide +kernel) ⟨Nat.le_of_ble_eq_true rfl, Nat.le_of_ble_eq_true rfl⟩, C.2.2.2.2.1 _ kVX4_acres, C.2.2.2.2.1 _ kSX4_acres⟩ ⟨25, 4, _, _, fx_at25 _ _ _ _ _, rfl, rfl⟩ rfl (Nat.le_of_ble_eq_true rfl) dX5_holds_142 ⟨Nat.zero_le _, Nat.zero_le _⟩ (fun v9 w9 hp9 => ?_)
            obtain ⟨rfl, rfl⟩ := hp9
            refine fj_st (st' := .int 0 :: []) rfl ?_
            exact fj_iret C E9 dX5_holds_145 (by (repeat' split) <;> first | rfl | (exfalso; grind) | grind)
          · obtain ⟨hs1, hs2⟩ := hsw
            rcases (show u.toInt = 0 ∨ u.toInt = 1 ∨ u.toInt = 2 ∨ u.toInt = 3 ∨ u.toInt = 4 by omega) with hsw | hsw | hsw | hsw | hsw
            · refine fj_tableIn (off := 33) (tgt := 88) C dX5_holds_55 (by omega) (by omega) (by rw [hsw]; rfl) (by decide) ?_
              have eu : u = 0 := Int32.toInt_inj.mp (by simp [hsw])
              refine fj_aload_n C 0 dX5_holds_88 rfl rfl ?_
              refine fj_get (Cn := RX5) (T := TX5) (N := 5) (ci := 5) (v := .ref (ad 25)) C iX5 0 (fx_at0 _ _ _ _ _) rfl 3 (by decide) kX5_35 rfl dX5_holds_89 ?_
              refine fj_iload_n C 1 dX5_holds_92 rfl rfl ?_
              refine fj_callVNw (As := [.int q]) (rest := []) C (c_X4_holderOf l D ty t0 ad q h4) ⟨va_cnB 1 C.2.2.2.2.1 gX5_holds_X4_holderOf_n153 rfl rfl rfl (C.2.2.2.2.2.2.2.1.1 _ kN153) (C.2.2.2.2.1 _ kIX4) (by decide +kernel) ⟨Nat.le_of_ble_eq_true rfl, Nat.le_of_ble_eq_true rfl⟩, C.2.2.2.2.1 _ kVX4_holderOf, C.2.2.2.2.1 _ kSX4_holderOf⟩ ⟨25, 4, _, _, fx_at25 _ _ _ _ _, rfl, rfl⟩ rfl (Nat.le_of_ble_eq_true rfl) dX5_holds_93 ⟨Nat.zero_le _, Nat.zero_le _⟩ (fun v9 w9 hp9 => ?_)
              obtain ⟨rfl, rfl⟩ := hp9
              refine fj_st (st' := .int (-1) :: []) rfl ?_
              exact fj_iret C E9 dX5_holds_96 (by (repeat' split) <;> first | rfl | (exfalso; grind) | grind)
            · refine fj_tableIn (off := 42) (tgt := 97) C dX5_holds_55 (by omega) (by omega) (by rw [hsw]; rfl) (by decide) ?_
              have eu : u = 1 := Int32.toInt_inj.mp (by simp [hsw])
              refine fj_aload_n C 0 dX5_holds_97 rfl rfl ?_
              refine fj_get (Cn := RX5) (T := TX5) (N := 5) (ci := 5) (v := .ref (ad 25)) C iX5 0 (fx_at0 _ _ _ _ _) rfl 3 (by decide) kX5_35 rfl dX5_holds_98 ?_
              refine fj_iload_n C 1 dX5_holds_101 rfl rfl ?_
              refine fj_iload_n C 2 dX5_holds_102 rfl rfl ?_
              refine fj_callVNw (As := [.int q, .int d]) (rest := []) C (c_X4_standing l D ty t0 ad q d h4 h15) ⟨va_cnB 2 C.2.2.2.2.1 gX5_holds_X4_standing_n156 rfl rfl rfl (C.2.2.2.2.2.2.2.1.1 _ kN156) (C.2.2.2.2.1 _ kIX4) (by decide +kernel) ⟨Nat.le_of_ble_eq_true rfl, Nat.le_of_ble_eq_true rfl⟩, C.2.2.2.2.1 _ kVX4_standing, C.2.2.2.2.1 _ kSX4_standing⟩ ⟨25, 4, _, _, fx_at25 _ _ _ _ _, rfl, rfl⟩ rfl (Nat.le_of_ble_eq_true rfl) dX5_holds_103 ⟨Nat.zero_le _, Nat.zero_le _⟩ (fun v9 w9 hp9 => ?_)
              obtain ⟨rfl, rfl⟩ := hp9
              refine fj_st (st' := .int 0 :: []) rfl ?_
              exact fj_iret C E9 dX5_holds_106 (by (repeat' split) <;> first | rfl | (exfalso; grind) | grind)
            · refine fj_tableIn (off := 52) (tgt := 107) C dX5_holds_55 (by omega) (by omega) (by rw [hsw]; rfl) (by decide) ?_
              have eu : u = 2 := Int32.toInt_inj.mp (by simp [hsw])
              refine fj_aload_n C 0 dX5_holds_107 rfl rfl ?_
              refine fj_get (Cn := RX5) (T := TX5) (N := 5) (ci := 5) (v := .ref (ad 25)) C iX5 0 (fx_at0 _ _ _ _ _) rfl 3 (by decide) kX5_35 rfl dX5_holds_108 ?_
              refine fj_getN (Cn := RX4) (T := TX4) (N := 18) (ci := 4) (v := .ref (ad 33)) C iX4 25 (fx_at25 _ _ _ _ _) rfl 11 (by decide) kX5_159 rfl dX5_holds_111 ?_
              refine fj_iload_n C 1 dX5_holds_114 rfl rfl ?_
              refine fj_iald (f := ((fx_cl fx_a0) 33)) C 33 (fx_at33 _ _ _ _ _) (fx_in h4.1 h4.2 (by decide) (by decide)) dX5_holds_115 ?_
              refine fj_at (y := (-1)) (fx_cl33 _ (fx_ix h4)) ?_
              exact fj_iret C E9 dX5_holds_116 (by (repeat' split) <;> first | rfl | (exfalso; grind) | grind)
            · refine fj_tableIn (off := 62) (tgt := 117) C dX5_holds_55 (by omega) (by omega) (by rw [hsw]; rfl) (by decide) ?_
              have eu : u = 3 := Int32.toInt_inj.mp (by simp [hsw])
              refine fj_aload_n C 0 dX5_holds_117 rfl rfl ?_
              refine fj_get (Cn := RX5) (T := TX5) (N := 5) (ci := 5) (v := .ref (ad 25)) C iX5 0 (fx_at0 _ _ _ _ _) rfl 3 (by decide) kX5_35 rfl dX5_holds_118 ?_
              refine fj_iload_n C 1 dX5_holds_121 rfl rfl ?_
              refine fj_iload_n C 2 dX5_holds_122 rfl rfl ?_
              refine fj_callVNw (As := [.int q, .int d]) (rest := []) C (c_X4_preferredOn l D ty t0 ad q d h4) ⟨va_cnB 2 C.2.2.2.2.1 gX5_holds_X4_preferredOn_n162 rfl rfl rfl (C.2.2.2.2.2.2.2.1.1 _ kN162) (C.2.2.2.2.1 _ kIX4) (by decide +kernel) ⟨Nat.le_of_ble_eq_true rfl, Nat.le_of_ble_eq_true rfl⟩, C.2.2.2.2.1 _ kVX4_preferredOn, C.2.2.2.2.1 _ kSX4_preferredOn⟩ ⟨25, 4, _, _, fx_at25 _ _ _ _ _, rfl, rfl⟩ rfl (Nat.le_of_ble_eq_true rfl) dX5_holds_123 ⟨Nat.zero_le _, Nat.zero_le _⟩ (fun v9 w9 hp9 => ?_)
              obtain ⟨rfl, rfl⟩ := hp9
              refine fj_st (st' := .int (-1) :: []) rfl ?_
              exact fj_iret C E9 dX5_holds_126 (by (repeat' split) <;> first | rfl | (exfalso; grind) | grind)
            · refine fj_tableIn (off := 72) (tgt := 127) C dX5_holds_55 (by omega) (by omega) (by rw [hsw]; rfl) (by decide) ?_
              have eu : u = 4 := Int32.toInt_inj.mp (by simp [hsw])
              refine fj_aload_n C 0 dX5_holds_127 rfl rfl ?_
              refine fj_get (Cn := RX5) (T := TX5) (N := 5) (ci := 5) (v := .ref (ad 25)) C iX5 0 (fx_at0 _ _ _ _ _) rfl 3 (by decide) kX5_35 rfl dX5_holds_128 ?_
              refine fj_iload_n C 1 dX5_holds_131 rfl rfl ?_
              refine fj_iload_n C 2 dX5_holds_132 rfl rfl ?_
              refine fj_callVNw (As := [.int q, .int d]) (rest := []) C (c_X4_daysLived l D ty t0 ad q d h4) ⟨va_cnB 2 C.2.2.2.2.1 gX5_holds_X4_daysLived_n165 rfl rfl rfl (C.2.2.2.2.2.2.2.1.1 _ kN165) (C.2.2.2.2.1 _ kIX4) (by decide +kernel) ⟨Nat.le_of_ble_eq_true rfl, Nat.le_of_ble_eq_true rfl⟩, C.2.2.2.2.1 _ kVX4_daysLived, C.2.2.2.2.1 _ kSX4_daysLived⟩ ⟨25, 4, _, _, fx_at25 _ _ _ _ _, rfl, rfl⟩ rfl (Nat.le_of_ble_eq_true rfl) dX5_holds_133 ⟨Nat.zero_le _, Nat.zero_le _⟩ (fun v9 w9 hp9 => ?_)
              obtain ⟨rfl, rfl⟩ := hp9
              refine fj_st (st' := .int 0 :: []) rfl ?_
              exact fj_iret C E9 dX5_holds_136 (by (repeat' split) <;> first | rfl | (exfalso; grind) | grind)
        · refine fj_sipush (v := (-1002)) C dX5_holds_36 (by decide) ?_
          exact fj_iret C E9 dX5_holds_39 (by (repeat' split) <;> first | rfl | (exfalso; grind) | grind)
  · refine fj_sipush (v := (-1001)) C dX5_holds_7 (by decide) ?_
    exact fj_iret C E9 dX5_holds_10 (by (repeat' split) <;> first | rfl | (exfalso; grind) | grind)

set_option maxHeartbeats 4000000 in
set_option maxRecDepth 100000 in
theorem c_X5_digest (l : Launch) (D : va_G) (ty : Nat → ClassId) (t0 : Nat) (ad : Nat → Nat) (k : Int32)  : fc l yX5_digest wsX5_digest (fj_rm 2 45 0 0) D ty t0 [.ref (ad 0), .int k] (fx_w ad ty fx_a0 fx_g0 fx_n0) 0 0 (fun v w => v = some (.int (if (-1 ≤ k ∧ k ≤ 0) then fx_dg 64 else -1002))) := by
  refine fc_start (own := RX5) (cc := cX5_digest) (maxL := 5) (ret := (some .int)) (by decide) rfl (Nat.le_of_ble_eq_true rfl) rfl ?_
  intro p e s m args below meth c Q A C hmn E9
  have iX5 : ∀ w ∈ u_ws RX5 TX5 5, w ∈ wsX5_digest := fun _ h => List.mem_cons_of_mem _ (List.mem_append_left _ (List.mem_append_left _ (List.mem_append_left _ (List.mem_append_left _ (List.mem_append_right _ h)))))
  have kX5_35 : Cond.fieldLink RX5 35 "FreeLand" "work" "LFreeLand$Work;" ∈ wsX5_digest := (by decide +kernel)
  have kN130 : (RX5, 130, yX4_through) ∈ nw_M := (by decide +kernel)
  have kIX4 : Cond.initialized RX4 ∈ wsX5_digest := (by decide +kernel)
  have kVX4_through : Cond.instanceMethod yX4_through ∈ wsX5_digest := (by decide +kernel)
  have kSX4_through : Cond.selects RX4 yX4_through yX4_through ∈ wsX5_digest := (by decide +kernel)
  have kN153 : (RX5, 153, yX4_holderOf) ∈ nw_M := (by decide +kernel)
  have kVX4_holderOf : Cond.instanceMethod yX4_holderOf ∈ wsX5_digest := (by decide +kernel)
  have kSX4_holderOf : Cond.selects RX4 yX4_holderOf yX4_holderOf ∈ wsX5_digest := (by decide +kernel)
  refine fj_lv (lv' := [(0, .ref (ad 0)), (1, .int k)]) [0, 1] rfl ?_
  refine fj_aload_n C 0 dX5_digest_0 rfl rfl ?_
  refine fj_iload_n C 1 dX5_digest_1 rfl rfl ?_
  refine fj_callVw (As := [.int k]) (rest := []) C (c_X5_isKnownBy l D ty t0 ad k) (cwV 1 C.2.2.2.2.1 gX5_digest_X5_isKnownBy rfl rfl rfl (by decide +kernel) ⟨Nat.le_of_ble_eq_true rfl, Nat.le_of_ble_eq_true rfl⟩) ⟨0, 5, _, _, fx_at0 _ _ _ _ _, rfl, rfl⟩ rfl (Nat.le_of_ble_eq_true rfl) dX5_digest_2 ⟨Nat.zero_le _, Nat.zero_le _⟩ (fun v9 w9 hp9 => ?_)
  obtain ⟨rfl, rfl⟩ := hp9
  refine fj_st (st' := .int (if (-1 ≤ k ∧ k ≤ 0) then 1 else 0) :: []) rfl ?_
  refine fj_ifb_ne (tgt := 12) C dX5_digest_5 (by decide) (fun h5 => ?_) (fun h5 => ?_)
  · refine fj_aload_n C 0 dX5_digest_12 rfl rfl ?_
    refine fj_iload_n C 1 dX5_digest_13 rfl rfl ?_
    refine fj_callVw (As := [.int k]) (rest := []) C (c_X5_linesOf l D ty t0 ad k) (cwV 1 C.2.2.2.2.1 gX5_digest_X5_linesOf rfl rfl rfl (by decide +kernel) ⟨Nat.le_of_ble_eq_true rfl, Nat.le_of_ble_eq_true rfl⟩) ⟨0, 5, _, _, fx_at0 _ _ _ _ _, rfl, rfl⟩ rfl (Nat.le_of_ble_eq_true rfl) dX5_digest_14 ⟨Nat.zero_le _, Nat.zero_le _⟩ (fun v9 w9 hp9 => ?_)
    obtain ⟨rfl, rfl⟩ := hp9
    refine fj_st (st' := .int (if k = -1 then 0 else k) :: []) rfl ?_
    refine fj_at (y := 0) (by grind) ?_
    refine fj_istore_n (lv' := [(2, .int 0), (0, .ref (ad 0)), (1, .int k)]) C dX5_digest_17 rfl (by decide) rfl ?_
    refine fj_aload_n C 1 dX5_digest_18 rfl rfl ?_
    refine fj_get (Cn := RX5) (T := TX5) (N := 5) (ci := 5) (v := .ref (ad 25)) C iX5 0 (fx_at0 _ _ _ _ _) rfl 3 (by decide) kX5_35 rfl dX5_digest_19 ?_
    refine fj_iload_n C 0 dX5_digest_22 rfl rfl ?_
    refine fj_sipush (v := 20000) C dX5_digest_23 (by decide) ?_
    refine fj_callVNw (As := [.int 0, .int 20000]) (rest := []) C (c_X4_through l D ty t0 ad 0 20000) ⟨va_cnB 2 C.2.2.2.2.1 gX5_digest_X4_through_n130 rfl rfl rfl (C.2.2.2.2.2.2.2.1.1 _ kN130) (C.2.2.2.2.1 _ kIX4) (by decide +kernel) ⟨Nat.le_of_ble_eq_true rfl, Nat.le_of_ble_eq_true rfl⟩, C.2.2.2.2.1 _ kVX4_through, C.2.2.2.2.1 _ kSX4_through⟩ ⟨25, 4, _, _, fx_at25 _ _ _ _ _, rfl, rfl⟩ rfl (Nat.le_of_ble_eq_true rfl) dX5_digest_26 ⟨Nat.zero_le _, Nat.zero_le _⟩ (fun v9 w9 hp9 => ?_)
    obtain ⟨rfl, rfl⟩ := hp9
    refine fj_st (st' := []) rfl ?_
    refine fj_bipush (v := 7) C dX5_digest_29 (by decide) ?_
    refine fj_istore_n (lv' := [(3, .int 7), (2, .int 0), (0, .ref (ad 0)), (1, .int k)]) C dX5_digest_31 rfl (by decide) rfl ?_
    refine fj_iconst (v := 0) C dX5_digest_32 (by decide) ?_
    refine fj_istore (lv' := [(4, .int 0), (3, .int 7), (2, .int 0), (0, .ref (ad 0)), (1, .int k)]) C dX5_digest_33 (by decide) rfl ?_
    refine fj_iload C 0 dX5_digest_35 rfl ?_
    refine fj_iload_n C 2 dX5_digest_37 rfl rfl ?_
    refine fj_icmp_ge (tgt := 63) C dX5_digest_38 (by decide) (fun _ => ?_) (fun h => absurd (by decide) h)
    refine fj_iconst (v := 0) C dX5_digest_63 (by decide) ?_
    refine fj_istore (lv' := [(4, .int 0), (3, .int 7), (2, .int 0), (0, .ref (ad 0)), (1, .int k)]) C dX5_digest_64 (by decide) rfl ?_
    refine fj_lv (lv' := [(0, .ref (ad 0)), (1, .int k), (2, .int 0), (3, .int 7), (4, .int 0)]) [3, 4, 2, 1, 0] rfl ?_
    have lp66 : ∀ (i : Nat), (i ≤ 64) → fj p l e (fj_rm 2 45 0 0) s m args below meth c Q A D 5 0 0 (fx_w ad ty (fx_cl fx_a0) fx_g0 fx_n0) [(0, .ref (ad 0)), (1, .int k), (2, .int 0), (3, .int (fx_dg i)), (4, .int (nI i))] 66 [] := by
      have key : ∀ z : Nat, (fun (i : Nat) => (i ≤ 64) → fj p l e (fj_rm 2 45 0 0) s m args below meth c Q A D 5 0 0 (fx_w ad ty (fx_cl fx_a0) fx_g0 fx_n0) [(0, .ref (ad 0)), (1, .int k), (2, .int 0), (3, .int (fx_dg i)), (4, .int (nI i))] 66 []) z := by
        refine fx_ind (fun (i : Nat) => 64 - i) _ ?_
        rintro i ih ii
        refine fj_iload C 4 dX5_digest_66 rfl ?_
        refine fj_bipush (v := 64) C dX5_digest_68 (by decide) ?_
        refine fj_icmp_ge (tgt := 94) C dX5_digest_70 (by decide) (fun h70 => ?_) (fun h70 => ?_)
        · have q70 : 64 ≤ i := (nI_leI (a := 64) (by decide) (by omega)).mp h70
          obtain rfl : i = 64 := by omega
          refine fj_iload_n C 3 dX5_digest_94 rfl rfl ?_
          exact fj_iret C E9 dX5_digest_95 (by (repeat' split) <;> first | rfl | (exfalso; grind) | grind)
        · have q70 : i < 64 := Nat.lt_of_not_le (fun q => h70 ((nI_leI (a := 64) (by decide) (by omega)).mpr q))
          have hq : 0 ≤ nI i ∧ nI i ≤ 63 := ⟨(nI_leI (a := 0) (by decide) (by omega)).mpr (Nat.zero_le _), (nI_leI (b := 63) (by omega) (by decide)).mpr (by omega)⟩
          refine fj_bipush (v := 31) C dX5_digest_73 (by decide) ?_
          refine fj_iload_n C 3 dX5_digest_75 rfl rfl ?_
          refine fj_imul C dX5_digest_76 ?_
          refine fj_aload_n C 0 dX5_digest_77 rfl rfl ?_
          refine fj_get (Cn := RX5) (T := TX5) (N := 5) (ci := 5) (v := .ref (ad 25)) C iX5 0 (fx_at0 _ _ _ _ _) rfl 3 (by decide) kX5_35 rfl dX5_digest_78 ?_
          refine fj_iload C 4 dX5_digest_81 rfl ?_
          refine fj_callVNw (As := [.int (nI i)]) (rest := [.int (31 * (fx_dg i))]) C (c_X4_holderOf l D ty t0 ad (nI i) hq) ⟨va_cnB 1 C.2.2.2.2.1 gX5_digest_X4_holderOf_n153 rfl rfl rfl (C.2.2.2.2.2.2.2.1.1 _ kN153) (C.2.2.2.2.1 _ kIX4) (by decide +kernel) ⟨Nat.le_of_ble_eq_true rfl, Nat.le_of_ble_eq_true rfl⟩, C.2.2.2.2.1 _ kVX4_holderOf, C.2.2.2.2.1 _ kSX4_holderOf⟩ ⟨25, 4, _, _, fx_at25 _ _ _ _ _, rfl, rfl⟩ rfl (Nat.le_of_ble_eq_true rfl) dX5_digest_83 ⟨Nat.zero_le _, Nat.zero_le _⟩ (fun v9 w9 hp9 => ?_)
          obtain ⟨rfl, rfl⟩ := hp9
          refine fj_st (st' := .int (-1) :: [.int (31 * (fx_dg i))]) rfl ?_
          refine fj_iadd C dX5_digest_86 ?_
          refine fj_at (y := fx_dg (i + 1)) rfl ?_
          refine fj_istore_n (lv' := [(3, .int (fx_dg (i + 1))), (0, .ref (ad 0)), (1, .int k), (2, .int 0), (4, .int (nI i))]) C dX5_digest_87 rfl (by decide) rfl ?_
          refine fj_iinc (v := nI (i + 1)) (lv' := [(4, .int (nI (i + 1))), (3, .int (fx_dg (i + 1))), (0, .ref (ad 0)), (1, .int k), (2, .int 0)]) C 4 dX5_digest_88 rfl (nI_1 i) (by decide) rfl ?_
          refine fj_goto (tgt := 66) C dX5_digest_91 (by decide) ?_
          refine fj_lv (lv' := [(0, .ref (ad 0)), (1, .int k), (2, .int 0), (3, .int (fx_dg (i + 1))), (4, .int (nI (i + 1)))]) [2, 3, 4, 1, 0] rfl ?_
          exact ih (i + 1) (by show 64 - (i + 1) < 64 - i; omega) (by omega)
      intro i
      exact key i
    exact lp66 0 (Nat.zero_le _)
  · refine fj_sipush (v := (-1002)) C dX5_digest_8 (by decide) ?_
    exact fj_iret C E9 dX5_digest_11 (by (repeat' split) <;> first | rfl | (exfalso; grind) | grind)

set_option maxHeartbeats 4000000 in
set_option maxRecDepth 100000 in
theorem c_X2_valueOf (l : Launch) (D : va_G) (ty : Nat → ClassId) (t0 : Nat) (ad : Nat → Nat) (x : Int32) (u : Int32) (hu : 0 ≤ u ∧ u ≤ 8) : fc l yX2_valueOf wsX2_valueOf (fj_rm 0 0 0 0) D ty t0 [.ref (ad 4), .int x, .int u] (fx_w ad ty fx_a0 fx_g0 fx_n0) 0 0 (fun v w => v = some (.int (fx_AF u.toNatClampNeg))) := by
  refine fc_start (own := RX2) (cc := cX2_valueOf) (maxL := 6) (ret := (some .int)) (by decide) rfl (Nat.le_of_ble_eq_true rfl) rfl ?_
  intro p e s m args below meth c Q A C hmn E9
  have iX2 : ∀ w ∈ u_ws RX2 TX2 7, w ∈ wsX2_valueOf := fun _ h => List.mem_cons_of_mem _ (List.mem_append_right _ h)
  have kX2_34 : Cond.fieldLink RX2 34 "FreeLand$Laws" "size" "I" ∈ wsX2_valueOf := (by decide +kernel)
  have kX2_94 : Cond.fieldLink RX2 94 "FreeLand$Laws" "AT_FIRST" "[I" ∈ wsX2_valueOf := (by decide +kernel)
  refine fj_lv (lv' := [(0, .ref (ad 4)), (1, .int x), (2, .int u)]) [0, 1, 2] rfl ?_
  refine fj_iconst (v := 0) C dX2_valueOf_0 (by decide) ?_
  refine fj_istore_n (lv' := [(3, .int 0), (0, .ref (ad 4)), (1, .int x), (2, .int u)]) C dX2_valueOf_1 rfl (by decide) rfl ?_
  refine fj_aload_n C 1 dX2_valueOf_2 rfl rfl ?_
  refine fj_get (Cn := RX2) (T := TX2) (N := 7) (ci := 2) (v := .int 0) C iX2 4 (fx_at4 _ _ _ _ _) rfl 6 (by decide) kX2_34 rfl dX2_valueOf_3 ?_
  refine fj_iconst (v := 1) C dX2_valueOf_6 (by decide) ?_
  refine fj_isub C dX2_valueOf_7 ?_
  refine fj_at (y := (-1)) (by decide) ?_
  refine fj_istore (lv' := [(4, .int (-1)), (3, .int 0), (0, .ref (ad 4)), (1, .int x), (2, .int u)]) C dX2_valueOf_8 (by decide) rfl ?_
  refine fj_iload C 0 dX2_valueOf_10 rfl ?_
  refine fj_if_lt (tgt := 65) C dX2_valueOf_12 (by decide) (fun _ => ?_) (fun h => absurd (by decide) h)
  refine fj_getAF C kX2_94 dX2_valueOf_65 ?_
  refine fj_iload_n C 4 dX2_valueOf_68 rfl rfl ?_
  refine fj_ldAF C (fx_in hu.1 hu.2 (by decide) (by decide)) dX2_valueOf_69 ?_
  exact fj_iret C E9 dX2_valueOf_70 rfl
