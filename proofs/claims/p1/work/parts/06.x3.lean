set_option maxHeartbeats 4000000 in
set_option maxRecDepth 100000 in
theorem c_X5_sets (l : Launch) (D : va_G) (ty : Nat → ClassId) (t0 : Nat) (ad : Nat → Nat) (x : Int32) (u : Int32)  : fc l yX5_sets wsX5_sets (fj_rm 1 25 0 0) D ty t0 [.ref (ad 0), .int x, .int u] (fx_w ad ty fx_a0 fx_g0 fx_n0) 0 0 (fun v w => v = some (.int (if x = -1 then (if (0 ≤ u ∧ u ≤ 9) then (if u = 9 then 0 else fx_AF u.toNatClampNeg) else -1002) else -1001))) := by
  refine fc_start (own := RX5) (cc := cX5_sets) (maxL := 3) (ret := (some .int)) (by decide) rfl (Nat.le_of_ble_eq_true rfl) rfl ?_
  intro p e s m args below meth c Q A C hmn E9
  have iX5 : ∀ w ∈ u_ws RX5 TX5 5, w ∈ wsX5_sets := fun _ h => List.mem_cons_of_mem _ (List.mem_append_left _ (List.mem_append_right _ h))
  have kX5_19 : Cond.fieldLink RX5 19 "FreeLand" "laws" "LFreeLand$Laws;" ∈ wsX5_sets := (by decide +kernel)
  have kN84 : (RX5, 84, yX2_valueOf) ∈ nw_M := (by decide +kernel)
  have kIX2 : Cond.initialized RX2 ∈ wsX5_sets := (by decide +kernel)
  have kVX2_valueOf : Cond.instanceMethod yX2_valueOf ∈ wsX5_sets := (by decide +kernel)
  have kSX2_valueOf : Cond.selects RX2 yX2_valueOf yX2_valueOf ∈ wsX5_sets := (by decide +kernel)
  have iX2 : ∀ w ∈ u_ws RX2 TX2 7, w ∈ wsX5_sets := fun _ h => List.mem_cons_of_mem _ (List.mem_append_right _ h)
  have kX5_72 : (RX5, 72, "FreeLand$Laws", "size", "I") ∈ nw_F := (by decide +kernel)
  refine fj_lv (lv' := [(0, .ref (ad 0)), (1, .int x), (2, .int u)]) [0, 1, 2] rfl ?_
  refine fj_iload_n C 1 dX5_sets_0 rfl rfl ?_
  refine fj_iconst (v := (-1)) C dX5_sets_1 (by decide) ?_
  refine fj_icmp_eq (tgt := 26) C dX5_sets_2 (by decide) (fun h2 => ?_) (fun h2 => ?_)
  · refine fj_iload_n C 2 dX5_sets_26 rfl rfl ?_
    refine fj_iconst (v := 0) C dX5_sets_27 (by decide) ?_
    refine fj_bipush (v := 9) C dX5_sets_28 (by decide) ?_
    refine fj_callSw (As := [.int u, .int 0, .int 9]) (rest := []) C (c_X5_within l D ty t0 (fx_w ad ty fx_a0 fx_g0 fx_n0) u 0 9) (va_cwS 3 C.2.2.2.2.1 gX5_sets_X5_within rfl rfl rfl (by decide +kernel) ⟨Nat.le_of_ble_eq_true rfl, Nat.le_of_ble_eq_true rfl⟩)  rfl (Nat.le_of_ble_eq_true rfl) dX5_sets_30 ⟨Nat.zero_le _, Nat.zero_le _⟩ (fun v9 w9 hp9 => ?_)
    obtain ⟨rfl, rfl⟩ := hp9
    refine fj_st (st' := .int (if (0 ≤ u ∧ u ≤ 9) then 1 else 0) :: []) rfl ?_
    refine fj_ifb_ne (tgt := 40) C dX5_sets_33 (by decide) (fun h33 => ?_) (fun h33 => ?_)
    · refine fj_iload_n C 2 dX5_sets_40 rfl rfl ?_
      refine fj_bipush (v := 9) C dX5_sets_41 (by decide) ?_
      refine fj_icmp_ne (tgt := 65) C dX5_sets_43 (by decide) (fun h43 => ?_) (fun h43 => ?_)
      · refine fj_aload_n C 0 dX5_sets_65 rfl rfl ?_
        refine fj_get (Cn := RX5) (T := TX5) (N := 5) (ci := 5) (v := .ref (ad 4)) C iX5 0 (fx_at0 _ _ _ _ _) rfl 1 (by decide) kX5_19 rfl dX5_sets_66 ?_
        refine fj_iload_n C 1 dX5_sets_69 rfl rfl ?_
        refine fj_iload_n C 2 dX5_sets_70 rfl rfl ?_
        refine fj_callVNw (As := [.int x, .int u]) (rest := []) C (c_X2_valueOf l D ty t0 ad x u (by grind)) ⟨va_cnB 2 C.2.2.2.2.1 gX5_sets_X2_valueOf_n84 rfl rfl rfl (C.2.2.2.2.2.2.2.1.1 _ kN84) (C.2.2.2.2.1 _ kIX2) (by decide +kernel) ⟨Nat.le_of_ble_eq_true rfl, Nat.le_of_ble_eq_true rfl⟩, C.2.2.2.2.1 _ kVX2_valueOf, C.2.2.2.2.1 _ kSX2_valueOf⟩ ⟨4, 2, _, _, fx_at4 _ _ _ _ _, rfl, rfl⟩ rfl (Nat.le_of_ble_eq_true rfl) dX5_sets_71 ⟨Nat.zero_le _, Nat.zero_le _⟩ (fun v9 w9 hp9 => ?_)
        obtain rfl := hp9
        refine fj_st (st' := .int (fx_AF u.toNatClampNeg) :: []) rfl ?_
        exact fj_iret C E9 dX5_sets_74 (by (repeat' split) <;> first | rfl | (exfalso; grind) | grind)
      · refine fj_iload_n C 1 dX5_sets_46 rfl rfl ?_
        refine fj_iconst (v := (-1)) C dX5_sets_47 (by decide) ?_
        refine fj_icmp_ne (tgt := 55) C dX5_sets_48 (by decide) (fun h48 => ?_) (fun h48 => ?_)
        · exact absurd h2 h48
        · refine fj_iconst (v := 0) C dX5_sets_51 (by decide) ?_
          refine fj_goto (tgt := 64) C dX5_sets_52 (by decide) ?_
          exact fj_iret C E9 dX5_sets_64 (by (repeat' split) <;> first | rfl | (exfalso; grind) | grind)
    · refine fj_sipush (v := (-1002)) C dX5_sets_36 (by decide) ?_
      exact fj_iret C E9 dX5_sets_39 (by (repeat' split) <;> first | rfl | (exfalso; grind) | grind)
  · refine fj_iload_n C 1 dX5_sets_5 rfl rfl ?_
    refine fj_iconst (v := 0) C dX5_sets_6 (by decide) ?_
    refine fj_aload_n C 0 dX5_sets_7 rfl rfl ?_
    refine fj_get (Cn := RX5) (T := TX5) (N := 5) (ci := 5) (v := .ref (ad 4)) C iX5 0 (fx_at0 _ _ _ _ _) rfl 1 (by decide) kX5_19 rfl dX5_sets_8 ?_
    refine fj_getN (Cn := RX2) (T := TX2) (N := 7) (ci := 2) (v := .int 0) C iX2 4 (fx_at4 _ _ _ _ _) rfl 6 (by decide) kX5_72 rfl dX5_sets_11 ?_
    refine fj_iconst (v := 1) C dX5_sets_14 (by decide) ?_
    refine fj_isub C dX5_sets_15 ?_
    refine fj_at (y := (-1)) (by decide) ?_
    refine fj_callSw (As := [.int x, .int 0, .int (-1)]) (rest := []) C (c_X5_within l D ty t0 (fx_w ad ty fx_a0 fx_g0 fx_n0) x 0 (-1)) (va_cwS 3 C.2.2.2.2.1 gX5_sets_X5_within rfl rfl rfl (by decide +kernel) ⟨Nat.le_of_ble_eq_true rfl, Nat.le_of_ble_eq_true rfl⟩)  rfl (Nat.le_of_ble_eq_true rfl) dX5_sets_16 ⟨Nat.zero_le _, Nat.zero_le _⟩ (fun v9 w9 hp9 => ?_)
    obtain ⟨rfl, rfl⟩ := hp9
    refine fj_st (st' := .int (if (0 ≤ x ∧ x ≤ (-1)) then 1 else 0) :: []) rfl ?_
    refine fj_if_ne (tgt := 26) C dX5_sets_19 (by decide) (fun h19 => absurd (by grind) h19) (fun h19 => ?_)
    refine fj_sipush (v := (-1001)) C dX5_sets_22 (by decide) ?_
    exact fj_iret C E9 dX5_sets_25 (by (repeat' split) <;> first | rfl | (exfalso; grind) | grind)

set_option maxHeartbeats 4000000 in
set_option maxRecDepth 100000 in
theorem c_X2_inForce (l : Launch) (D : va_G) (ty : Nat → ClassId) (t0 : Nat) (ad : Nat → Nat) (x : Int32)  : fc l yX2_inForce wsX2_inForce (fj_rm 0 0 0 0) D ty t0 [.ref (ad 4), .int x] (fx_w ad ty fx_a0 fx_g0 fx_n0) 0 0 (fun v w => v = some (.int (-1))) := by
  refine fc_start (own := RX2) (cc := cX2_inForce) (maxL := 3) (ret := (some .int)) (by decide) rfl (Nat.le_of_ble_eq_true rfl) rfl ?_
  intro p e s m args below meth c Q A C hmn E9
  have iX2 : ∀ w ∈ u_ws RX2 TX2 7, w ∈ wsX2_inForce := fun _ h => List.mem_cons_of_mem _ (List.mem_append_right _ h)
  have kX2_34 : Cond.fieldLink RX2 34 "FreeLand$Laws" "size" "I" ∈ wsX2_inForce := (by decide +kernel)
  refine fj_lv (lv' := [(0, .ref (ad 4)), (1, .int x)]) [0, 1] rfl ?_
  refine fj_aload_n C 0 dX2_inForce_0 rfl rfl ?_
  refine fj_get (Cn := RX2) (T := TX2) (N := 7) (ci := 2) (v := .int 0) C iX2 4 (fx_at4 _ _ _ _ _) rfl 6 (by decide) kX2_34 rfl dX2_inForce_1 ?_
  refine fj_iconst (v := 1) C dX2_inForce_4 (by decide) ?_
  refine fj_isub C dX2_inForce_5 ?_
  refine fj_at (y := (-1)) (by decide) ?_
  refine fj_istore_n (lv' := [(2, .int (-1)), (0, .ref (ad 4)), (1, .int x)]) C dX2_inForce_6 rfl (by decide) rfl ?_
  refine fj_iload_n C 0 dX2_inForce_7 rfl rfl ?_
  refine fj_if_lt (tgt := 39) C dX2_inForce_8 (by decide) (fun _ => ?_) (fun h => absurd (by decide) h)
  refine fj_iconst (v := (-1)) C dX2_inForce_39 (by decide) ?_
  exact fj_iret C E9 dX2_inForce_40 rfl

set_option maxHeartbeats 4000000 in
set_option maxRecDepth 100000 in
theorem c_X5_lawOf (l : Launch) (D : va_G) (ty : Nat → ClassId) (t0 : Nat) (ad : Nat → Nat) (x : Int32)  : fc l yX5_lawOf wsX5_lawOf (fj_rm 2 42 0 0) D ty t0 [.ref (ad 0), .int x] (fx_w ad ty fx_a0 fx_g0 fx_n0) 0 0 (fun v w => v = some (.int (if (0 ≤ x ∧ x ≤ 20000) then -1 else -1002))) := by
  refine fc_start (own := RX5) (cc := cX5_lawOf) (maxL := 2) (ret := (some .int)) (by decide) rfl (Nat.le_of_ble_eq_true rfl) rfl ?_
  intro p e s m args below meth c Q A C hmn E9
  have iX5 : ∀ w ∈ u_ws RX5 TX5 5, w ∈ wsX5_lawOf := fun _ h => List.mem_cons_of_mem _ (List.mem_append_left _ (List.mem_append_right _ h))
  have kX5_19 : Cond.fieldLink RX5 19 "FreeLand" "laws" "LFreeLand$Laws;" ∈ wsX5_lawOf := (by decide +kernel)
  have kN87 : (RX5, 87, yX2_inForce) ∈ nw_M := (by decide +kernel)
  have kIX2 : Cond.initialized RX2 ∈ wsX5_lawOf := (by decide +kernel)
  have kVX2_inForce : Cond.instanceMethod yX2_inForce ∈ wsX5_lawOf := (by decide +kernel)
  have kSX2_inForce : Cond.selects RX2 yX2_inForce yX2_inForce ∈ wsX5_lawOf := (by decide +kernel)
  refine fj_lv (lv' := [(0, .ref (ad 0)), (1, .int x)]) [0, 1] rfl ?_
  refine fj_iload_n C 1 dX5_lawOf_0 rfl rfl ?_
  refine fj_callSw (As := [.int x]) (rest := []) C (c_X5_isDay l D ty t0 (fx_w ad ty fx_a0 fx_g0 fx_n0) x) (va_cwS 1 C.2.2.2.2.1 gX5_lawOf_X5_isDay rfl rfl rfl (by decide +kernel) ⟨Nat.le_of_ble_eq_true rfl, Nat.le_of_ble_eq_true rfl⟩)  rfl (Nat.le_of_ble_eq_true rfl) dX5_lawOf_1 ⟨Nat.zero_le _, Nat.zero_le _⟩ (fun v9 w9 hp9 => ?_)
  obtain ⟨rfl, rfl⟩ := hp9
  refine fj_st (st' := .int (if (0 ≤ x ∧ x ≤ 20000) then 1 else 0) :: []) rfl ?_
  refine fj_ifb_ne (tgt := 11) C dX5_lawOf_4 (by decide) (fun h4 => ?_) (fun h4 => ?_)
  · refine fj_aload_n C 0 dX5_lawOf_11 rfl rfl ?_
    refine fj_get (Cn := RX5) (T := TX5) (N := 5) (ci := 5) (v := .ref (ad 4)) C iX5 0 (fx_at0 _ _ _ _ _) rfl 1 (by decide) kX5_19 rfl dX5_lawOf_12 ?_
    refine fj_iload_n C 1 dX5_lawOf_15 rfl rfl ?_
    refine fj_callVNw (As := [.int x]) (rest := []) C (c_X2_inForce l D ty t0 ad x) ⟨va_cnB 1 C.2.2.2.2.1 gX5_lawOf_X2_inForce_n87 rfl rfl rfl (C.2.2.2.2.2.2.2.1.1 _ kN87) (C.2.2.2.2.1 _ kIX2) (by decide +kernel) ⟨Nat.le_of_ble_eq_true rfl, Nat.le_of_ble_eq_true rfl⟩, C.2.2.2.2.1 _ kVX2_inForce, C.2.2.2.2.1 _ kSX2_inForce⟩ ⟨4, 2, _, _, fx_at4 _ _ _ _ _, rfl, rfl⟩ rfl (Nat.le_of_ble_eq_true rfl) dX5_lawOf_16 ⟨Nat.zero_le _, Nat.zero_le _⟩ (fun v9 w9 hp9 => ?_)
    obtain rfl := hp9
    refine fj_st (st' := .int (-1) :: []) rfl ?_
    exact fj_iret C E9 dX5_lawOf_19 (by (repeat' split) <;> first | rfl | (exfalso; grind) | grind)
  · refine fj_sipush (v := (-1002)) C dX5_lawOf_7 (by decide) ?_
    exact fj_iret C E9 dX5_lawOf_10 (by (repeat' split) <;> first | rfl | (exfalso; grind) | grind)

set_option maxHeartbeats 4000000 in
set_option maxRecDepth 100000 in
theorem c_X2_read (l : Launch) (D : va_G) (ty : Nat → ClassId) (t0 : Nat) (ad : Nat → Nat)   : fc l yX2_read wsX2_read (fj_rm 0 0 0 0) D ty t0 [.ref (ad 4), .ref (ad 9)] (fx_w ad ty fx_a0 fx_g0 fx_n0) 0 0 (fun v w => v = some (.int 0) ∧ w = (fx_w ad ty (va_up fx_a0 9 (fl (-1) (fx_a0 9) 9)) fx_g0 (va_up fx_n0 2 (-1)))) := by
  refine fc_start (own := RX2) (cc := cX2_read) (maxL := 6) (ret := (some .int)) (by decide) rfl (Nat.le_of_ble_eq_true rfl) rfl ?_
  intro p e s m args below meth c Q A C hmn E9
  have iX2 : ∀ w ∈ u_ws RX2 TX2 7, w ∈ wsX2_read := fun _ h => List.mem_cons_of_mem _ (List.mem_append_right _ h)
  have kX2_15 : Cond.fieldLink RX2 15 "FreeLand$Laws" "faultAt" "I" ∈ wsX2_read := (by decide +kernel)
  have kX2_31 : Cond.fieldLink RX2 31 "FreeLand$Laws" "length" "I" ∈ wsX2_read := (by decide +kernel)
  refine fj_lv (lv' := [(0, .ref (ad 4)), (1, .ref (ad 9))]) [0, 1] rfl ?_
  refine fj_iconst (v := 0) C dX2_read_0 (by decide) ?_
  refine fj_istore_n (lv' := [(2, .int 0), (0, .ref (ad 4)), (1, .ref (ad 9))]) C dX2_read_1 rfl (by decide) rfl ?_
  refine fj_lv (lv' := [(0, .ref (ad 4)), (1, .ref (ad 9)), (2, .int 0)]) [1, 2, 0] rfl ?_
  have lp2 : ∀ (i : Nat), (i ≤ 9) → fj p l e (fj_rm 0 0 0 0) s m args below meth c Q A D 6 0 0 (fx_w ad ty (va_up fx_a0 9 (fl (-1) (fx_a0 9) i)) fx_g0 fx_n0) [(0, .ref (ad 4)), (1, .ref (ad 9)), (2, .int (nI i))] 2 [] := by
    have key : ∀ z : Nat, (fun (i : Nat) => (i ≤ 9) → fj p l e (fj_rm 0 0 0 0) s m args below meth c Q A D 6 0 0 (fx_w ad ty (va_up fx_a0 9 (fl (-1) (fx_a0 9) i)) fx_g0 fx_n0) [(0, .ref (ad 4)), (1, .ref (ad 9)), (2, .int (nI i))] 2 []) z := by
      refine fx_ind (fun (i : Nat) => 9 - i) _ ?_
      rintro i ih ii
      refine fj_iload_n C 2 dX2_read_2 rfl rfl ?_
      refine fj_bipush (v := 9) C dX2_read_3 (by decide) ?_
      refine fj_icmp_ge (tgt := 18) C dX2_read_5 (by decide) (fun h5 => ?_) (fun h5 => ?_)
      · have q5 : 9 ≤ i := (nI_leI (a := 9) (by decide) (by omega)).mp h5
        obtain rfl : i = 9 := by omega
        refine fj_aload_n C 0 dX2_read_18 rfl rfl ?_
        refine fj_iconst (v := (-1)) C dX2_read_19 (by decide) ?_
        refine fj_put (Cn := RX2) (T := TX2) (N := 7) (ci := 2) C iX2 tyX2 tyX2_ok nmX2 4 (fx_at4 _ _ _ _ _) rfl 2 (by decide) kX2_15 rfl rfl rfl (Nat.le_of_ble_eq_true rfl) dX2_read_20 (fx_si4_2 _ _ _ _ _ _) ?_
        refine fj_iconst (v := (-1)) C dX2_read_23 (by decide) ?_
        refine fj_istore_n (lv' := [(2, .int (-1)), (0, .ref (ad 4)), (1, .ref (ad 9))]) C dX2_read_24 rfl (by decide) rfl ?_
        refine fj_iconst (v := 0) C dX2_read_25 (by decide) ?_
        refine fj_istore_n (lv' := [(3, .int 0), (2, .int (-1)), (0, .ref (ad 4)), (1, .ref (ad 9))]) C dX2_read_26 rfl (by decide) rfl ?_
        refine fj_iload_n C 0 dX2_read_27 rfl rfl ?_
        refine fj_aload_n C 2 dX2_read_28 rfl rfl ?_
        refine fj_get (Cn := RX2) (T := TX2) (N := 7) (ci := 2) (v := .int 0) C iX2 4 (fx_at4 _ _ _ _ _) rfl 1 (by decide) kX2_31 rfl dX2_read_29 ?_
        refine fj_icmp_ge (tgt := 137) C dX2_read_32 (by decide) (fun _ => ?_) (fun h => absurd (by decide) h)
        refine fj_iload_n C 1 dX2_read_137 rfl rfl ?_
        refine fj_iconst (v := (-1)) C dX2_read_138 (by decide) ?_
        refine fj_icmp_ne (tgt := 144) C dX2_read_139 (by decide) (fun h => absurd (by decide) h) (fun _ => ?_)
        refine fj_iconst (v := 0) C dX2_read_142 (by decide) ?_
        exact fj_iret C E9 dX2_read_143 ⟨rfl, rfl⟩
      · have q5 : i < 9 := Nat.lt_of_not_le (fun q => h5 ((nI_leI (a := 9) (by decide) (by omega)).mpr q))
        refine fj_aload_n C 1 dX2_read_8 rfl rfl ?_
        refine fj_iload_n C 2 dX2_read_9 rfl rfl ?_
        refine fj_iconst (v := (-1)) C dX2_read_10 (by decide) ?_
        refine fj_iast (f := (fl (-1) (fx_a0 9) i)) C 9 (fx_at9 _ _ _ _ _) (vp_in_nI q5 (by decide)) dX2_read_11 (fx_st9 _ _ _ _ _ _) ?_
        refine fj_ws (ws' := (fx_w ad ty (va_up fx_a0 9 (upd (fl (-1) (fx_a0 9) i) (nI i).toNatClampNeg (-1))) fx_g0 fx_n0)) rfl ?_
        refine fj_ws (ws' := (fx_w ad ty (va_up fx_a0 9 (fl (-1) (fx_a0 9) (i + 1))) fx_g0 fx_n0)) (by rw [fl_nI _ _ (by omega)]) ?_
        refine fj_iinc (v := nI (i + 1)) (lv' := [(2, .int (nI (i + 1))), (0, .ref (ad 4)), (1, .ref (ad 9))]) C 2 dX2_read_12 rfl (nI_1 i) (by decide) rfl ?_
        refine fj_goto (tgt := 2) C dX2_read_15 (by decide) ?_
        refine fj_lv (lv' := [(0, .ref (ad 4)), (1, .ref (ad 9)), (2, .int (nI (i + 1)))]) [1, 2, 0] rfl ?_
        exact ih (i + 1) (by show 9 - (i + 1) < 9 - i; omega) (by omega)
    intro i
    exact key i
  refine fj_ws (ws' := (fx_w ad ty (va_up fx_a0 9 (fl (-1) (fx_a0 9) 0)) fx_g0 fx_n0)) (by rw [fl_0]; rfl) ?_
  exact lp2 0 (Nat.zero_le _)

set_option maxHeartbeats 4000000 in
set_option maxRecDepth 100000 in
theorem c_X2_enact (l : Launch) (D : va_G) (ty : Nat → ClassId) (t0 : Nat) (ad : Nat → Nat) (x : Int32)  : fc l yX2_enact wsX2_enact (fj_rm 1 25 0 0) D ty t0 [.ref (ad 4), .int x] (fx_w ad ty fx_a0 fx_g0 fx_n0) 0 0 (fun v w => v = some (.int 0)) := by
  refine fc_start (own := RX2) (cc := cX2_enact) (maxL := 4) (ret := (some .int)) (by decide) rfl (Nat.le_of_ble_eq_true rfl) rfl ?_
  intro p e s m args below meth c Q A C hmn E9
  have iX2 : ∀ w ∈ u_ws RX2 TX2 7, w ∈ wsX2_enact := fun _ h => List.mem_cons_of_mem _ (List.mem_append_right _ h)
  have kX2_25 : Cond.fieldLink RX2 25 "FreeLand$Laws" "value" "[[I" ∈ wsX2_enact := (by decide +kernel)
  have kX2_34 : Cond.fieldLink RX2 34 "FreeLand$Laws" "size" "I" ∈ wsX2_enact := (by decide +kernel)
  have kX2_31 : Cond.fieldLink RX2 31 "FreeLand$Laws" "length" "I" ∈ wsX2_enact := (by decide +kernel)
  have kX2_19 : Cond.fieldLink RX2 19 "FreeLand$Laws" "from" "[I" ∈ wsX2_enact := (by decide +kernel)
  have kX2_28 : Cond.fieldLink RX2 28 "FreeLand$Laws" "order" "[I" ∈ wsX2_enact := (by decide +kernel)
  refine fj_lv (lv' := [(0, .ref (ad 4)), (1, .int x)]) [0, 1] rfl ?_
  refine fj_aload_n C 0 dX2_enact_0 rfl rfl ?_
  refine fj_aload_n C 0 dX2_enact_1 rfl rfl ?_
  refine fj_get (Cn := RX2) (T := TX2) (N := 7) (ci := 2) (v := .ref (ad 7)) C iX2 4 (fx_at4 _ _ _ _ _) rfl 4 (by decide) kX2_25 rfl dX2_enact_2 ?_
  refine fj_aload_n C 0 dX2_enact_5 rfl rfl ?_
  refine fj_get (Cn := RX2) (T := TX2) (N := 7) (ci := 2) (v := .int 0) C iX2 4 (fx_at4 _ _ _ _ _) rfl 6 (by decide) kX2_34 rfl dX2_enact_6 ?_
  refine fj_aald (r := ad 9) C 7 (fx_at7 _ _ _ _ _) (vp_in_iff.mpr ⟨by decide, by decide⟩) rfl dX2_enact_9 ?_
  refine fj_callVw (As := [.ref (ad 9)]) (rest := []) C (c_X2_read l D ty t0 ad) (cwV 1 C.2.2.2.2.1 gX2_enact_X2_read rfl rfl rfl (by decide +kernel) ⟨Nat.le_of_ble_eq_true rfl, Nat.le_of_ble_eq_true rfl⟩) ⟨4, 2, _, _, fx_at4 _ _ _ _ _, rfl, rfl⟩ rfl (Nat.le_of_ble_eq_true rfl) dX2_enact_10 ⟨Nat.zero_le _, Nat.zero_le _⟩ (fun v9 w9 hp9 => ?_)
  obtain ⟨rfl, rfl⟩ := hp9
  refine fj_st (st' := .int 0 :: []) rfl ?_
  refine fj_istore_n (lv' := [(2, .int 0), (0, .ref (ad 4)), (1, .int x)]) C dX2_enact_13 rfl (by decide) rfl ?_
  refine fj_aload_n C 1 dX2_enact_14 rfl rfl ?_
  refine fj_iconst (v := 0) C dX2_enact_15 (by decide) ?_
  refine fj_put (Cn := RX2) (T := TX2) (N := 7) (ci := 2) C iX2 tyX2 tyX2_ok nmX2 4 (fx_at4 _ _ _ _ _) rfl 1 (by decide) kX2_31 rfl rfl rfl (Nat.le_of_ble_eq_true rfl) dX2_enact_16 (fx_si4_1 _ _ _ _ _ _) ?_
  refine fj_iload_n C 0 dX2_enact_19 rfl rfl ?_
  refine fj_if_eq (tgt := 28) C dX2_enact_20 (by decide) (fun _ => ?_) (fun h => absurd (by decide) h)
  refine fj_aload_n C 1 dX2_enact_28 rfl rfl ?_
  refine fj_get (Cn := RX2) (T := TX2) (N := 7) (ci := 2) (v := .ref (ad 6)) C iX2 4 (fx_at4 _ _ _ _ _) rfl 3 (by decide) kX2_19 rfl dX2_enact_29 ?_
  refine fj_aload_n C 1 dX2_enact_32 rfl rfl ?_
  refine fj_get (Cn := RX2) (T := TX2) (N := 7) (ci := 2) (v := .int 0) C iX2 4 (fx_at4 _ _ _ _ _) rfl 6 (by decide) kX2_34 rfl dX2_enact_33 ?_
  refine fj_iload_n C 2 dX2_enact_36 rfl rfl ?_
  refine fj_iast (f := (fx_a0 6)) C 6 (fx_at6 _ _ _ _ _) (vp_in_iff.mpr ⟨by decide, by decide⟩) dX2_enact_37 (fx_st6 _ _ _ _ _ _) ?_
  refine fj_aload_n C 1 dX2_enact_38 rfl rfl ?_
  refine fj_get (Cn := RX2) (T := TX2) (N := 7) (ci := 2) (v := .int 0) C iX2 4 (fx_at4 _ _ _ _ _) rfl 6 (by decide) kX2_34 rfl dX2_enact_39 ?_
  refine fj_istore_n (lv' := [(3, .int 0), (2, .int 0), (0, .ref (ad 4)), (1, .int x)]) C dX2_enact_42 rfl (by decide) rfl ?_
  refine fj_iload_n C 0 dX2_enact_43 rfl rfl ?_
  refine fj_if_le (tgt := 84) C dX2_enact_44 (by decide) (fun _ => ?_) (fun h => absurd (by decide) h)
  refine fj_aload_n C 2 dX2_enact_84 rfl rfl ?_
  refine fj_get (Cn := RX2) (T := TX2) (N := 7) (ci := 2) (v := .ref (ad 8)) C iX2 4 (fx_at4 _ _ _ _ _) rfl 5 (by decide) kX2_28 rfl dX2_enact_85 ?_
  refine fj_iload_n C 0 dX2_enact_88 rfl rfl ?_
  refine fj_aload_n C 2 dX2_enact_89 rfl rfl ?_
  refine fj_get (Cn := RX2) (T := TX2) (N := 7) (ci := 2) (v := .int 0) C iX2 4 (fx_at4 _ _ _ _ _) rfl 6 (by decide) kX2_34 rfl dX2_enact_90 ?_
  refine fj_iast (f := (fx_a0 8)) C 8 (fx_at8 _ _ _ _ _) (vp_in_iff.mpr ⟨by decide, by decide⟩) dX2_enact_93 (fx_st8 _ _ _ _ _ _) ?_
  refine fj_aload_n C 2 dX2_enact_94 rfl rfl ?_
  refine fj_dup C dX2_enact_95 rfl ?_
  refine fj_get (Cn := RX2) (T := TX2) (N := 7) (ci := 2) (v := .int 0) C iX2 4 (fx_at4 _ _ _ _ _) rfl 6 (by decide) kX2_34 rfl dX2_enact_96 ?_
  refine fj_iconst (v := 1) C dX2_enact_99 (by decide) ?_
  refine fj_iadd C dX2_enact_100 ?_
  refine fj_at (y := 1) (by decide) ?_
  refine fj_put (Cn := RX2) (T := TX2) (N := 7) (ci := 2) C iX2 tyX2 tyX2_ok nmX2 4 (fx_at4 _ _ _ _ _) rfl 6 (by decide) kX2_34 rfl rfl rfl (Nat.le_of_ble_eq_true rfl) dX2_enact_101 (fx_si4_6 _ _ _ _ _ _) ?_
  refine fj_aload_n C 2 dX2_enact_104 rfl rfl ?_
  refine fj_get (Cn := RX2) (T := TX2) (N := 7) (ci := 2) (v := .int 1) C iX2 4 (fx_at4 _ _ _ _ _) rfl 6 (by decide) kX2_34 rfl dX2_enact_105 ?_
  refine fj_iconst (v := 1) C dX2_enact_108 (by decide) ?_
  refine fj_isub C dX2_enact_109 ?_
  refine fj_at (y := 0) (by decide) ?_
  exact fj_iret C E9 dX2_enact_110 rfl

set_option maxHeartbeats 4000000 in
set_option maxRecDepth 100000 in
theorem c_X5_law (l : Launch) (D : va_G) (ty : Nat → ClassId) (t0 : Nat) (ad : Nat → Nat) (x : Int32)  : fc l yX5_law wsX5_law (fj_rm 2 48 0 0) D ty t0 [.ref (ad 0), .int x] (fx_w ad ty fx_a0 fx_g0 fx_n0) 0 0 (fun v w => v = some (.int (if (0 ≤ x ∧ x ≤ 20000) then 0 else -1002))) := by
  refine fc_start (own := RX5) (cc := cX5_law) (maxL := 2) (ret := (some .int)) (by decide) rfl (Nat.le_of_ble_eq_true rfl) rfl ?_
  intro p e s m args below meth c Q A C hmn E9
  have iX5 : ∀ w ∈ u_ws RX5 TX5 5, w ∈ wsX5_law := fun _ h => List.mem_cons_of_mem _ (List.mem_append_left _ (List.mem_append_right _ h))
  have kX5_19 : Cond.fieldLink RX5 19 "FreeLand" "laws" "LFreeLand$Laws;" ∈ wsX5_law := (by decide +kernel)
  have iX2 : ∀ w ∈ u_ws RX2 TX2 7, w ∈ wsX5_law := fun _ h => List.mem_cons_of_mem _ (List.mem_append_right _ h)
  have kX5_72 : (RX5, 72, "FreeLand$Laws", "size", "I") ∈ nw_F := (by decide +kernel)
  have kN73 : (RX5, 73, yX2_enact) ∈ nw_M := (by decide +kernel)
  have kIX2 : Cond.initialized RX2 ∈ wsX5_law := (by decide +kernel)
  have kVX2_enact : Cond.instanceMethod yX2_enact ∈ wsX5_law := (by decide +kernel)
  have kSX2_enact : Cond.selects RX2 yX2_enact yX2_enact ∈ wsX5_law := (by decide +kernel)
  refine fj_lv (lv' := [(0, .ref (ad 0)), (1, .int x)]) [0, 1] rfl ?_
  refine fj_iload_n C 1 dX5_law_0 rfl rfl ?_
  refine fj_callSw (As := [.int x]) (rest := []) C (c_X5_isDay l D ty t0 (fx_w ad ty fx_a0 fx_g0 fx_n0) x) (va_cwS 1 C.2.2.2.2.1 gX5_law_X5_isDay rfl rfl rfl (by decide +kernel) ⟨Nat.le_of_ble_eq_true rfl, Nat.le_of_ble_eq_true rfl⟩)  rfl (Nat.le_of_ble_eq_true rfl) dX5_law_1 ⟨Nat.zero_le _, Nat.zero_le _⟩ (fun v9 w9 hp9 => ?_)
  obtain ⟨rfl, rfl⟩ := hp9
  refine fj_st (st' := .int (if (0 ≤ x ∧ x ≤ 20000) then 1 else 0) :: []) rfl ?_
  refine fj_ifb_ne (tgt := 11) C dX5_law_4 (by decide) (fun h4 => ?_) (fun h4 => ?_)
  · refine fj_aload_n C 0 dX5_law_11 rfl rfl ?_
    refine fj_get (Cn := RX5) (T := TX5) (N := 5) (ci := 5) (v := .ref (ad 4)) C iX5 0 (fx_at0 _ _ _ _ _) rfl 1 (by decide) kX5_19 rfl dX5_law_12 ?_
    refine fj_getN (Cn := RX2) (T := TX2) (N := 7) (ci := 2) (v := .int 0) C iX2 4 (fx_at4 _ _ _ _ _) rfl 6 (by decide) kX5_72 rfl dX5_law_15 ?_
    refine fj_bipush (v := 8) C dX5_law_18 (by decide) ?_
    refine fj_icmp_lt (tgt := 27) C dX5_law_20 (by decide) (fun _ => ?_) (fun h => absurd (by decide) h)
    refine fj_aload_n C 0 dX5_law_27 rfl rfl ?_
    refine fj_get (Cn := RX5) (T := TX5) (N := 5) (ci := 5) (v := .ref (ad 4)) C iX5 0 (fx_at0 _ _ _ _ _) rfl 1 (by decide) kX5_19 rfl dX5_law_28 ?_
    refine fj_iload_n C 1 dX5_law_31 rfl rfl ?_
    refine fj_callVNw (As := [.int x]) (rest := []) C (c_X2_enact l D ty t0 ad x) ⟨va_cnB 1 C.2.2.2.2.1 gX5_law_X2_enact_n73 rfl rfl rfl (C.2.2.2.2.2.2.2.1.1 _ kN73) (C.2.2.2.2.1 _ kIX2) (by decide +kernel) ⟨Nat.le_of_ble_eq_true rfl, Nat.le_of_ble_eq_true rfl⟩, C.2.2.2.2.1 _ kVX2_enact, C.2.2.2.2.1 _ kSX2_enact⟩ ⟨4, 2, _, _, fx_at4 _ _ _ _ _, rfl, rfl⟩ rfl (Nat.le_of_ble_eq_true rfl) dX5_law_32 ⟨Nat.zero_le _, Nat.zero_le _⟩ (fun v9 w9 hp9 => ?_)
    obtain rfl := hp9
    refine fj_st (st' := .int 0 :: []) rfl ?_
    exact fj_iret C E9 dX5_law_35 (by (repeat' split) <;> first | rfl | (exfalso; grind) | grind)
  · refine fj_sipush (v := (-1002)) C dX5_law_7 (by decide) ?_
    exact fj_iret C E9 dX5_law_10 (by (repeat' split) <;> first | rfl | (exfalso; grind) | grind)

set_option maxHeartbeats 4000000 in
set_option maxRecDepth 100000 in
theorem c_X2_append (l : Launch) (D : va_G) (ty : Nat → ClassId) (t0 : Nat) (ad : Nat → Nat) (x : Int32) (b9 : Int64) (N : Nat) (hN : N ≤ 8) (eN : x = nI N) : fc l yX2_append wsX2_append (fj_rm 0 0 0 0) D ty t0 [.ref (ad 4), .int x, .long b9] (fx_w ad ty fx_a0 fx_g0 fx_n0) 0 0 (fun v w => v = some (.int x)) := by
  subst eN
  refine fc_start (own := RX2) (cc := cX2_append) (maxL := 5) (ret := (some .int)) (by decide) rfl (Nat.le_of_ble_eq_true rfl) rfl ?_
  intro p e s m args below meth c Q A C hmn E9
  have iX2 : ∀ w ∈ u_ws RX2 TX2 7, w ∈ wsX2_append := fun _ h => List.mem_cons_of_mem _ (List.mem_append_right _ h)
  have kX2_31 : Cond.fieldLink RX2 31 "FreeLand$Laws" "length" "I" ∈ wsX2_append := (by decide +kernel)
  have kX2_9 : Cond.fieldLink RX2 9 "FreeLand$Laws" "text" "[B" ∈ wsX2_append := (by decide +kernel)
  refine fj_lv (lv' := [(0, .ref (ad 4)), (1, .int (nI N)), (2, .long b9)]) [0, 1, 2] rfl ?_
  refine fj_iload_n C 1 dX2_append_0 rfl rfl ?_
  refine fj_iconst (v := 1) C dX2_append_1 (by decide) ?_
  refine fj_isub C dX2_append_2 ?_
  refine fj_istore (lv' := [(4, .int ((nI N) - 1)), (0, .ref (ad 4)), (1, .int (nI N)), (2, .long b9)]) C dX2_append_3 (by decide) rfl ?_
  refine fj_lv (lv' := [(0, .ref (ad 4)), (1, .int (nI N)), (2, .long b9), (4, .int ((nI N) - 1))]) [1, 2, 3, 0] rfl ?_
  have lp5 : ∀ (k : Nat) (j : Nat) (t : Nat → Int32), (k + j = N) → fj p l e (fj_rm 0 0 0 0) s m args below meth c Q A D 5 0 0 (fx_w ad ty (va_up fx_a0 5 t) fx_g0 (va_up fx_n0 1 (nI j))) [(0, .ref (ad 4)), (1, .int (nI N)), (2, .long b9), (4, .int (nI k - 1))] 5 [] := by
    have key : ∀ z : Nat × Nat × (Nat → Int32), (fun (z : Nat × Nat × (Nat → Int32)) => match z with | (k, j, t) => (k + j = N) → fj p l e (fj_rm 0 0 0 0) s m args below meth c Q A D 5 0 0 (fx_w ad ty (va_up fx_a0 5 t) fx_g0 (va_up fx_n0 1 (nI j))) [(0, .ref (ad 4)), (1, .int (nI N)), (2, .long b9), (4, .int (nI k - 1))] 5 []) z := by
      refine fx_ind (fun (z : Nat × Nat × (Nat → Int32)) => match z with | (k, j, t) => k) _ ?_
      rintro ⟨k, j, t⟩ ih ik
      refine fj_iload C 3 dX2_append_5 rfl ?_
      refine fj_if_lt (tgt := 44) C dX2_append_7 (by decide) (fun h7 => ?_) (fun h7 => ?_)
      · obtain rfl : k = 0 := fx_p0 (by omega) h7
        refine fj_aload_n C 0 dX2_append_44 rfl rfl ?_
        refine fj_get (Cn := RX2) (T := TX2) (N := 7) (ci := 2) (v := .int (nI j)) C iX2 4 (fx_at4 _ _ _ _ _) rfl 1 (by decide) kX2_31 rfl dX2_append_45 ?_
        exact fj_iret C E9 dX2_append_48 (by rw [show j = N by omega])
      · obtain ⟨k, rfl⟩ : ∃ z, k = z + 1 := fx_p1 h7
        refine fj_aload_n C 0 dX2_append_10 rfl rfl ?_
        refine fj_get (Cn := RX2) (T := TX2) (N := 7) (ci := 2) (v := .ref (ad 5)) C iX2 4 (fx_at4 _ _ _ _ _) rfl 0 (by decide) kX2_9 rfl dX2_append_11 ?_
        refine fj_aload_n C 0 dX2_append_14 rfl rfl ?_
        refine fj_get (Cn := RX2) (T := TX2) (N := 7) (ci := 2) (v := .int (nI j)) C iX2 4 (fx_at4 _ _ _ _ _) rfl 1 (by decide) kX2_31 rfl dX2_append_15 ?_
        refine fj_lload_n C 2 dX2_append_18 rfl rfl ?_
        refine fj_bipush (v := 8) C dX2_append_19 (by decide) ?_
        refine fj_iload C 3 dX2_append_21 rfl ?_
        refine fj_imul C dX2_append_23 ?_
        refine fj_lshr C dX2_append_24 ?_
        refine fj_l2i C dX2_append_25 ?_
        refine fj_i2b C dX2_append_26 ?_
        refine fj_bast (f := t) C 5 (fx_at5 _ _ _ _ _) (vp_in_nI (by omega) (by decide)) dX2_append_27 (fx_st5 _ _ _ _ _ _) ?_
        refine fj_ws (ws' := (fx_w ad ty (va_up fx_a0 5 (upd t (nI j).toNatClampNeg (vp_nar .byte (((b9 >>> ((8 * (nI (k + 1) - 1)).toInt64 &&& 63)).toInt32).toInt8.toInt32)))) fx_g0 (va_up fx_n0 1 (nI j)))) rfl ?_
        refine fj_aload_n C 0 dX2_append_28 rfl rfl ?_
        refine fj_dup C dX2_append_29 rfl ?_
        refine fj_get (Cn := RX2) (T := TX2) (N := 7) (ci := 2) (v := .int (nI j)) C iX2 4 (fx_at4 _ _ _ _ _) rfl 1 (by decide) kX2_31 rfl dX2_append_30 ?_
        refine fj_iconst (v := 1) C dX2_append_33 (by decide) ?_
        refine fj_iadd C dX2_append_34 ?_
        refine fj_at (y := nI (j + 1)) (nI_1 j) ?_
        refine fj_put (Cn := RX2) (T := TX2) (N := 7) (ci := 2) C iX2 tyX2 tyX2_ok nmX2 4 (fx_at4 _ _ _ _ _) rfl 1 (by decide) kX2_31 rfl rfl rfl (Nat.le_of_ble_eq_true rfl) dX2_append_35 (fx_si4_1 _ _ _ _ _ _) ?_
        refine fj_ws (ws' := (fx_w ad ty (va_up fx_a0 5 (upd t (nI j).toNatClampNeg (vp_nar .byte (((b9 >>> ((8 * (nI (k + 1) - 1)).toInt64 &&& 63)).toInt32).toInt8.toInt32)))) fx_g0 (va_up fx_n0 1 (nI (j + 1))))) rfl ?_
        refine fj_iinc (v := nI k - 1) (lv' := [(4, .int (nI k - 1)), (0, .ref (ad 4)), (1, .int (nI N)), (2, .long b9)]) C 3 dX2_append_38 rfl (fx_p2 k) (by decide) rfl ?_
        refine fj_goto (tgt := 5) C dX2_append_41 (by decide) ?_
        refine fj_lv (lv' := [(0, .ref (ad 4)), (1, .int (nI N)), (2, .long b9), (4, .int (nI k - 1))]) [1, 2, 3, 0] rfl ?_
        exact ih ⟨k, (j + 1), (upd t (nI j).toNatClampNeg (vp_nar .byte (((b9 >>> ((8 * (nI (k + 1) - 1)).toInt64 &&& 63)).toInt32).toInt8.toInt32)))⟩ (by show k < k + 1; omega) (by omega)
    intro k j t
    exact key ⟨k, j, t⟩
  exact lp5 N 0 (fx_a0 5) (by omega)

set_option maxHeartbeats 4000000 in
set_option maxRecDepth 100000 in
theorem c_X5_feed (l : Launch) (D : va_G) (ty : Nat → ClassId) (t0 : Nat) (ad : Nat → Nat) (x : Int32) (b9 : Int64)  : fc l yX5_feed wsX5_feed (fj_rm 1 24 0 0) D ty t0 [.ref (ad 0), .int x, .long b9] (fx_w ad ty fx_a0 fx_g0 fx_n0) 0 0 (fun v w => v = some (.int (if (1 ≤ x ∧ x ≤ 8) then x else -1002))) := by
  refine fc_start (own := RX5) (cc := cX5_feed) (maxL := 4) (ret := (some .int)) (by decide) rfl (Nat.le_of_ble_eq_true rfl) rfl ?_
  intro p e s m args below meth c Q A C hmn E9
  have iX5 : ∀ w ∈ u_ws RX5 TX5 5, w ∈ wsX5_feed := fun _ h => List.mem_cons_of_mem _ (List.mem_append_left _ (List.mem_append_right _ h))
  have kX5_19 : Cond.fieldLink RX5 19 "FreeLand" "laws" "LFreeLand$Laws;" ∈ wsX5_feed := (by decide +kernel)
  have iX2 : ∀ w ∈ u_ws RX2 TX2 7, w ∈ wsX5_feed := fun _ h => List.mem_cons_of_mem _ (List.mem_append_right _ h)
  have kX5_61 : (RX5, 61, "FreeLand$Laws", "length", "I") ∈ nw_F := (by decide +kernel)
  have kN64 : (RX5, 64, yX2_append) ∈ nw_M := (by decide +kernel)
  have kIX2 : Cond.initialized RX2 ∈ wsX5_feed := (by decide +kernel)
  have kVX2_append : Cond.instanceMethod yX2_append ∈ wsX5_feed := (by decide +kernel)
  have kSX2_append : Cond.selects RX2 yX2_append yX2_append ∈ wsX5_feed := (by decide +kernel)
  refine fj_lv (lv' := [(0, .ref (ad 0)), (1, .int x), (2, .long b9)]) [0, 1, 2] rfl ?_
  refine fj_iload_n C 1 dX5_feed_0 rfl rfl ?_
  refine fj_iconst (v := 1) C dX5_feed_1 (by decide) ?_
  refine fj_bipush (v := 8) C dX5_feed_2 (by decide) ?_
  refine fj_callSw (As := [.int x, .int 1, .int 8]) (rest := []) C (c_X5_within l D ty t0 (fx_w ad ty fx_a0 fx_g0 fx_n0) x 1 8) (va_cwS 3 C.2.2.2.2.1 gX5_feed_X5_within rfl rfl rfl (by decide +kernel) ⟨Nat.le_of_ble_eq_true rfl, Nat.le_of_ble_eq_true rfl⟩)  rfl (Nat.le_of_ble_eq_true rfl) dX5_feed_4 ⟨Nat.zero_le _, Nat.zero_le _⟩ (fun v9 w9 hp9 => ?_)
  obtain ⟨rfl, rfl⟩ := hp9
  refine fj_st (st' := .int (if (1 ≤ x ∧ x ≤ 8) then 1 else 0) :: []) rfl ?_
  refine fj_ifb_ne (tgt := 14) C dX5_feed_7 (by decide) (fun h7 => ?_) (fun h7 => ?_)
  · obtain ⟨N, hN, eN⟩ := nI_of2 (M := 8) (n := 8) (by decide) (x := x) (by grind) (by grind)
    refine fj_aload_n C 0 dX5_feed_14 rfl rfl ?_
    refine fj_get (Cn := RX5) (T := TX5) (N := 5) (ci := 5) (v := .ref (ad 4)) C iX5 0 (fx_at0 _ _ _ _ _) rfl 1 (by decide) kX5_19 rfl dX5_feed_15 ?_
    refine fj_getN (Cn := RX2) (T := TX2) (N := 7) (ci := 2) (v := .int 0) C iX2 4 (fx_at4 _ _ _ _ _) rfl 1 (by decide) kX5_61 rfl dX5_feed_18 ?_
    refine fj_iload_n C 1 dX5_feed_21 rfl rfl ?_
    refine fj_iadd C dX5_feed_22 ?_
    refine fj_bipush (v := 120) C dX5_feed_23 (by decide) ?_
    refine fj_icmp_le (tgt := 32) C dX5_feed_25 (by decide) (fun h25 => ?_) (fun h25 => absurd (by rw [Int32.zero_add]; grind) h25)
    refine fj_aload_n C 0 dX5_feed_32 rfl rfl ?_
    refine fj_get (Cn := RX5) (T := TX5) (N := 5) (ci := 5) (v := .ref (ad 4)) C iX5 0 (fx_at0 _ _ _ _ _) rfl 1 (by decide) kX5_19 rfl dX5_feed_33 ?_
    refine fj_iload_n C 1 dX5_feed_36 rfl rfl ?_
    refine fj_lload_n C 2 dX5_feed_37 rfl rfl ?_
    refine fj_callVNw (As := [.int x, .long b9]) (rest := []) C (c_X2_append l D ty t0 ad x b9 N hN eN) ⟨va_cnB 2 C.2.2.2.2.1 gX5_feed_X2_append_n64 rfl rfl rfl (C.2.2.2.2.2.2.2.1.1 _ kN64) (C.2.2.2.2.1 _ kIX2) (by decide +kernel) ⟨Nat.le_of_ble_eq_true rfl, Nat.le_of_ble_eq_true rfl⟩, C.2.2.2.2.1 _ kVX2_append, C.2.2.2.2.1 _ kSX2_append⟩ ⟨4, 2, _, _, fx_at4 _ _ _ _ _, rfl, rfl⟩ rfl (Nat.le_of_ble_eq_true rfl) dX5_feed_38 ⟨Nat.zero_le _, Nat.zero_le _⟩ (fun v9 w9 hp9 => ?_)
    obtain rfl := hp9
    refine fj_st (st' := .int x :: []) rfl ?_
    exact fj_iret C E9 dX5_feed_41 (by (repeat' split) <;> first | rfl | (exfalso; grind) | grind)
  · refine fj_sipush (v := (-1002)) C dX5_feed_10 (by decide) ?_
    exact fj_iret C E9 dX5_feed_13 (by (repeat' split) <;> first | rfl | (exfalso; grind) | grind)

set_option maxHeartbeats 4000000 in
set_option maxRecDepth 100000 in
theorem c_X1_set (l : Launch) (D : va_G) (ty : Nat → ClassId) (t0 : Nat) (ad : Nat → Nat) (i : Int32) (j : Int32) (x : Int32) (y : Int32) (hi : 0 ≤ i ∧ i ≤ 8) (hj : 0 ≤ j ∧ j ≤ 8) : fc l yX1_set wsX1_set (fj_rm 0 0 0 0) D ty t0 [.ref (ad 38), .int i, .int j, .int x, .int y] (fx_w ad ty fx_a0 fx_g0 fx_n0) 0 0 (fun v w => v = none) := by
  refine fc_start (own := RX1) (cc := cX1_set) (maxL := 6) (ret := none) (by decide) rfl (Nat.le_of_ble_eq_true rfl) rfl ?_
  intro p e s m args below meth c Q A C hmn E9
  have iX1 : ∀ w ∈ u_ws RX1 TX1 7, w ∈ wsX1_set := fun _ h => List.mem_cons_of_mem _ (List.mem_append_right _ h)
  have kX1_9 : Cond.fieldLink RX1 9 "FreeLand$Corners" "known" "[Z" ∈ wsX1_set := (by decide +kernel)
  have kX1_13 : Cond.fieldLink RX1 13 "FreeLand$Corners" "x" "[I" ∈ wsX1_set := (by decide +kernel)
  have kX1_17 : Cond.fieldLink RX1 17 "FreeLand$Corners" "y" "[I" ∈ wsX1_set := (by decide +kernel)
  refine fj_lv (lv' := [(0, .ref (ad 38)), (1, .int i), (2, .int j), (3, .int x), (4, .int y)]) [0, 1, 2, 3, 4] rfl ?_
  refine fj_bipush (v := 9) C dX1_set_0 (by decide) ?_
  refine fj_iload_n C 2 dX1_set_2 rfl rfl ?_
  refine fj_imul C dX1_set_3 ?_
  refine fj_iload_n C 1 dX1_set_4 rfl rfl ?_
  refine fj_iadd C dX1_set_5 ?_
  refine fj_istore (lv' := [(5, .int ((9 * j) + i)), (0, .ref (ad 38)), (1, .int i), (2, .int j), (3, .int x), (4, .int y)]) C dX1_set_6 (by decide) rfl ?_
  refine fj_aload_n C 1 dX1_set_8 rfl rfl ?_
  refine fj_get (Cn := RX1) (T := TX1) (N := 7) (ci := 1) (v := .ref (ad 39)) C iX1 38 (fx_at38 _ _ _ _ _) rfl 0 (by decide) kX1_9 rfl dX1_set_9 ?_
  refine fj_iload C 0 dX1_set_12 rfl ?_
  refine fj_iconst (v := 1) C dX1_set_14 (by decide) ?_
  refine fj_zast (f := (fx_a0 39)) C 39 (fx_at39 _ _ _ _ _) (fx_ij hi hj) dX1_set_15 (fx_st39 _ _ _ _ _ _) ?_
  refine fj_aload_n C 1 dX1_set_16 rfl rfl ?_
  refine fj_get (Cn := RX1) (T := TX1) (N := 7) (ci := 1) (v := .ref (ad 40)) C iX1 38 (fx_at38 _ _ _ _ _) rfl 1 (by decide) kX1_13 rfl dX1_set_17 ?_
  refine fj_iload C 0 dX1_set_20 rfl ?_
  refine fj_iload_n C 4 dX1_set_22 rfl rfl ?_
  refine fj_iast (f := (fx_a0 40)) C 40 (fx_at40 _ _ _ _ _) (fx_ij hi hj) dX1_set_23 (fx_st40 _ _ _ _ _ _) ?_
  refine fj_aload_n C 1 dX1_set_24 rfl rfl ?_
  refine fj_get (Cn := RX1) (T := TX1) (N := 7) (ci := 1) (v := .ref (ad 41)) C iX1 38 (fx_at38 _ _ _ _ _) rfl 2 (by decide) kX1_17 rfl dX1_set_25 ?_
  refine fj_iload C 0 dX1_set_28 rfl ?_
  refine fj_iload C 5 dX1_set_30 rfl ?_
  refine fj_iast (f := (fx_a0 41)) C 41 (fx_at41 _ _ _ _ _) (fx_ij hi hj) dX1_set_32 (fx_st41 _ _ _ _ _ _) ?_
  exact fj_vret C E9 dX1_set_33 rfl

set_option maxHeartbeats 4000000 in
set_option maxRecDepth 100000 in
theorem c_X5_corner (l : Launch) (D : va_G) (ty : Nat → ClassId) (t0 : Nat) (ad : Nat → Nat) (i : Int32) (j : Int32) (x : Int32) (y : Int32)  : fc l yX5_corner wsX5_corner (fj_rm 2 43 0 0) D ty t0 [.ref (ad 0), .int i, .int j, .int x, .int y] (fx_w ad ty fx_a0 fx_g0 fx_n0) 0 0 (fun v w => v = some (.int (if ((0 ≤ i ∧ i ≤ 8) ∧ (0 ≤ j ∧ j ≤ 8)) ∧ (-10000 ≤ x ∧ x ≤ 10000) ∧ (-10000 ≤ y ∧ y ≤ 10000) then 1 else -1002))) := by
  refine fc_start (own := RX5) (cc := cX5_corner) (maxL := 5) (ret := (some .int)) (by decide) rfl (Nat.le_of_ble_eq_true rfl) rfl ?_
  intro p e s m args below meth c Q A C hmn E9
  have iX5 : ∀ w ∈ u_ws RX5 TX5 5, w ∈ wsX5_corner := fun _ h => List.mem_cons_of_mem _ (List.mem_append_left _ (List.mem_append_right _ h))
  have kX5_42 : Cond.fieldLink RX5 42 "FreeLand" "corners" "LFreeLand$Corners;" ∈ wsX5_corner := (by decide +kernel)
  have kN174 : (RX5, 174, yX1_set) ∈ nw_M := (by decide +kernel)
  have kIX1 : Cond.initialized RX1 ∈ wsX5_corner := (by decide +kernel)
  have kVX1_set : Cond.instanceMethod yX1_set ∈ wsX5_corner := (by decide +kernel)
  have kSX1_set : Cond.selects RX1 yX1_set yX1_set ∈ wsX5_corner := (by decide +kernel)
  refine fj_lv (lv' := [(0, .ref (ad 0)), (1, .int i), (2, .int j), (3, .int x), (4, .int y)]) [0, 1, 2, 3, 4] rfl ?_
  refine fj_iload_n C 1 dX5_corner_0 rfl rfl ?_
  refine fj_iload_n C 2 dX5_corner_1 rfl rfl ?_
  refine fj_callSw (As := [.int i, .int j]) (rest := []) C (c_X5_isCorner l D ty t0 (fx_w ad ty fx_a0 fx_g0 fx_n0) i j) (va_cwS 2 C.2.2.2.2.1 gX5_corner_X5_isCorner rfl rfl rfl (by decide +kernel) ⟨Nat.le_of_ble_eq_true rfl, Nat.le_of_ble_eq_true rfl⟩)  rfl (Nat.le_of_ble_eq_true rfl) dX5_corner_2 ⟨Nat.zero_le _, Nat.zero_le _⟩ (fun v9 w9 hp9 => ?_)
  obtain ⟨rfl, rfl⟩ := hp9
  refine fj_st (st' := .int (if ((0 ≤ i ∧ i ≤ 8) ∧ (0 ≤ j ∧ j ≤ 8)) then 1 else 0) :: []) rfl ?_
  refine fj_ifb_eq (tgt := 35) C dX5_corner_5 (by decide) (fun h5 => ?_) (fun h5 => ?_)
  · refine fj_sipush (v := (-1002)) C dX5_corner_35 (by decide) ?_
    exact fj_iret C E9 dX5_corner_38 (by (repeat' split) <;> first | rfl | (exfalso; grind) | grind)
  · refine fj_iload_n C 3 dX5_corner_8 rfl rfl ?_
    refine fj_sipush (v := (-10000)) C dX5_corner_9 (by decide) ?_
    refine fj_sipush (v := 10000) C dX5_corner_12 (by decide) ?_
    refine fj_callSw (As := [.int x, .int (-10000), .int 10000]) (rest := []) C (c_X5_within l D ty t0 (fx_w ad ty fx_a0 fx_g0 fx_n0) x (-10000) 10000) (va_cwS 3 C.2.2.2.2.1 gX5_corner_X5_within rfl rfl rfl (by decide +kernel) ⟨Nat.le_of_ble_eq_true rfl, Nat.le_of_ble_eq_true rfl⟩)  rfl (Nat.le_of_ble_eq_true rfl) dX5_corner_15 ⟨Nat.zero_le _, Nat.zero_le _⟩ (fun v9 w9 hp9 => ?_)
    obtain ⟨rfl, rfl⟩ := hp9
    refine fj_st (st' := .int (if ((-10000) ≤ x ∧ x ≤ 10000) then 1 else 0) :: []) rfl ?_
    refine fj_ifb_eq (tgt := 35) C dX5_corner_18 (by decide) (fun h18 => ?_) (fun h18 => ?_)
    · refine fj_sipush (v := (-1002)) C dX5_corner_35 (by decide) ?_
      exact fj_iret C E9 dX5_corner_38 (by (repeat' split) <;> first | rfl | (exfalso; grind) | grind)
    · refine fj_iload C 4 dX5_corner_21 rfl ?_
      refine fj_sipush (v := (-10000)) C dX5_corner_23 (by decide) ?_
      refine fj_sipush (v := 10000) C dX5_corner_26 (by decide) ?_
      refine fj_callSw (As := [.int y, .int (-10000), .int 10000]) (rest := []) C (c_X5_within l D ty t0 (fx_w ad ty fx_a0 fx_g0 fx_n0) y (-10000) 10000) (va_cwS 3 C.2.2.2.2.1 gX5_corner_X5_within rfl rfl rfl (by decide +kernel) ⟨Nat.le_of_ble_eq_true rfl, Nat.le_of_ble_eq_true rfl⟩)  rfl (Nat.le_of_ble_eq_true rfl) dX5_corner_29 ⟨Nat.zero_le _, Nat.zero_le _⟩ (fun v9 w9 hp9 => ?_)
      obtain ⟨rfl, rfl⟩ := hp9
      refine fj_st (st' := .int (if ((-10000) ≤ y ∧ y ≤ 10000) then 1 else 0) :: []) rfl ?_
      refine fj_ifb_ne (tgt := 39) C dX5_corner_32 (by decide) (fun h32 => ?_) (fun h32 => ?_)
      · refine fj_aload_n C 0 dX5_corner_39 rfl rfl ?_
        refine fj_get (Cn := RX5) (T := TX5) (N := 5) (ci := 5) (v := .ref (ad 38)) C iX5 0 (fx_at0 _ _ _ _ _) rfl 4 (by decide) kX5_42 rfl dX5_corner_40 ?_
        refine fj_iload_n C 1 dX5_corner_43 rfl rfl ?_
        refine fj_iload_n C 2 dX5_corner_44 rfl rfl ?_
        refine fj_iload_n C 3 dX5_corner_45 rfl rfl ?_
        refine fj_iload C 4 dX5_corner_46 rfl ?_
        refine fj_callVNw (As := [.int i, .int j, .int x, .int y]) (rest := []) C (c_X1_set l D ty t0 ad i j x y (by grind) (by grind)) ⟨va_cnB 4 C.2.2.2.2.1 gX5_corner_X1_set_n174 rfl rfl rfl (C.2.2.2.2.2.2.2.1.1 _ kN174) (C.2.2.2.2.1 _ kIX1) (by decide +kernel) ⟨Nat.le_of_ble_eq_true rfl, Nat.le_of_ble_eq_true rfl⟩, C.2.2.2.2.1 _ kVX1_set, C.2.2.2.2.1 _ kSX1_set⟩ ⟨38, 1, _, _, fx_at38 _ _ _ _ _, rfl, rfl⟩ rfl (Nat.le_of_ble_eq_true rfl) dX5_corner_48 ⟨Nat.zero_le _, Nat.zero_le _⟩ (fun v9 w9 hp9 => ?_)
        obtain rfl := hp9
        refine fj_st (st' := []) rfl ?_
        refine fj_iconst (v := 1) C dX5_corner_51 (by decide) ?_
        exact fj_iret C E9 dX5_corner_52 (by (repeat' split) <;> first | rfl | (exfalso; grind) | grind)
      · refine fj_sipush (v := (-1002)) C dX5_corner_35 (by decide) ?_
        exact fj_iret C E9 dX5_corner_38 (by (repeat' split) <;> first | rfl | (exfalso; grind) | grind)
