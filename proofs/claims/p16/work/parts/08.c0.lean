set_option maxHeartbeats 4000000 in
set_option maxRecDepth 100000 in
theorem c_X3_init (l : Launch) (D : va_G) (ty : Nat → ClassId) (t0 : Nat → Nat) (h0 : Nat) : fc l yX3_init wsX3_init (fj_rm 1 12 2 24) D ty t0 [.ref h0] [(h0, .inr (3, [.null, .null, .int 0]))] 2 24 (fun v w => v = none ∧ ∃ q1 q2 : Nat, w = [(h0, .inr (3, [.ref q1, .ref q2, .int 0])), (q1, .inl (ty 0, 12, .inl (fun _ => 0))), (q2, .inl (ty 0, 12, .inl (fun _ => 0)))]) := by
  refine fc_start (own := RX3) (cc := cX3_init) (maxL := 1) (ret := none) (by decide) rfl (Nat.le_of_ble_eq_true rfl) rfl ?_
  intro p e s m args below meth c Q A C hmn E9
  have kOI : Cond.methodLink RX3 3 objectInit ∈ wsX3_init := ptX3_init_woX3_init _ (by decide +kernel)
  have kOV : Cond.instanceMethod objectInit ∈ wsX3_init := ptX3_init_woX3_init _ (by decide +kernel)
  have kOC : Cond.code objectInit ⟨#[0xb1]⟩ 1 none ∈ wsX3_init := ptX3_init_woX3_init _ (by decide +kernel)
  have kAI : Cond.arrayClass .int ∈ wsX3_init := ptX3_init_woX3_init _ (by decide +kernel)
  have kX3_9 : Cond.fieldLink RX3 9 "FreeLand$Persons" "birth" "[I" ∈ wsX3_init := ptX3_init_woX3_init _ (by decide +kernel)
  have iX3 : ∀ w ∈ u_ws RX3 TX3 3, w ∈ wsX3_init := ptX3_init_wsX30
  have kX3_15 : Cond.fieldLink RX3 15 "FreeLand$Persons" "citizen" "[I" ∈ wsX3_init := ptX3_init_woX3_init _ (by decide +kernel)
  refine fj_lv (lv' := [(0, .ref h0)]) [0] rfl ?_
  refine fj_aload_n C 0 dX3_init_0 rfl rfl ?_
  refine fj_objInit C kOI kOV kOC (by decide) (Nat.le_of_ble_eq_true rfl) dX3_init_1 ?_
  refine fj_aload_n C 0 dX3_init_4 rfl rfl ?_
  refine fj_bipush (v := 12) C dX3_init_5 (by decide) ?_
  refine fj_newa (ty9 := .int) (a0 := (12, .inl (fun _ => 0))) (N' := 12) C rfl kAI 0 rfl (fun _ _ h => h) (fun _ => rfl) (by decide) (by decide) (by decide) (Nat.le_of_ble_eq_true rfl) (Nat.le_of_ble_eq_true rfl) dX3_init_7 (fun q1 => ?_)
  refine fj_ws (ws' := [(h0, .inr (3, [.null, .null, .int 0])), (q1, .inl (ty 0, 12, .inl (fun _ => 0)))]) rfl ?_
  refine fj_putF (Cn := RX3) (T := TX3) (N := 3) (ci := 3) (ws' := [(h0, .inr (3, [.ref q1, .null, .int 0])), (q1, .inl (ty 0, 12, .inl (fun _ => 0)))]) C iX3 tyX3 tyX3_ok nmX3 0 rfl rfl 0 (by decide) kX3_9 rfl hmn rfl rfl rfl (Nat.le_of_ble_eq_true rfl) dX3_init_9 rfl ?_
  refine fj_aload_n C 0 dX3_init_12 rfl rfl ?_
  refine fj_bipush (v := 12) C dX3_init_13 (by decide) ?_
  refine fj_newa (ty9 := .int) (a0 := (12, .inl (fun _ => 0))) (N' := 12) C rfl kAI 0 rfl (fun _ _ h => h) (fun _ => rfl) (by decide) (by decide) (by decide) (Nat.le_of_ble_eq_true rfl) (Nat.le_of_ble_eq_true rfl) dX3_init_15 (fun q2 => ?_)
  refine fj_ws (ws' := [(h0, .inr (3, [.ref q1, .null, .int 0])), (q1, .inl (ty 0, 12, .inl (fun _ => 0))), (q2, .inl (ty 0, 12, .inl (fun _ => 0)))]) rfl ?_
  refine fj_putF (Cn := RX3) (T := TX3) (N := 3) (ci := 3) (ws' := [(h0, .inr (3, [.ref q1, .ref q2, .int 0])), (q1, .inl (ty 0, 12, .inl (fun _ => 0))), (q2, .inl (ty 0, 12, .inl (fun _ => 0)))]) C iX3 tyX3 tyX3_ok nmX3 0 rfl rfl 1 (by decide) kX3_15 rfl hmn rfl rfl rfl (Nat.le_of_ble_eq_true rfl) dX3_init_17 rfl ?_
  exact fj_vret C E9 dX3_init_20 ⟨rfl, q1, q2, rfl⟩

set_option maxHeartbeats 4000000 in
set_option maxRecDepth 100000 in
theorem c_X0_init (l : Launch) (D : va_G) (ty : Nat → ClassId) (t0 : Nat → Nat) (h0 : Nat) : fc l yX0_init wsX0_init (fj_rm 1 12 7 840) D ty t0 [.ref h0] [(h0, .inr (0, [.null, .null, .null, .null, .null, .null, .null, .int 0]))] 7 840 (fun v w => v = none ∧ ∃ q1 q2 q3 q4 q5 q6 q7 : Nat, w = [(h0, .inr (0, [.ref q1, .ref q2, .ref q3, .ref q4, .ref q5, .ref q6, .ref q7, .int 0])), (q1, .inl (ty 0, 120, .inl (fun _ => 0))), (q2, .inl (ty 0, 120, .inl (fun _ => 0))), (q3, .inl (ty 0, 120, .inl (fun _ => 0))), (q4, .inl (ty 0, 120, .inl (fun _ => 0))), (q5, .inl (ty 0, 120, .inl (fun _ => 0))), (q6, .inl (ty 1, 120, .inl (fun _ => 0))), (q7, .inl (ty 0, 120, .inl (fun _ => 0)))]) := by
  refine fc_start (own := RX0) (cc := cX0_init) (maxL := 1) (ret := none) (by decide) rfl (Nat.le_of_ble_eq_true rfl) rfl ?_
  intro p e s m args below meth c Q A C hmn E9
  have kOI : Cond.methodLink RX0 3 objectInit ∈ wsX0_init := ptX0_init_woX0_init _ (by decide +kernel)
  have kOV : Cond.instanceMethod objectInit ∈ wsX0_init := ptX0_init_woX0_init _ (by decide +kernel)
  have kOC : Cond.code objectInit ⟨#[0xb1]⟩ 1 none ∈ wsX0_init := ptX0_init_woX0_init _ (by decide +kernel)
  have kAI : Cond.arrayClass .int ∈ wsX0_init := ptX0_init_woX0_init _ (by decide +kernel)
  have kX0_9 : Cond.fieldLink RX0 9 "FreeLand$Book" "day" "[I" ∈ wsX0_init := ptX0_init_woX0_init _ (by decide +kernel)
  have iX0 : ∀ w ∈ u_ws RX0 TX0 8, w ∈ wsX0_init := ptX0_init_wsX00
  have kX0_15 : Cond.fieldLink RX0 15 "FreeLand$Book" "sort" "[I" ∈ wsX0_init := ptX0_init_woX0_init _ (by decide +kernel)
  have kX0_18 : Cond.fieldLink RX0 18 "FreeLand$Book" "who" "[I" ∈ wsX0_init := ptX0_init_woX0_init _ (by decide +kernel)
  have kX0_21 : Cond.fieldLink RX0 21 "FreeLand$Book" "where" "[I" ∈ wsX0_init := ptX0_init_woX0_init _ (by decide +kernel)
  have kX0_24 : Cond.fieldLink RX0 24 "FreeLand$Book" "number" "[I" ∈ wsX0_init := ptX0_init_woX0_init _ (by decide +kernel)
  have kAZ : Cond.arrayClass .boolean ∈ wsX0_init := ptX0_init_woX0_init _ (by decide +kernel)
  have kX0_27 : Cond.fieldLink RX0 27 "FreeLand$Book" "struck" "[Z" ∈ wsX0_init := ptX0_init_woX0_init _ (by decide +kernel)
  have kX0_31 : Cond.fieldLink RX0 31 "FreeLand$Book" "order" "[I" ∈ wsX0_init := ptX0_init_woX0_init _ (by decide +kernel)
  refine fj_lv (lv' := [(0, .ref h0)]) [0] rfl ?_
  refine fj_aload_n C 0 dX0_init_0 rfl rfl ?_
  refine fj_objInit C kOI kOV kOC (by decide) (Nat.le_of_ble_eq_true rfl) dX0_init_1 ?_
  refine fj_aload_n C 0 dX0_init_4 rfl rfl ?_
  refine fj_bipush (v := 120) C dX0_init_5 (by decide) ?_
  refine fj_newa (ty9 := .int) (a0 := (120, .inl (fun _ => 0))) (N' := 120) C rfl kAI 0 rfl (fun _ _ h => h) (fun _ => rfl) (by decide) (by decide) (by decide) (Nat.le_of_ble_eq_true rfl) (Nat.le_of_ble_eq_true rfl) dX0_init_7 (fun q1 => ?_)
  refine fj_ws (ws' := [(h0, .inr (0, [.null, .null, .null, .null, .null, .null, .null, .int 0])), (q1, .inl (ty 0, 120, .inl (fun _ => 0)))]) rfl ?_
  refine fj_putF (Cn := RX0) (T := TX0) (N := 8) (ci := 0) (ws' := [(h0, .inr (0, [.ref q1, .null, .null, .null, .null, .null, .null, .int 0])), (q1, .inl (ty 0, 120, .inl (fun _ => 0)))]) C iX0 tyX0 tyX0_ok nmX0 0 rfl rfl 0 (by decide) kX0_9 rfl hmn rfl rfl rfl (Nat.le_of_ble_eq_true rfl) dX0_init_9 rfl ?_
  refine fj_aload_n C 0 dX0_init_12 rfl rfl ?_
  refine fj_bipush (v := 120) C dX0_init_13 (by decide) ?_
  refine fj_newa (ty9 := .int) (a0 := (120, .inl (fun _ => 0))) (N' := 120) C rfl kAI 0 rfl (fun _ _ h => h) (fun _ => rfl) (by decide) (by decide) (by decide) (Nat.le_of_ble_eq_true rfl) (Nat.le_of_ble_eq_true rfl) dX0_init_15 (fun q2 => ?_)
  refine fj_ws (ws' := [(h0, .inr (0, [.ref q1, .null, .null, .null, .null, .null, .null, .int 0])), (q1, .inl (ty 0, 120, .inl (fun _ => 0))), (q2, .inl (ty 0, 120, .inl (fun _ => 0)))]) rfl ?_
  refine fj_putF (Cn := RX0) (T := TX0) (N := 8) (ci := 0) (ws' := [(h0, .inr (0, [.ref q1, .ref q2, .null, .null, .null, .null, .null, .int 0])), (q1, .inl (ty 0, 120, .inl (fun _ => 0))), (q2, .inl (ty 0, 120, .inl (fun _ => 0)))]) C iX0 tyX0 tyX0_ok nmX0 0 rfl rfl 1 (by decide) kX0_15 rfl hmn rfl rfl rfl (Nat.le_of_ble_eq_true rfl) dX0_init_17 rfl ?_
  refine fj_aload_n C 0 dX0_init_20 rfl rfl ?_
  refine fj_bipush (v := 120) C dX0_init_21 (by decide) ?_
  refine fj_newa (ty9 := .int) (a0 := (120, .inl (fun _ => 0))) (N' := 120) C rfl kAI 0 rfl (fun _ _ h => h) (fun _ => rfl) (by decide) (by decide) (by decide) (Nat.le_of_ble_eq_true rfl) (Nat.le_of_ble_eq_true rfl) dX0_init_23 (fun q3 => ?_)
  refine fj_ws (ws' := [(h0, .inr (0, [.ref q1, .ref q2, .null, .null, .null, .null, .null, .int 0])), (q1, .inl (ty 0, 120, .inl (fun _ => 0))), (q2, .inl (ty 0, 120, .inl (fun _ => 0))), (q3, .inl (ty 0, 120, .inl (fun _ => 0)))]) rfl ?_
  refine fj_putF (Cn := RX0) (T := TX0) (N := 8) (ci := 0) (ws' := [(h0, .inr (0, [.ref q1, .ref q2, .ref q3, .null, .null, .null, .null, .int 0])), (q1, .inl (ty 0, 120, .inl (fun _ => 0))), (q2, .inl (ty 0, 120, .inl (fun _ => 0))), (q3, .inl (ty 0, 120, .inl (fun _ => 0)))]) C iX0 tyX0 tyX0_ok nmX0 0 rfl rfl 2 (by decide) kX0_18 rfl hmn rfl rfl rfl (Nat.le_of_ble_eq_true rfl) dX0_init_25 rfl ?_
  refine fj_aload_n C 0 dX0_init_28 rfl rfl ?_
  refine fj_bipush (v := 120) C dX0_init_29 (by decide) ?_
  refine fj_newa (ty9 := .int) (a0 := (120, .inl (fun _ => 0))) (N' := 120) C rfl kAI 0 rfl (fun _ _ h => h) (fun _ => rfl) (by decide) (by decide) (by decide) (Nat.le_of_ble_eq_true rfl) (Nat.le_of_ble_eq_true rfl) dX0_init_31 (fun q4 => ?_)
  refine fj_ws (ws' := [(h0, .inr (0, [.ref q1, .ref q2, .ref q3, .null, .null, .null, .null, .int 0])), (q1, .inl (ty 0, 120, .inl (fun _ => 0))), (q2, .inl (ty 0, 120, .inl (fun _ => 0))), (q3, .inl (ty 0, 120, .inl (fun _ => 0))), (q4, .inl (ty 0, 120, .inl (fun _ => 0)))]) rfl ?_
  refine fj_putF (Cn := RX0) (T := TX0) (N := 8) (ci := 0) (ws' := [(h0, .inr (0, [.ref q1, .ref q2, .ref q3, .ref q4, .null, .null, .null, .int 0])), (q1, .inl (ty 0, 120, .inl (fun _ => 0))), (q2, .inl (ty 0, 120, .inl (fun _ => 0))), (q3, .inl (ty 0, 120, .inl (fun _ => 0))), (q4, .inl (ty 0, 120, .inl (fun _ => 0)))]) C iX0 tyX0 tyX0_ok nmX0 0 rfl rfl 3 (by decide) kX0_21 rfl hmn rfl rfl rfl (Nat.le_of_ble_eq_true rfl) dX0_init_33 rfl ?_
  refine fj_aload_n C 0 dX0_init_36 rfl rfl ?_
  refine fj_bipush (v := 120) C dX0_init_37 (by decide) ?_
  refine fj_newa (ty9 := .int) (a0 := (120, .inl (fun _ => 0))) (N' := 120) C rfl kAI 0 rfl (fun _ _ h => h) (fun _ => rfl) (by decide) (by decide) (by decide) (Nat.le_of_ble_eq_true rfl) (Nat.le_of_ble_eq_true rfl) dX0_init_39 (fun q5 => ?_)
  refine fj_ws (ws' := [(h0, .inr (0, [.ref q1, .ref q2, .ref q3, .ref q4, .null, .null, .null, .int 0])), (q1, .inl (ty 0, 120, .inl (fun _ => 0))), (q2, .inl (ty 0, 120, .inl (fun _ => 0))), (q3, .inl (ty 0, 120, .inl (fun _ => 0))), (q4, .inl (ty 0, 120, .inl (fun _ => 0))), (q5, .inl (ty 0, 120, .inl (fun _ => 0)))]) rfl ?_
  refine fj_putF (Cn := RX0) (T := TX0) (N := 8) (ci := 0) (ws' := [(h0, .inr (0, [.ref q1, .ref q2, .ref q3, .ref q4, .ref q5, .null, .null, .int 0])), (q1, .inl (ty 0, 120, .inl (fun _ => 0))), (q2, .inl (ty 0, 120, .inl (fun _ => 0))), (q3, .inl (ty 0, 120, .inl (fun _ => 0))), (q4, .inl (ty 0, 120, .inl (fun _ => 0))), (q5, .inl (ty 0, 120, .inl (fun _ => 0)))]) C iX0 tyX0 tyX0_ok nmX0 0 rfl rfl 4 (by decide) kX0_24 rfl hmn rfl rfl rfl (Nat.le_of_ble_eq_true rfl) dX0_init_41 rfl ?_
  refine fj_aload_n C 0 dX0_init_44 rfl rfl ?_
  refine fj_bipush (v := 120) C dX0_init_45 (by decide) ?_
  refine fj_newa (ty9 := .boolean) (a0 := (120, .inl (fun _ => 0))) (N' := 120) C rfl kAZ 1 rfl (fun _ _ h => h) (fun _ => rfl) (by decide) (by decide) (by decide) (Nat.le_of_ble_eq_true rfl) (Nat.le_of_ble_eq_true rfl) dX0_init_47 (fun q6 => ?_)
  refine fj_ws (ws' := [(h0, .inr (0, [.ref q1, .ref q2, .ref q3, .ref q4, .ref q5, .null, .null, .int 0])), (q1, .inl (ty 0, 120, .inl (fun _ => 0))), (q2, .inl (ty 0, 120, .inl (fun _ => 0))), (q3, .inl (ty 0, 120, .inl (fun _ => 0))), (q4, .inl (ty 0, 120, .inl (fun _ => 0))), (q5, .inl (ty 0, 120, .inl (fun _ => 0))), (q6, .inl (ty 1, 120, .inl (fun _ => 0)))]) rfl ?_
  refine fj_putF (Cn := RX0) (T := TX0) (N := 8) (ci := 0) (ws' := [(h0, .inr (0, [.ref q1, .ref q2, .ref q3, .ref q4, .ref q5, .ref q6, .null, .int 0])), (q1, .inl (ty 0, 120, .inl (fun _ => 0))), (q2, .inl (ty 0, 120, .inl (fun _ => 0))), (q3, .inl (ty 0, 120, .inl (fun _ => 0))), (q4, .inl (ty 0, 120, .inl (fun _ => 0))), (q5, .inl (ty 0, 120, .inl (fun _ => 0))), (q6, .inl (ty 1, 120, .inl (fun _ => 0)))]) C iX0 tyX0 tyX0_ok nmX0 0 rfl rfl 5 (by decide) kX0_27 rfl hmn rfl rfl rfl (Nat.le_of_ble_eq_true rfl) dX0_init_49 rfl ?_
  refine fj_aload_n C 0 dX0_init_52 rfl rfl ?_
  refine fj_bipush (v := 120) C dX0_init_53 (by decide) ?_
  refine fj_newa (ty9 := .int) (a0 := (120, .inl (fun _ => 0))) (N' := 120) C rfl kAI 0 rfl (fun _ _ h => h) (fun _ => rfl) (by decide) (by decide) (by decide) (Nat.le_of_ble_eq_true rfl) (Nat.le_of_ble_eq_true rfl) dX0_init_55 (fun q7 => ?_)
  refine fj_ws (ws' := [(h0, .inr (0, [.ref q1, .ref q2, .ref q3, .ref q4, .ref q5, .ref q6, .null, .int 0])), (q1, .inl (ty 0, 120, .inl (fun _ => 0))), (q2, .inl (ty 0, 120, .inl (fun _ => 0))), (q3, .inl (ty 0, 120, .inl (fun _ => 0))), (q4, .inl (ty 0, 120, .inl (fun _ => 0))), (q5, .inl (ty 0, 120, .inl (fun _ => 0))), (q6, .inl (ty 1, 120, .inl (fun _ => 0))), (q7, .inl (ty 0, 120, .inl (fun _ => 0)))]) rfl ?_
  refine fj_putF (Cn := RX0) (T := TX0) (N := 8) (ci := 0) (ws' := [(h0, .inr (0, [.ref q1, .ref q2, .ref q3, .ref q4, .ref q5, .ref q6, .ref q7, .int 0])), (q1, .inl (ty 0, 120, .inl (fun _ => 0))), (q2, .inl (ty 0, 120, .inl (fun _ => 0))), (q3, .inl (ty 0, 120, .inl (fun _ => 0))), (q4, .inl (ty 0, 120, .inl (fun _ => 0))), (q5, .inl (ty 0, 120, .inl (fun _ => 0))), (q6, .inl (ty 1, 120, .inl (fun _ => 0))), (q7, .inl (ty 0, 120, .inl (fun _ => 0)))]) C iX0 tyX0 tyX0_ok nmX0 0 rfl rfl 6 (by decide) kX0_31 rfl hmn rfl rfl rfl (Nat.le_of_ble_eq_true rfl) dX0_init_57 rfl ?_
  exact fj_vret C E9 dX0_init_60 ⟨rfl, q1, q2, q3, q4, q5, q6, q7, rfl⟩

set_option maxHeartbeats 4000000 in
set_option maxRecDepth 100000 in
theorem c_X4_init (l : Launch) (D : va_G) (ty : Nat → ClassId) (t0 : Nat → Nat) (h0 : Nat) (u1 u2 u3 : Nat) : fc l yX4_init wsX4_init (fj_rm 1 12 12 1056) D ty t0 [.ref h0, .ref u1, .ref u2, .ref u3] [(h0, .inr (4, [.null, .null, .null, .int 0, .null, .null, .null, .null, .null, .null, .null, .null, .null, .null, .null, .null, .int 0, .int 0]))] 12 1056 (fun v w => v = none ∧ ∃ q1 q2 q3 q4 q5 q6 q7 q8 q9 q10 q11 q12 : Nat, w = [(h0, .inr (4, [.ref u1, .ref u2, .ref u3, .int 20001, .ref q1, .ref q2, .ref q3, .ref q4, .ref q5, .ref q6, .ref q7, .ref q8, .ref q9, .ref q10, .ref q11, .ref q12, .int 0, .int 0])), (q1, .inl (ty 0, 120, .inl (fun _ => 0))), (q2, .inl (ty 0, 120, .inl (fun _ => 0))), (q3, .inl (ty 0, 120, .inl (fun _ => 0))), (q4, .inl (ty 0, 120, .inl (fun _ => 0))), (q5, .inl (ty 0, 120, .inl (fun _ => 0))), (q6, .inl (ty 0, 120, .inl (fun _ => 0))), (q7, .inl (ty 0, 120, .inl (fun _ => 0))), (q8, .inl (ty 0, 64, .inl (fun _ => 0))), (q9, .inl (ty 0, 64, .inl (fun _ => 0))), (q10, .inl (ty 0, 64, .inl (fun _ => 0))), (q11, .inl (ty 1, 12, .inl (fun _ => 0))), (q12, .inl (ty 0, 12, .inl (fun _ => 0)))]) := by
  refine fc_start (own := RX4) (cc := cX4_init) (maxL := 4) (ret := none) (by decide) rfl (Nat.le_of_ble_eq_true rfl) rfl ?_
  intro p e s m args below meth c Q A C hmn E9
  have kOI : Cond.methodLink RX4 3 objectInit ∈ wsX4_init := ptX4_init_woX4_init _ (by decide +kernel)
  have kOV : Cond.instanceMethod objectInit ∈ wsX4_init := ptX4_init_woX4_init _ (by decide +kernel)
  have kOC : Cond.code objectInit ⟨#[0xb1]⟩ 1 none ∈ wsX4_init := ptX4_init_woX4_init _ (by decide +kernel)
  have kX4_9 : Cond.fieldLink RX4 9 "FreeLand$Work" "mapDay" "I" ∈ wsX4_init := ptX4_init_woX4_init _ (by decide +kernel)
  have iX4 : ∀ w ∈ u_ws RX4 TX4 18, w ∈ wsX4_init := ptX4_init_wsX40
  have kAI : Cond.arrayClass .int ∈ wsX4_init := ptX4_init_woX4_init _ (by decide +kernel)
  have kX4_15 : Cond.fieldLink RX4 15 "FreeLand$Work" "result" "[I" ∈ wsX4_init := ptX4_init_woX4_init _ (by decide +kernel)
  have kX4_19 : Cond.fieldLink RX4 19 "FreeLand$Work" "state" "[I" ∈ wsX4_init := ptX4_init_woX4_init _ (by decide +kernel)
  have kX4_22 : Cond.fieldLink RX4 22 "FreeLand$Work" "holder" "[I" ∈ wsX4_init := ptX4_init_woX4_init _ (by decide +kernel)
  have kX4_25 : Cond.fieldLink RX4 25 "FreeLand$Work" "holders" "[I" ∈ wsX4_init := ptX4_init_woX4_init _ (by decide +kernel)
  have kX4_28 : Cond.fieldLink RX4 28 "FreeLand$Work" "ruling" "[I" ∈ wsX4_init := ptX4_init_woX4_init _ (by decide +kernel)
  have kX4_31 : Cond.fieldLink RX4 31 "FreeLand$Work" "bindsFrom" "[I" ∈ wsX4_init := ptX4_init_woX4_init _ (by decide +kernel)
  have kX4_34 : Cond.fieldLink RX4 34 "FreeLand$Work" "spot" "[I" ∈ wsX4_init := ptX4_init_woX4_init _ (by decide +kernel)
  have kX4_37 : Cond.fieldLink RX4 37 "FreeLand$Work" "held" "[I" ∈ wsX4_init := ptX4_init_woX4_init _ (by decide +kernel)
  have kX4_40 : Cond.fieldLink RX4 40 "FreeLand$Work" "preferred" "[I" ∈ wsX4_init := ptX4_init_woX4_init _ (by decide +kernel)
  have kX4_43 : Cond.fieldLink RX4 43 "FreeLand$Work" "preferredTo" "[I" ∈ wsX4_init := ptX4_init_woX4_init _ (by decide +kernel)
  have kAZ : Cond.arrayClass .boolean ∈ wsX4_init := ptX4_init_woX4_init _ (by decide +kernel)
  have kX4_46 : Cond.fieldLink RX4 46 "FreeLand$Work" "dead" "[Z" ∈ wsX4_init := ptX4_init_woX4_init _ (by decide +kernel)
  have kX4_50 : Cond.fieldLink RX4 50 "FreeLand$Work" "filed" "[I" ∈ wsX4_init := ptX4_init_woX4_init _ (by decide +kernel)
  have kX4_53 : Cond.fieldLink RX4 53 "FreeLand$Work" "persons" "LFreeLand$Persons;" ∈ wsX4_init := ptX4_init_woX4_init _ (by decide +kernel)
  have kX4_57 : Cond.fieldLink RX4 57 "FreeLand$Work" "laws" "LFreeLand$Laws;" ∈ wsX4_init := ptX4_init_woX4_init _ (by decide +kernel)
  have kX4_61 : Cond.fieldLink RX4 61 "FreeLand$Work" "book" "LFreeLand$Book;" ∈ wsX4_init := ptX4_init_woX4_init _ (by decide +kernel)
  refine fj_lv (lv' := [(0, .ref h0), (1, .ref u1), (2, .ref u2), (3, .ref u3)]) [0, 1, 2, 3] rfl ?_
  refine fj_aload_n C 0 dX4_init_0 rfl rfl ?_
  refine fj_objInit C kOI kOV kOC (by decide) (Nat.le_of_ble_eq_true rfl) dX4_init_1 ?_
  refine fj_aload_n C 0 dX4_init_4 rfl rfl ?_
  refine fj_sipush (v := 20001) C dX4_init_5 (by decide) ?_
  refine fj_put (Cn := RX4) (T := TX4) (N := 18) (ci := 4) (ws' := [(h0, .inr (4, [.null, .null, .null, .int 20001, .null, .null, .null, .null, .null, .null, .null, .null, .null, .null, .null, .null, .int 0, .int 0]))]) C iX4 tyX4 tyX4_ok nmX4 0 rfl rfl 3 (by decide) kX4_9 rfl rfl rfl (Nat.le_of_ble_eq_true rfl) dX4_init_8 rfl ?_
  refine fj_aload_n C 0 dX4_init_11 rfl rfl ?_
  refine fj_bipush (v := 120) C dX4_init_12 (by decide) ?_
  refine fj_newa (ty9 := .int) (a0 := (120, .inl (fun _ => 0))) (N' := 120) C rfl kAI 0 rfl (fun _ _ h => h) (fun _ => rfl) (by decide) (by decide) (by decide) (Nat.le_of_ble_eq_true rfl) (Nat.le_of_ble_eq_true rfl) dX4_init_14 (fun q1 => ?_)
  refine fj_ws (ws' := [(h0, .inr (4, [.null, .null, .null, .int 20001, .null, .null, .null, .null, .null, .null, .null, .null, .null, .null, .null, .null, .int 0, .int 0])), (q1, .inl (ty 0, 120, .inl (fun _ => 0)))]) rfl ?_
  refine fj_putF (Cn := RX4) (T := TX4) (N := 18) (ci := 4) (ws' := [(h0, .inr (4, [.null, .null, .null, .int 20001, .ref q1, .null, .null, .null, .null, .null, .null, .null, .null, .null, .null, .null, .int 0, .int 0])), (q1, .inl (ty 0, 120, .inl (fun _ => 0)))]) C iX4 tyX4 tyX4_ok nmX4 0 rfl rfl 4 (by decide) kX4_15 rfl hmn rfl rfl rfl (Nat.le_of_ble_eq_true rfl) dX4_init_16 rfl ?_
  refine fj_aload_n C 0 dX4_init_19 rfl rfl ?_
  refine fj_bipush (v := 120) C dX4_init_20 (by decide) ?_
  refine fj_newa (ty9 := .int) (a0 := (120, .inl (fun _ => 0))) (N' := 120) C rfl kAI 0 rfl (fun _ _ h => h) (fun _ => rfl) (by decide) (by decide) (by decide) (Nat.le_of_ble_eq_true rfl) (Nat.le_of_ble_eq_true rfl) dX4_init_22 (fun q2 => ?_)
  refine fj_ws (ws' := [(h0, .inr (4, [.null, .null, .null, .int 20001, .ref q1, .null, .null, .null, .null, .null, .null, .null, .null, .null, .null, .null, .int 0, .int 0])), (q1, .inl (ty 0, 120, .inl (fun _ => 0))), (q2, .inl (ty 0, 120, .inl (fun _ => 0)))]) rfl ?_
  refine fj_putF (Cn := RX4) (T := TX4) (N := 18) (ci := 4) (ws' := [(h0, .inr (4, [.null, .null, .null, .int 20001, .ref q1, .ref q2, .null, .null, .null, .null, .null, .null, .null, .null, .null, .null, .int 0, .int 0])), (q1, .inl (ty 0, 120, .inl (fun _ => 0))), (q2, .inl (ty 0, 120, .inl (fun _ => 0)))]) C iX4 tyX4 tyX4_ok nmX4 0 rfl rfl 5 (by decide) kX4_19 rfl hmn rfl rfl rfl (Nat.le_of_ble_eq_true rfl) dX4_init_24 rfl ?_
  refine fj_aload_n C 0 dX4_init_27 rfl rfl ?_
  refine fj_bipush (v := 120) C dX4_init_28 (by decide) ?_
  refine fj_newa (ty9 := .int) (a0 := (120, .inl (fun _ => 0))) (N' := 120) C rfl kAI 0 rfl (fun _ _ h => h) (fun _ => rfl) (by decide) (by decide) (by decide) (Nat.le_of_ble_eq_true rfl) (Nat.le_of_ble_eq_true rfl) dX4_init_30 (fun q3 => ?_)
  refine fj_ws (ws' := [(h0, .inr (4, [.null, .null, .null, .int 20001, .ref q1, .ref q2, .null, .null, .null, .null, .null, .null, .null, .null, .null, .null, .int 0, .int 0])), (q1, .inl (ty 0, 120, .inl (fun _ => 0))), (q2, .inl (ty 0, 120, .inl (fun _ => 0))), (q3, .inl (ty 0, 120, .inl (fun _ => 0)))]) rfl ?_
  refine fj_putF (Cn := RX4) (T := TX4) (N := 18) (ci := 4) (ws' := [(h0, .inr (4, [.null, .null, .null, .int 20001, .ref q1, .ref q2, .ref q3, .null, .null, .null, .null, .null, .null, .null, .null, .null, .int 0, .int 0])), (q1, .inl (ty 0, 120, .inl (fun _ => 0))), (q2, .inl (ty 0, 120, .inl (fun _ => 0))), (q3, .inl (ty 0, 120, .inl (fun _ => 0)))]) C iX4 tyX4 tyX4_ok nmX4 0 rfl rfl 6 (by decide) kX4_22 rfl hmn rfl rfl rfl (Nat.le_of_ble_eq_true rfl) dX4_init_32 rfl ?_
  refine fj_aload_n C 0 dX4_init_35 rfl rfl ?_
  refine fj_bipush (v := 120) C dX4_init_36 (by decide) ?_
  refine fj_newa (ty9 := .int) (a0 := (120, .inl (fun _ => 0))) (N' := 120) C rfl kAI 0 rfl (fun _ _ h => h) (fun _ => rfl) (by decide) (by decide) (by decide) (Nat.le_of_ble_eq_true rfl) (Nat.le_of_ble_eq_true rfl) dX4_init_38 (fun q4 => ?_)
  refine fj_ws (ws' := [(h0, .inr (4, [.null, .null, .null, .int 20001, .ref q1, .ref q2, .ref q3, .null, .null, .null, .null, .null, .null, .null, .null, .null, .int 0, .int 0])), (q1, .inl (ty 0, 120, .inl (fun _ => 0))), (q2, .inl (ty 0, 120, .inl (fun _ => 0))), (q3, .inl (ty 0, 120, .inl (fun _ => 0))), (q4, .inl (ty 0, 120, .inl (fun _ => 0)))]) rfl ?_
  refine fj_putF (Cn := RX4) (T := TX4) (N := 18) (ci := 4) (ws' := [(h0, .inr (4, [.null, .null, .null, .int 20001, .ref q1, .ref q2, .ref q3, .ref q4, .null, .null, .null, .null, .null, .null, .null, .null, .int 0, .int 0])), (q1, .inl (ty 0, 120, .inl (fun _ => 0))), (q2, .inl (ty 0, 120, .inl (fun _ => 0))), (q3, .inl (ty 0, 120, .inl (fun _ => 0))), (q4, .inl (ty 0, 120, .inl (fun _ => 0)))]) C iX4 tyX4 tyX4_ok nmX4 0 rfl rfl 7 (by decide) kX4_25 rfl hmn rfl rfl rfl (Nat.le_of_ble_eq_true rfl) dX4_init_40 rfl ?_
  refine fj_aload_n C 0 dX4_init_43 rfl rfl ?_
  refine fj_bipush (v := 120) C dX4_init_44 (by decide) ?_
  refine fj_newa (ty9 := .int) (a0 := (120, .inl (fun _ => 0))) (N' := 120) C rfl kAI 0 rfl (fun _ _ h => h) (fun _ => rfl) (by decide) (by decide) (by decide) (Nat.le_of_ble_eq_true rfl) (Nat.le_of_ble_eq_true rfl) dX4_init_46 (fun q5 => ?_)
  refine fj_ws (ws' := [(h0, .inr (4, [.null, .null, .null, .int 20001, .ref q1, .ref q2, .ref q3, .ref q4, .null, .null, .null, .null, .null, .null, .null, .null, .int 0, .int 0])), (q1, .inl (ty 0, 120, .inl (fun _ => 0))), (q2, .inl (ty 0, 120, .inl (fun _ => 0))), (q3, .inl (ty 0, 120, .inl (fun _ => 0))), (q4, .inl (ty 0, 120, .inl (fun _ => 0))), (q5, .inl (ty 0, 120, .inl (fun _ => 0)))]) rfl ?_
  refine fj_putF (Cn := RX4) (T := TX4) (N := 18) (ci := 4) (ws' := [(h0, .inr (4, [.null, .null, .null, .int 20001, .ref q1, .ref q2, .ref q3, .ref q4, .ref q5, .null, .null, .null, .null, .null, .null, .null, .int 0, .int 0])), (q1, .inl (ty 0, 120, .inl (fun _ => 0))), (q2, .inl (ty 0, 120, .inl (fun _ => 0))), (q3, .inl (ty 0, 120, .inl (fun _ => 0))), (q4, .inl (ty 0, 120, .inl (fun _ => 0))), (q5, .inl (ty 0, 120, .inl (fun _ => 0)))]) C iX4 tyX4 tyX4_ok nmX4 0 rfl rfl 8 (by decide) kX4_28 rfl hmn rfl rfl rfl (Nat.le_of_ble_eq_true rfl) dX4_init_48 rfl ?_
  refine fj_aload_n C 0 dX4_init_51 rfl rfl ?_
  refine fj_bipush (v := 120) C dX4_init_52 (by decide) ?_
  refine fj_newa (ty9 := .int) (a0 := (120, .inl (fun _ => 0))) (N' := 120) C rfl kAI 0 rfl (fun _ _ h => h) (fun _ => rfl) (by decide) (by decide) (by decide) (Nat.le_of_ble_eq_true rfl) (Nat.le_of_ble_eq_true rfl) dX4_init_54 (fun q6 => ?_)
  refine fj_ws (ws' := [(h0, .inr (4, [.null, .null, .null, .int 20001, .ref q1, .ref q2, .ref q3, .ref q4, .ref q5, .null, .null, .null, .null, .null, .null, .null, .int 0, .int 0])), (q1, .inl (ty 0, 120, .inl (fun _ => 0))), (q2, .inl (ty 0, 120, .inl (fun _ => 0))), (q3, .inl (ty 0, 120, .inl (fun _ => 0))), (q4, .inl (ty 0, 120, .inl (fun _ => 0))), (q5, .inl (ty 0, 120, .inl (fun _ => 0))), (q6, .inl (ty 0, 120, .inl (fun _ => 0)))]) rfl ?_
  refine fj_putF (Cn := RX4) (T := TX4) (N := 18) (ci := 4) (ws' := [(h0, .inr (4, [.null, .null, .null, .int 20001, .ref q1, .ref q2, .ref q3, .ref q4, .ref q5, .ref q6, .null, .null, .null, .null, .null, .null, .int 0, .int 0])), (q1, .inl (ty 0, 120, .inl (fun _ => 0))), (q2, .inl (ty 0, 120, .inl (fun _ => 0))), (q3, .inl (ty 0, 120, .inl (fun _ => 0))), (q4, .inl (ty 0, 120, .inl (fun _ => 0))), (q5, .inl (ty 0, 120, .inl (fun _ => 0))), (q6, .inl (ty 0, 120, .inl (fun _ => 0)))]) C iX4 tyX4 tyX4_ok nmX4 0 rfl rfl 9 (by decide) kX4_31 rfl hmn rfl rfl rfl (Nat.le_of_ble_eq_true rfl) dX4_init_56 rfl ?_
  refine fj_aload_n C 0 dX4_init_59 rfl rfl ?_
  refine fj_bipush (v := 120) C dX4_init_60 (by decide) ?_
  refine fj_newa (ty9 := .int) (a0 := (120, .inl (fun _ => 0))) (N' := 120) C rfl kAI 0 rfl (fun _ _ h => h) (fun _ => rfl) (by decide) (by decide) (by decide) (Nat.le_of_ble_eq_true rfl) (Nat.le_of_ble_eq_true rfl) dX4_init_62 (fun q7 => ?_)
  refine fj_ws (ws' := [(h0, .inr (4, [.null, .null, .null, .int 20001, .ref q1, .ref q2, .ref q3, .ref q4, .ref q5, .ref q6, .null, .null, .null, .null, .null, .null, .int 0, .int 0])), (q1, .inl (ty 0, 120, .inl (fun _ => 0))), (q2, .inl (ty 0, 120, .inl (fun _ => 0))), (q3, .inl (ty 0, 120, .inl (fun _ => 0))), (q4, .inl (ty 0, 120, .inl (fun _ => 0))), (q5, .inl (ty 0, 120, .inl (fun _ => 0))), (q6, .inl (ty 0, 120, .inl (fun _ => 0))), (q7, .inl (ty 0, 120, .inl (fun _ => 0)))]) rfl ?_
  refine fj_putF (Cn := RX4) (T := TX4) (N := 18) (ci := 4) (ws' := [(h0, .inr (4, [.null, .null, .null, .int 20001, .ref q1, .ref q2, .ref q3, .ref q4, .ref q5, .ref q6, .ref q7, .null, .null, .null, .null, .null, .int 0, .int 0])), (q1, .inl (ty 0, 120, .inl (fun _ => 0))), (q2, .inl (ty 0, 120, .inl (fun _ => 0))), (q3, .inl (ty 0, 120, .inl (fun _ => 0))), (q4, .inl (ty 0, 120, .inl (fun _ => 0))), (q5, .inl (ty 0, 120, .inl (fun _ => 0))), (q6, .inl (ty 0, 120, .inl (fun _ => 0))), (q7, .inl (ty 0, 120, .inl (fun _ => 0)))]) C iX4 tyX4 tyX4_ok nmX4 0 rfl rfl 10 (by decide) kX4_34 rfl hmn rfl rfl rfl (Nat.le_of_ble_eq_true rfl) dX4_init_64 rfl ?_
  refine fj_aload_n C 0 dX4_init_67 rfl rfl ?_
  refine fj_bipush (v := 64) C dX4_init_68 (by decide) ?_
  refine fj_newa (ty9 := .int) (a0 := (64, .inl (fun _ => 0))) (N' := 64) C rfl kAI 0 rfl (fun _ _ h => h) (fun _ => rfl) (by decide) (by decide) (by decide) (Nat.le_of_ble_eq_true rfl) (Nat.le_of_ble_eq_true rfl) dX4_init_70 (fun q8 => ?_)
  refine fj_ws (ws' := [(h0, .inr (4, [.null, .null, .null, .int 20001, .ref q1, .ref q2, .ref q3, .ref q4, .ref q5, .ref q6, .ref q7, .null, .null, .null, .null, .null, .int 0, .int 0])), (q1, .inl (ty 0, 120, .inl (fun _ => 0))), (q2, .inl (ty 0, 120, .inl (fun _ => 0))), (q3, .inl (ty 0, 120, .inl (fun _ => 0))), (q4, .inl (ty 0, 120, .inl (fun _ => 0))), (q5, .inl (ty 0, 120, .inl (fun _ => 0))), (q6, .inl (ty 0, 120, .inl (fun _ => 0))), (q7, .inl (ty 0, 120, .inl (fun _ => 0))), (q8, .inl (ty 0, 64, .inl (fun _ => 0)))]) rfl ?_
  refine fj_putF (Cn := RX4) (T := TX4) (N := 18) (ci := 4) (ws' := [(h0, .inr (4, [.null, .null, .null, .int 20001, .ref q1, .ref q2, .ref q3, .ref q4, .ref q5, .ref q6, .ref q7, .ref q8, .null, .null, .null, .null, .int 0, .int 0])), (q1, .inl (ty 0, 120, .inl (fun _ => 0))), (q2, .inl (ty 0, 120, .inl (fun _ => 0))), (q3, .inl (ty 0, 120, .inl (fun _ => 0))), (q4, .inl (ty 0, 120, .inl (fun _ => 0))), (q5, .inl (ty 0, 120, .inl (fun _ => 0))), (q6, .inl (ty 0, 120, .inl (fun _ => 0))), (q7, .inl (ty 0, 120, .inl (fun _ => 0))), (q8, .inl (ty 0, 64, .inl (fun _ => 0)))]) C iX4 tyX4 tyX4_ok nmX4 0 rfl rfl 11 (by decide) kX4_37 rfl hmn rfl rfl rfl (Nat.le_of_ble_eq_true rfl) dX4_init_72 rfl ?_
  refine fj_aload_n C 0 dX4_init_75 rfl rfl ?_
  refine fj_bipush (v := 64) C dX4_init_76 (by decide) ?_
  refine fj_newa (ty9 := .int) (a0 := (64, .inl (fun _ => 0))) (N' := 64) C rfl kAI 0 rfl (fun _ _ h => h) (fun _ => rfl) (by decide) (by decide) (by decide) (Nat.le_of_ble_eq_true rfl) (Nat.le_of_ble_eq_true rfl) dX4_init_78 (fun q9 => ?_)
  refine fj_ws (ws' := [(h0, .inr (4, [.null, .null, .null, .int 20001, .ref q1, .ref q2, .ref q3, .ref q4, .ref q5, .ref q6, .ref q7, .ref q8, .null, .null, .null, .null, .int 0, .int 0])), (q1, .inl (ty 0, 120, .inl (fun _ => 0))), (q2, .inl (ty 0, 120, .inl (fun _ => 0))), (q3, .inl (ty 0, 120, .inl (fun _ => 0))), (q4, .inl (ty 0, 120, .inl (fun _ => 0))), (q5, .inl (ty 0, 120, .inl (fun _ => 0))), (q6, .inl (ty 0, 120, .inl (fun _ => 0))), (q7, .inl (ty 0, 120, .inl (fun _ => 0))), (q8, .inl (ty 0, 64, .inl (fun _ => 0))), (q9, .inl (ty 0, 64, .inl (fun _ => 0)))]) rfl ?_
  refine fj_putF (Cn := RX4) (T := TX4) (N := 18) (ci := 4) (ws' := [(h0, .inr (4, [.null, .null, .null, .int 20001, .ref q1, .ref q2, .ref q3, .ref q4, .ref q5, .ref q6, .ref q7, .ref q8, .ref q9, .null, .null, .null, .int 0, .int 0])), (q1, .inl (ty 0, 120, .inl (fun _ => 0))), (q2, .inl (ty 0, 120, .inl (fun _ => 0))), (q3, .inl (ty 0, 120, .inl (fun _ => 0))), (q4, .inl (ty 0, 120, .inl (fun _ => 0))), (q5, .inl (ty 0, 120, .inl (fun _ => 0))), (q6, .inl (ty 0, 120, .inl (fun _ => 0))), (q7, .inl (ty 0, 120, .inl (fun _ => 0))), (q8, .inl (ty 0, 64, .inl (fun _ => 0))), (q9, .inl (ty 0, 64, .inl (fun _ => 0)))]) C iX4 tyX4 tyX4_ok nmX4 0 rfl rfl 12 (by decide) kX4_40 rfl hmn rfl rfl rfl (Nat.le_of_ble_eq_true rfl) dX4_init_80 rfl ?_
  refine fj_aload_n C 0 dX4_init_83 rfl rfl ?_
  refine fj_bipush (v := 64) C dX4_init_84 (by decide) ?_
  refine fj_newa (ty9 := .int) (a0 := (64, .inl (fun _ => 0))) (N' := 64) C rfl kAI 0 rfl (fun _ _ h => h) (fun _ => rfl) (by decide) (by decide) (by decide) (Nat.le_of_ble_eq_true rfl) (Nat.le_of_ble_eq_true rfl) dX4_init_86 (fun q10 => ?_)
  refine fj_ws (ws' := [(h0, .inr (4, [.null, .null, .null, .int 20001, .ref q1, .ref q2, .ref q3, .ref q4, .ref q5, .ref q6, .ref q7, .ref q8, .ref q9, .null, .null, .null, .int 0, .int 0])), (q1, .inl (ty 0, 120, .inl (fun _ => 0))), (q2, .inl (ty 0, 120, .inl (fun _ => 0))), (q3, .inl (ty 0, 120, .inl (fun _ => 0))), (q4, .inl (ty 0, 120, .inl (fun _ => 0))), (q5, .inl (ty 0, 120, .inl (fun _ => 0))), (q6, .inl (ty 0, 120, .inl (fun _ => 0))), (q7, .inl (ty 0, 120, .inl (fun _ => 0))), (q8, .inl (ty 0, 64, .inl (fun _ => 0))), (q9, .inl (ty 0, 64, .inl (fun _ => 0))), (q10, .inl (ty 0, 64, .inl (fun _ => 0)))]) rfl ?_
  refine fj_putF (Cn := RX4) (T := TX4) (N := 18) (ci := 4) (ws' := [(h0, .inr (4, [.null, .null, .null, .int 20001, .ref q1, .ref q2, .ref q3, .ref q4, .ref q5, .ref q6, .ref q7, .ref q8, .ref q9, .ref q10, .null, .null, .int 0, .int 0])), (q1, .inl (ty 0, 120, .inl (fun _ => 0))), (q2, .inl (ty 0, 120, .inl (fun _ => 0))), (q3, .inl (ty 0, 120, .inl (fun _ => 0))), (q4, .inl (ty 0, 120, .inl (fun _ => 0))), (q5, .inl (ty 0, 120, .inl (fun _ => 0))), (q6, .inl (ty 0, 120, .inl (fun _ => 0))), (q7, .inl (ty 0, 120, .inl (fun _ => 0))), (q8, .inl (ty 0, 64, .inl (fun _ => 0))), (q9, .inl (ty 0, 64, .inl (fun _ => 0))), (q10, .inl (ty 0, 64, .inl (fun _ => 0)))]) C iX4 tyX4 tyX4_ok nmX4 0 rfl rfl 13 (by decide) kX4_43 rfl hmn rfl rfl rfl (Nat.le_of_ble_eq_true rfl) dX4_init_88 rfl ?_
  refine fj_aload_n C 0 dX4_init_91 rfl rfl ?_
  refine fj_bipush (v := 12) C dX4_init_92 (by decide) ?_
  refine fj_newa (ty9 := .boolean) (a0 := (12, .inl (fun _ => 0))) (N' := 12) C rfl kAZ 1 rfl (fun _ _ h => h) (fun _ => rfl) (by decide) (by decide) (by decide) (Nat.le_of_ble_eq_true rfl) (Nat.le_of_ble_eq_true rfl) dX4_init_94 (fun q11 => ?_)
  refine fj_ws (ws' := [(h0, .inr (4, [.null, .null, .null, .int 20001, .ref q1, .ref q2, .ref q3, .ref q4, .ref q5, .ref q6, .ref q7, .ref q8, .ref q9, .ref q10, .null, .null, .int 0, .int 0])), (q1, .inl (ty 0, 120, .inl (fun _ => 0))), (q2, .inl (ty 0, 120, .inl (fun _ => 0))), (q3, .inl (ty 0, 120, .inl (fun _ => 0))), (q4, .inl (ty 0, 120, .inl (fun _ => 0))), (q5, .inl (ty 0, 120, .inl (fun _ => 0))), (q6, .inl (ty 0, 120, .inl (fun _ => 0))), (q7, .inl (ty 0, 120, .inl (fun _ => 0))), (q8, .inl (ty 0, 64, .inl (fun _ => 0))), (q9, .inl (ty 0, 64, .inl (fun _ => 0))), (q10, .inl (ty 0, 64, .inl (fun _ => 0))), (q11, .inl (ty 1, 12, .inl (fun _ => 0)))]) rfl ?_
  refine fj_putF (Cn := RX4) (T := TX4) (N := 18) (ci := 4) (ws' := [(h0, .inr (4, [.null, .null, .null, .int 20001, .ref q1, .ref q2, .ref q3, .ref q4, .ref q5, .ref q6, .ref q7, .ref q8, .ref q9, .ref q10, .ref q11, .null, .int 0, .int 0])), (q1, .inl (ty 0, 120, .inl (fun _ => 0))), (q2, .inl (ty 0, 120, .inl (fun _ => 0))), (q3, .inl (ty 0, 120, .inl (fun _ => 0))), (q4, .inl (ty 0, 120, .inl (fun _ => 0))), (q5, .inl (ty 0, 120, .inl (fun _ => 0))), (q6, .inl (ty 0, 120, .inl (fun _ => 0))), (q7, .inl (ty 0, 120, .inl (fun _ => 0))), (q8, .inl (ty 0, 64, .inl (fun _ => 0))), (q9, .inl (ty 0, 64, .inl (fun _ => 0))), (q10, .inl (ty 0, 64, .inl (fun _ => 0))), (q11, .inl (ty 1, 12, .inl (fun _ => 0)))]) C iX4 tyX4 tyX4_ok nmX4 0 rfl rfl 14 (by decide) kX4_46 rfl hmn rfl rfl rfl (Nat.le_of_ble_eq_true rfl) dX4_init_96 rfl ?_
  refine fj_aload_n C 0 dX4_init_99 rfl rfl ?_
  refine fj_bipush (v := 12) C dX4_init_100 (by decide) ?_
  refine fj_newa (ty9 := .int) (a0 := (12, .inl (fun _ => 0))) (N' := 12) C rfl kAI 0 rfl (fun _ _ h => h) (fun _ => rfl) (by decide) (by decide) (by decide) (Nat.le_of_ble_eq_true rfl) (Nat.le_of_ble_eq_true rfl) dX4_init_102 (fun q12 => ?_)
  refine fj_ws (ws' := [(h0, .inr (4, [.null, .null, .null, .int 20001, .ref q1, .ref q2, .ref q3, .ref q4, .ref q5, .ref q6, .ref q7, .ref q8, .ref q9, .ref q10, .ref q11, .null, .int 0, .int 0])), (q1, .inl (ty 0, 120, .inl (fun _ => 0))), (q2, .inl (ty 0, 120, .inl (fun _ => 0))), (q3, .inl (ty 0, 120, .inl (fun _ => 0))), (q4, .inl (ty 0, 120, .inl (fun _ => 0))), (q5, .inl (ty 0, 120, .inl (fun _ => 0))), (q6, .inl (ty 0, 120, .inl (fun _ => 0))), (q7, .inl (ty 0, 120, .inl (fun _ => 0))), (q8, .inl (ty 0, 64, .inl (fun _ => 0))), (q9, .inl (ty 0, 64, .inl (fun _ => 0))), (q10, .inl (ty 0, 64, .inl (fun _ => 0))), (q11, .inl (ty 1, 12, .inl (fun _ => 0))), (q12, .inl (ty 0, 12, .inl (fun _ => 0)))]) rfl ?_
  refine fj_putF (Cn := RX4) (T := TX4) (N := 18) (ci := 4) (ws' := [(h0, .inr (4, [.null, .null, .null, .int 20001, .ref q1, .ref q2, .ref q3, .ref q4, .ref q5, .ref q6, .ref q7, .ref q8, .ref q9, .ref q10, .ref q11, .ref q12, .int 0, .int 0])), (q1, .inl (ty 0, 120, .inl (fun _ => 0))), (q2, .inl (ty 0, 120, .inl (fun _ => 0))), (q3, .inl (ty 0, 120, .inl (fun _ => 0))), (q4, .inl (ty 0, 120, .inl (fun _ => 0))), (q5, .inl (ty 0, 120, .inl (fun _ => 0))), (q6, .inl (ty 0, 120, .inl (fun _ => 0))), (q7, .inl (ty 0, 120, .inl (fun _ => 0))), (q8, .inl (ty 0, 64, .inl (fun _ => 0))), (q9, .inl (ty 0, 64, .inl (fun _ => 0))), (q10, .inl (ty 0, 64, .inl (fun _ => 0))), (q11, .inl (ty 1, 12, .inl (fun _ => 0))), (q12, .inl (ty 0, 12, .inl (fun _ => 0)))]) C iX4 tyX4 tyX4_ok nmX4 0 rfl rfl 15 (by decide) kX4_50 rfl hmn rfl rfl rfl (Nat.le_of_ble_eq_true rfl) dX4_init_104 rfl ?_
  refine fj_aload_n C 0 dX4_init_107 rfl rfl ?_
  refine fj_aload_n C 1 dX4_init_108 rfl rfl ?_
  refine fj_putF (Cn := RX4) (T := TX4) (N := 18) (ci := 4) (ws' := [(h0, .inr (4, [.ref u1, .null, .null, .int 20001, .ref q1, .ref q2, .ref q3, .ref q4, .ref q5, .ref q6, .ref q7, .ref q8, .ref q9, .ref q10, .ref q11, .ref q12, .int 0, .int 0])), (q1, .inl (ty 0, 120, .inl (fun _ => 0))), (q2, .inl (ty 0, 120, .inl (fun _ => 0))), (q3, .inl (ty 0, 120, .inl (fun _ => 0))), (q4, .inl (ty 0, 120, .inl (fun _ => 0))), (q5, .inl (ty 0, 120, .inl (fun _ => 0))), (q6, .inl (ty 0, 120, .inl (fun _ => 0))), (q7, .inl (ty 0, 120, .inl (fun _ => 0))), (q8, .inl (ty 0, 64, .inl (fun _ => 0))), (q9, .inl (ty 0, 64, .inl (fun _ => 0))), (q10, .inl (ty 0, 64, .inl (fun _ => 0))), (q11, .inl (ty 1, 12, .inl (fun _ => 0))), (q12, .inl (ty 0, 12, .inl (fun _ => 0)))]) C iX4 tyX4 tyX4_ok nmX4 0 rfl rfl 0 (by decide) kX4_53 rfl hmn rfl rfl rfl (Nat.le_of_ble_eq_true rfl) dX4_init_109 rfl ?_
  refine fj_aload_n C 0 dX4_init_112 rfl rfl ?_
  refine fj_aload_n C 2 dX4_init_113 rfl rfl ?_
  refine fj_putF (Cn := RX4) (T := TX4) (N := 18) (ci := 4) (ws' := [(h0, .inr (4, [.ref u1, .ref u2, .null, .int 20001, .ref q1, .ref q2, .ref q3, .ref q4, .ref q5, .ref q6, .ref q7, .ref q8, .ref q9, .ref q10, .ref q11, .ref q12, .int 0, .int 0])), (q1, .inl (ty 0, 120, .inl (fun _ => 0))), (q2, .inl (ty 0, 120, .inl (fun _ => 0))), (q3, .inl (ty 0, 120, .inl (fun _ => 0))), (q4, .inl (ty 0, 120, .inl (fun _ => 0))), (q5, .inl (ty 0, 120, .inl (fun _ => 0))), (q6, .inl (ty 0, 120, .inl (fun _ => 0))), (q7, .inl (ty 0, 120, .inl (fun _ => 0))), (q8, .inl (ty 0, 64, .inl (fun _ => 0))), (q9, .inl (ty 0, 64, .inl (fun _ => 0))), (q10, .inl (ty 0, 64, .inl (fun _ => 0))), (q11, .inl (ty 1, 12, .inl (fun _ => 0))), (q12, .inl (ty 0, 12, .inl (fun _ => 0)))]) C iX4 tyX4 tyX4_ok nmX4 0 rfl rfl 1 (by decide) kX4_57 rfl hmn rfl rfl rfl (Nat.le_of_ble_eq_true rfl) dX4_init_114 rfl ?_
  refine fj_aload_n C 0 dX4_init_117 rfl rfl ?_
  refine fj_aload_n C 3 dX4_init_118 rfl rfl ?_
  refine fj_putF (Cn := RX4) (T := TX4) (N := 18) (ci := 4) (ws' := [(h0, .inr (4, [.ref u1, .ref u2, .ref u3, .int 20001, .ref q1, .ref q2, .ref q3, .ref q4, .ref q5, .ref q6, .ref q7, .ref q8, .ref q9, .ref q10, .ref q11, .ref q12, .int 0, .int 0])), (q1, .inl (ty 0, 120, .inl (fun _ => 0))), (q2, .inl (ty 0, 120, .inl (fun _ => 0))), (q3, .inl (ty 0, 120, .inl (fun _ => 0))), (q4, .inl (ty 0, 120, .inl (fun _ => 0))), (q5, .inl (ty 0, 120, .inl (fun _ => 0))), (q6, .inl (ty 0, 120, .inl (fun _ => 0))), (q7, .inl (ty 0, 120, .inl (fun _ => 0))), (q8, .inl (ty 0, 64, .inl (fun _ => 0))), (q9, .inl (ty 0, 64, .inl (fun _ => 0))), (q10, .inl (ty 0, 64, .inl (fun _ => 0))), (q11, .inl (ty 1, 12, .inl (fun _ => 0))), (q12, .inl (ty 0, 12, .inl (fun _ => 0)))]) C iX4 tyX4 tyX4_ok nmX4 0 rfl rfl 2 (by decide) kX4_61 rfl hmn rfl rfl rfl (Nat.le_of_ble_eq_true rfl) dX4_init_119 rfl ?_
  exact fj_vret C E9 dX4_init_122 ⟨rfl, q1, q2, q3, q4, q5, q6, q7, q8, q9, q10, q11, q12, rfl⟩

set_option maxHeartbeats 4000000 in
set_option maxRecDepth 100000 in
theorem c_X2_init (l : Launch) (D : va_G) (ty : Nat → ClassId) (t0 : Nat → Nat) (h0 : Nat) : fc l yX2_init wsX2_init (fj_rm 1 12 12 216) D ty t0 [.ref h0] [(h0, .inr (2, [.null, .int 0, .int 0, .null, .null, .null, .int 0]))] 12 216 (fun v w => v = none ∧ ∃ (q1 q2 q3 : Nat) (r4 : Nat → Nat) (q5 : Nat), w = [(h0, .inr (2, [.ref q1, .int 0, .int (-1), .ref q2, .ref q3, .ref q5, .int 0])), (q1, .inl (ty 2, 120, .inl (fun _ => 0))), (q2, .inl (ty 0, 8, .inl (fun _ => 0))), (q3, .inl (ty 4, 8, .inr (.inr (.inr (.inr (fun i => if i < 8 then some (r4 i) else none)))))), ((r4 0), .inl (ty 0, 9, .inl (fun _ => 0))), ((r4 1), .inl (ty 0, 9, .inl (fun _ => 0))), ((r4 2), .inl (ty 0, 9, .inl (fun _ => 0))), ((r4 3), .inl (ty 0, 9, .inl (fun _ => 0))), ((r4 4), .inl (ty 0, 9, .inl (fun _ => 0))), ((r4 5), .inl (ty 0, 9, .inl (fun _ => 0))), ((r4 6), .inl (ty 0, 9, .inl (fun _ => 0))), ((r4 7), .inl (ty 0, 9, .inl (fun _ => 0))), (q5, .inl (ty 0, 8, .inl (fun _ => 0)))]) := by
  refine fc_start (own := RX2) (cc := cX2_init) (maxL := 1) (ret := none) (by decide) rfl (Nat.le_of_ble_eq_true rfl) rfl ?_
  intro p e s m args below meth c Q A C hmn E9
  have kOI : Cond.methodLink RX2 3 objectInit ∈ wsX2_init := ptX2_init_woX2_init _ (by decide +kernel)
  have kOV : Cond.instanceMethod objectInit ∈ wsX2_init := ptX2_init_woX2_init _ (by decide +kernel)
  have kOC : Cond.code objectInit ⟨#[0xb1]⟩ 1 none ∈ wsX2_init := ptX2_init_woX2_init _ (by decide +kernel)
  have kAB : Cond.arrayClass .byte ∈ wsX2_init := ptX2_init_woX2_init _ (by decide +kernel)
  have kX2_9 : Cond.fieldLink RX2 9 "FreeLand$Laws" "text" "[B" ∈ wsX2_init := ptX2_init_woX2_init _ (by decide +kernel)
  have iX2 : ∀ w ∈ u_ws RX2 TX2 7, w ∈ wsX2_init := ptX2_init_wsX20
  have kX2_15 : Cond.fieldLink RX2 15 "FreeLand$Laws" "faultAt" "I" ∈ wsX2_init := ptX2_init_woX2_init _ (by decide +kernel)
  have kAI : Cond.arrayClass .int ∈ wsX2_init := ptX2_init_woX2_init _ (by decide +kernel)
  have kX2_19 : Cond.fieldLink RX2 19 "FreeLand$Laws" "from" "[I" ∈ wsX2_init := ptX2_init_woX2_init _ (by decide +kernel)
  have kCL : Cond.classLink RX2 23 "[[I" ∈ wsX2_init := ptX2_init_woX2_init _ (by decide +kernel)
  have kX2_25 : Cond.fieldLink RX2 25 "FreeLand$Laws" "value" "[[I" ∈ wsX2_init := ptX2_init_woX2_init _ (by decide +kernel)
  have kX2_28 : Cond.fieldLink RX2 28 "FreeLand$Laws" "order" "[I" ∈ wsX2_init := ptX2_init_woX2_init _ (by decide +kernel)
  refine fj_lv (lv' := [(0, .ref h0)]) [0] rfl ?_
  refine fj_aload_n C 0 dX2_init_0 rfl rfl ?_
  refine fj_objInit C kOI kOV kOC (by decide) (Nat.le_of_ble_eq_true rfl) dX2_init_1 ?_
  refine fj_aload_n C 0 dX2_init_4 rfl rfl ?_
  refine fj_bipush (v := 120) C dX2_init_5 (by decide) ?_
  refine fj_newa (ty9 := .byte) (a0 := (120, .inl (fun _ => 0))) (N' := 120) C rfl kAB 2 rfl (fun _ _ h => h) (fun _ => rfl) (by decide) (by decide) (by decide) (Nat.le_of_ble_eq_true rfl) (Nat.le_of_ble_eq_true rfl) dX2_init_7 (fun q1 => ?_)
  refine fj_ws (ws' := [(h0, .inr (2, [.null, .int 0, .int 0, .null, .null, .null, .int 0])), (q1, .inl (ty 2, 120, .inl (fun _ => 0)))]) rfl ?_
  refine fj_putF (Cn := RX2) (T := TX2) (N := 7) (ci := 2) (ws' := [(h0, .inr (2, [.ref q1, .int 0, .int 0, .null, .null, .null, .int 0])), (q1, .inl (ty 2, 120, .inl (fun _ => 0)))]) C iX2 tyX2 tyX2_ok nmX2 0 rfl rfl 0 (by decide) kX2_9 rfl hmn rfl rfl rfl (Nat.le_of_ble_eq_true rfl) dX2_init_9 rfl ?_
  refine fj_aload_n C 0 dX2_init_12 rfl rfl ?_
  refine fj_iconst (v := (-1)) C dX2_init_13 (by decide) ?_
  refine fj_put (Cn := RX2) (T := TX2) (N := 7) (ci := 2) (ws' := [(h0, .inr (2, [.ref q1, .int 0, .int (-1), .null, .null, .null, .int 0])), (q1, .inl (ty 2, 120, .inl (fun _ => 0)))]) C iX2 tyX2 tyX2_ok nmX2 0 rfl rfl 2 (by decide) kX2_15 rfl rfl rfl (Nat.le_of_ble_eq_true rfl) dX2_init_14 rfl ?_
  refine fj_aload_n C 0 dX2_init_17 rfl rfl ?_
  refine fj_bipush (v := 8) C dX2_init_18 (by decide) ?_
  refine fj_newa (ty9 := .int) (a0 := (8, .inl (fun _ => 0))) (N' := 8) C rfl kAI 0 rfl (fun _ _ h => h) (fun _ => rfl) (by decide) (by decide) (by decide) (Nat.le_of_ble_eq_true rfl) (Nat.le_of_ble_eq_true rfl) dX2_init_20 (fun q2 => ?_)
  refine fj_ws (ws' := [(h0, .inr (2, [.ref q1, .int 0, .int (-1), .null, .null, .null, .int 0])), (q1, .inl (ty 2, 120, .inl (fun _ => 0))), (q2, .inl (ty 0, 8, .inl (fun _ => 0)))]) rfl ?_
  refine fj_putF (Cn := RX2) (T := TX2) (N := 7) (ci := 2) (ws' := [(h0, .inr (2, [.ref q1, .int 0, .int (-1), .ref q2, .null, .null, .int 0])), (q1, .inl (ty 2, 120, .inl (fun _ => 0))), (q2, .inl (ty 0, 8, .inl (fun _ => 0)))]) C iX2 tyX2 tyX2_ok nmX2 0 rfl rfl 3 (by decide) kX2_19 rfl hmn rfl rfl rfl (Nat.le_of_ble_eq_true rfl) dX2_init_22 rfl ?_
  refine fj_aload_n C 0 dX2_init_25 rfl rfl ?_
  refine fj_bipush (v := 8) C dX2_init_26 (by decide) ?_
  refine fj_bipush (v := 9) C dX2_init_28 (by decide) ?_
  refine fj_mna C kCL kAI (Nat.le_of_ble_eq_true rfl) (Nat.le_of_ble_eq_true rfl) dX2_init_30 (fun q3 r4 => ?_)
  refine fj_ws (ws' := [(h0, .inr (2, [.ref q1, .int 0, .int (-1), .ref q2, .null, .null, .int 0])), (q1, .inl (ty 2, 120, .inl (fun _ => 0))), (q2, .inl (ty 0, 8, .inl (fun _ => 0))), (q3, .inl (ty 4, 8, .inr (.inr (.inr (.inr (fun i => if i < 8 then some (r4 i) else none)))))), ((r4 0), .inl (ty 0, 9, .inl (fun _ => 0))), ((r4 1), .inl (ty 0, 9, .inl (fun _ => 0))), ((r4 2), .inl (ty 0, 9, .inl (fun _ => 0))), ((r4 3), .inl (ty 0, 9, .inl (fun _ => 0))), ((r4 4), .inl (ty 0, 9, .inl (fun _ => 0))), ((r4 5), .inl (ty 0, 9, .inl (fun _ => 0))), ((r4 6), .inl (ty 0, 9, .inl (fun _ => 0))), ((r4 7), .inl (ty 0, 9, .inl (fun _ => 0)))]) rfl ?_
  refine fj_putF (Cn := RX2) (T := TX2) (N := 7) (ci := 2) (ws' := [(h0, .inr (2, [.ref q1, .int 0, .int (-1), .ref q2, .ref q3, .null, .int 0])), (q1, .inl (ty 2, 120, .inl (fun _ => 0))), (q2, .inl (ty 0, 8, .inl (fun _ => 0))), (q3, .inl (ty 4, 8, .inr (.inr (.inr (.inr (fun i => if i < 8 then some (r4 i) else none)))))), ((r4 0), .inl (ty 0, 9, .inl (fun _ => 0))), ((r4 1), .inl (ty 0, 9, .inl (fun _ => 0))), ((r4 2), .inl (ty 0, 9, .inl (fun _ => 0))), ((r4 3), .inl (ty 0, 9, .inl (fun _ => 0))), ((r4 4), .inl (ty 0, 9, .inl (fun _ => 0))), ((r4 5), .inl (ty 0, 9, .inl (fun _ => 0))), ((r4 6), .inl (ty 0, 9, .inl (fun _ => 0))), ((r4 7), .inl (ty 0, 9, .inl (fun _ => 0)))]) C iX2 tyX2 tyX2_ok nmX2 0 rfl rfl 4 (by decide) kX2_25 rfl hmn rfl rfl rfl (Nat.le_of_ble_eq_true rfl) dX2_init_34 rfl ?_
  refine fj_aload_n C 0 dX2_init_37 rfl rfl ?_
  refine fj_bipush (v := 8) C dX2_init_38 (by decide) ?_
  refine fj_newa (ty9 := .int) (a0 := (8, .inl (fun _ => 0))) (N' := 8) C rfl kAI 0 rfl (fun _ _ h => h) (fun _ => rfl) (by decide) (by decide) (by decide) (Nat.le_of_ble_eq_true rfl) (Nat.le_of_ble_eq_true rfl) dX2_init_40 (fun q5 => ?_)
  refine fj_ws (ws' := [(h0, .inr (2, [.ref q1, .int 0, .int (-1), .ref q2, .ref q3, .null, .int 0])), (q1, .inl (ty 2, 120, .inl (fun _ => 0))), (q2, .inl (ty 0, 8, .inl (fun _ => 0))), (q3, .inl (ty 4, 8, .inr (.inr (.inr (.inr (fun i => if i < 8 then some (r4 i) else none)))))), ((r4 0), .inl (ty 0, 9, .inl (fun _ => 0))), ((r4 1), .inl (ty 0, 9, .inl (fun _ => 0))), ((r4 2), .inl (ty 0, 9, .inl (fun _ => 0))), ((r4 3), .inl (ty 0, 9, .inl (fun _ => 0))), ((r4 4), .inl (ty 0, 9, .inl (fun _ => 0))), ((r4 5), .inl (ty 0, 9, .inl (fun _ => 0))), ((r4 6), .inl (ty 0, 9, .inl (fun _ => 0))), ((r4 7), .inl (ty 0, 9, .inl (fun _ => 0))), (q5, .inl (ty 0, 8, .inl (fun _ => 0)))]) rfl ?_
  refine fj_putF (Cn := RX2) (T := TX2) (N := 7) (ci := 2) (ws' := [(h0, .inr (2, [.ref q1, .int 0, .int (-1), .ref q2, .ref q3, .ref q5, .int 0])), (q1, .inl (ty 2, 120, .inl (fun _ => 0))), (q2, .inl (ty 0, 8, .inl (fun _ => 0))), (q3, .inl (ty 4, 8, .inr (.inr (.inr (.inr (fun i => if i < 8 then some (r4 i) else none)))))), ((r4 0), .inl (ty 0, 9, .inl (fun _ => 0))), ((r4 1), .inl (ty 0, 9, .inl (fun _ => 0))), ((r4 2), .inl (ty 0, 9, .inl (fun _ => 0))), ((r4 3), .inl (ty 0, 9, .inl (fun _ => 0))), ((r4 4), .inl (ty 0, 9, .inl (fun _ => 0))), ((r4 5), .inl (ty 0, 9, .inl (fun _ => 0))), ((r4 6), .inl (ty 0, 9, .inl (fun _ => 0))), ((r4 7), .inl (ty 0, 9, .inl (fun _ => 0))), (q5, .inl (ty 0, 8, .inl (fun _ => 0)))]) C iX2 tyX2 tyX2_ok nmX2 0 rfl rfl 5 (by decide) kX2_28 rfl hmn rfl rfl rfl (Nat.le_of_ble_eq_true rfl) dX2_init_42 rfl ?_
  exact fj_vret C E9 dX2_init_45 ⟨rfl, q1, q2, q3, r4, q5, rfl⟩

set_option maxHeartbeats 4000000 in
set_option maxRecDepth 100000 in
theorem c_X1_init (l : Launch) (D : va_G) (ty : Nat → ClassId) (t0 : Nat → Nat) (h0 : Nat) : fc l yX1_init wsX1_init (fj_rm 1 12 5 251) D ty t0 [.ref h0] [(h0, .inr (1, [.null, .null, .null, .int 0, .int 0, .null, .null]))] 5 251 (fun v w => v = none ∧ ∃ q1 q2 q3 q4 q5 : Nat, w = [(h0, .inr (1, [.ref q1, .ref q2, .ref q3, .int 0, .int 0, .ref q4, .ref q5])), (q1, .inl (ty 1, 81, .inl (fl 1 (fun _ => 0) 81))), (q2, .inl (ty 0, 81, .inl (fx_cx 81))), (q3, .inl (ty 0, 81, .inl (fx_cy 81))), (q4, .inl (ty 3, 4, .inr (.inl (fun _ => 0)))), (q5, .inl (ty 3, 4, .inr (.inl (fun _ => 0))))]) := by
  refine fc_start (own := RX1) (cc := cX1_init) (maxL := 2) (ret := none) (by decide) rfl (Nat.le_of_ble_eq_true rfl) rfl ?_
  intro p e s m args below meth c Q A C hmn E9
  have kOI : Cond.methodLink RX1 1 objectInit ∈ wsX1_init := ptX1_init_woX1_init _ (by decide +kernel)
  have kOV : Cond.instanceMethod objectInit ∈ wsX1_init := ptX1_init_woX1_init _ (by decide +kernel)
  have kOC : Cond.code objectInit ⟨#[0xb1]⟩ 1 none ∈ wsX1_init := ptX1_init_woX1_init _ (by decide +kernel)
  have kAZ : Cond.arrayClass .boolean ∈ wsX1_init := ptX1_init_woX1_init _ (by decide +kernel)
  have kX1_9 : Cond.fieldLink RX1 9 "FreeLand$Corners" "known" "[Z" ∈ wsX1_init := ptX1_init_woX1_init _ (by decide +kernel)
  have iX1 : ∀ w ∈ u_ws RX1 TX1 7, w ∈ wsX1_init := ptX1_init_wsX10
  have kAI : Cond.arrayClass .int ∈ wsX1_init := ptX1_init_woX1_init _ (by decide +kernel)
  have kX1_13 : Cond.fieldLink RX1 13 "FreeLand$Corners" "x" "[I" ∈ wsX1_init := ptX1_init_woX1_init _ (by decide +kernel)
  have kX1_17 : Cond.fieldLink RX1 17 "FreeLand$Corners" "y" "[I" ∈ wsX1_init := ptX1_init_woX1_init _ (by decide +kernel)
  have kAJ : Cond.arrayClass .long ∈ wsX1_init := ptX1_init_woX1_init _ (by decide +kernel)
  have kX1_20 : Cond.fieldLink RX1 20 "FreeLand$Corners" "aroundX" "[J" ∈ wsX1_init := ptX1_init_woX1_init _ (by decide +kernel)
  have kX1_24 : Cond.fieldLink RX1 24 "FreeLand$Corners" "aroundY" "[J" ∈ wsX1_init := ptX1_init_woX1_init _ (by decide +kernel)
  refine fj_lv (lv' := [(0, .ref h0)]) [0] rfl ?_
  refine fj_aload_n C 0 dX1_init_0 rfl rfl ?_
  refine fj_objInit C kOI kOV kOC (by decide) (Nat.le_of_ble_eq_true rfl) dX1_init_1 ?_
  refine fj_aload_n C 0 dX1_init_4 rfl rfl ?_
  refine fj_bipush (v := 81) C dX1_init_5 (by decide) ?_
  refine fj_newa (ty9 := .boolean) (a0 := (81, .inl (fun _ => 0))) (N' := 81) C rfl kAZ 1 rfl (fun _ _ h => h) (fun _ => rfl) (by decide) (by decide) (by decide) (Nat.le_of_ble_eq_true rfl) (Nat.le_of_ble_eq_true rfl) dX1_init_7 (fun q1 => ?_)
  refine fj_ws (ws' := [(h0, .inr (1, [.null, .null, .null, .int 0, .int 0, .null, .null])), (q1, .inl (ty 1, 81, .inl (fun _ => 0)))]) rfl ?_
  refine fj_putF (Cn := RX1) (T := TX1) (N := 7) (ci := 1) (ws' := [(h0, .inr (1, [.ref q1, .null, .null, .int 0, .int 0, .null, .null])), (q1, .inl (ty 1, 81, .inl (fun _ => 0)))]) C iX1 tyX1 tyX1_ok nmX1 0 rfl rfl 0 (by decide) kX1_9 rfl hmn rfl rfl rfl (Nat.le_of_ble_eq_true rfl) dX1_init_9 rfl ?_
  refine fj_aload_n C 0 dX1_init_12 rfl rfl ?_
  refine fj_bipush (v := 81) C dX1_init_13 (by decide) ?_
  refine fj_newa (ty9 := .int) (a0 := (81, .inl (fun _ => 0))) (N' := 81) C rfl kAI 0 rfl (fun _ _ h => h) (fun _ => rfl) (by decide) (by decide) (by decide) (Nat.le_of_ble_eq_true rfl) (Nat.le_of_ble_eq_true rfl) dX1_init_15 (fun q2 => ?_)
  refine fj_ws (ws' := [(h0, .inr (1, [.ref q1, .null, .null, .int 0, .int 0, .null, .null])), (q1, .inl (ty 1, 81, .inl (fun _ => 0))), (q2, .inl (ty 0, 81, .inl (fun _ => 0)))]) rfl ?_
  refine fj_putF (Cn := RX1) (T := TX1) (N := 7) (ci := 1) (ws' := [(h0, .inr (1, [.ref q1, .ref q2, .null, .int 0, .int 0, .null, .null])), (q1, .inl (ty 1, 81, .inl (fun _ => 0))), (q2, .inl (ty 0, 81, .inl (fun _ => 0)))]) C iX1 tyX1 tyX1_ok nmX1 0 rfl rfl 1 (by decide) kX1_13 rfl hmn rfl rfl rfl (Nat.le_of_ble_eq_true rfl) dX1_init_17 rfl ?_
  refine fj_aload_n C 0 dX1_init_20 rfl rfl ?_
  refine fj_bipush (v := 81) C dX1_init_21 (by decide) ?_
  refine fj_newa (ty9 := .int) (a0 := (81, .inl (fun _ => 0))) (N' := 81) C rfl kAI 0 rfl (fun _ _ h => h) (fun _ => rfl) (by decide) (by decide) (by decide) (Nat.le_of_ble_eq_true rfl) (Nat.le_of_ble_eq_true rfl) dX1_init_23 (fun q3 => ?_)
  refine fj_ws (ws' := [(h0, .inr (1, [.ref q1, .ref q2, .null, .int 0, .int 0, .null, .null])), (q1, .inl (ty 1, 81, .inl (fun _ => 0))), (q2, .inl (ty 0, 81, .inl (fun _ => 0))), (q3, .inl (ty 0, 81, .inl (fun _ => 0)))]) rfl ?_
  refine fj_putF (Cn := RX1) (T := TX1) (N := 7) (ci := 1) (ws' := [(h0, .inr (1, [.ref q1, .ref q2, .ref q3, .int 0, .int 0, .null, .null])), (q1, .inl (ty 1, 81, .inl (fun _ => 0))), (q2, .inl (ty 0, 81, .inl (fun _ => 0))), (q3, .inl (ty 0, 81, .inl (fun _ => 0)))]) C iX1 tyX1 tyX1_ok nmX1 0 rfl rfl 2 (by decide) kX1_17 rfl hmn rfl rfl rfl (Nat.le_of_ble_eq_true rfl) dX1_init_25 rfl ?_
  refine fj_aload_n C 0 dX1_init_28 rfl rfl ?_
  refine fj_iconst (v := 4) C dX1_init_29 (by decide) ?_
  refine fj_newa (ty9 := .long) (a0 := (4, .inr (.inl (fun _ => 0)))) (N' := 4) C rfl kAJ 3 rfl (fun _ _ h => h) (fun _ => rfl) (by decide) (by decide) (by decide) (Nat.le_of_ble_eq_true rfl) (Nat.le_of_ble_eq_true rfl) dX1_init_30 (fun q4 => ?_)
  refine fj_ws (ws' := [(h0, .inr (1, [.ref q1, .ref q2, .ref q3, .int 0, .int 0, .null, .null])), (q1, .inl (ty 1, 81, .inl (fun _ => 0))), (q2, .inl (ty 0, 81, .inl (fun _ => 0))), (q3, .inl (ty 0, 81, .inl (fun _ => 0))), (q4, .inl (ty 3, 4, .inr (.inl (fun _ => 0))))]) rfl ?_
  refine fj_putF (Cn := RX1) (T := TX1) (N := 7) (ci := 1) (ws' := [(h0, .inr (1, [.ref q1, .ref q2, .ref q3, .int 0, .int 0, .ref q4, .null])), (q1, .inl (ty 1, 81, .inl (fun _ => 0))), (q2, .inl (ty 0, 81, .inl (fun _ => 0))), (q3, .inl (ty 0, 81, .inl (fun _ => 0))), (q4, .inl (ty 3, 4, .inr (.inl (fun _ => 0))))]) C iX1 tyX1 tyX1_ok nmX1 0 rfl rfl 5 (by decide) kX1_20 rfl hmn rfl rfl rfl (Nat.le_of_ble_eq_true rfl) dX1_init_32 rfl ?_
  refine fj_aload_n C 0 dX1_init_35 rfl rfl ?_
  refine fj_iconst (v := 4) C dX1_init_36 (by decide) ?_
  refine fj_newa (ty9 := .long) (a0 := (4, .inr (.inl (fun _ => 0)))) (N' := 4) C rfl kAJ 3 rfl (fun _ _ h => h) (fun _ => rfl) (by decide) (by decide) (by decide) (Nat.le_of_ble_eq_true rfl) (Nat.le_of_ble_eq_true rfl) dX1_init_37 (fun q5 => ?_)
  refine fj_ws (ws' := [(h0, .inr (1, [.ref q1, .ref q2, .ref q3, .int 0, .int 0, .ref q4, .null])), (q1, .inl (ty 1, 81, .inl (fun _ => 0))), (q2, .inl (ty 0, 81, .inl (fun _ => 0))), (q3, .inl (ty 0, 81, .inl (fun _ => 0))), (q4, .inl (ty 3, 4, .inr (.inl (fun _ => 0)))), (q5, .inl (ty 3, 4, .inr (.inl (fun _ => 0))))]) rfl ?_
  refine fj_putF (Cn := RX1) (T := TX1) (N := 7) (ci := 1) (ws' := [(h0, .inr (1, [.ref q1, .ref q2, .ref q3, .int 0, .int 0, .ref q4, .ref q5])), (q1, .inl (ty 1, 81, .inl (fun _ => 0))), (q2, .inl (ty 0, 81, .inl (fun _ => 0))), (q3, .inl (ty 0, 81, .inl (fun _ => 0))), (q4, .inl (ty 3, 4, .inr (.inl (fun _ => 0)))), (q5, .inl (ty 3, 4, .inr (.inl (fun _ => 0))))]) C iX1 tyX1 tyX1_ok nmX1 0 rfl rfl 6 (by decide) kX1_24 rfl hmn rfl rfl rfl (Nat.le_of_ble_eq_true rfl) dX1_init_39 rfl ?_
  refine fj_iconst (v := 0) C dX1_init_42 (by decide) ?_
  refine fj_istore_n (lv' := [(1, .int 0), (0, .ref h0)]) C dX1_init_43 rfl (by decide) rfl ?_
  refine fj_lv (lv' := [(0, .ref h0), (1, .int 0)]) [1, 0] rfl ?_
  have lp44 : ∀ (i : Nat), (i ≤ 81) → fj p l e (fj_rm 1 12 5 251) s m args below meth c Q A D 2 5 251 [(h0, .inr (1, [.ref q1, .ref q2, .ref q3, .int 0, .int 0, .ref q4, .ref q5])), (q1, .inl (ty 1, 81, .inl (fl 1 (fun _ => 0) i))), (q2, .inl (ty 0, 81, .inl (fx_cx i))), (q3, .inl (ty 0, 81, .inl (fx_cy i))), (q4, .inl (ty 3, 4, .inr (.inl (fun _ => 0)))), (q5, .inl (ty 3, 4, .inr (.inl (fun _ => 0))))] [(0, .ref h0), (1, .int (nI i))] 44 [] := by
    have key : ∀ zz : Nat, (fun (i : Nat) => (i ≤ 81) → fj p l e (fj_rm 1 12 5 251) s m args below meth c Q A D 2 5 251 [(h0, .inr (1, [.ref q1, .ref q2, .ref q3, .int 0, .int 0, .ref q4, .ref q5])), (q1, .inl (ty 1, 81, .inl (fl 1 (fun _ => 0) i))), (q2, .inl (ty 0, 81, .inl (fx_cx i))), (q3, .inl (ty 0, 81, .inl (fx_cy i))), (q4, .inl (ty 3, 4, .inr (.inl (fun _ => 0)))), (q5, .inl (ty 3, 4, .inr (.inl (fun _ => 0))))] [(0, .ref h0), (1, .int (nI i))] 44 []) zz := by
      refine fx_ind (fun (i : Nat) => 81 - i) _ ?_
      rintro i ih44 ii
      refine fj_iload_n C 1 dX1_init_44 rfl rfl ?_
      refine fj_bipush (v := 81) C dX1_init_45 (by decide) ?_
      refine fj_icmp_ge (tgt := 89) C dX1_init_47 (by decide) (fun h47 => ?_) (fun h47 => ?_)
      · have q47 : 81 ≤ i := (nI_leI (a := 81) (by decide) (by omega)).mp h47
        obtain rfl : i = 81 := by omega
        exact fj_vret C E9 dX1_init_89 ⟨rfl, q1, q2, q3, q4, q5, rfl⟩
      · have q47 : i < 81 := Nat.lt_of_not_le (fun q => h47 ((nI_leI (a := 81) (by decide) (by omega)).mpr q))
        refine fj_aload_n C 0 dX1_init_50 rfl rfl ?_
        refine fj_get (Cn := RX1) (T := TX1) (N := 7) (ci := 1) (v := .ref q1) C iX1 0 rfl rfl 0 (by decide) kX1_9 rfl dX1_init_51 ?_
        refine fj_iload_n C 1 dX1_init_54 rfl rfl ?_
        refine fj_iconst (v := 1) C dX1_init_55 (by decide) ?_
        refine fj_zast (f := (fl 1 (fun _ => 0) i)) (ws' := [(h0, .inr (1, [.ref q1, .ref q2, .ref q3, .int 0, .int 0, .ref q4, .ref q5])), (q1, .inl (ty 1, 81, .inl (upd (fl 1 (fun _ => 0) i) (nI i).toNatClampNeg (vp_nar .boolean 1)))), (q2, .inl (ty 0, 81, .inl (fx_cx i))), (q3, .inl (ty 0, 81, .inl (fx_cy i))), (q4, .inl (ty 3, 4, .inr (.inl (fun _ => 0)))), (q5, .inl (ty 3, 4, .inr (.inl (fun _ => 0))))]) C 1 rfl (vp_in_nI q47 (by decide)) dX1_init_56 rfl ?_
        refine fj_ws (ws' := [(h0, .inr (1, [.ref q1, .ref q2, .ref q3, .int 0, .int 0, .ref q4, .ref q5])), (q1, .inl (ty 1, 81, .inl (fl 1 (fun _ => 0) (i + 1)))), (q2, .inl (ty 0, 81, .inl (fx_cx i))), (q3, .inl (ty 0, 81, .inl (fx_cy i))), (q4, .inl (ty 3, 4, .inr (.inl (fun _ => 0)))), (q5, .inl (ty 3, 4, .inr (.inl (fun _ => 0))))]) (by rw [fl_nIb _ (by omega)]) ?_
        refine fj_aload_n C 0 dX1_init_57 rfl rfl ?_
        refine fj_get (Cn := RX1) (T := TX1) (N := 7) (ci := 1) (v := .ref q2) C iX1 0 rfl rfl 1 (by decide) kX1_13 rfl dX1_init_58 ?_
        refine fj_iload_n C 1 dX1_init_61 rfl rfl ?_
        refine fj_bipush (v := 100) C dX1_init_62 (by decide) ?_
        refine fj_iload_n C 1 dX1_init_64 rfl rfl ?_
        refine fj_bipush (v := 9) C dX1_init_65 (by decide) ?_
        refine fj_irem C dX1_init_67 (by decide) ?_
        refine fj_imul C dX1_init_68 ?_
        refine fj_iast (f := (fx_cx i)) (ws' := [(h0, .inr (1, [.ref q1, .ref q2, .ref q3, .int 0, .int 0, .ref q4, .ref q5])), (q1, .inl (ty 1, 81, .inl (fl 1 (fun _ => 0) (i + 1)))), (q2, .inl (ty 0, 81, .inl (upd (fx_cx i) (nI i).toNatClampNeg (100 * ((nI i) - (nI i) / 9 * 9))))), (q3, .inl (ty 0, 81, .inl (fx_cy i))), (q4, .inl (ty 3, 4, .inr (.inl (fun _ => 0)))), (q5, .inl (ty 3, 4, .inr (.inl (fun _ => 0))))]) C 2 rfl (vp_in_nI q47 (by decide)) dX1_init_69 rfl ?_
        refine fj_ws (ws' := [(h0, .inr (1, [.ref q1, .ref q2, .ref q3, .int 0, .int 0, .ref q4, .ref q5])), (q1, .inl (ty 1, 81, .inl (fl 1 (fun _ => 0) (i + 1)))), (q2, .inl (ty 0, 81, .inl (fx_cx (i + 1)))), (q3, .inl (ty 0, 81, .inl (fx_cy i))), (q4, .inl (ty 3, 4, .inr (.inl (fun _ => 0)))), (q5, .inl (ty 3, 4, .inr (.inl (fun _ => 0))))]) (by rw [fx_cx_s (by omega)]) ?_
        refine fj_aload_n C 0 dX1_init_70 rfl rfl ?_
        refine fj_get (Cn := RX1) (T := TX1) (N := 7) (ci := 1) (v := .ref q3) C iX1 0 rfl rfl 2 (by decide) kX1_17 rfl dX1_init_71 ?_
        refine fj_iload_n C 1 dX1_init_74 rfl rfl ?_
        refine fj_bipush (v := 100) C dX1_init_75 (by decide) ?_
        refine fj_iload_n C 1 dX1_init_77 rfl rfl ?_
        refine fj_bipush (v := 9) C dX1_init_78 (by decide) ?_
        refine fj_idiv C dX1_init_80 (by decide) ?_
        refine fj_imul C dX1_init_81 ?_
        refine fj_iast (f := (fx_cy i)) (ws' := [(h0, .inr (1, [.ref q1, .ref q2, .ref q3, .int 0, .int 0, .ref q4, .ref q5])), (q1, .inl (ty 1, 81, .inl (fl 1 (fun _ => 0) (i + 1)))), (q2, .inl (ty 0, 81, .inl (fx_cx (i + 1)))), (q3, .inl (ty 0, 81, .inl (upd (fx_cy i) (nI i).toNatClampNeg (100 * ((nI i) / 9))))), (q4, .inl (ty 3, 4, .inr (.inl (fun _ => 0)))), (q5, .inl (ty 3, 4, .inr (.inl (fun _ => 0))))]) C 3 rfl (vp_in_nI q47 (by decide)) dX1_init_82 rfl ?_
        refine fj_ws (ws' := [(h0, .inr (1, [.ref q1, .ref q2, .ref q3, .int 0, .int 0, .ref q4, .ref q5])), (q1, .inl (ty 1, 81, .inl (fl 1 (fun _ => 0) (i + 1)))), (q2, .inl (ty 0, 81, .inl (fx_cx (i + 1)))), (q3, .inl (ty 0, 81, .inl (fx_cy (i + 1)))), (q4, .inl (ty 3, 4, .inr (.inl (fun _ => 0)))), (q5, .inl (ty 3, 4, .inr (.inl (fun _ => 0))))]) (by rw [fx_cy_s (by omega)]) ?_
        refine fj_iinc (v := nI (i + 1)) (lv' := [(1, .int (nI (i + 1))), (0, .ref h0)]) C 1 dX1_init_83 rfl (nI_1 i) (by decide) rfl ?_
        refine fj_goto (tgt := 44) C dX1_init_86 (by decide) ?_
        refine fj_lv (lv' := [(0, .ref h0), (1, .int (nI (i + 1)))]) [1, 0] rfl ?_
        exact ih44 (i + 1) (by show 81 - (i + 1) < 81 - i; omega) (by omega)
    intro i
    exact key i
  refine fj_ws (ws' := [(h0, .inr (1, [.ref q1, .ref q2, .ref q3, .int 0, .int 0, .ref q4, .ref q5])), (q1, .inl (ty 1, 81, .inl (fl 1 (fun _ => 0) 0))), (q2, .inl (ty 0, 81, .inl (fx_cx 0))), (q3, .inl (ty 0, 81, .inl (fx_cy 0))), (q4, .inl (ty 3, 4, .inr (.inl (fun _ => 0)))), (q5, .inl (ty 3, 4, .inr (.inl (fun _ => 0))))]) (by rw [fl_0, fx_cx_0, fx_cy_0]) ?_
  exact lp44 0 (Nat.zero_le _)
