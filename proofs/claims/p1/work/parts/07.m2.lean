set_option maxHeartbeats 4000000 in
set_option maxRecDepth 100000 in
theorem c_X6_holds (l : Launch) (D : va_G) (ty : Nat → ClassId) (t0 : Nat) (bd : Nat → Nat) (q : Int32) (d : Int32) (k : Int32) (u : Int32)  : fc l yX6_holds wsX6_holds (fj_rm 2 47 0 0) D ty t0 [.ref (bd 0), .int q, .int d, .int k, .int u] (fm_w bd ty fm_a0 fm_g0 fm_n0) 0 0 (fun v w => v = some (.int (if (0 ≤ q ∧ q ≤ 63) then (if (0 ≤ d ∧ d ≤ 20000) ∧ (-1 ≤ k ∧ k ≤ 0) ∧ (0 ≤ u ∧ u ≤ 5) then (if u = 0 ∨ u = 2 ∨ u = 3 then -1 else 0) else -1002) else -1001))) := by
  refine fc_start (own := RX6) (cc := cX6_holds) (maxL := 6) (ret := (some .int)) (by decide) rfl (Nat.le_of_ble_eq_true rfl) rfl ?_
  intro p e s m args below meth c Q A C hmn E9
  have kL276 : Cond.constantLong RX6 276 (5) ∈ wsX6_holds := (by decide +kernel)
  refine fj_lv (lv' := [(0, .ref (bd 0)), (1, .int q), (2, .int d), (3, .int k), (4, .int u)]) [0, 1, 2, 3, 4] rfl ?_
  refine fj_iload_n C 1 dX6_holds_0 rfl rfl ?_
  refine fj_callSw (As := [.int q]) (rest := []) C (c_X6_isQuarter l D ty t0 (fm_w bd ty fm_a0 fm_g0 fm_n0) q) (va_cwS 1 C.2.2.2.2.1 gX6_holds_X6_isQuarter rfl rfl rfl (by decide +kernel) ⟨Nat.le_of_ble_eq_true rfl, Nat.le_of_ble_eq_true rfl⟩)  rfl (Nat.le_of_ble_eq_true rfl) dX6_holds_1 ⟨Nat.zero_le _, Nat.zero_le _⟩ (fun v9 w9 hp9 => ?_)
  obtain ⟨rfl, rfl⟩ := hp9
  refine fj_st (st' := .int (if (0 ≤ q ∧ q ≤ 63) then 1 else 0) :: []) rfl ?_
  refine fj_ifb_ne (tgt := 11) C dX6_holds_4 (by decide) (fun h4 => ?_) (fun h4 => ?_)
  · refine fj_iload_n C 2 dX6_holds_11 rfl rfl ?_
    refine fj_callSw (As := [.int d]) (rest := []) C (c_X6_isDay l D ty t0 (fm_w bd ty fm_a0 fm_g0 fm_n0) d) (va_cwS 1 C.2.2.2.2.1 gX6_holds_X6_isDay rfl rfl rfl (by decide +kernel) ⟨Nat.le_of_ble_eq_true rfl, Nat.le_of_ble_eq_true rfl⟩)  rfl (Nat.le_of_ble_eq_true rfl) dX6_holds_12 ⟨Nat.zero_le _, Nat.zero_le _⟩ (fun v9 w9 hp9 => ?_)
    obtain ⟨rfl, rfl⟩ := hp9
    refine fj_st (st' := .int (if (0 ≤ d ∧ d ≤ 20000) then 1 else 0) :: []) rfl ?_
    refine fj_ifb_eq (tgt := 39) C dX6_holds_15 (by decide) (fun h15 => ?_) (fun h15 => ?_)
    · refine fj_sipush (v := (-1002)) C dX6_holds_39 (by decide) ?_
      exact fj_iret C E9 dX6_holds_42 (by (repeat' split) <;> first | rfl | (exfalso; grind) | grind)
    · refine fj_aload_n C 0 dX6_holds_18 rfl rfl ?_
      refine fj_iload_n C 3 dX6_holds_19 rfl rfl ?_
      refine fj_callVw (As := [.int k]) (rest := []) C (c_X6_isKnown l D ty t0 bd k) (cwV 1 C.2.2.2.2.1 gX6_holds_X6_isKnown rfl rfl rfl (by decide +kernel) ⟨Nat.le_of_ble_eq_true rfl, Nat.le_of_ble_eq_true rfl⟩) ⟨0, 6, _, _, fm_at0 _ _ _ _ _, rfl, rfl⟩ rfl (Nat.le_of_ble_eq_true rfl) dX6_holds_20 ⟨Nat.zero_le _, Nat.zero_le _⟩ (fun v9 w9 hp9 => ?_)
      obtain ⟨rfl, rfl⟩ := hp9
      refine fj_st (st' := .int (if (-1 ≤ k ∧ k ≤ 0) then 1 else 0) :: []) rfl ?_
      refine fj_ifb_eq (tgt := 39) C dX6_holds_23 (by decide) (fun h23 => ?_) (fun h23 => ?_)
      · refine fj_sipush (v := (-1002)) C dX6_holds_39 (by decide) ?_
        exact fj_iret C E9 dX6_holds_42 (by (repeat' split) <;> first | rfl | (exfalso; grind) | grind)
      · refine fj_iload C 4 dX6_holds_26 rfl ?_
        refine fj_i2l C dX6_holds_28 ?_
        refine fj_lconst (v := 0) C dX6_holds_29 (by decide) ?_
        refine fj_ldc2 (v := 5) C dX6_holds_30 kL276 ?_
        refine fj_callSw (As := [.long u.toInt64, .long 0, .long 5]) (rest := []) C (c_X6_inI l D ty t0 (fm_w bd ty fm_a0 fm_g0 fm_n0) u 0 5 0 5 (by decide) (by decide)) (va_cwS 3 C.2.2.2.2.1 gX6_holds_X6_in rfl rfl rfl (by decide +kernel) ⟨Nat.le_of_ble_eq_true rfl, Nat.le_of_ble_eq_true rfl⟩)  rfl (Nat.le_of_ble_eq_true rfl) dX6_holds_33 ⟨Nat.zero_le _, Nat.zero_le _⟩ (fun v9 w9 hp9 => ?_)
        obtain ⟨rfl, rfl⟩ := hp9
        refine fj_st (st' := .int (if (0 ≤ u ∧ u ≤ 5) then 1 else 0) :: []) rfl ?_
        refine fj_ifb_ne (tgt := 43) C dX6_holds_36 (by decide) (fun h36 => ?_) (fun h36 => ?_)
        · refine fj_aload_n C 0 dX6_holds_43 rfl rfl ?_
          refine fj_aload_n C 0 dX6_holds_44 rfl rfl ?_
          refine fj_iload_n C 3 dX6_holds_45 rfl rfl ?_
          refine fj_callVw (As := [.int k]) (rest := [.ref (bd 0)]) C (c_X6_first l D ty t0 bd k) (cwV 1 C.2.2.2.2.1 gX6_holds_X6_first rfl rfl rfl (by decide +kernel) ⟨Nat.le_of_ble_eq_true rfl, Nat.le_of_ble_eq_true rfl⟩) ⟨0, 6, _, _, fm_at0 _ _ _ _ _, rfl, rfl⟩ rfl (Nat.le_of_ble_eq_true rfl) dX6_holds_46 ⟨Nat.zero_le _, Nat.zero_le _⟩ (fun v9 w9 hp9 => ?_)
          obtain ⟨rfl, rfl⟩ := hp9
          refine fj_st (st' := .int (if k < 0 then 0 else k) :: [.ref (bd 0)]) rfl ?_
          refine fj_iload_n C 2 dX6_holds_49 rfl rfl ?_
          refine fj_callVw (As := [.int (if k < 0 then 0 else k), .int d]) (rest := []) C (c_X6_work l D ty t0 bd (if k < 0 then 0 else k) d (by grind)) (cwV 2 C.2.2.2.2.1 gX6_holds_X6_work rfl rfl rfl (by decide +kernel) ⟨Nat.le_of_ble_eq_true rfl, Nat.le_of_ble_eq_true rfl⟩) ⟨0, 6, _, _, fm_at0 _ _ _ _ _, rfl, rfl⟩ rfl (Nat.le_of_ble_eq_true rfl) dX6_holds_50 ⟨Nat.zero_le _, Nat.zero_le _⟩ (fun v9 w9 hp9 => ?_)
          obtain ⟨rfl, rfl⟩ := hp9
          refine fj_st (st' := []) rfl ?_
          refine fj_aload_n C 0 dX6_holds_53 rfl rfl ?_
          refine fj_iload_n C 1 dX6_holds_54 rfl rfl ?_
          refine fj_callVw (As := [.int q]) (rest := []) C (c_X6_entryOf l D ty t0 bd q) (cwV 1 C.2.2.2.2.1 gX6_holds_X6_entryOf rfl rfl rfl (by decide +kernel) ⟨Nat.le_of_ble_eq_true rfl, Nat.le_of_ble_eq_true rfl⟩) ⟨0, 6, _, _, fm_at0 _ _ _ _ _, rfl, rfl⟩ rfl (Nat.le_of_ble_eq_true rfl) dX6_holds_55 ⟨Nat.zero_le _, Nat.zero_le _⟩ (fun v9 w9 hp9 => ?_)
          obtain ⟨rfl, rfl⟩ := hp9
          refine fj_st (st' := .int (-1) :: []) rfl ?_
          refine fj_istore (lv' := [(5, .int (-1)), (0, .ref (bd 0)), (1, .int q), (2, .int d), (3, .int k), (4, .int u)]) C dX6_holds_58 (by decide) rfl ?_
          refine fj_iload C 5 dX6_holds_60 rfl ?_
          rcases fx_sw u 0 5 with hsw | hsw
          · refine fj_tableOut (tgt := 166) C dX6_holds_62 hsw (by decide) ?_
            have eu : ¬ (0 ≤ u ∧ u ≤ 5) := (by simp only [Int32.le_iff_toInt_le]; simp; omega)
            refine fj_iload C 0 dX6_holds_166 rfl ?_
            refine fj_if_ge (tgt := 173) C dX6_holds_168 (by decide) (fun h => absurd h (by decide)) (fun _ => ?_)
            refine fj_iconst (v := 0) C dX6_holds_171 (by decide) ?_
            exact fj_iret C E9 dX6_holds_172 (by (repeat' split) <;> first | rfl | (exfalso; grind) | grind)
          · obtain ⟨hs1, hs2⟩ := hsw
            rcases (show u.toInt = 0 ∨ u.toInt = 1 ∨ u.toInt = 2 ∨ u.toInt = 3 ∨ u.toInt = 4 ∨ u.toInt = 5 by omega) with hsw | hsw | hsw | hsw | hsw | hsw
            · refine fj_tableIn (off := 38) (tgt := 100) C dX6_holds_62 (by omega) (by omega) (by rw [hsw]; rfl) (by decide) ?_
              have eu : u = 0 := Int32.toInt_inj.mp (by simp [hsw])
              refine fj_iload C 0 dX6_holds_100 rfl ?_
              refine fj_if_ge (tgt := 109) C dX6_holds_102 (by decide) (fun h => absurd h (by decide)) (fun _ => ?_)
              refine fj_iconst (v := (-1)) C dX6_holds_105 (by decide) ?_
              refine fj_goto (tgt := 116) C dX6_holds_106 (by decide) ?_
              exact fj_iret C E9 dX6_holds_116 (by (repeat' split) <;> first | rfl | (exfalso; grind) | grind)
            · refine fj_tableIn (off := 55) (tgt := 117) C dX6_holds_62 (by omega) (by omega) (by rw [hsw]; rfl) (by decide) ?_
              have eu : u = 1 := Int32.toInt_inj.mp (by simp [hsw])
              refine fj_aload_n C 1 dX6_holds_117 rfl rfl ?_
              refine fj_iload_n C 2 dX6_holds_118 rfl rfl ?_
              refine fj_iload C 0 dX6_holds_119 rfl ?_
              refine fj_iload_n C 3 dX6_holds_121 rfl rfl ?_
              refine fj_callVw (As := [.int q, .int (-1), .int d]) (rest := []) C (c_X6_stateOf l D ty t0 bd q (-1) d rfl h15) (cwV 3 C.2.2.2.2.1 gX6_holds_X6_stateOf rfl rfl rfl (by decide +kernel) ⟨Nat.le_of_ble_eq_true rfl, Nat.le_of_ble_eq_true rfl⟩) ⟨0, 6, _, _, fm_at0 _ _ _ _ _, rfl, rfl⟩ rfl (Nat.le_of_ble_eq_true rfl) dX6_holds_122 ⟨Nat.zero_le _, Nat.zero_le _⟩ (fun v9 w9 hp9 => ?_)
              obtain ⟨rfl, rfl⟩ := hp9
              refine fj_st (st' := .int 0 :: []) rfl ?_
              exact fj_iret C E9 dX6_holds_125 (by (repeat' split) <;> first | rfl | (exfalso; grind) | grind)
            · refine fj_tableIn (off := 64) (tgt := 126) C dX6_holds_62 (by omega) (by omega) (by rw [hsw]; rfl) (by decide) ?_
              have eu : u = 2 := Int32.toInt_inj.mp (by simp [hsw])
              refine fj_iload C 0 dX6_holds_126 rfl ?_
              refine fj_if_ge (tgt := 135) C dX6_holds_128 (by decide) (fun h => absurd h (by decide)) (fun _ => ?_)
              refine fj_iconst (v := (-1)) C dX6_holds_131 (by decide) ?_
              refine fj_goto (tgt := 142) C dX6_holds_132 (by decide) ?_
              exact fj_iret C E9 dX6_holds_142 (by (repeat' split) <;> first | rfl | (exfalso; grind) | grind)
            · refine fj_tableIn (off := 81) (tgt := 143) C dX6_holds_62 (by omega) (by omega) (by rw [hsw]; rfl) (by decide) ?_
              have eu : u = 3 := Int32.toInt_inj.mp (by simp [hsw])
              refine fj_aload_n C 1 dX6_holds_143 rfl rfl ?_
              refine fj_iload_n C 2 dX6_holds_144 rfl rfl ?_
              refine fj_iload_n C 3 dX6_holds_145 rfl rfl ?_
              refine fj_callVw (As := [.int q, .int d]) (rest := []) C (c_X6_preferredOn l D ty t0 bd q d h4) (cwV 2 C.2.2.2.2.1 gX6_holds_X6_preferredOn rfl rfl rfl (by decide +kernel) ⟨Nat.le_of_ble_eq_true rfl, Nat.le_of_ble_eq_true rfl⟩) ⟨0, 6, _, _, fm_at0 _ _ _ _ _, rfl, rfl⟩ rfl (Nat.le_of_ble_eq_true rfl) dX6_holds_146 ⟨Nat.zero_le _, Nat.zero_le _⟩ (fun v9 w9 hp9 => ?_)
              obtain ⟨rfl, rfl⟩ := hp9
              refine fj_st (st' := .int (-1) :: []) rfl ?_
              exact fj_iret C E9 dX6_holds_149 (by (repeat' split) <;> first | rfl | (exfalso; grind) | grind)
            · refine fj_tableIn (off := 104) (tgt := 166) C dX6_holds_62 (by omega) (by omega) (by rw [hsw]; rfl) (by decide) ?_
              have eu : u = 4 := Int32.toInt_inj.mp (by simp [hsw])
              refine fj_iload C 0 dX6_holds_166 rfl ?_
              refine fj_if_ge (tgt := 173) C dX6_holds_168 (by decide) (fun h => absurd h (by decide)) (fun _ => ?_)
              refine fj_iconst (v := 0) C dX6_holds_171 (by decide) ?_
              exact fj_iret C E9 dX6_holds_172 (by (repeat' split) <;> first | rfl | (exfalso; grind) | grind)
            · refine fj_tableIn (off := 88) (tgt := 150) C dX6_holds_62 (by omega) (by omega) (by rw [hsw]; rfl) (by decide) ?_
              have eu : u = 5 := Int32.toInt_inj.mp (by simp [hsw])
              refine fj_iload C 0 dX6_holds_150 rfl ?_
              refine fj_if_ge (tgt := 159) C dX6_holds_152 (by decide) (fun h => absurd h (by decide)) (fun _ => ?_)
              refine fj_iconst (v := 0) C dX6_holds_155 (by decide) ?_
              refine fj_goto (tgt := 165) C dX6_holds_156 (by decide) ?_
              exact fj_iret C E9 dX6_holds_165 (by (repeat' split) <;> first | rfl | (exfalso; grind) | grind)
        · refine fj_sipush (v := (-1002)) C dX6_holds_39 (by decide) ?_
          exact fj_iret C E9 dX6_holds_42 (by (repeat' split) <;> first | rfl | (exfalso; grind) | grind)
  · refine fj_sipush (v := (-1001)) C dX6_holds_7 (by decide) ?_
    exact fj_iret C E9 dX6_holds_10 (by (repeat' split) <;> first | rfl | (exfalso; grind) | grind)

set_option maxHeartbeats 4000000 in
set_option maxRecDepth 100000 in
theorem c_X6_digest (l : Launch) (D : va_G) (ty : Nat → ClassId) (t0 : Nat) (bd : Nat → Nat) (k : Int32)  : fc l yX6_digest wsX6_digest (fj_rm 2 47 0 0) D ty t0 [.ref (bd 0), .int k] (fm_w bd ty fm_a0 fm_g0 fm_n0) 0 0 (fun v w => v = some (.int (if (-1 ≤ k ∧ k ≤ 0) then fx_dg 64 else -1002))) := by
  refine fc_start (own := RX6) (cc := cX6_digest) (maxL := 5) (ret := (some .int)) (by decide) rfl (Nat.le_of_ble_eq_true rfl) rfl ?_
  intro p e s m args below meth c Q A C hmn E9
  refine fj_lv (lv' := [(0, .ref (bd 0)), (1, .int k)]) [0, 1] rfl ?_
  refine fj_aload_n C 0 dX6_digest_0 rfl rfl ?_
  refine fj_iload_n C 1 dX6_digest_1 rfl rfl ?_
  refine fj_callVw (As := [.int k]) (rest := []) C (c_X6_isKnown l D ty t0 bd k) (cwV 1 C.2.2.2.2.1 gX6_digest_X6_isKnown rfl rfl rfl (by decide +kernel) ⟨Nat.le_of_ble_eq_true rfl, Nat.le_of_ble_eq_true rfl⟩) ⟨0, 6, _, _, fm_at0 _ _ _ _ _, rfl, rfl⟩ rfl (Nat.le_of_ble_eq_true rfl) dX6_digest_2 ⟨Nat.zero_le _, Nat.zero_le _⟩ (fun v9 w9 hp9 => ?_)
  obtain ⟨rfl, rfl⟩ := hp9
  refine fj_st (st' := .int (if (-1 ≤ k ∧ k ≤ 0) then 1 else 0) :: []) rfl ?_
  refine fj_ifb_ne (tgt := 12) C dX6_digest_5 (by decide) (fun h5 => ?_) (fun h5 => ?_)
  · refine fj_aload_n C 0 dX6_digest_12 rfl rfl ?_
    refine fj_iload_n C 1 dX6_digest_13 rfl rfl ?_
    refine fj_callVw (As := [.int k]) (rest := []) C (c_X6_first l D ty t0 bd k) (cwV 1 C.2.2.2.2.1 gX6_digest_X6_first rfl rfl rfl (by decide +kernel) ⟨Nat.le_of_ble_eq_true rfl, Nat.le_of_ble_eq_true rfl⟩) ⟨0, 6, _, _, fm_at0 _ _ _ _ _, rfl, rfl⟩ rfl (Nat.le_of_ble_eq_true rfl) dX6_digest_14 ⟨Nat.zero_le _, Nat.zero_le _⟩ (fun v9 w9 hp9 => ?_)
    obtain ⟨rfl, rfl⟩ := hp9
    refine fj_st (st' := .int (if k < 0 then 0 else k) :: []) rfl ?_
    refine fj_at (y := 0) (by grind) ?_
    refine fj_istore_n (lv' := [(2, .int 0), (0, .ref (bd 0)), (1, .int k)]) C dX6_digest_17 rfl (by decide) rfl ?_
    refine fj_aload_n C 1 dX6_digest_18 rfl rfl ?_
    refine fj_iload_n C 0 dX6_digest_19 rfl rfl ?_
    refine fj_sipush (v := 20000) C dX6_digest_20 (by decide) ?_
    refine fj_callVw (As := [.int 0, .int 20000]) (rest := []) C (c_X6_work l D ty t0 bd 0 20000 (by grind)) (cwV 2 C.2.2.2.2.1 gX6_digest_X6_work rfl rfl rfl (by decide +kernel) ⟨Nat.le_of_ble_eq_true rfl, Nat.le_of_ble_eq_true rfl⟩) ⟨0, 6, _, _, fm_at0 _ _ _ _ _, rfl, rfl⟩ rfl (Nat.le_of_ble_eq_true rfl) dX6_digest_23 ⟨Nat.zero_le _, Nat.zero_le _⟩ (fun v9 w9 hp9 => ?_)
    obtain ⟨rfl, rfl⟩ := hp9
    refine fj_st (st' := []) rfl ?_
    refine fj_bipush (v := 7) C dX6_digest_26 (by decide) ?_
    refine fj_istore_n (lv' := [(3, .int 7), (2, .int 0), (0, .ref (bd 0)), (1, .int k)]) C dX6_digest_28 rfl (by decide) rfl ?_
    refine fj_iconst (v := 0) C dX6_digest_29 (by decide) ?_
    refine fj_istore (lv' := [(4, .int 0), (3, .int 7), (2, .int 0), (0, .ref (bd 0)), (1, .int k)]) C dX6_digest_30 (by decide) rfl ?_
    refine fj_iload C 0 dX6_digest_32 rfl ?_
    refine fj_iload_n C 2 dX6_digest_34 rfl rfl ?_
    refine fj_icmp_ge (tgt := 57) C dX6_digest_35 (by decide) (fun _ => ?_) (fun h => absurd (by decide) h)
    refine fj_iconst (v := 0) C dX6_digest_57 (by decide) ?_
    refine fj_istore (lv' := [(4, .int 0), (3, .int 7), (2, .int 0), (0, .ref (bd 0)), (1, .int k)]) C dX6_digest_58 (by decide) rfl ?_
    refine fj_lv (lv' := [(0, .ref (bd 0)), (1, .int k), (2, .int 0), (3, .int 7), (4, .int 0)]) [3, 4, 2, 1, 0] rfl ?_
    have lp60 : ∀ (i : Nat), (i ≤ 64) → fj p l e (fj_rm 2 47 0 0) s m args below meth c Q A D 5 0 0 (fm_w bd ty (fm_cl fm_a0) fm_g0 fm_n0) [(0, .ref (bd 0)), (1, .int k), (2, .int 0), (3, .int (fx_dg i)), (4, .int (nI i))] 60 [] := by
      have key : ∀ z : Nat, (fun (i : Nat) => (i ≤ 64) → fj p l e (fj_rm 2 47 0 0) s m args below meth c Q A D 5 0 0 (fm_w bd ty (fm_cl fm_a0) fm_g0 fm_n0) [(0, .ref (bd 0)), (1, .int k), (2, .int 0), (3, .int (fx_dg i)), (4, .int (nI i))] 60 []) z := by
        refine fx_ind (fun (i : Nat) => 64 - i) _ ?_
        rintro i ih ii
        refine fj_iload C 4 dX6_digest_60 rfl ?_
        refine fj_bipush (v := 64) C dX6_digest_62 (by decide) ?_
        refine fj_icmp_ge (tgt := 85) C dX6_digest_64 (by decide) (fun h64 => ?_) (fun h64 => ?_)
        · have q64 : 64 ≤ i := (nI_leI (a := 64) (by decide) (by omega)).mp h64
          obtain rfl : i = 64 := by omega
          refine fj_iload_n C 3 dX6_digest_85 rfl rfl ?_
          exact fj_iret C E9 dX6_digest_86 (by (repeat' split) <;> first | rfl | (exfalso; grind) | grind)
        · have q64 : i < 64 := Nat.lt_of_not_le (fun q => h64 ((nI_leI (a := 64) (by decide) (by omega)).mpr q))
          refine fj_bipush (v := 31) C dX6_digest_67 (by decide) ?_
          refine fj_iload_n C 3 dX6_digest_69 rfl rfl ?_
          refine fj_imul C dX6_digest_70 ?_
          refine fj_aload_n C 0 dX6_digest_71 rfl rfl ?_
          refine fj_iload C 4 dX6_digest_72 rfl ?_
          refine fj_callVw (As := [.int (nI i)]) (rest := [.int (31 * (fx_dg i))]) C (c_X6_holderOf l D ty t0 bd (nI i)) (cwV 1 C.2.2.2.2.1 gX6_digest_X6_holderOf rfl rfl rfl (by decide +kernel) ⟨Nat.le_of_ble_eq_true rfl, Nat.le_of_ble_eq_true rfl⟩) ⟨0, 6, _, _, fm_at0 _ _ _ _ _, rfl, rfl⟩ rfl (Nat.le_of_ble_eq_true rfl) dX6_digest_74 ⟨Nat.zero_le _, Nat.zero_le _⟩ (fun v9 w9 hp9 => ?_)
          obtain ⟨rfl, rfl⟩ := hp9
          refine fj_st (st' := .int (-1) :: [.int (31 * (fx_dg i))]) rfl ?_
          refine fj_iadd C dX6_digest_77 ?_
          refine fj_at (y := fx_dg (i + 1)) rfl ?_
          refine fj_istore_n (lv' := [(3, .int (fx_dg (i + 1))), (0, .ref (bd 0)), (1, .int k), (2, .int 0), (4, .int (nI i))]) C dX6_digest_78 rfl (by decide) rfl ?_
          refine fj_iinc (v := nI (i + 1)) (lv' := [(4, .int (nI (i + 1))), (3, .int (fx_dg (i + 1))), (0, .ref (bd 0)), (1, .int k), (2, .int 0)]) C 4 dX6_digest_79 rfl (nI_1 i) (by decide) rfl ?_
          refine fj_goto (tgt := 60) C dX6_digest_82 (by decide) ?_
          refine fj_lv (lv' := [(0, .ref (bd 0)), (1, .int k), (2, .int 0), (3, .int (fx_dg (i + 1))), (4, .int (nI (i + 1)))]) [2, 3, 4, 1, 0] rfl ?_
          exact ih (i + 1) (by show 64 - (i + 1) < 64 - i; omega) (by omega)
      intro i
      exact key i
    exact lp60 0 (Nat.zero_le _)
  · refine fj_sipush (v := (-1002)) C dX6_digest_8 (by decide) ?_
    exact fj_iret C E9 dX6_digest_11 (by (repeat' split) <;> first | rfl | (exfalso; grind) | grind)

set_option maxHeartbeats 4000000 in
set_option maxRecDepth 100000 in
theorem c_X6_setBy (l : Launch) (D : va_G) (ty : Nat → ClassId) (t0 : Nat) (bd : Nat → Nat) (x : Int32) (u : Int32) (hx : x = -1) (hu : 0 ≤ u ∧ u ≤ 8) : fc l yX6_setBy wsX6_setBy (fj_rm 0 0 0 0) D ty t0 [.ref (bd 0), .int x, .int u] (fm_w bd ty fm_a0 fm_g0 fm_n0) 0 0 (fun v w => v = some (.int (fm_a0 6 u.toNatClampNeg))) := by
  subst hx
  refine fc_start (own := RX6) (cc := cX6_setBy) (maxL := 5) (ret := (some .int)) (by decide) rfl (Nat.le_of_ble_eq_true rfl) rfl ?_
  intro p e s m args below meth c Q A C hmn E9
  have iX6 : ∀ w ∈ u_ws RX6 TX6 44, w ∈ wsX6_setBy := fun _ h => List.mem_cons_of_mem _ (List.mem_append_right _ h)
  have kX6_32 : Cond.fieldLink RX6 32 "FreeLandModel" "defaults" "[I" ∈ wsX6_setBy := (by decide +kernel)
  refine fj_lv (lv' := [(0, .ref (bd 0)), (1, .int (-1)), (2, .int u)]) [0, 1, 2] rfl ?_
  refine fj_iload_n C 1 dX6_setBy_0 rfl rfl ?_
  refine fj_if_ge (tgt := 11) C dX6_setBy_1 (by decide) (fun h => absurd h (by decide)) (fun _ => ?_)
  refine fj_aload_n C 0 dX6_setBy_4 rfl rfl ?_
  refine fj_get (Cn := RX6) (T := TX6) (N := 44) (ci := 6) (v := .ref (bd 6)) C iX6 0 (fm_at0 _ _ _ _ _) rfl 10 (by decide) kX6_32 rfl dX6_setBy_5 ?_
  refine fj_iload_n C 2 dX6_setBy_8 rfl rfl ?_
  refine fj_iald (f := (fm_a0 6)) C 6 (fm_at6 _ _ _ _ _) (fx_in hu.1 hu.2 (by decide) (by decide)) dX6_setBy_9 ?_
  exact fj_iret C E9 dX6_setBy_10 rfl

set_option maxHeartbeats 4000000 in
set_option maxRecDepth 100000 in
theorem c_X6_sets (l : Launch) (D : va_G) (ty : Nat → ClassId) (t0 : Nat) (bd : Nat → Nat) (x : Int32) (u : Int32)  : fc l yX6_sets wsX6_sets (fj_rm 1 25 0 0) D ty t0 [.ref (bd 0), .int x, .int u] (fm_w bd ty fm_a0 fm_g0 fm_n0) 0 0 (fun v w => v = some (.int (if x = -1 then (if (0 ≤ u ∧ u ≤ 9) then (if u = 9 then 0 else fm_a0 6 u.toNatClampNeg) else -1002) else -1001))) := by
  refine fc_start (own := RX6) (cc := cX6_sets) (maxL := 3) (ret := (some .int)) (by decide) rfl (Nat.le_of_ble_eq_true rfl) rfl ?_
  intro p e s m args below meth c Q A C hmn E9
  have kL176 : Cond.constantLong RX6 176 (9) ∈ wsX6_sets := (by decide +kernel)
  have iX6 : ∀ w ∈ u_ws RX6 TX6 44, w ∈ wsX6_sets := fun _ h => List.mem_cons_of_mem _ (List.mem_append_right _ h)
  have kX6_158 : Cond.fieldLink RX6 158 "FreeLandModel" "laws" "I" ∈ wsX6_sets := (by decide +kernel)
  refine fj_lv (lv' := [(0, .ref (bd 0)), (1, .int x), (2, .int u)]) [0, 1, 2] rfl ?_
  refine fj_iload_n C 1 dX6_sets_0 rfl rfl ?_
  refine fj_iconst (v := (-1)) C dX6_sets_1 (by decide) ?_
  refine fj_icmp_eq (tgt := 25) C dX6_sets_2 (by decide) (fun h2 => ?_) (fun h2 => ?_)
  · refine fj_iload_n C 2 dX6_sets_25 rfl rfl ?_
    refine fj_i2l C dX6_sets_26 ?_
    refine fj_lconst (v := 0) C dX6_sets_27 (by decide) ?_
    refine fj_ldc2 (v := 9) C dX6_sets_28 kL176 ?_
    refine fj_callSw (As := [.long u.toInt64, .long 0, .long 9]) (rest := []) C (c_X6_inI l D ty t0 (fm_w bd ty fm_a0 fm_g0 fm_n0) u 0 9 0 9 (by decide) (by decide)) (va_cwS 3 C.2.2.2.2.1 gX6_sets_X6_in rfl rfl rfl (by decide +kernel) ⟨Nat.le_of_ble_eq_true rfl, Nat.le_of_ble_eq_true rfl⟩)  rfl (Nat.le_of_ble_eq_true rfl) dX6_sets_31 ⟨Nat.zero_le _, Nat.zero_le _⟩ (fun v9 w9 hp9 => ?_)
    obtain ⟨rfl, rfl⟩ := hp9
    refine fj_st (st' := .int (if (0 ≤ u ∧ u ≤ 9) then 1 else 0) :: []) rfl ?_
    refine fj_ifb_ne (tgt := 41) C dX6_sets_34 (by decide) (fun h34 => ?_) (fun h34 => ?_)
    · refine fj_iload_n C 2 dX6_sets_41 rfl rfl ?_
      refine fj_bipush (v := 9) C dX6_sets_42 (by decide) ?_
      refine fj_icmp_ge (tgt := 56) C dX6_sets_44 (by decide) (fun h44 => ?_) (fun h44 => ?_)
      · refine fj_iload_n C 1 dX6_sets_56 rfl rfl ?_
        refine fj_if_ge (tgt := 64) C dX6_sets_57 (by decide) (fun h57 => ?_) (fun h57 => ?_)
        · exact absurd h57 (by grind)
        · refine fj_iconst (v := 0) C dX6_sets_60 (by decide) ?_
          refine fj_goto (tgt := 70) C dX6_sets_61 (by decide) ?_
          exact fj_iret C E9 dX6_sets_70 (by (repeat' split) <;> first | rfl | (exfalso; grind) | grind)
      · refine fj_aload_n C 0 dX6_sets_47 rfl rfl ?_
        refine fj_iload_n C 1 dX6_sets_48 rfl rfl ?_
        refine fj_iload_n C 2 dX6_sets_49 rfl rfl ?_
        refine fj_callVw (As := [.int x, .int u]) (rest := []) C (c_X6_setBy l D ty t0 bd x u (by grind) (by grind)) (cwV 2 C.2.2.2.2.1 gX6_sets_X6_setBy rfl rfl rfl (by decide +kernel) ⟨Nat.le_of_ble_eq_true rfl, Nat.le_of_ble_eq_true rfl⟩) ⟨0, 6, _, _, fm_at0 _ _ _ _ _, rfl, rfl⟩ rfl (Nat.le_of_ble_eq_true rfl) dX6_sets_50 ⟨Nat.zero_le _, Nat.zero_le _⟩ (fun v9 w9 hp9 => ?_)
        obtain rfl := hp9
        refine fj_st (st' := .int (fm_a0 6 u.toNatClampNeg) :: []) rfl ?_
        refine fj_goto (tgt := 70) C dX6_sets_53 (by decide) ?_
        exact fj_iret C E9 dX6_sets_70 (by (repeat' split) <;> first | rfl | (exfalso; grind) | grind)
    · refine fj_sipush (v := (-1002)) C dX6_sets_37 (by decide) ?_
      exact fj_iret C E9 dX6_sets_40 (by (repeat' split) <;> first | rfl | (exfalso; grind) | grind)
  · refine fj_iload_n C 1 dX6_sets_5 rfl rfl ?_
    refine fj_i2l C dX6_sets_6 ?_
    refine fj_lconst (v := 0) C dX6_sets_7 (by decide) ?_
    refine fj_aload_n C 0 dX6_sets_8 rfl rfl ?_
    refine fj_get (Cn := RX6) (T := TX6) (N := 44) (ci := 6) (v := .int 0) C iX6 0 (fm_at0 _ _ _ _ _) rfl 7 (by decide) kX6_158 rfl dX6_sets_9 ?_
    refine fj_iconst (v := 1) C dX6_sets_12 (by decide) ?_
    refine fj_isub C dX6_sets_13 ?_
    refine fj_at (y := (-1)) (by decide) ?_
    refine fj_i2l C dX6_sets_14 ?_
    refine fj_callSw (As := [.long x.toInt64, .long 0, .long ((-1 : Int32).toInt64)]) (rest := []) C (c_X6_inI l D ty t0 (fm_w bd ty fm_a0 fm_g0 fm_n0) x 0 (-1 : Int32) 0 ((-1 : Int32).toInt64) (by decide) rfl) (va_cwS 3 C.2.2.2.2.1 gX6_sets_X6_in rfl rfl rfl (by decide +kernel) ⟨Nat.le_of_ble_eq_true rfl, Nat.le_of_ble_eq_true rfl⟩)  rfl (Nat.le_of_ble_eq_true rfl) dX6_sets_15 ⟨Nat.zero_le _, Nat.zero_le _⟩ (fun v9 w9 hp9 => ?_)
    obtain ⟨rfl, rfl⟩ := hp9
    refine fj_st (st' := .int (if (0 ≤ x ∧ x ≤ (-1 : Int32)) then 1 else 0) :: []) rfl ?_
    refine fj_if_ne (tgt := 25) C dX6_sets_18 (by decide) (fun h18 => absurd (by grind) h18) (fun h18 => ?_)
    refine fj_sipush (v := (-1001)) C dX6_sets_21 (by decide) ?_
    exact fj_iret C E9 dX6_sets_24 (by (repeat' split) <;> first | rfl | (exfalso; grind) | grind)

set_option maxHeartbeats 4000000 in
set_option maxRecDepth 100000 in
theorem c_X6_lawFor (l : Launch) (D : va_G) (ty : Nat → ClassId) (t0 : Nat) (bd : Nat → Nat) (x : Int32)  : fc l yX6_lawFor wsX6_lawFor (fj_rm 0 0 0 0) D ty t0 [.ref (bd 0), .int x] (fm_w bd ty fm_a0 fm_g0 fm_n0) 0 0 (fun v w => v = some (.int (-1))) := by
  refine fc_start (own := RX6) (cc := cX6_lawFor) (maxL := 4) (ret := (some .int)) (by decide) rfl (Nat.le_of_ble_eq_true rfl) rfl ?_
  intro p e s m args below meth c Q A C hmn E9
  have iX6 : ∀ w ∈ u_ws RX6 TX6 44, w ∈ wsX6_lawFor := fun _ h => List.mem_cons_of_mem _ (List.mem_append_right _ h)
  have kX6_158 : Cond.fieldLink RX6 158 "FreeLandModel" "laws" "I" ∈ wsX6_lawFor := (by decide +kernel)
  refine fj_lv (lv' := [(0, .ref (bd 0)), (1, .int x)]) [0, 1] rfl ?_
  refine fj_iconst (v := (-1)) C dX6_lawFor_0 (by decide) ?_
  refine fj_istore_n (lv' := [(2, .int (-1)), (0, .ref (bd 0)), (1, .int x)]) C dX6_lawFor_1 rfl (by decide) rfl ?_
  refine fj_iconst (v := 0) C dX6_lawFor_2 (by decide) ?_
  refine fj_istore_n (lv' := [(3, .int 0), (2, .int (-1)), (0, .ref (bd 0)), (1, .int x)]) C dX6_lawFor_3 rfl (by decide) rfl ?_
  refine fj_iload_n C 0 dX6_lawFor_4 rfl rfl ?_
  refine fj_aload_n C 2 dX6_lawFor_5 rfl rfl ?_
  refine fj_get (Cn := RX6) (T := TX6) (N := 44) (ci := 6) (v := .int 0) C iX6 0 (fm_at0 _ _ _ _ _) rfl 7 (by decide) kX6_158 rfl dX6_lawFor_6 ?_
  refine fj_icmp_ge (tgt := 43) C dX6_lawFor_9 (by decide) (fun _ => ?_) (fun h => absurd (by decide) h)
  refine fj_iload_n C 1 dX6_lawFor_43 rfl rfl ?_
  exact fj_iret C E9 dX6_lawFor_44 rfl

set_option maxHeartbeats 4000000 in
set_option maxRecDepth 100000 in
theorem c_X6_lawOf (l : Launch) (D : va_G) (ty : Nat → ClassId) (t0 : Nat) (bd : Nat → Nat) (x : Int32)  : fc l yX6_lawOf wsX6_lawOf (fj_rm 2 45 0 0) D ty t0 [.ref (bd 0), .int x] (fm_w bd ty fm_a0 fm_g0 fm_n0) 0 0 (fun v w => v = some (.int (if (0 ≤ x ∧ x ≤ 20000) then -1 else -1002))) := by
  refine fc_start (own := RX6) (cc := cX6_lawOf) (maxL := 2) (ret := (some .int)) (by decide) rfl (Nat.le_of_ble_eq_true rfl) rfl ?_
  intro p e s m args below meth c Q A C hmn E9
  refine fj_lv (lv' := [(0, .ref (bd 0)), (1, .int x)]) [0, 1] rfl ?_
  refine fj_iload_n C 1 dX6_lawOf_0 rfl rfl ?_
  refine fj_callSw (As := [.int x]) (rest := []) C (c_X6_isDay l D ty t0 (fm_w bd ty fm_a0 fm_g0 fm_n0) x) (va_cwS 1 C.2.2.2.2.1 gX6_lawOf_X6_isDay rfl rfl rfl (by decide +kernel) ⟨Nat.le_of_ble_eq_true rfl, Nat.le_of_ble_eq_true rfl⟩)  rfl (Nat.le_of_ble_eq_true rfl) dX6_lawOf_1 ⟨Nat.zero_le _, Nat.zero_le _⟩ (fun v9 w9 hp9 => ?_)
  obtain ⟨rfl, rfl⟩ := hp9
  refine fj_st (st' := .int (if (0 ≤ x ∧ x ≤ 20000) then 1 else 0) :: []) rfl ?_
  refine fj_ifb_eq (tgt := 15) C dX6_lawOf_4 (by decide) (fun h4 => ?_) (fun h4 => ?_)
  · refine fj_sipush (v := (-1002)) C dX6_lawOf_15 (by decide) ?_
    exact fj_iret C E9 dX6_lawOf_18 (by (repeat' split) <;> first | rfl | (exfalso; grind) | grind)
  · refine fj_aload_n C 0 dX6_lawOf_7 rfl rfl ?_
    refine fj_iload_n C 1 dX6_lawOf_8 rfl rfl ?_
    refine fj_callVw (As := [.int x]) (rest := []) C (c_X6_lawFor l D ty t0 bd x) (cwV 1 C.2.2.2.2.1 gX6_lawOf_X6_lawFor rfl rfl rfl (by decide +kernel) ⟨Nat.le_of_ble_eq_true rfl, Nat.le_of_ble_eq_true rfl⟩) ⟨0, 6, _, _, fm_at0 _ _ _ _ _, rfl, rfl⟩ rfl (Nat.le_of_ble_eq_true rfl) dX6_lawOf_9 ⟨Nat.zero_le _, Nat.zero_le _⟩ (fun v9 w9 hp9 => ?_)
    obtain rfl := hp9
    refine fj_st (st' := .int (-1) :: []) rfl ?_
    refine fj_goto (tgt := 18) C dX6_lawOf_12 (by decide) ?_
    exact fj_iret C E9 dX6_lawOf_18 (by (repeat' split) <;> first | rfl | (exfalso; grind) | grind)

set_option maxHeartbeats 4000000 in
set_option maxRecDepth 100000 in
theorem c_X6_law (l : Launch) (D : va_G) (ty : Nat → ClassId) (t0 : Nat) (bd : Nat → Nat) (x : Int32)  : fc l yX6_law wsX6_law (fj_rm 2 45 0 0) D ty t0 [.ref (bd 0), .int x] (fm_w bd ty fm_a0 fm_g0 fm_n0) 0 0 (fun v w => v = some (.int (if (0 ≤ x ∧ x ≤ 20000) then 0 else -1002))) := by
  refine fc_start (own := RX6) (cc := cX6_law) (maxL := 9) (ret := (some .int)) (by decide) rfl (Nat.le_of_ble_eq_true rfl) rfl ?_
  intro p e s m args below meth c Q A C hmn E9
  have iX6 : ∀ w ∈ u_ws RX6 TX6 44, w ∈ wsX6_law := fun _ h => List.mem_cons_of_mem _ (List.mem_append_right _ h)
  have kX6_158 : Cond.fieldLink RX6 158 "FreeLandModel" "laws" "I" ∈ wsX6_law := (by decide +kernel)
  have kX6_145 : Cond.fieldLink RX6 145 "FreeLandModel" "texted" "I" ∈ wsX6_law := (by decide +kernel)
  have kX6_23 : Cond.fieldLink RX6 23 "FreeLandModel" "faultPlace" "I" ∈ wsX6_law := (by decide +kernel)
  have kX6_26 : Cond.fieldLink RX6 26 "FreeLandModel" "lawDays" "[I" ∈ wsX6_law := (by decide +kernel)
  have kX6_29 : Cond.fieldLink RX6 29 "FreeLandModel" "lawSets" "[I" ∈ wsX6_law := (by decide +kernel)
  refine fj_lv (lv' := [(0, .ref (bd 0)), (1, .int x)]) [0, 1] rfl ?_
  refine fj_iload_n C 1 dX6_law_0 rfl rfl ?_
  refine fj_callSw (As := [.int x]) (rest := []) C (c_X6_isDay l D ty t0 (fm_w bd ty fm_a0 fm_g0 fm_n0) x) (va_cwS 1 C.2.2.2.2.1 gX6_law_X6_isDay rfl rfl rfl (by decide +kernel) ⟨Nat.le_of_ble_eq_true rfl, Nat.le_of_ble_eq_true rfl⟩)  rfl (Nat.le_of_ble_eq_true rfl) dX6_law_1 ⟨Nat.zero_le _, Nat.zero_le _⟩ (fun v9 w9 hp9 => ?_)
  obtain ⟨rfl, rfl⟩ := hp9
  refine fj_st (st' := .int (if (0 ≤ x ∧ x ≤ 20000) then 1 else 0) :: []) rfl ?_
  refine fj_ifb_ne (tgt := 11) C dX6_law_4 (by decide) (fun h4 => ?_) (fun h4 => ?_)
  · refine fj_aload_n C 0 dX6_law_11 rfl rfl ?_
    refine fj_get (Cn := RX6) (T := TX6) (N := 44) (ci := 6) (v := .int 0) C iX6 0 (fm_at0 _ _ _ _ _) rfl 7 (by decide) kX6_158 rfl dX6_law_12 ?_
    refine fj_bipush (v := 8) C dX6_law_15 (by decide) ?_
    refine fj_icmp_ne (tgt := 24) C dX6_law_17 (by decide) (fun _ => ?_) (fun h => absurd h (by decide))
    refine fj_aload_n C 0 dX6_law_24 rfl rfl ?_
    refine fj_get (Cn := RX6) (T := TX6) (N := 44) (ci := 6) (v := .int 0) C iX6 0 (fm_at0 _ _ _ _ _) rfl 5 (by decide) kX6_145 rfl dX6_law_25 ?_
    refine fj_istore_n (lv' := [(2, .int 0), (0, .ref (bd 0)), (1, .int x)]) C dX6_law_28 rfl (by decide) rfl ?_
    refine fj_aload_n C 1 dX6_law_29 rfl rfl ?_
    refine fj_iconst (v := 0) C dX6_law_30 (by decide) ?_
    refine fj_put (Cn := RX6) (T := TX6) (N := 44) (ci := 6) C iX6 tyX6 tyX6_ok nmX6 0 (fm_at0 _ _ _ _ _) rfl 5 (by decide) kX6_145 rfl rfl rfl (Nat.le_of_ble_eq_true rfl) dX6_law_31 (fm_si0_5 _ _ _ _ _ _) ?_
    refine fj_aload_n C 1 dX6_law_34 rfl rfl ?_
    refine fj_iconst (v := (-1)) C dX6_law_35 (by decide) ?_
    refine fj_put (Cn := RX6) (T := TX6) (N := 44) (ci := 6) C iX6 tyX6 tyX6_ok nmX6 0 (fm_at0 _ _ _ _ _) rfl 6 (by decide) kX6_23 rfl rfl rfl (Nat.le_of_ble_eq_true rfl) dX6_law_36 (fm_si0_6 _ _ _ _ _ _) ?_
    refine fj_aload_n C 1 dX6_law_39 rfl rfl ?_
    refine fj_get (Cn := RX6) (T := TX6) (N := 44) (ci := 6) (v := .int 0) C iX6 0 (fm_at0 _ _ _ _ _) rfl 7 (by decide) kX6_158 rfl dX6_law_40 ?_
    refine fj_istore_n (lv' := [(3, .int 0), (2, .int 0), (0, .ref (bd 0)), (1, .int x)]) C dX6_law_43 rfl (by decide) rfl ?_
    refine fj_iconst (v := 0) C dX6_law_44 (by decide) ?_
    refine fj_istore (lv' := [(4, .int 0), (3, .int 0), (2, .int 0), (0, .ref (bd 0)), (1, .int x)]) C dX6_law_45 (by decide) rfl ?_
    refine fj_lv (lv' := [(0, .ref (bd 0)), (1, .int x), (2, .int 0), (3, .int 0), (4, .int 0)]) [3, 4, 2, 1, 0] rfl ?_
    have lp47 : ∀ (i : Nat), (i ≤ 9) → fj p l e (fj_rm 2 45 0 0) s m args below meth c Q A D 9 0 0 (fm_w bd ty (va_up fm_a0 5 (fl (-1) (fm_a0 5) i)) fm_g0 (va_up (va_up fm_n0 2 0) 3 (-1))) [(0, .ref (bd 0)), (1, .int x), (2, .int 0), (3, .int 0), (4, .int (nI i))] 47 [] := by
      have key : ∀ z : Nat, (fun (i : Nat) => (i ≤ 9) → fj p l e (fj_rm 2 45 0 0) s m args below meth c Q A D 9 0 0 (fm_w bd ty (va_up fm_a0 5 (fl (-1) (fm_a0 5) i)) fm_g0 (va_up (va_up fm_n0 2 0) 3 (-1))) [(0, .ref (bd 0)), (1, .int x), (2, .int 0), (3, .int 0), (4, .int (nI i))] 47 []) z := by
        refine fx_ind (fun (i : Nat) => 9 - i) _ ?_
        rintro i ih ii
        refine fj_iload C 4 dX6_law_47 rfl ?_
        refine fj_bipush (v := 9) C dX6_law_49 (by decide) ?_
        refine fj_icmp_ge (tgt := 73) C dX6_law_51 (by decide) (fun h51 => ?_) (fun h51 => ?_)
        · have q51 : 9 ≤ i := (nI_leI (a := 9) (by decide) (by omega)).mp h51
          obtain rfl : i = 9 := by omega
          refine fj_iconst (v := (-1)) C dX6_law_73 (by decide) ?_
          refine fj_istore (lv' := [(4, .int (-1)), (0, .ref (bd 0)), (1, .int x), (2, .int 0), (3, .int 0)]) C dX6_law_74 (by decide) rfl ?_
          refine fj_iconst (v := 0) C dX6_law_76 (by decide) ?_
          refine fj_istore (lv' := [(5, .int 0), (4, .int (-1)), (0, .ref (bd 0)), (1, .int x), (2, .int 0), (3, .int 0)]) C dX6_law_77 (by decide) rfl ?_
          refine fj_iload C 0 dX6_law_79 rfl ?_
          refine fj_iload_n C 4 dX6_law_81 rfl rfl ?_
          refine fj_icmp_ge (tgt := 103) C dX6_law_82 (by decide) (fun _ => ?_) (fun h => absurd (by decide) h)
          refine fj_iload C 0 dX6_law_103 rfl ?_
          refine fj_iload_n C 4 dX6_law_105 rfl rfl ?_
          refine fj_icmp_ne (tgt := 112) C dX6_law_106 (by decide) (fun h => absurd (by decide) h) (fun _ => ?_)
          refine fj_goto (tgt := 316) C dX6_law_109 (by decide) ?_
          refine fj_iload C 1 dX6_law_316 rfl ?_
          refine fj_if_lt (tgt := 328) C dX6_law_318 (by decide) (fun _ => ?_) (fun h => absurd (by decide) h)
          refine fj_aload_n C 2 dX6_law_328 rfl rfl ?_
          refine fj_get (Cn := RX6) (T := TX6) (N := 44) (ci := 6) (v := .ref (bd 4)) C iX6 0 (fm_at0 _ _ _ _ _) rfl 8 (by decide) kX6_26 rfl dX6_law_329 ?_
          refine fj_iload_n C 5 dX6_law_332 rfl rfl ?_
          refine fj_iload_n C 3 dX6_law_333 rfl rfl ?_
          refine fj_iast (f := (fm_a0 4)) C 4 (fm_at4 _ _ _ _ _) (vp_in_iff.mpr ⟨by decide, by decide⟩) dX6_law_334 (fm_st4 _ _ _ _ _ _) ?_
          refine fj_aload_n C 2 dX6_law_335 rfl rfl ?_
          refine fj_dup C dX6_law_336 rfl ?_
          refine fj_get (Cn := RX6) (T := TX6) (N := 44) (ci := 6) (v := .int 0) C iX6 0 (fm_at0 _ _ _ _ _) rfl 7 (by decide) kX6_158 rfl dX6_law_337 ?_
          refine fj_iconst (v := 1) C dX6_law_340 (by decide) ?_
          refine fj_iadd C dX6_law_341 ?_
          refine fj_at (y := 1) (by decide) ?_
          refine fj_put (Cn := RX6) (T := TX6) (N := 44) (ci := 6) C iX6 tyX6 tyX6_ok nmX6 0 (fm_at0 _ _ _ _ _) rfl 7 (by decide) kX6_158 rfl rfl rfl (Nat.le_of_ble_eq_true rfl) dX6_law_342 (fm_si0_7 _ _ _ _ _ _) ?_
          refine fj_iload_n C 5 dX6_law_345 rfl rfl ?_
          exact fj_iret C E9 dX6_law_346 (by (repeat' split) <;> first | rfl | (exfalso; grind) | grind)
        · have q51 : i < 9 := Nat.lt_of_not_le (fun q => h51 ((nI_leI (a := 9) (by decide) (by omega)).mpr q))
          refine fj_aload_n C 0 dX6_law_54 rfl rfl ?_
          refine fj_get (Cn := RX6) (T := TX6) (N := 44) (ci := 6) (v := .ref (bd 5)) C iX6 0 (fm_at0 _ _ _ _ _) rfl 9 (by decide) kX6_29 rfl dX6_law_55 ?_
          refine fj_bipush (v := 9) C dX6_law_58 (by decide) ?_
          refine fj_iload_n C 3 dX6_law_60 rfl rfl ?_
          refine fj_imul C dX6_law_61 ?_
          refine fj_at (y := 0) (by decide) ?_
          refine fj_iload C 4 dX6_law_62 rfl ?_
          refine fj_iadd C dX6_law_64 ?_
          refine fj_at (y := nI i) (by rw [Int32.zero_add]) ?_
          refine fj_iconst (v := (-1)) C dX6_law_65 (by decide) ?_
          refine fj_iast (f := (fl (-1) (fm_a0 5) i)) C 5 (fm_at5 _ _ _ _ _) (vp_in_nI (show i < 72 by omega) (by decide)) dX6_law_66 (fm_st5 _ _ _ _ _ _) ?_
          refine fj_ws (ws' := (fm_w bd ty (va_up fm_a0 5 (upd (fl (-1) (fm_a0 5) i) (nI i).toNatClampNeg (-1))) fm_g0 (va_up (va_up fm_n0 2 0) 3 (-1)))) rfl ?_
          refine fj_ws (ws' := (fm_w bd ty (va_up fm_a0 5 (fl (-1) (fm_a0 5) (i + 1))) fm_g0 (va_up (va_up fm_n0 2 0) 3 (-1)))) (by rw [fl_nI _ _ (by omega)]) ?_
          refine fj_iinc (v := nI (i + 1)) (lv' := [(4, .int (nI (i + 1))), (0, .ref (bd 0)), (1, .int x), (2, .int 0), (3, .int 0)]) C 4 dX6_law_67 rfl (nI_1 i) (by decide) rfl ?_
          refine fj_goto (tgt := 47) C dX6_law_70 (by decide) ?_
          refine fj_lv (lv' := [(0, .ref (bd 0)), (1, .int x), (2, .int 0), (3, .int 0), (4, .int (nI (i + 1)))]) [1, 2, 3, 4, 0] rfl ?_
          exact ih (i + 1) (by show 9 - (i + 1) < 9 - i; omega) (by omega)
      intro i
      exact key i
    refine fj_ws (ws' := (fm_w bd ty (va_up fm_a0 5 (fl (-1) (fm_a0 5) 0)) fm_g0 (va_up (va_up fm_n0 2 0) 3 (-1)))) (by rw [fl_0]; rfl) ?_
    exact lp47 0 (Nat.zero_le _)
  · refine fj_sipush (v := (-1002)) C dX6_law_7 (by decide) ?_
    exact fj_iret C E9 dX6_law_10 (by (repeat' split) <;> first | rfl | (exfalso; grind) | grind)

set_option maxHeartbeats 4000000 in
set_option maxRecDepth 100000 in
theorem c_X6_feed (l : Launch) (D : va_G) (ty : Nat → ClassId) (t0 : Nat) (bd : Nat → Nat) (x : Int32) (b9 : Int64)  : fc l yX6_feed wsX6_feed (fj_rm 1 25 0 0) D ty t0 [.ref (bd 0), .int x, .long b9] (fm_w bd ty fm_a0 fm_g0 fm_n0) 0 0 (fun v w => v = some (.int (if (1 ≤ x ∧ x ≤ 8) then x else -1002))) := by
  refine fc_start (own := RX6) (cc := cX6_feed) (maxL := 5) (ret := (some .int)) (by decide) rfl (Nat.le_of_ble_eq_true rfl) rfl ?_
  intro p e s m args below meth c Q A C hmn E9
  have kL143 : Cond.constantLong RX6 143 (8) ∈ wsX6_feed := (by decide +kernel)
  have iX6 : ∀ w ∈ u_ws RX6 TX6 44, w ∈ wsX6_feed := fun _ h => List.mem_cons_of_mem _ (List.mem_append_right _ h)
  have kX6_145 : Cond.fieldLink RX6 145 "FreeLandModel" "texted" "I" ∈ wsX6_feed := (by decide +kernel)
  have kX6_20 : Cond.fieldLink RX6 20 "FreeLandModel" "text" "[I" ∈ wsX6_feed := (by decide +kernel)
  have kL148 : Cond.constantLong RX6 148 (255) ∈ wsX6_feed := (by decide +kernel)
  refine fj_lv (lv' := [(0, .ref (bd 0)), (1, .int x), (2, .long b9)]) [0, 1, 2] rfl ?_
  refine fj_iload_n C 1 dX6_feed_0 rfl rfl ?_
  refine fj_i2l C dX6_feed_1 ?_
  refine fj_lconst (v := 1) C dX6_feed_2 (by decide) ?_
  refine fj_ldc2 (v := 8) C dX6_feed_3 kL143 ?_
  refine fj_callSw (As := [.long x.toInt64, .long 1, .long 8]) (rest := []) C (c_X6_inI l D ty t0 (fm_w bd ty fm_a0 fm_g0 fm_n0) x 1 8 1 8 (by decide) (by decide)) (va_cwS 3 C.2.2.2.2.1 gX6_feed_X6_in rfl rfl rfl (by decide +kernel) ⟨Nat.le_of_ble_eq_true rfl, Nat.le_of_ble_eq_true rfl⟩)  rfl (Nat.le_of_ble_eq_true rfl) dX6_feed_6 ⟨Nat.zero_le _, Nat.zero_le _⟩ (fun v9 w9 hp9 => ?_)
  obtain ⟨rfl, rfl⟩ := hp9
  refine fj_st (st' := .int (if (1 ≤ x ∧ x ≤ 8) then 1 else 0) :: []) rfl ?_
  refine fj_ifb_ne (tgt := 16) C dX6_feed_9 (by decide) (fun h9 => ?_) (fun h9 => ?_)
  · obtain ⟨N, hN, eN⟩ := nI_of2 (M := 8) (n := 8) (by decide) (x := x) (by grind) (by grind)
    subst eN
    refine fj_aload_n C 0 dX6_feed_16 rfl rfl ?_
    refine fj_get (Cn := RX6) (T := TX6) (N := 44) (ci := 6) (v := .int 0) C iX6 0 (fm_at0 _ _ _ _ _) rfl 5 (by decide) kX6_145 rfl dX6_feed_17 ?_
    refine fj_iload_n C 1 dX6_feed_20 rfl rfl ?_
    refine fj_iadd C dX6_feed_21 ?_
    refine fj_bipush (v := 120) C dX6_feed_22 (by decide) ?_
    refine fj_icmp_le (tgt := 31) C dX6_feed_24 (by decide) (fun h24 => ?_) (fun h24 => absurd (by rw [Int32.zero_add]; grind) h24)
    refine fj_iload_n C 1 dX6_feed_31 rfl rfl ?_
    refine fj_iconst (v := 1) C dX6_feed_32 (by decide) ?_
    refine fj_isub C dX6_feed_33 ?_
    refine fj_istore (lv' := [(4, .int ((nI N) - 1)), (0, .ref (bd 0)), (1, .int (nI N)), (2, .long b9)]) C dX6_feed_34 (by decide) rfl ?_
    refine fj_lv (lv' := [(0, .ref (bd 0)), (1, .int (nI N)), (2, .long b9), (4, .int ((nI N) - 1))]) [1, 2, 3, 0] rfl ?_
    have lp36 : ∀ (k : Nat) (j : Nat) (t : Nat → Int32), (k + j = N) → fj p l e (fj_rm 1 25 0 0) s m args below meth c Q A D 5 0 0 (fm_w bd ty (va_up fm_a0 3 t) fm_g0 (va_up fm_n0 2 (nI j))) [(0, .ref (bd 0)), (1, .int (nI N)), (2, .long b9), (4, .int (nI k - 1))] 36 [] := by
      have key : ∀ z : Nat × Nat × (Nat → Int32), (fun (z : Nat × Nat × (Nat → Int32)) => match z with | (k, j, t) => (k + j = N) → fj p l e (fj_rm 1 25 0 0) s m args below meth c Q A D 5 0 0 (fm_w bd ty (va_up fm_a0 3 t) fm_g0 (va_up fm_n0 2 (nI j))) [(0, .ref (bd 0)), (1, .int (nI N)), (2, .long b9), (4, .int (nI k - 1))] 36 []) z := by
        refine fx_ind (fun (z : Nat × Nat × (Nat → Int32)) => match z with | (k, j, t) => k) _ ?_
        rintro ⟨k, j, t⟩ ih ik
        refine fj_iload C 3 dX6_feed_36 rfl ?_
        refine fj_if_lt (tgt := 78) C dX6_feed_38 (by decide) (fun h38 => ?_) (fun h38 => ?_)
        · obtain rfl : k = 0 := fx_p0 (by omega) h38
          refine fj_aload_n C 0 dX6_feed_78 rfl rfl ?_
          refine fj_get (Cn := RX6) (T := TX6) (N := 44) (ci := 6) (v := .int (nI j)) C iX6 0 (fm_at0 _ _ _ _ _) rfl 5 (by decide) kX6_145 rfl dX6_feed_79 ?_
          exact fj_iret C E9 dX6_feed_82 (by rw [if_pos h9, show j = N by omega])
        · obtain ⟨k, rfl⟩ : ∃ z, k = z + 1 := fx_p1 h38
          refine fj_aload_n C 0 dX6_feed_41 rfl rfl ?_
          refine fj_get (Cn := RX6) (T := TX6) (N := 44) (ci := 6) (v := .ref (bd 3)) C iX6 0 (fm_at0 _ _ _ _ _) rfl 4 (by decide) kX6_20 rfl dX6_feed_42 ?_
          refine fj_aload_n C 0 dX6_feed_45 rfl rfl ?_
          refine fj_get (Cn := RX6) (T := TX6) (N := 44) (ci := 6) (v := .int (nI j)) C iX6 0 (fm_at0 _ _ _ _ _) rfl 5 (by decide) kX6_145 rfl dX6_feed_46 ?_
          refine fj_lload_n C 2 dX6_feed_49 rfl rfl ?_
          refine fj_bipush (v := 8) C dX6_feed_50 (by decide) ?_
          refine fj_iload C 3 dX6_feed_52 rfl ?_
          refine fj_imul C dX6_feed_54 ?_
          refine fj_lshr C dX6_feed_55 ?_
          refine fj_ldc2 (v := 255) C dX6_feed_56 kL148 ?_
          refine fj_land C dX6_feed_59 ?_
          refine fj_l2i C dX6_feed_60 ?_
          refine fj_iast (f := t) C 3 (fm_at3 _ _ _ _ _) (vp_in_nI (by omega) (by decide)) dX6_feed_61 (fm_st3 _ _ _ _ _ _) ?_
          refine fj_ws (ws' := (fm_w bd ty (va_up fm_a0 3 (upd t (nI j).toNatClampNeg (((b9 >>> ((8 * (nI (k + 1) - 1)).toInt64 &&& 63)) &&& 255).toInt32))) fm_g0 (va_up fm_n0 2 (nI j)))) rfl ?_
          refine fj_aload_n C 0 dX6_feed_62 rfl rfl ?_
          refine fj_dup C dX6_feed_63 rfl ?_
          refine fj_get (Cn := RX6) (T := TX6) (N := 44) (ci := 6) (v := .int (nI j)) C iX6 0 (fm_at0 _ _ _ _ _) rfl 5 (by decide) kX6_145 rfl dX6_feed_64 ?_
          refine fj_iconst (v := 1) C dX6_feed_67 (by decide) ?_
          refine fj_iadd C dX6_feed_68 ?_
          refine fj_at (y := nI (j + 1)) (nI_1 j) ?_
          refine fj_put (Cn := RX6) (T := TX6) (N := 44) (ci := 6) C iX6 tyX6 tyX6_ok nmX6 0 (fm_at0 _ _ _ _ _) rfl 5 (by decide) kX6_145 rfl rfl rfl (Nat.le_of_ble_eq_true rfl) dX6_feed_69 (fm_si0_5 _ _ _ _ _ _) ?_
          refine fj_ws (ws' := (fm_w bd ty (va_up fm_a0 3 (upd t (nI j).toNatClampNeg (((b9 >>> ((8 * (nI (k + 1) - 1)).toInt64 &&& 63)) &&& 255).toInt32))) fm_g0 (va_up fm_n0 2 (nI (j + 1))))) rfl ?_
          refine fj_iinc (v := nI k - 1) (lv' := [(4, .int (nI k - 1)), (0, .ref (bd 0)), (1, .int (nI N)), (2, .long b9)]) C 3 dX6_feed_72 rfl (fx_p2 k) (by decide) rfl ?_
          refine fj_goto (tgt := 36) C dX6_feed_75 (by decide) ?_
          refine fj_lv (lv' := [(0, .ref (bd 0)), (1, .int (nI N)), (2, .long b9), (4, .int (nI k - 1))]) [1, 2, 3, 0] rfl ?_
          exact ih ⟨k, (j + 1), (upd t (nI j).toNatClampNeg (((b9 >>> ((8 * (nI (k + 1) - 1)).toInt64 &&& 63)) &&& 255).toInt32))⟩ (by show k < k + 1; omega) (by omega)
      intro k j t
      exact key ⟨k, j, t⟩
    exact lp36 N 0 (fm_a0 3) (by omega)
  · refine fj_sipush (v := (-1002)) C dX6_feed_12 (by decide) ?_
    exact fj_iret C E9 dX6_feed_15 (by (repeat' split) <;> first | rfl | (exfalso; grind) | grind)

set_option maxHeartbeats 4000000 in
set_option maxRecDepth 100000 in
theorem c_X6_corner (l : Launch) (D : va_G) (ty : Nat → ClassId) (t0 : Nat) (bd : Nat → Nat) (i : Int32) (j : Int32) (x : Int32) (y : Int32)  : fc l yX6_corner wsX6_corner (fj_rm 2 46 0 0) D ty t0 [.ref (bd 0), .int i, .int j, .int x, .int y] (fm_w bd ty fm_a0 fm_g0 fm_n0) 0 0 (fun v w => v = some (.int (if ((0 ≤ i ∧ i ≤ 8) ∧ (0 ≤ j ∧ j ≤ 8)) ∧ (-10000 ≤ x ∧ x ≤ 10000) ∧ (-10000 ≤ y ∧ y ≤ 10000) then 1 else -1002))) := by
  refine fc_start (own := RX6) (cc := cX6_corner) (maxL := 6) (ret := (some .int)) (by decide) rfl (Nat.le_of_ble_eq_true rfl) rfl ?_
  intro p e s m args below meth c Q A C hmn E9
  have kL288 : Cond.constantLong RX6 288 (-10000) ∈ wsX6_corner := (by decide +kernel)
  have kL290 : Cond.constantLong RX6 290 (10000) ∈ wsX6_corner := (by decide +kernel)
  have iX6 : ∀ w ∈ u_ws RX6 TX6 44, w ∈ wsX6_corner := fun _ h => List.mem_cons_of_mem _ (List.mem_append_right _ h)
  have kX6_58 : Cond.fieldLink RX6 58 "FreeLandModel" "known" "[Z" ∈ wsX6_corner := (by decide +kernel)
  have kX6_61 : Cond.fieldLink RX6 61 "FreeLandModel" "cornerX" "[I" ∈ wsX6_corner := (by decide +kernel)
  have kX6_64 : Cond.fieldLink RX6 64 "FreeLandModel" "cornerY" "[I" ∈ wsX6_corner := (by decide +kernel)
  refine fj_lv (lv' := [(0, .ref (bd 0)), (1, .int i), (2, .int j), (3, .int x), (4, .int y)]) [0, 1, 2, 3, 4] rfl ?_
  refine fj_iload_n C 1 dX6_corner_0 rfl rfl ?_
  refine fj_iload_n C 2 dX6_corner_1 rfl rfl ?_
  refine fj_callSw (As := [.int i, .int j]) (rest := []) C (c_X6_isCorner l D ty t0 (fm_w bd ty fm_a0 fm_g0 fm_n0) i j) (va_cwS 2 C.2.2.2.2.1 gX6_corner_X6_isCorner rfl rfl rfl (by decide +kernel) ⟨Nat.le_of_ble_eq_true rfl, Nat.le_of_ble_eq_true rfl⟩)  rfl (Nat.le_of_ble_eq_true rfl) dX6_corner_2 ⟨Nat.zero_le _, Nat.zero_le _⟩ (fun v9 w9 hp9 => ?_)
  obtain ⟨rfl, rfl⟩ := hp9
  refine fj_st (st' := .int (if ((0 ≤ i ∧ i ≤ 8) ∧ (0 ≤ j ∧ j ≤ 8)) then 1 else 0) :: []) rfl ?_
  refine fj_ifb_eq (tgt := 37) C dX6_corner_5 (by decide) (fun h5 => ?_) (fun h5 => ?_)
  · refine fj_sipush (v := (-1002)) C dX6_corner_37 (by decide) ?_
    exact fj_iret C E9 dX6_corner_40 (by (repeat' split) <;> first | rfl | (exfalso; grind) | grind)
  · refine fj_iload_n C 3 dX6_corner_8 rfl rfl ?_
    refine fj_i2l C dX6_corner_9 ?_
    refine fj_ldc2 (v := (-10000)) C dX6_corner_10 kL288 ?_
    refine fj_ldc2 (v := 10000) C dX6_corner_13 kL290 ?_
    refine fj_callSw (As := [.long x.toInt64, .long (-10000), .long 10000]) (rest := []) C (c_X6_inI l D ty t0 (fm_w bd ty fm_a0 fm_g0 fm_n0) x (-10000) 10000 (-10000) 10000 (by decide) (by decide)) (va_cwS 3 C.2.2.2.2.1 gX6_corner_X6_in rfl rfl rfl (by decide +kernel) ⟨Nat.le_of_ble_eq_true rfl, Nat.le_of_ble_eq_true rfl⟩)  rfl (Nat.le_of_ble_eq_true rfl) dX6_corner_16 ⟨Nat.zero_le _, Nat.zero_le _⟩ (fun v9 w9 hp9 => ?_)
    obtain ⟨rfl, rfl⟩ := hp9
    refine fj_st (st' := .int (if ((-10000) ≤ x ∧ x ≤ 10000) then 1 else 0) :: []) rfl ?_
    refine fj_ifb_eq (tgt := 37) C dX6_corner_19 (by decide) (fun h19 => ?_) (fun h19 => ?_)
    · refine fj_sipush (v := (-1002)) C dX6_corner_37 (by decide) ?_
      exact fj_iret C E9 dX6_corner_40 (by (repeat' split) <;> first | rfl | (exfalso; grind) | grind)
    · refine fj_iload C 4 dX6_corner_22 rfl ?_
      refine fj_i2l C dX6_corner_24 ?_
      refine fj_ldc2 (v := (-10000)) C dX6_corner_25 kL288 ?_
      refine fj_ldc2 (v := 10000) C dX6_corner_28 kL290 ?_
      refine fj_callSw (As := [.long y.toInt64, .long (-10000), .long 10000]) (rest := []) C (c_X6_inI l D ty t0 (fm_w bd ty fm_a0 fm_g0 fm_n0) y (-10000) 10000 (-10000) 10000 (by decide) (by decide)) (va_cwS 3 C.2.2.2.2.1 gX6_corner_X6_in rfl rfl rfl (by decide +kernel) ⟨Nat.le_of_ble_eq_true rfl, Nat.le_of_ble_eq_true rfl⟩)  rfl (Nat.le_of_ble_eq_true rfl) dX6_corner_31 ⟨Nat.zero_le _, Nat.zero_le _⟩ (fun v9 w9 hp9 => ?_)
      obtain ⟨rfl, rfl⟩ := hp9
      refine fj_st (st' := .int (if ((-10000) ≤ y ∧ y ≤ 10000) then 1 else 0) :: []) rfl ?_
      refine fj_ifb_ne (tgt := 41) C dX6_corner_34 (by decide) (fun h34 => ?_) (fun h34 => ?_)
      · refine fj_bipush (v := 9) C dX6_corner_41 (by decide) ?_
        refine fj_iload_n C 2 dX6_corner_43 rfl rfl ?_
        refine fj_imul C dX6_corner_44 ?_
        refine fj_iload_n C 1 dX6_corner_45 rfl rfl ?_
        refine fj_iadd C dX6_corner_46 ?_
        refine fj_istore (lv' := [(5, .int ((9 * j) + i)), (0, .ref (bd 0)), (1, .int i), (2, .int j), (3, .int x), (4, .int y)]) C dX6_corner_47 (by decide) rfl ?_
        refine fj_aload_n C 1 dX6_corner_49 rfl rfl ?_
        refine fj_get (Cn := RX6) (T := TX6) (N := 44) (ci := 6) (v := .ref (bd 14)) C iX6 0 (fm_at0 _ _ _ _ _) rfl 19 (by decide) kX6_58 rfl dX6_corner_50 ?_
        refine fj_iload C 0 dX6_corner_53 rfl ?_
        refine fj_iconst (v := 1) C dX6_corner_55 (by decide) ?_
        refine fj_zast (f := (fm_a0 14)) C 14 (fm_at14 _ _ _ _ _) (fx_ij (by grind) (by grind)) dX6_corner_56 (fm_st14 _ _ _ _ _ _) ?_
        refine fj_aload_n C 1 dX6_corner_57 rfl rfl ?_
        refine fj_get (Cn := RX6) (T := TX6) (N := 44) (ci := 6) (v := .ref (bd 15)) C iX6 0 (fm_at0 _ _ _ _ _) rfl 20 (by decide) kX6_61 rfl dX6_corner_58 ?_
        refine fj_iload C 0 dX6_corner_61 rfl ?_
        refine fj_iload_n C 4 dX6_corner_63 rfl rfl ?_
        refine fj_iast (f := (fm_a0 15)) C 15 (fm_at15 _ _ _ _ _) (fx_ij (by grind) (by grind)) dX6_corner_64 (fm_st15 _ _ _ _ _ _) ?_
        refine fj_aload_n C 1 dX6_corner_65 rfl rfl ?_
        refine fj_get (Cn := RX6) (T := TX6) (N := 44) (ci := 6) (v := .ref (bd 16)) C iX6 0 (fm_at0 _ _ _ _ _) rfl 21 (by decide) kX6_64 rfl dX6_corner_66 ?_
        refine fj_iload C 0 dX6_corner_69 rfl ?_
        refine fj_iload C 5 dX6_corner_71 rfl ?_
        refine fj_iast (f := (fm_a0 16)) C 16 (fm_at16 _ _ _ _ _) (fx_ij (by grind) (by grind)) dX6_corner_73 (fm_st16 _ _ _ _ _ _) ?_
        refine fj_iconst (v := 1) C dX6_corner_74 (by decide) ?_
        exact fj_iret C E9 dX6_corner_75 (by (repeat' split) <;> first | rfl | (exfalso; grind) | grind)
      · refine fj_sipush (v := (-1002)) C dX6_corner_37 (by decide) ?_
        exact fj_iret C E9 dX6_corner_40 (by (repeat' split) <;> first | rfl | (exfalso; grind) | grind)

set_option maxHeartbeats 4000000 in
set_option maxRecDepth 100000 in
theorem c_X6_lose (l : Launch) (D : va_G) (ty : Nat → ClassId) (t0 : Nat) (bd : Nat → Nat) (i : Int32) (j : Int32)  : fc l yX6_lose wsX6_lose (fj_rm 2 46 0 0) D ty t0 [.ref (bd 0), .int i, .int j] (fm_w bd ty fm_a0 fm_g0 fm_n0) 0 0 (fun v w => v = some (.int (if ((0 ≤ i ∧ i ≤ 8) ∧ (0 ≤ j ∧ j ≤ 8)) then 1 else -1002))) := by
  refine fc_start (own := RX6) (cc := cX6_lose) (maxL := 4) (ret := (some .int)) (by decide) rfl (Nat.le_of_ble_eq_true rfl) rfl ?_
  intro p e s m args below meth c Q A C hmn E9
  have iX6 : ∀ w ∈ u_ws RX6 TX6 44, w ∈ wsX6_lose := fun _ h => List.mem_cons_of_mem _ (List.mem_append_right _ h)
  have kX6_58 : Cond.fieldLink RX6 58 "FreeLandModel" "known" "[Z" ∈ wsX6_lose := (by decide +kernel)
  refine fj_lv (lv' := [(0, .ref (bd 0)), (1, .int i), (2, .int j)]) [0, 1, 2] rfl ?_
  refine fj_iload_n C 1 dX6_lose_0 rfl rfl ?_
  refine fj_iload_n C 2 dX6_lose_1 rfl rfl ?_
  refine fj_callSw (As := [.int i, .int j]) (rest := []) C (c_X6_isCorner l D ty t0 (fm_w bd ty fm_a0 fm_g0 fm_n0) i j) (va_cwS 2 C.2.2.2.2.1 gX6_lose_X6_isCorner rfl rfl rfl (by decide +kernel) ⟨Nat.le_of_ble_eq_true rfl, Nat.le_of_ble_eq_true rfl⟩)  rfl (Nat.le_of_ble_eq_true rfl) dX6_lose_2 ⟨Nat.zero_le _, Nat.zero_le _⟩ (fun v9 w9 hp9 => ?_)
  obtain ⟨rfl, rfl⟩ := hp9
  refine fj_st (st' := .int (if ((0 ≤ i ∧ i ≤ 8) ∧ (0 ≤ j ∧ j ≤ 8)) then 1 else 0) :: []) rfl ?_
  refine fj_ifb_ne (tgt := 12) C dX6_lose_5 (by decide) (fun h5 => ?_) (fun h5 => ?_)
  · refine fj_aload_n C 0 dX6_lose_12 rfl rfl ?_
    refine fj_get (Cn := RX6) (T := TX6) (N := 44) (ci := 6) (v := .ref (bd 14)) C iX6 0 (fm_at0 _ _ _ _ _) rfl 19 (by decide) kX6_58 rfl dX6_lose_13 ?_
    refine fj_bipush (v := 9) C dX6_lose_16 (by decide) ?_
    refine fj_iload_n C 2 dX6_lose_18 rfl rfl ?_
    refine fj_imul C dX6_lose_19 ?_
    refine fj_iload_n C 1 dX6_lose_20 rfl rfl ?_
    refine fj_iadd C dX6_lose_21 ?_
    refine fj_zald (f := (fm_a0 14)) C 14 (fm_at14 _ _ _ _ _) (fx_ij (by grind) (by grind)) dX6_lose_22 ?_
    refine fj_at (y := 1) (fx_kn (by grind) (by grind)) ?_
    refine fj_if_eq (tgt := 30) C dX6_lose_23 (by decide) (fun h => absurd h (by decide)) (fun _ => ?_)
    refine fj_iconst (v := 1) C dX6_lose_26 (by decide) ?_
    refine fj_goto (tgt := 31) C dX6_lose_27 (by decide) ?_
    refine fj_istore_n (lv' := [(3, .int 1), (0, .ref (bd 0)), (1, .int i), (2, .int j)]) C dX6_lose_31 rfl (by decide) rfl ?_
    refine fj_aload_n C 1 dX6_lose_32 rfl rfl ?_
    refine fj_get (Cn := RX6) (T := TX6) (N := 44) (ci := 6) (v := .ref (bd 14)) C iX6 0 (fm_at0 _ _ _ _ _) rfl 19 (by decide) kX6_58 rfl dX6_lose_33 ?_
    refine fj_bipush (v := 9) C dX6_lose_36 (by decide) ?_
    refine fj_iload_n C 3 dX6_lose_38 rfl rfl ?_
    refine fj_imul C dX6_lose_39 ?_
    refine fj_iload_n C 2 dX6_lose_40 rfl rfl ?_
    refine fj_iadd C dX6_lose_41 ?_
    refine fj_iconst (v := 0) C dX6_lose_42 (by decide) ?_
    refine fj_zast (f := (fm_a0 14)) C 14 (fm_at14 _ _ _ _ _) (fx_ij (by grind) (by grind)) dX6_lose_43 (fm_st14 _ _ _ _ _ _) ?_
    refine fj_iload_n C 0 dX6_lose_44 rfl rfl ?_
    exact fj_iret C E9 dX6_lose_45 (by (repeat' split) <;> first | rfl | (exfalso; grind) | grind)
  · refine fj_sipush (v := (-1002)) C dX6_lose_8 (by decide) ?_
    exact fj_iret C E9 dX6_lose_11 (by (repeat' split) <;> first | rfl | (exfalso; grind) | grind)

set_option maxHeartbeats 4000000 in
set_option maxRecDepth 100000 in
theorem c_X6_findPlace (l : Launch) (D : va_G) (ty : Nat → ClassId) (t0 : Nat) (bd : Nat → Nat) (g : Nat → Nat → Int64) (n : Nat → Int32) (i : Int32) (j : Int32) (hi : 0 ≤ i ∧ i ≤ 8) (hj : 0 ≤ j ∧ j ≤ 8) : fc l yX6_findPlace wsX6_findPlace (fj_rm 0 0 0 0) D ty t0 [.ref (bd 0), .int i, .int j] (fm_w bd ty fm_a0 g n) 0 0 (fun v w => v = some (.int 1) ∧ w = (fm_w bd ty fm_a0 g (va_up (va_up n 13 (840 * fm_a0 15 (9 * j + i).toNatClampNeg)) 14 (840 * fm_a0 16 (9 * j + i).toNatClampNeg)))) := by
  refine fc_start (own := RX6) (cc := cX6_findPlace) (maxL := 4) (ret := (some .boolean)) (by decide) rfl (Nat.le_of_ble_eq_true rfl) rfl ?_
  intro p e s m args below meth c Q A C hmn E9
  have iX6 : ∀ w ∈ u_ws RX6 TX6 44, w ∈ wsX6_findPlace := fun _ h => List.mem_cons_of_mem _ (List.mem_append_right _ h)
  have kX6_58 : Cond.fieldLink RX6 58 "FreeLandModel" "known" "[Z" ∈ wsX6_findPlace := (by decide +kernel)
  have kX6_61 : Cond.fieldLink RX6 61 "FreeLandModel" "cornerX" "[I" ∈ wsX6_findPlace := (by decide +kernel)
  have kX6_304 : Cond.fieldLink RX6 304 "FreeLandModel" "lieX" "I" ∈ wsX6_findPlace := (by decide +kernel)
  have kX6_64 : Cond.fieldLink RX6 64 "FreeLandModel" "cornerY" "[I" ∈ wsX6_findPlace := (by decide +kernel)
  have kX6_307 : Cond.fieldLink RX6 307 "FreeLandModel" "lieY" "I" ∈ wsX6_findPlace := (by decide +kernel)
  refine fj_lv (lv' := [(0, .ref (bd 0)), (1, .int i), (2, .int j)]) [0, 1, 2] rfl ?_
  refine fj_bipush (v := 9) C dX6_findPlace_0 (by decide) ?_
  refine fj_iload_n C 2 dX6_findPlace_2 rfl rfl ?_
  refine fj_imul C dX6_findPlace_3 ?_
  refine fj_iload_n C 1 dX6_findPlace_4 rfl rfl ?_
  refine fj_iadd C dX6_findPlace_5 ?_
  refine fj_istore_n (lv' := [(3, .int ((9 * j) + i)), (0, .ref (bd 0)), (1, .int i), (2, .int j)]) C dX6_findPlace_6 rfl (by decide) rfl ?_
  refine fj_aload_n C 1 dX6_findPlace_7 rfl rfl ?_
  refine fj_get (Cn := RX6) (T := TX6) (N := 44) (ci := 6) (v := .ref (bd 14)) C iX6 0 (fm_at0 _ _ _ _ _) rfl 19 (by decide) kX6_58 rfl dX6_findPlace_8 ?_
  refine fj_iload_n C 0 dX6_findPlace_11 rfl rfl ?_
  refine fj_zald (f := (fm_a0 14)) C 14 (fm_at14 _ _ _ _ _) (fx_ij hi hj) dX6_findPlace_12 ?_
  refine fj_at (y := 1) (fx_kn hi hj) ?_
  refine fj_if_eq (tgt := 46) C dX6_findPlace_13 (by decide) (fun h => absurd h (by decide)) (fun _ => ?_)
  refine fj_aload_n C 1 dX6_findPlace_16 rfl rfl ?_
  refine fj_sipush (v := 840) C dX6_findPlace_17 (by decide) ?_
  refine fj_aload_n C 1 dX6_findPlace_20 rfl rfl ?_
  refine fj_get (Cn := RX6) (T := TX6) (N := 44) (ci := 6) (v := .ref (bd 15)) C iX6 0 (fm_at0 _ _ _ _ _) rfl 20 (by decide) kX6_61 rfl dX6_findPlace_21 ?_
  refine fj_iload_n C 0 dX6_findPlace_24 rfl rfl ?_
  refine fj_iald (f := (fm_a0 15)) C 15 (fm_at15 _ _ _ _ _) (fx_ij hi hj) dX6_findPlace_25 ?_
  refine fj_imul C dX6_findPlace_26 ?_
  refine fj_put (Cn := RX6) (T := TX6) (N := 44) (ci := 6) C iX6 tyX6 tyX6_ok nmX6 0 (fm_at0 _ _ _ _ _) rfl 42 (by decide) kX6_304 rfl rfl rfl (Nat.le_of_ble_eq_true rfl) dX6_findPlace_27 (fm_si0_42 _ _ _ _ _ _) ?_
  refine fj_aload_n C 1 dX6_findPlace_30 rfl rfl ?_
  refine fj_sipush (v := 840) C dX6_findPlace_31 (by decide) ?_
  refine fj_aload_n C 1 dX6_findPlace_34 rfl rfl ?_
  refine fj_get (Cn := RX6) (T := TX6) (N := 44) (ci := 6) (v := .ref (bd 16)) C iX6 0 (fm_at0 _ _ _ _ _) rfl 21 (by decide) kX6_64 rfl dX6_findPlace_35 ?_
  refine fj_iload_n C 0 dX6_findPlace_38 rfl rfl ?_
  refine fj_iald (f := (fm_a0 16)) C 16 (fm_at16 _ _ _ _ _) (fx_ij hi hj) dX6_findPlace_39 ?_
  refine fj_imul C dX6_findPlace_40 ?_
  refine fj_put (Cn := RX6) (T := TX6) (N := 44) (ci := 6) C iX6 tyX6 tyX6_ok nmX6 0 (fm_at0 _ _ _ _ _) rfl 43 (by decide) kX6_307 rfl rfl rfl (Nat.le_of_ble_eq_true rfl) dX6_findPlace_41 (fm_si0_43 _ _ _ _ _ _) ?_
  refine fj_iconst (v := 1) C dX6_findPlace_44 (by decide) ?_
  exact fj_zret C E9 rfl dX6_findPlace_45 ⟨rfl, rfl⟩

set_option maxHeartbeats 4000000 in
set_option maxRecDepth 100000 in
theorem c_X6_lies (l : Launch) (D : va_G) (ty : Nat → ClassId) (t0 : Nat) (bd : Nat → Nat) (i : Int32) (j : Int32) (u : Int32)  : fc l yX6_lies wsX6_lies (fj_rm 2 46 0 0) D ty t0 [.ref (bd 0), .int i, .int j, .int u] (fm_w bd ty fm_a0 fm_g0 fm_n0) 0 0 (fun v w => v = some (.int (if ((0 ≤ i ∧ i ≤ 8) ∧ (0 ≤ j ∧ j ≤ 8)) ∧ (0 ≤ u ∧ u ≤ 2) then (if u = 0 then 840 * fm_a0 15 (9 * j + i).toNatClampNeg else if u = 1 then 840 * fm_a0 16 (9 * j + i).toNatClampNeg else 1) else -1002))) := by
  refine fc_start (own := RX6) (cc := cX6_lies) (maxL := 4) (ret := (some .int)) (by decide) rfl (Nat.le_of_ble_eq_true rfl) rfl ?_
  intro p e s m args below meth c Q A C hmn E9
  have kL314 : Cond.constantLong RX6 314 (2) ∈ wsX6_lies := (by decide +kernel)
  have iX6 : ∀ w ∈ u_ws RX6 TX6 44, w ∈ wsX6_lies := fun _ h => List.mem_cons_of_mem _ (List.mem_append_right _ h)
  have kX6_307 : Cond.fieldLink RX6 307 "FreeLandModel" "lieY" "I" ∈ wsX6_lies := (by decide +kernel)
  have kX6_304 : Cond.fieldLink RX6 304 "FreeLandModel" "lieX" "I" ∈ wsX6_lies := (by decide +kernel)
  have kX6_58 : Cond.fieldLink RX6 58 "FreeLandModel" "known" "[Z" ∈ wsX6_lies := (by decide +kernel)
  refine fj_lv (lv' := [(0, .ref (bd 0)), (1, .int i), (2, .int j), (3, .int u)]) [0, 1, 2, 3] rfl ?_
  refine fj_iload_n C 1 dX6_lies_0 rfl rfl ?_
  refine fj_iload_n C 2 dX6_lies_1 rfl rfl ?_
  refine fj_callSw (As := [.int i, .int j]) (rest := []) C (c_X6_isCorner l D ty t0 (fm_w bd ty fm_a0 fm_g0 fm_n0) i j) (va_cwS 2 C.2.2.2.2.1 gX6_lies_X6_isCorner rfl rfl rfl (by decide +kernel) ⟨Nat.le_of_ble_eq_true rfl, Nat.le_of_ble_eq_true rfl⟩)  rfl (Nat.le_of_ble_eq_true rfl) dX6_lies_2 ⟨Nat.zero_le _, Nat.zero_le _⟩ (fun v9 w9 hp9 => ?_)
  obtain ⟨rfl, rfl⟩ := hp9
  refine fj_st (st' := .int (if ((0 ≤ i ∧ i ≤ 8) ∧ (0 ≤ j ∧ j ≤ 8)) then 1 else 0) :: []) rfl ?_
  refine fj_ifb_eq (tgt := 20) C dX6_lies_5 (by decide) (fun h5 => ?_) (fun h5 => ?_)
  · refine fj_sipush (v := (-1002)) C dX6_lies_20 (by decide) ?_
    exact fj_iret C E9 dX6_lies_23 (by (repeat' split) <;> first | rfl | (exfalso; grind) | grind)
  · refine fj_iload_n C 3 dX6_lies_8 rfl rfl ?_
    refine fj_i2l C dX6_lies_9 ?_
    refine fj_lconst (v := 0) C dX6_lies_10 (by decide) ?_
    refine fj_ldc2 (v := 2) C dX6_lies_11 kL314 ?_
    refine fj_callSw (As := [.long u.toInt64, .long 0, .long 2]) (rest := []) C (c_X6_inI l D ty t0 (fm_w bd ty fm_a0 fm_g0 fm_n0) u 0 2 0 2 (by decide) (by decide)) (va_cwS 3 C.2.2.2.2.1 gX6_lies_X6_in rfl rfl rfl (by decide +kernel) ⟨Nat.le_of_ble_eq_true rfl, Nat.le_of_ble_eq_true rfl⟩)  rfl (Nat.le_of_ble_eq_true rfl) dX6_lies_14 ⟨Nat.zero_le _, Nat.zero_le _⟩ (fun v9 w9 hp9 => ?_)
    obtain ⟨rfl, rfl⟩ := hp9
    refine fj_st (st' := .int (if (0 ≤ u ∧ u ≤ 2) then 1 else 0) :: []) rfl ?_
    refine fj_ifb_ne (tgt := 24) C dX6_lies_17 (by decide) (fun h17 => ?_) (fun h17 => ?_)
    · refine fj_iload_n C 3 dX6_lies_24 rfl rfl ?_
      refine fj_iconst (v := 2) C dX6_lies_25 (by decide) ?_
      refine fj_icmp_ne (tgt := 49) C dX6_lies_26 (by decide) (fun h26 => ?_) (fun h26 => ?_)
      · refine fj_aload_n C 0 dX6_lies_49 rfl rfl ?_
        refine fj_iload_n C 1 dX6_lies_50 rfl rfl ?_
        refine fj_iload_n C 2 dX6_lies_51 rfl rfl ?_
        refine fj_callVw (As := [.int i, .int j]) (rest := []) C (c_X6_findPlace l D ty t0 bd fm_g0 fm_n0 i j (by grind) (by grind)) (cwV 2 C.2.2.2.2.1 gX6_lies_X6_findPlace rfl rfl rfl (by decide +kernel) ⟨Nat.le_of_ble_eq_true rfl, Nat.le_of_ble_eq_true rfl⟩) ⟨0, 6, _, _, fm_at0 _ _ _ _ _, rfl, rfl⟩ rfl (Nat.le_of_ble_eq_true rfl) dX6_lies_52 ⟨Nat.zero_le _, Nat.zero_le _⟩ (fun v9 w9 hp9 => ?_)
        obtain ⟨rfl, rfl⟩ := hp9
        refine fj_ws (ws' := (fm_w bd ty fm_a0 fm_g0 (va_up (va_up fm_n0 13 (840 * fm_a0 15 (9 * j + i).toNatClampNeg)) 14 (840 * fm_a0 16 (9 * j + i).toNatClampNeg)))) rfl ?_
        refine fj_st (st' := .int 1 :: []) rfl ?_
        refine fj_if_ne (tgt := 64) C dX6_lies_55 (by decide) (fun _ => ?_) (fun h => absurd h (by decide))
        refine fj_iload_n C 3 dX6_lies_64 rfl rfl ?_
        refine fj_if_ne (tgt := 75) C dX6_lies_65 (by decide) (fun h65 => ?_) (fun h65 => ?_)
        · have eu : u = 1 := by grind
          refine fj_aload_n C 0 dX6_lies_75 rfl rfl ?_
          refine fj_get (Cn := RX6) (T := TX6) (N := 44) (ci := 6) (v := .int (840 * fm_a0 16 (9 * j + i).toNatClampNeg)) C iX6 0 (fm_at0 _ _ _ _ _) rfl 43 (by decide) kX6_307 rfl dX6_lies_76 ?_
          exact fj_iret C E9 dX6_lies_79 (by (repeat' split) <;> first | rfl | (exfalso; grind) | grind)
        · refine fj_aload_n C 0 dX6_lies_68 rfl rfl ?_
          refine fj_get (Cn := RX6) (T := TX6) (N := 44) (ci := 6) (v := .int (840 * fm_a0 15 (9 * j + i).toNatClampNeg)) C iX6 0 (fm_at0 _ _ _ _ _) rfl 42 (by decide) kX6_304 rfl dX6_lies_69 ?_
          refine fj_goto (tgt := 79) C dX6_lies_72 (by decide) ?_
          exact fj_iret C E9 dX6_lies_79 (by (repeat' split) <;> first | rfl | (exfalso; grind) | grind)
      · refine fj_aload_n C 0 dX6_lies_29 rfl rfl ?_
        refine fj_get (Cn := RX6) (T := TX6) (N := 44) (ci := 6) (v := .ref (bd 14)) C iX6 0 (fm_at0 _ _ _ _ _) rfl 19 (by decide) kX6_58 rfl dX6_lies_30 ?_
        refine fj_bipush (v := 9) C dX6_lies_33 (by decide) ?_
        refine fj_iload_n C 2 dX6_lies_35 rfl rfl ?_
        refine fj_imul C dX6_lies_36 ?_
        refine fj_iload_n C 1 dX6_lies_37 rfl rfl ?_
        refine fj_iadd C dX6_lies_38 ?_
        refine fj_zald (f := (fm_a0 14)) C 14 (fm_at14 _ _ _ _ _) (fx_ij (by grind) (by grind)) dX6_lies_39 ?_
        refine fj_at (y := 1) (fx_kn (by grind) (by grind)) ?_
        refine fj_if_eq (tgt := 47) C dX6_lies_40 (by decide) (fun h => absurd h (by decide)) (fun _ => ?_)
        refine fj_iconst (v := 1) C dX6_lies_43 (by decide) ?_
        refine fj_goto (tgt := 48) C dX6_lies_44 (by decide) ?_
        exact fj_iret C E9 dX6_lies_48 (by (repeat' split) <;> first | rfl | (exfalso; grind) | grind)
    · refine fj_sipush (v := (-1002)) C dX6_lies_20 (by decide) ?_
      exact fj_iret C E9 dX6_lies_23 (by (repeat' split) <;> first | rfl | (exfalso; grind) | grind)

set_option maxHeartbeats 4000000 in
set_option maxRecDepth 100000 in
theorem c_X6_area (l : Launch) (D : va_G) (ty : Nat → ClassId) (t0 : Nat) (bd : Nat → Nat) (q : Int32)  : fc l yX6_area wsX6_area (fj_rm 2 45 0 0) D ty t0 [.ref (bd 0), .int q] (fm_w bd ty fm_a0 fm_g0 fm_n0) 0 0 (fun v w => v = some (.long (if (0 ≤ q ∧ q ≤ 63) then fm_ar q else -1001))) := by
  refine fc_start (own := RX6) (cc := cX6_area) (maxL := 12) (ret := (some .long)) (by decide) rfl (Nat.le_of_ble_eq_true rfl) rfl ?_
  intro p e s m args below meth c Q A C hmn E9
  have iX6 : ∀ w ∈ u_ws RX6 TX6 44, w ∈ wsX6_area := fun _ h => List.mem_cons_of_mem _ (List.mem_append_right _ h)
  have kX6_304 : Cond.fieldLink RX6 304 "FreeLandModel" "lieX" "I" ∈ wsX6_area := (by decide +kernel)
  have kX6_307 : Cond.fieldLink RX6 307 "FreeLandModel" "lieY" "I" ∈ wsX6_area := (by decide +kernel)
  have kL319 : Cond.constantLong RX6 319 (-1001) ∈ wsX6_area := (by decide +kernel)
  refine fj_lv (lv' := [(0, .ref (bd 0)), (1, .int q)]) [0, 1] rfl ?_
  refine fj_iload_n C 1 dX6_area_0 rfl rfl ?_
  refine fj_callSw (As := [.int q]) (rest := []) C (c_X6_isQuarter l D ty t0 (fm_w bd ty fm_a0 fm_g0 fm_n0) q) (va_cwS 1 C.2.2.2.2.1 gX6_area_X6_isQuarter rfl rfl rfl (by decide +kernel) ⟨Nat.le_of_ble_eq_true rfl, Nat.le_of_ble_eq_true rfl⟩)  rfl (Nat.le_of_ble_eq_true rfl) dX6_area_1 ⟨Nat.zero_le _, Nat.zero_le _⟩ (fun v9 w9 hp9 => ?_)
  obtain ⟨rfl, rfl⟩ := hp9
  refine fj_st (st' := .int (if (0 ≤ q ∧ q ≤ 63) then 1 else 0) :: []) rfl ?_
  refine fj_ifb_ne (tgt := 11) C dX6_area_4 (by decide) (fun h4 => ?_) (fun h4 => ?_)
  · refine fj_iload_n C 1 dX6_area_11 rfl rfl ?_
    refine fj_bipush (v := 8) C dX6_area_12 (by decide) ?_
    refine fj_irem C dX6_area_14 (by decide) ?_
    refine fj_istore_n (lv' := [(2, .int (q - q / 8 * 8)), (0, .ref (bd 0)), (1, .int q)]) C dX6_area_15 rfl (by decide) rfl ?_
    refine fj_iload_n C 2 dX6_area_16 rfl rfl ?_
    refine fj_bipush (v := 8) C dX6_area_17 (by decide) ?_
    refine fj_idiv C dX6_area_19 (by decide) ?_
    refine fj_istore_n (lv' := [(3, .int (q / 8)), (2, .int (q - q / 8 * 8)), (0, .ref (bd 0)), (1, .int q)]) C dX6_area_20 rfl (by decide) rfl ?_
    refine fj_lconst (v := 0) C dX6_area_21 (by decide) ?_
    refine fj_lstore (lv' := [(4, .long 0), (3, .int (q / 8)), (2, .int (q - q / 8 * 8)), (0, .ref (bd 0)), (1, .int q)]) C dX6_area_22 (by decide) rfl ?_
    refine fj_aload_n C 3 dX6_area_24 rfl rfl ?_
    refine fj_iload_n C 2 dX6_area_25 rfl rfl ?_
    refine fj_iload_n C 1 dX6_area_26 rfl rfl ?_
    refine fj_iconst (v := 1) C dX6_area_27 (by decide) ?_
    refine fj_iadd C dX6_area_28 ?_
    refine fj_callVw (As := [.int (q - q / 8 * 8), .int ((q / 8) + 1)]) (rest := []) C (c_X6_findPlace l D ty t0 bd fm_g0 fm_n0 (q - q / 8 * 8) ((q / 8) + 1) (fx_i9 (fx_q8 h4).1) (fx_i1 (fx_q8 h4).2)) (cwV 2 C.2.2.2.2.1 gX6_area_X6_findPlace rfl rfl rfl (by decide +kernel) ⟨Nat.le_of_ble_eq_true rfl, Nat.le_of_ble_eq_true rfl⟩) ⟨0, 6, _, _, fm_at0 _ _ _ _ _, rfl, rfl⟩ rfl (Nat.le_of_ble_eq_true rfl) dX6_area_29 ⟨Nat.zero_le _, Nat.zero_le _⟩ (fun v9 w9 hp9 => ?_)
    obtain ⟨rfl, rfl⟩ := hp9
    refine fj_ws (ws' := (fm_w bd ty fm_a0 fm_g0 (va_up (va_up fm_n0 13 (840 * fm_a0 15 (9 * ((q / 8) + 1) + (q - q / 8 * 8)).toNatClampNeg)) 14 (840 * fm_a0 16 (9 * ((q / 8) + 1) + (q - q / 8 * 8)).toNatClampNeg)))) rfl ?_
    refine fj_st (st' := .int 1 :: []) rfl ?_
    refine fj_istore (lv' := [(6, .int 1), (4, .long 0), (3, .int (q / 8)), (2, .int (q - q / 8 * 8)), (0, .ref (bd 0)), (1, .int q)]) C dX6_area_32 (by decide) rfl ?_
    refine fj_aload_n C 4 dX6_area_34 rfl rfl ?_
    refine fj_get (Cn := RX6) (T := TX6) (N := 44) (ci := 6) (v := .int (840 * fm_a0 15 (9 * ((q / 8) + 1) + (q - q / 8 * 8)).toNatClampNeg)) C iX6 0 (fm_at0 _ _ _ _ _) rfl 42 (by decide) kX6_304 rfl dX6_area_35 ?_
    refine fj_i2l C dX6_area_38 ?_
    refine fj_lstore (lv' := [(7, .long ((840 * fm_a0 15 (9 * ((q / 8) + 1) + (q - q / 8 * 8)).toNatClampNeg).toInt64)), (6, .int 1), (4, .long 0), (3, .int (q / 8)), (2, .int (q - q / 8 * 8)), (0, .ref (bd 0)), (1, .int q)]) C dX6_area_39 (by decide) rfl ?_
    refine fj_aload_n C 5 dX6_area_41 rfl rfl ?_
    refine fj_get (Cn := RX6) (T := TX6) (N := 44) (ci := 6) (v := .int (840 * fm_a0 16 (9 * ((q / 8) + 1) + (q - q / 8 * 8)).toNatClampNeg)) C iX6 0 (fm_at0 _ _ _ _ _) rfl 43 (by decide) kX6_307 rfl dX6_area_42 ?_
    refine fj_i2l C dX6_area_45 ?_
    refine fj_lstore (lv' := [(9, .long ((840 * fm_a0 16 (9 * ((q / 8) + 1) + (q - q / 8 * 8)).toNatClampNeg).toInt64)), (7, .long ((840 * fm_a0 15 (9 * ((q / 8) + 1) + (q - q / 8 * 8)).toNatClampNeg).toInt64)), (6, .int 1), (4, .long 0), (3, .int (q / 8)), (2, .int (q - q / 8 * 8)), (0, .ref (bd 0)), (1, .int q)]) C dX6_area_46 (by decide) rfl ?_
    refine fj_iconst (v := 0) C dX6_area_48 (by decide) ?_
    refine fj_istore (lv' := [(11, .int 0), (9, .long ((840 * fm_a0 16 (9 * ((q / 8) + 1) + (q - q / 8 * 8)).toNatClampNeg).toInt64)), (7, .long ((840 * fm_a0 15 (9 * ((q / 8) + 1) + (q - q / 8 * 8)).toNatClampNeg).toInt64)), (6, .int 1), (4, .long 0), (3, .int (q / 8)), (2, .int (q - q / 8 * 8)), (0, .ref (bd 0)), (1, .int q)]) C dX6_area_49 (by decide) rfl ?_
    refine fj_iload C 0 dX6_area_51 rfl ?_
    refine fj_iconst (v := 4) C dX6_area_53 (by decide) ?_
    refine fj_icmp_ge (tgt := 150) C dX6_area_54 (by decide) (fun h => absurd h (by decide)) (fun _ => ?_)
    refine fj_aload_n C 7 dX6_area_57 rfl rfl ?_
    refine fj_iload C 0 dX6_area_58 rfl ?_
    refine fj_iconst (v := 1) C dX6_area_60 (by decide) ?_
    refine fj_icmp_eq (tgt := 70) C dX6_area_61 (by decide) (fun h => absurd h (by decide)) (fun _ => ?_)
    refine fj_iload C 0 dX6_area_64 rfl ?_
    refine fj_iconst (v := 2) C dX6_area_66 (by decide) ?_
    refine fj_icmp_ne (tgt := 76) C dX6_area_67 (by decide) (fun _ => ?_) (fun h => absurd h (by decide))
    refine fj_iload_n C 6 dX6_area_76 rfl rfl ?_
    refine fj_iload C 0 dX6_area_77 rfl ?_
    refine fj_iconst (v := 1) C dX6_area_79 (by decide) ?_
    refine fj_icmp_le (tgt := 89) C dX6_area_80 (by decide) (fun _ => ?_) (fun h => absurd (by decide) h)
    refine fj_iload_n C 5 dX6_area_89 rfl rfl ?_
    refine fj_callVw (As := [.int (q - q / 8 * 8), .int (q / 8)]) (rest := []) C (c_X6_findPlace l D ty t0 bd fm_g0 (va_up (va_up fm_n0 13 (840 * fm_a0 15 (9 * ((q / 8) + 1) + (q - q / 8 * 8)).toNatClampNeg)) 14 (840 * fm_a0 16 (9 * ((q / 8) + 1) + (q - q / 8 * 8)).toNatClampNeg)) (q - q / 8 * 8) (q / 8) (fx_i9 (fx_q8 h4).1) (fx_i9 (fx_q8 h4).2)) (cwV 2 C.2.2.2.2.1 gX6_area_X6_findPlace rfl rfl rfl (by decide +kernel) ⟨Nat.le_of_ble_eq_true rfl, Nat.le_of_ble_eq_true rfl⟩) ⟨0, 6, _, _, fm_at0 _ _ _ _ _, rfl, rfl⟩ rfl (Nat.le_of_ble_eq_true rfl) dX6_area_90 ⟨Nat.zero_le _, Nat.zero_le _⟩ (fun v9 w9 hp9 => ?_)
    obtain ⟨rfl, rfl⟩ := hp9
    refine fj_ws (ws' := (fm_w bd ty fm_a0 fm_g0 (va_up (va_up fm_n0 13 (840 * fm_a0 15 (9 * (q / 8) + (q - q / 8 * 8)).toNatClampNeg)) 14 (840 * fm_a0 16 (9 * (q / 8) + (q - q / 8 * 8)).toNatClampNeg)))) rfl ?_
    refine fj_st (st' := .int 1 :: []) rfl ?_
    refine fj_if_eq (tgt := 105) C dX6_area_93 (by decide) (fun h => absurd h (by decide)) (fun _ => ?_)
    refine fj_iload C 3 dX6_area_96 rfl ?_
    refine fj_if_eq (tgt := 105) C dX6_area_98 (by decide) (fun h => absurd h (by decide)) (fun _ => ?_)
    refine fj_iconst (v := 1) C dX6_area_101 (by decide) ?_
    refine fj_goto (tgt := 106) C dX6_area_102 (by decide) ?_
    refine fj_istore (lv' := [(6, .int 1), (11, .int 0), (9, .long ((840 * fm_a0 16 (9 * ((q / 8) + 1) + (q - q / 8 * 8)).toNatClampNeg).toInt64)), (7, .long ((840 * fm_a0 15 (9 * ((q / 8) + 1) + (q - q / 8 * 8)).toNatClampNeg).toInt64)), (4, .long 0), (3, .int (q / 8)), (2, .int (q - q / 8 * 8)), (0, .ref (bd 0)), (1, .int q)]) C dX6_area_106 (by decide) rfl ?_
    refine fj_lload C 4 dX6_area_108 rfl ?_
    refine fj_lload C 3 dX6_area_110 rfl ?_
    refine fj_aload_n C 7 dX6_area_112 rfl rfl ?_
    refine fj_get (Cn := RX6) (T := TX6) (N := 44) (ci := 6) (v := .int (840 * fm_a0 16 (9 * (q / 8) + (q - q / 8 * 8)).toNatClampNeg)) C iX6 0 (fm_at0 _ _ _ _ _) rfl 43 (by decide) kX6_307 rfl dX6_area_113 ?_
    refine fj_i2l C dX6_area_116 ?_
    refine fj_lmul C dX6_area_117 ?_
    refine fj_aload_n C 7 dX6_area_118 rfl rfl ?_
    refine fj_get (Cn := RX6) (T := TX6) (N := 44) (ci := 6) (v := .int (840 * fm_a0 15 (9 * (q / 8) + (q - q / 8 * 8)).toNatClampNeg)) C iX6 0 (fm_at0 _ _ _ _ _) rfl 42 (by decide) kX6_304 rfl dX6_area_119 ?_
    refine fj_i2l C dX6_area_122 ?_
    refine fj_lload C 2 dX6_area_123 rfl ?_
    refine fj_lmul C dX6_area_125 ?_
    refine fj_lsub C dX6_area_126 ?_
    refine fj_ladd C dX6_area_127 ?_
    refine fj_lstore (lv' := [(4, .long (0 + ((((840 * fm_a0 15 (9 * ((q / 8) + 1) + (q - q / 8 * 8)).toNatClampNeg).toInt64) * ((840 * fm_a0 16 (9 * (q / 8) + (q - q / 8 * 8)).toNatClampNeg).toInt64)) - (((840 * fm_a0 15 (9 * (q / 8) + (q - q / 8 * 8)).toNatClampNeg).toInt64) * ((840 * fm_a0 16 (9 * ((q / 8) + 1) + (q - q / 8 * 8)).toNatClampNeg).toInt64))))), (6, .int 1), (11, .int 0), (9, .long ((840 * fm_a0 16 (9 * ((q / 8) + 1) + (q - q / 8 * 8)).toNatClampNeg).toInt64)), (7, .long ((840 * fm_a0 15 (9 * ((q / 8) + 1) + (q - q / 8 * 8)).toNatClampNeg).toInt64)), (3, .int (q / 8)), (2, .int (q - q / 8 * 8)), (0, .ref (bd 0)), (1, .int q)]) C dX6_area_128 (by decide) rfl ?_
    refine fj_aload_n C 7 dX6_area_130 rfl rfl ?_
    refine fj_get (Cn := RX6) (T := TX6) (N := 44) (ci := 6) (v := .int (840 * fm_a0 15 (9 * (q / 8) + (q - q / 8 * 8)).toNatClampNeg)) C iX6 0 (fm_at0 _ _ _ _ _) rfl 42 (by decide) kX6_304 rfl dX6_area_131 ?_
    refine fj_i2l C dX6_area_134 ?_
    refine fj_lstore (lv' := [(7, .long ((840 * fm_a0 15 (9 * (q / 8) + (q - q / 8 * 8)).toNatClampNeg).toInt64)), (4, .long (0 + ((((840 * fm_a0 15 (9 * ((q / 8) + 1) + (q - q / 8 * 8)).toNatClampNeg).toInt64) * ((840 * fm_a0 16 (9 * (q / 8) + (q - q / 8 * 8)).toNatClampNeg).toInt64)) - (((840 * fm_a0 15 (9 * (q / 8) + (q - q / 8 * 8)).toNatClampNeg).toInt64) * ((840 * fm_a0 16 (9 * ((q / 8) + 1) + (q - q / 8 * 8)).toNatClampNeg).toInt64))))), (6, .int 1), (11, .int 0), (9, .long ((840 * fm_a0 16 (9 * ((q / 8) + 1) + (q - q / 8 * 8)).toNatClampNeg).toInt64)), (3, .int (q / 8)), (2, .int (q - q / 8 * 8)), (0, .ref (bd 0)), (1, .int q)]) C dX6_area_135 (by decide) rfl ?_
    refine fj_aload_n C 7 dX6_area_137 rfl rfl ?_
    refine fj_get (Cn := RX6) (T := TX6) (N := 44) (ci := 6) (v := .int (840 * fm_a0 16 (9 * (q / 8) + (q - q / 8 * 8)).toNatClampNeg)) C iX6 0 (fm_at0 _ _ _ _ _) rfl 43 (by decide) kX6_307 rfl dX6_area_138 ?_
    refine fj_i2l C dX6_area_141 ?_
    refine fj_lstore (lv' := [(9, .long ((840 * fm_a0 16 (9 * (q / 8) + (q - q / 8 * 8)).toNatClampNeg).toInt64)), (7, .long ((840 * fm_a0 15 (9 * (q / 8) + (q - q / 8 * 8)).toNatClampNeg).toInt64)), (4, .long (0 + ((((840 * fm_a0 15 (9 * ((q / 8) + 1) + (q - q / 8 * 8)).toNatClampNeg).toInt64) * ((840 * fm_a0 16 (9 * (q / 8) + (q - q / 8 * 8)).toNatClampNeg).toInt64)) - (((840 * fm_a0 15 (9 * (q / 8) + (q - q / 8 * 8)).toNatClampNeg).toInt64) * ((840 * fm_a0 16 (9 * ((q / 8) + 1) + (q - q / 8 * 8)).toNatClampNeg).toInt64))))), (6, .int 1), (11, .int 0), (3, .int (q / 8)), (2, .int (q - q / 8 * 8)), (0, .ref (bd 0)), (1, .int q)]) C dX6_area_142 (by decide) rfl ?_
    refine fj_iinc (v := 1) (lv' := [(11, .int 1), (9, .long ((840 * fm_a0 16 (9 * (q / 8) + (q - q / 8 * 8)).toNatClampNeg).toInt64)), (7, .long ((840 * fm_a0 15 (9 * (q / 8) + (q - q / 8 * 8)).toNatClampNeg).toInt64)), (4, .long (0 + ((((840 * fm_a0 15 (9 * ((q / 8) + 1) + (q - q / 8 * 8)).toNatClampNeg).toInt64) * ((840 * fm_a0 16 (9 * (q / 8) + (q - q / 8 * 8)).toNatClampNeg).toInt64)) - (((840 * fm_a0 15 (9 * (q / 8) + (q - q / 8 * 8)).toNatClampNeg).toInt64) * ((840 * fm_a0 16 (9 * ((q / 8) + 1) + (q - q / 8 * 8)).toNatClampNeg).toInt64))))), (6, .int 1), (3, .int (q / 8)), (2, .int (q - q / 8 * 8)), (0, .ref (bd 0)), (1, .int q)]) C 4 dX6_area_144 rfl (by decide) (by decide) rfl ?_
    refine fj_goto (tgt := 51) C dX6_area_147 (by decide) ?_
    refine fj_iload C 0 dX6_area_51 rfl ?_
    refine fj_iconst (v := 4) C dX6_area_53 (by decide) ?_
    refine fj_icmp_ge (tgt := 150) C dX6_area_54 (by decide) (fun h => absurd h (by decide)) (fun _ => ?_)
    refine fj_aload_n C 7 dX6_area_57 rfl rfl ?_
    refine fj_iload C 0 dX6_area_58 rfl ?_
    refine fj_iconst (v := 1) C dX6_area_60 (by decide) ?_
    refine fj_icmp_eq (tgt := 70) C dX6_area_61 (by decide) (fun _ => ?_) (fun h => absurd (by decide) h)
    refine fj_iload_n C 6 dX6_area_70 rfl rfl ?_
    refine fj_iconst (v := 1) C dX6_area_71 (by decide) ?_
    refine fj_iadd C dX6_area_72 ?_
    refine fj_goto (tgt := 77) C dX6_area_73 (by decide) ?_
    refine fj_iload C 0 dX6_area_77 rfl ?_
    refine fj_iconst (v := 1) C dX6_area_79 (by decide) ?_
    refine fj_icmp_le (tgt := 89) C dX6_area_80 (by decide) (fun _ => ?_) (fun h => absurd (by decide) h)
    refine fj_iload_n C 5 dX6_area_89 rfl rfl ?_
    refine fj_callVw (As := [.int ((q - q / 8 * 8) + 1), .int (q / 8)]) (rest := []) C (c_X6_findPlace l D ty t0 bd fm_g0 (va_up (va_up fm_n0 13 (840 * fm_a0 15 (9 * (q / 8) + (q - q / 8 * 8)).toNatClampNeg)) 14 (840 * fm_a0 16 (9 * (q / 8) + (q - q / 8 * 8)).toNatClampNeg)) ((q - q / 8 * 8) + 1) (q / 8) (fx_i1 (fx_q8 h4).1) (fx_i9 (fx_q8 h4).2)) (cwV 2 C.2.2.2.2.1 gX6_area_X6_findPlace rfl rfl rfl (by decide +kernel) ⟨Nat.le_of_ble_eq_true rfl, Nat.le_of_ble_eq_true rfl⟩) ⟨0, 6, _, _, fm_at0 _ _ _ _ _, rfl, rfl⟩ rfl (Nat.le_of_ble_eq_true rfl) dX6_area_90 ⟨Nat.zero_le _, Nat.zero_le _⟩ (fun v9 w9 hp9 => ?_)
    obtain ⟨rfl, rfl⟩ := hp9
    refine fj_ws (ws' := (fm_w bd ty fm_a0 fm_g0 (va_up (va_up fm_n0 13 (840 * fm_a0 15 (9 * (q / 8) + ((q - q / 8 * 8) + 1)).toNatClampNeg)) 14 (840 * fm_a0 16 (9 * (q / 8) + ((q - q / 8 * 8) + 1)).toNatClampNeg)))) rfl ?_
    refine fj_st (st' := .int 1 :: []) rfl ?_
    refine fj_if_eq (tgt := 105) C dX6_area_93 (by decide) (fun h => absurd h (by decide)) (fun _ => ?_)
    refine fj_iload C 4 dX6_area_96 rfl ?_
    refine fj_if_eq (tgt := 105) C dX6_area_98 (by decide) (fun h => absurd h (by decide)) (fun _ => ?_)
    refine fj_iconst (v := 1) C dX6_area_101 (by decide) ?_
    refine fj_goto (tgt := 106) C dX6_area_102 (by decide) ?_
    refine fj_istore (lv' := [(6, .int 1), (11, .int 1), (9, .long ((840 * fm_a0 16 (9 * (q / 8) + (q - q / 8 * 8)).toNatClampNeg).toInt64)), (7, .long ((840 * fm_a0 15 (9 * (q / 8) + (q - q / 8 * 8)).toNatClampNeg).toInt64)), (4, .long (0 + ((((840 * fm_a0 15 (9 * ((q / 8) + 1) + (q - q / 8 * 8)).toNatClampNeg).toInt64) * ((840 * fm_a0 16 (9 * (q / 8) + (q - q / 8 * 8)).toNatClampNeg).toInt64)) - (((840 * fm_a0 15 (9 * (q / 8) + (q - q / 8 * 8)).toNatClampNeg).toInt64) * ((840 * fm_a0 16 (9 * ((q / 8) + 1) + (q - q / 8 * 8)).toNatClampNeg).toInt64))))), (3, .int (q / 8)), (2, .int (q - q / 8 * 8)), (0, .ref (bd 0)), (1, .int q)]) C dX6_area_106 (by decide) rfl ?_
    refine fj_lload C 4 dX6_area_108 rfl ?_
    refine fj_lload C 3 dX6_area_110 rfl ?_
    refine fj_aload_n C 7 dX6_area_112 rfl rfl ?_
    refine fj_get (Cn := RX6) (T := TX6) (N := 44) (ci := 6) (v := .int (840 * fm_a0 16 (9 * (q / 8) + ((q - q / 8 * 8) + 1)).toNatClampNeg)) C iX6 0 (fm_at0 _ _ _ _ _) rfl 43 (by decide) kX6_307 rfl dX6_area_113 ?_
    refine fj_i2l C dX6_area_116 ?_
    refine fj_lmul C dX6_area_117 ?_
    refine fj_aload_n C 7 dX6_area_118 rfl rfl ?_
    refine fj_get (Cn := RX6) (T := TX6) (N := 44) (ci := 6) (v := .int (840 * fm_a0 15 (9 * (q / 8) + ((q - q / 8 * 8) + 1)).toNatClampNeg)) C iX6 0 (fm_at0 _ _ _ _ _) rfl 42 (by decide) kX6_304 rfl dX6_area_119 ?_
    refine fj_i2l C dX6_area_122 ?_
    refine fj_lload C 2 dX6_area_123 rfl ?_
    refine fj_lmul C dX6_area_125 ?_
    refine fj_lsub C dX6_area_126 ?_
    refine fj_ladd C dX6_area_127 ?_
    refine fj_lstore (lv' := [(4, .long ((0 + ((((840 * fm_a0 15 (9 * ((q / 8) + 1) + (q - q / 8 * 8)).toNatClampNeg).toInt64) * ((840 * fm_a0 16 (9 * (q / 8) + (q - q / 8 * 8)).toNatClampNeg).toInt64)) - (((840 * fm_a0 15 (9 * (q / 8) + (q - q / 8 * 8)).toNatClampNeg).toInt64) * ((840 * fm_a0 16 (9 * ((q / 8) + 1) + (q - q / 8 * 8)).toNatClampNeg).toInt64)))) + ((((840 * fm_a0 15 (9 * (q / 8) + (q - q / 8 * 8)).toNatClampNeg).toInt64) * ((840 * fm_a0 16 (9 * (q / 8) + ((q - q / 8 * 8) + 1)).toNatClampNeg).toInt64)) - (((840 * fm_a0 15 (9 * (q / 8) + ((q - q / 8 * 8) + 1)).toNatClampNeg).toInt64) * ((840 * fm_a0 16 (9 * (q / 8) + (q - q / 8 * 8)).toNatClampNeg).toInt64))))), (6, .int 1), (11, .int 1), (9, .long ((840 * fm_a0 16 (9 * (q / 8) + (q - q / 8 * 8)).toNatClampNeg).toInt64)), (7, .long ((840 * fm_a0 15 (9 * (q / 8) + (q - q / 8 * 8)).toNatClampNeg).toInt64)), (3, .int (q / 8)), (2, .int (q - q / 8 * 8)), (0, .ref (bd 0)), (1, .int q)]) C dX6_area_128 (by decide) rfl ?_
    refine fj_aload_n C 7 dX6_area_130 rfl rfl ?_
    refine fj_get (Cn := RX6) (T := TX6) (N := 44) (ci := 6) (v := .int (840 * fm_a0 15 (9 * (q / 8) + ((q - q / 8 * 8) + 1)).toNatClampNeg)) C iX6 0 (fm_at0 _ _ _ _ _) rfl 42 (by decide) kX6_304 rfl dX6_area_131 ?_
    refine fj_i2l C dX6_area_134 ?_
    refine fj_lstore (lv' := [(7, .long ((840 * fm_a0 15 (9 * (q / 8) + ((q - q / 8 * 8) + 1)).toNatClampNeg).toInt64)), (4, .long ((0 + ((((840 * fm_a0 15 (9 * ((q / 8) + 1) + (q - q / 8 * 8)).toNatClampNeg).toInt64) * ((840 * fm_a0 16 (9 * (q / 8) + (q - q / 8 * 8)).toNatClampNeg).toInt64)) - (((840 * fm_a0 15 (9 * (q / 8) + (q - q / 8 * 8)).toNatClampNeg).toInt64) * ((840 * fm_a0 16 (9 * ((q / 8) + 1) + (q - q / 8 * 8)).toNatClampNeg).toInt64)))) + ((((840 * fm_a0 15 (9 * (q / 8) + (q - q / 8 * 8)).toNatClampNeg).toInt64) * ((840 * fm_a0 16 (9 * (q / 8) + ((q - q / 8 * 8) + 1)).toNatClampNeg).toInt64)) - (((840 * fm_a0 15 (9 * (q / 8) + ((q - q / 8 * 8) + 1)).toNatClampNeg).toInt64) * ((840 * fm_a0 16 (9 * (q / 8) + (q - q / 8 * 8)).toNatClampNeg).toInt64))))), (6, .int 1), (11, .int 1), (9, .long ((840 * fm_a0 16 (9 * (q / 8) + (q - q / 8 * 8)).toNatClampNeg).toInt64)), (3, .int (q / 8)), (2, .int (q - q / 8 * 8)), (0, .ref (bd 0)), (1, .int q)]) C dX6_area_135 (by decide) rfl ?_
    refine fj_aload_n C 7 dX6_area_137 rfl rfl ?_
    refine fj_get (Cn := RX6) (T := TX6) (N := 44) (ci := 6) (v := .int (840 * fm_a0 16 (9 * (q / 8) + ((q - q / 8 * 8) + 1)).toNatClampNeg)) C iX6 0 (fm_at0 _ _ _ _ _) rfl 43 (by decide) kX6_307 rfl dX6_area_138 ?_
    refine fj_i2l C dX6_area_141 ?_
    refine fj_lstore (lv' := [(9, .long ((840 * fm_a0 16 (9 * (q / 8) + ((q - q / 8 * 8) + 1)).toNatClampNeg).toInt64)), (7, .long ((840 * fm_a0 15 (9 * (q / 8) + ((q - q / 8 * 8) + 1)).toNatClampNeg).toInt64)), (4, .long ((0 + ((((840 * fm_a0 15 (9 * ((q / 8) + 1) + (q - q / 8 * 8)).toNatClampNeg).toInt64) * ((840 * fm_a0 16 (9 * (q / 8) + (q - q / 8 * 8)).toNatClampNeg).toInt64)) - (((840 * fm_a0 15 (9 * (q / 8) + (q - q / 8 * 8)).toNatClampNeg).toInt64) * ((840 * fm_a0 16 (9 * ((q / 8) + 1) + (q - q / 8 * 8)).toNatClampNeg).toInt64)))) + ((((840 * fm_a0 15 (9 * (q / 8) + (q - q / 8 * 8)).toNatClampNeg).toInt64) * ((840 * fm_a0 16 (9 * (q / 8) + ((q - q / 8 * 8) + 1)).toNatClampNeg).toInt64)) - (((840 * fm_a0 15 (9 * (q / 8) + ((q - q / 8 * 8) + 1)).toNatClampNeg).toInt64) * ((840 * fm_a0 16 (9 * (q / 8) + (q - q / 8 * 8)).toNatClampNeg).toInt64))))), (6, .int 1), (11, .int 1), (3, .int (q / 8)), (2, .int (q - q / 8 * 8)), (0, .ref (bd 0)), (1, .int q)]) C dX6_area_142 (by decide) rfl ?_
    refine fj_iinc (v := 2) (lv' := [(11, .int 2), (9, .long ((840 * fm_a0 16 (9 * (q / 8) + ((q - q / 8 * 8) + 1)).toNatClampNeg).toInt64)), (7, .long ((840 * fm_a0 15 (9 * (q / 8) + ((q - q / 8 * 8) + 1)).toNatClampNeg).toInt64)), (4, .long ((0 + ((((840 * fm_a0 15 (9 * ((q / 8) + 1) + (q - q / 8 * 8)).toNatClampNeg).toInt64) * ((840 * fm_a0 16 (9 * (q / 8) + (q - q / 8 * 8)).toNatClampNeg).toInt64)) - (((840 * fm_a0 15 (9 * (q / 8) + (q - q / 8 * 8)).toNatClampNeg).toInt64) * ((840 * fm_a0 16 (9 * ((q / 8) + 1) + (q - q / 8 * 8)).toNatClampNeg).toInt64)))) + ((((840 * fm_a0 15 (9 * (q / 8) + (q - q / 8 * 8)).toNatClampNeg).toInt64) * ((840 * fm_a0 16 (9 * (q / 8) + ((q - q / 8 * 8) + 1)).toNatClampNeg).toInt64)) - (((840 * fm_a0 15 (9 * (q / 8) + ((q - q / 8 * 8) + 1)).toNatClampNeg).toInt64) * ((840 * fm_a0 16 (9 * (q / 8) + (q - q / 8 * 8)).toNatClampNeg).toInt64))))), (6, .int 1), (3, .int (q / 8)), (2, .int (q - q / 8 * 8)), (0, .ref (bd 0)), (1, .int q)]) C 4 dX6_area_144 rfl (by decide) (by decide) rfl ?_
    refine fj_goto (tgt := 51) C dX6_area_147 (by decide) ?_
    refine fj_iload C 0 dX6_area_51 rfl ?_
    refine fj_iconst (v := 4) C dX6_area_53 (by decide) ?_
    refine fj_icmp_ge (tgt := 150) C dX6_area_54 (by decide) (fun h => absurd h (by decide)) (fun _ => ?_)
    refine fj_aload_n C 7 dX6_area_57 rfl rfl ?_
    refine fj_iload C 0 dX6_area_58 rfl ?_
    refine fj_iconst (v := 1) C dX6_area_60 (by decide) ?_
    refine fj_icmp_eq (tgt := 70) C dX6_area_61 (by decide) (fun h => absurd h (by decide)) (fun _ => ?_)
    refine fj_iload C 0 dX6_area_64 rfl ?_
    refine fj_iconst (v := 2) C dX6_area_66 (by decide) ?_
    refine fj_icmp_ne (tgt := 76) C dX6_area_67 (by decide) (fun h => absurd (by decide) h) (fun _ => ?_)
    refine fj_iload_n C 6 dX6_area_70 rfl rfl ?_
    refine fj_iconst (v := 1) C dX6_area_71 (by decide) ?_
    refine fj_iadd C dX6_area_72 ?_
    refine fj_goto (tgt := 77) C dX6_area_73 (by decide) ?_
    refine fj_iload C 0 dX6_area_77 rfl ?_
    refine fj_iconst (v := 1) C dX6_area_79 (by decide) ?_
    refine fj_icmp_le (tgt := 89) C dX6_area_80 (by decide) (fun h => absurd h (by decide)) (fun _ => ?_)
    refine fj_iload_n C 5 dX6_area_83 rfl rfl ?_
    refine fj_iconst (v := 1) C dX6_area_84 (by decide) ?_
    refine fj_iadd C dX6_area_85 ?_
    refine fj_goto (tgt := 90) C dX6_area_86 (by decide) ?_
    refine fj_callVw (As := [.int ((q - q / 8 * 8) + 1), .int ((q / 8) + 1)]) (rest := []) C (c_X6_findPlace l D ty t0 bd fm_g0 (va_up (va_up fm_n0 13 (840 * fm_a0 15 (9 * (q / 8) + ((q - q / 8 * 8) + 1)).toNatClampNeg)) 14 (840 * fm_a0 16 (9 * (q / 8) + ((q - q / 8 * 8) + 1)).toNatClampNeg)) ((q - q / 8 * 8) + 1) ((q / 8) + 1) (fx_i1 (fx_q8 h4).1) (fx_i1 (fx_q8 h4).2)) (cwV 2 C.2.2.2.2.1 gX6_area_X6_findPlace rfl rfl rfl (by decide +kernel) ⟨Nat.le_of_ble_eq_true rfl, Nat.le_of_ble_eq_true rfl⟩) ⟨0, 6, _, _, fm_at0 _ _ _ _ _, rfl, rfl⟩ rfl (Nat.le_of_ble_eq_true rfl) dX6_area_90 ⟨Nat.zero_le _, Nat.zero_le _⟩ (fun v9 w9 hp9 => ?_)
    obtain ⟨rfl, rfl⟩ := hp9
    refine fj_ws (ws' := (fm_w bd ty fm_a0 fm_g0 (va_up (va_up fm_n0 13 (840 * fm_a0 15 (9 * ((q / 8) + 1) + ((q - q / 8 * 8) + 1)).toNatClampNeg)) 14 (840 * fm_a0 16 (9 * ((q / 8) + 1) + ((q - q / 8 * 8) + 1)).toNatClampNeg)))) rfl ?_
    refine fj_st (st' := .int 1 :: []) rfl ?_
    refine fj_if_eq (tgt := 105) C dX6_area_93 (by decide) (fun h => absurd h (by decide)) (fun _ => ?_)
    refine fj_iload C 4 dX6_area_96 rfl ?_
    refine fj_if_eq (tgt := 105) C dX6_area_98 (by decide) (fun h => absurd h (by decide)) (fun _ => ?_)
    refine fj_iconst (v := 1) C dX6_area_101 (by decide) ?_
    refine fj_goto (tgt := 106) C dX6_area_102 (by decide) ?_
    refine fj_istore (lv' := [(6, .int 1), (11, .int 2), (9, .long ((840 * fm_a0 16 (9 * (q / 8) + ((q - q / 8 * 8) + 1)).toNatClampNeg).toInt64)), (7, .long ((840 * fm_a0 15 (9 * (q / 8) + ((q - q / 8 * 8) + 1)).toNatClampNeg).toInt64)), (4, .long ((0 + ((((840 * fm_a0 15 (9 * ((q / 8) + 1) + (q - q / 8 * 8)).toNatClampNeg).toInt64) * ((840 * fm_a0 16 (9 * (q / 8) + (q - q / 8 * 8)).toNatClampNeg).toInt64)) - (((840 * fm_a0 15 (9 * (q / 8) + (q - q / 8 * 8)).toNatClampNeg).toInt64) * ((840 * fm_a0 16 (9 * ((q / 8) + 1) + (q - q / 8 * 8)).toNatClampNeg).toInt64)))) + ((((840 * fm_a0 15 (9 * (q / 8) + (q - q / 8 * 8)).toNatClampNeg).toInt64) * ((840 * fm_a0 16 (9 * (q / 8) + ((q - q / 8 * 8) + 1)).toNatClampNeg).toInt64)) - (((840 * fm_a0 15 (9 * (q / 8) + ((q - q / 8 * 8) + 1)).toNatClampNeg).toInt64) * ((840 * fm_a0 16 (9 * (q / 8) + (q - q / 8 * 8)).toNatClampNeg).toInt64))))), (3, .int (q / 8)), (2, .int (q - q / 8 * 8)), (0, .ref (bd 0)), (1, .int q)]) C dX6_area_106 (by decide) rfl ?_
    refine fj_lload C 4 dX6_area_108 rfl ?_
    refine fj_lload C 3 dX6_area_110 rfl ?_
    refine fj_aload_n C 7 dX6_area_112 rfl rfl ?_
    refine fj_get (Cn := RX6) (T := TX6) (N := 44) (ci := 6) (v := .int (840 * fm_a0 16 (9 * ((q / 8) + 1) + ((q - q / 8 * 8) + 1)).toNatClampNeg)) C iX6 0 (fm_at0 _ _ _ _ _) rfl 43 (by decide) kX6_307 rfl dX6_area_113 ?_
    refine fj_i2l C dX6_area_116 ?_
    refine fj_lmul C dX6_area_117 ?_
    refine fj_aload_n C 7 dX6_area_118 rfl rfl ?_
    refine fj_get (Cn := RX6) (T := TX6) (N := 44) (ci := 6) (v := .int (840 * fm_a0 15 (9 * ((q / 8) + 1) + ((q - q / 8 * 8) + 1)).toNatClampNeg)) C iX6 0 (fm_at0 _ _ _ _ _) rfl 42 (by decide) kX6_304 rfl dX6_area_119 ?_
    refine fj_i2l C dX6_area_122 ?_
    refine fj_lload C 2 dX6_area_123 rfl ?_
    refine fj_lmul C dX6_area_125 ?_
    refine fj_lsub C dX6_area_126 ?_
    refine fj_ladd C dX6_area_127 ?_
    refine fj_lstore (lv' := [(4, .long (((0 + ((((840 * fm_a0 15 (9 * ((q / 8) + 1) + (q - q / 8 * 8)).toNatClampNeg).toInt64) * ((840 * fm_a0 16 (9 * (q / 8) + (q - q / 8 * 8)).toNatClampNeg).toInt64)) - (((840 * fm_a0 15 (9 * (q / 8) + (q - q / 8 * 8)).toNatClampNeg).toInt64) * ((840 * fm_a0 16 (9 * ((q / 8) + 1) + (q - q / 8 * 8)).toNatClampNeg).toInt64)))) + ((((840 * fm_a0 15 (9 * (q / 8) + (q - q / 8 * 8)).toNatClampNeg).toInt64) * ((840 * fm_a0 16 (9 * (q / 8) + ((q - q / 8 * 8) + 1)).toNatClampNeg).toInt64)) - (((840 * fm_a0 15 (9 * (q / 8) + ((q - q / 8 * 8) + 1)).toNatClampNeg).toInt64) * ((840 * fm_a0 16 (9 * (q / 8) + (q - q / 8 * 8)).toNatClampNeg).toInt64)))) + ((((840 * fm_a0 15 (9 * (q / 8) + ((q - q / 8 * 8) + 1)).toNatClampNeg).toInt64) * ((840 * fm_a0 16 (9 * ((q / 8) + 1) + ((q - q / 8 * 8) + 1)).toNatClampNeg).toInt64)) - (((840 * fm_a0 15 (9 * ((q / 8) + 1) + ((q - q / 8 * 8) + 1)).toNatClampNeg).toInt64) * ((840 * fm_a0 16 (9 * (q / 8) + ((q - q / 8 * 8) + 1)).toNatClampNeg).toInt64))))), (6, .int 1), (11, .int 2), (9, .long ((840 * fm_a0 16 (9 * (q / 8) + ((q - q / 8 * 8) + 1)).toNatClampNeg).toInt64)), (7, .long ((840 * fm_a0 15 (9 * (q / 8) + ((q - q / 8 * 8) + 1)).toNatClampNeg).toInt64)), (3, .int (q / 8)), (2, .int (q - q / 8 * 8)), (0, .ref (bd 0)), (1, .int q)]) C dX6_area_128 (by decide) rfl ?_
    refine fj_aload_n C 7 dX6_area_130 rfl rfl ?_
    refine fj_get (Cn := RX6) (T := TX6) (N := 44) (ci := 6) (v := .int (840 * fm_a0 15 (9 * ((q / 8) + 1) + ((q - q / 8 * 8) + 1)).toNatClampNeg)) C iX6 0 (fm_at0 _ _ _ _ _) rfl 42 (by decide) kX6_304 rfl dX6_area_131 ?_
    refine fj_i2l C dX6_area_134 ?_
    refine fj_lstore (lv' := [(7, .long ((840 * fm_a0 15 (9 * ((q / 8) + 1) + ((q - q / 8 * 8) + 1)).toNatClampNeg).toInt64)), (4, .long (((0 + ((((840 * fm_a0 15 (9 * ((q / 8) + 1) + (q - q / 8 * 8)).toNatClampNeg).toInt64) * ((840 * fm_a0 16 (9 * (q / 8) + (q - q / 8 * 8)).toNatClampNeg).toInt64)) - (((840 * fm_a0 15 (9 * (q / 8) + (q - q / 8 * 8)).toNatClampNeg).toInt64) * ((840 * fm_a0 16 (9 * ((q / 8) + 1) + (q - q / 8 * 8)).toNatClampNeg).toInt64)))) + ((((840 * fm_a0 15 (9 * (q / 8) + (q - q / 8 * 8)).toNatClampNeg).toInt64) * ((840 * fm_a0 16 (9 * (q / 8) + ((q - q / 8 * 8) + 1)).toNatClampNeg).toInt64)) - (((840 * fm_a0 15 (9 * (q / 8) + ((q - q / 8 * 8) + 1)).toNatClampNeg).toInt64) * ((840 * fm_a0 16 (9 * (q / 8) + (q - q / 8 * 8)).toNatClampNeg).toInt64)))) + ((((840 * fm_a0 15 (9 * (q / 8) + ((q - q / 8 * 8) + 1)).toNatClampNeg).toInt64) * ((840 * fm_a0 16 (9 * ((q / 8) + 1) + ((q - q / 8 * 8) + 1)).toNatClampNeg).toInt64)) - (((840 * fm_a0 15 (9 * ((q / 8) + 1) + ((q - q / 8 * 8) + 1)).toNatClampNeg).toInt64) * ((840 * fm_a0 16 (9 * (q / 8) + ((q - q / 8 * 8) + 1)).toNatClampNeg).toInt64))))), (6, .int 1), (11, .int 2), (9, .long ((840 * fm_a0 16 (9 * (q / 8) + ((q - q / 8 * 8) + 1)).toNatClampNeg).toInt64)), (3, .int (q / 8)), (2, .int (q - q / 8 * 8)), (0, .ref (bd 0)), (1, .int q)]) C dX6_area_135 (by decide) rfl ?_
    refine fj_aload_n C 7 dX6_area_137 rfl rfl ?_
    refine fj_get (Cn := RX6) (T := TX6) (N := 44) (ci := 6) (v := .int (840 * fm_a0 16 (9 * ((q / 8) + 1) + ((q - q / 8 * 8) + 1)).toNatClampNeg)) C iX6 0 (fm_at0 _ _ _ _ _) rfl 43 (by decide) kX6_307 rfl dX6_area_138 ?_
    refine fj_i2l C dX6_area_141 ?_
    refine fj_lstore (lv' := [(9, .long ((840 * fm_a0 16 (9 * ((q / 8) + 1) + ((q - q / 8 * 8) + 1)).toNatClampNeg).toInt64)), (7, .long ((840 * fm_a0 15 (9 * ((q / 8) + 1) + ((q - q / 8 * 8) + 1)).toNatClampNeg).toInt64)), (4, .long (((0 + ((((840 * fm_a0 15 (9 * ((q / 8) + 1) + (q - q / 8 * 8)).toNatClampNeg).toInt64) * ((840 * fm_a0 16 (9 * (q / 8) + (q - q / 8 * 8)).toNatClampNeg).toInt64)) - (((840 * fm_a0 15 (9 * (q / 8) + (q - q / 8 * 8)).toNatClampNeg).toInt64) * ((840 * fm_a0 16 (9 * ((q / 8) + 1) + (q - q / 8 * 8)).toNatClampNeg).toInt64)))) + ((((840 * fm_a0 15 (9 * (q / 8) + (q - q / 8 * 8)).toNatClampNeg).toInt64) * ((840 * fm_a0 16 (9 * (q / 8) + ((q - q / 8 * 8) + 1)).toNatClampNeg).toInt64)) - (((840 * fm_a0 15 (9 * (q / 8) + ((q - q / 8 * 8) + 1)).toNatClampNeg).toInt64) * ((840 * fm_a0 16 (9 * (q / 8) + (q - q / 8 * 8)).toNatClampNeg).toInt64)))) + ((((840 * fm_a0 15 (9 * (q / 8) + ((q - q / 8 * 8) + 1)).toNatClampNeg).toInt64) * ((840 * fm_a0 16 (9 * ((q / 8) + 1) + ((q - q / 8 * 8) + 1)).toNatClampNeg).toInt64)) - (((840 * fm_a0 15 (9 * ((q / 8) + 1) + ((q - q / 8 * 8) + 1)).toNatClampNeg).toInt64) * ((840 * fm_a0 16 (9 * (q / 8) + ((q - q / 8 * 8) + 1)).toNatClampNeg).toInt64))))), (6, .int 1), (11, .int 2), (3, .int (q / 8)), (2, .int (q - q / 8 * 8)), (0, .ref (bd 0)), (1, .int q)]) C dX6_area_142 (by decide) rfl ?_
    refine fj_iinc (v := 3) (lv' := [(11, .int 3), (9, .long ((840 * fm_a0 16 (9 * ((q / 8) + 1) + ((q - q / 8 * 8) + 1)).toNatClampNeg).toInt64)), (7, .long ((840 * fm_a0 15 (9 * ((q / 8) + 1) + ((q - q / 8 * 8) + 1)).toNatClampNeg).toInt64)), (4, .long (((0 + ((((840 * fm_a0 15 (9 * ((q / 8) + 1) + (q - q / 8 * 8)).toNatClampNeg).toInt64) * ((840 * fm_a0 16 (9 * (q / 8) + (q - q / 8 * 8)).toNatClampNeg).toInt64)) - (((840 * fm_a0 15 (9 * (q / 8) + (q - q / 8 * 8)).toNatClampNeg).toInt64) * ((840 * fm_a0 16 (9 * ((q / 8) + 1) + (q - q / 8 * 8)).toNatClampNeg).toInt64)))) + ((((840 * fm_a0 15 (9 * (q / 8) + (q - q / 8 * 8)).toNatClampNeg).toInt64) * ((840 * fm_a0 16 (9 * (q / 8) + ((q - q / 8 * 8) + 1)).toNatClampNeg).toInt64)) - (((840 * fm_a0 15 (9 * (q / 8) + ((q - q / 8 * 8) + 1)).toNatClampNeg).toInt64) * ((840 * fm_a0 16 (9 * (q / 8) + (q - q / 8 * 8)).toNatClampNeg).toInt64)))) + ((((840 * fm_a0 15 (9 * (q / 8) + ((q - q / 8 * 8) + 1)).toNatClampNeg).toInt64) * ((840 * fm_a0 16 (9 * ((q / 8) + 1) + ((q - q / 8 * 8) + 1)).toNatClampNeg).toInt64)) - (((840 * fm_a0 15 (9 * ((q / 8) + 1) + ((q - q / 8 * 8) + 1)).toNatClampNeg).toInt64) * ((840 * fm_a0 16 (9 * (q / 8) + ((q - q / 8 * 8) + 1)).toNatClampNeg).toInt64))))), (6, .int 1), (3, .int (q / 8)), (2, .int (q - q / 8 * 8)), (0, .ref (bd 0)), (1, .int q)]) C 4 dX6_area_144 rfl (by decide) (by decide) rfl ?_
    refine fj_goto (tgt := 51) C dX6_area_147 (by decide) ?_
    refine fj_iload C 0 dX6_area_51 rfl ?_
    refine fj_iconst (v := 4) C dX6_area_53 (by decide) ?_
    refine fj_icmp_ge (tgt := 150) C dX6_area_54 (by decide) (fun h => absurd h (by decide)) (fun _ => ?_)
    refine fj_aload_n C 7 dX6_area_57 rfl rfl ?_
    refine fj_iload C 0 dX6_area_58 rfl ?_
    refine fj_iconst (v := 1) C dX6_area_60 (by decide) ?_
    refine fj_icmp_eq (tgt := 70) C dX6_area_61 (by decide) (fun h => absurd h (by decide)) (fun _ => ?_)
    refine fj_iload C 0 dX6_area_64 rfl ?_
    refine fj_iconst (v := 2) C dX6_area_66 (by decide) ?_
    refine fj_icmp_ne (tgt := 76) C dX6_area_67 (by decide) (fun _ => ?_) (fun h => absurd h (by decide))
    refine fj_iload_n C 6 dX6_area_76 rfl rfl ?_
    refine fj_iload C 0 dX6_area_77 rfl ?_
    refine fj_iconst (v := 1) C dX6_area_79 (by decide) ?_
    refine fj_icmp_le (tgt := 89) C dX6_area_80 (by decide) (fun h => absurd h (by decide)) (fun _ => ?_)
    refine fj_iload_n C 5 dX6_area_83 rfl rfl ?_
    refine fj_iconst (v := 1) C dX6_area_84 (by decide) ?_
    refine fj_iadd C dX6_area_85 ?_
    refine fj_goto (tgt := 90) C dX6_area_86 (by decide) ?_
    refine fj_callVw (As := [.int (q - q / 8 * 8), .int ((q / 8) + 1)]) (rest := []) C (c_X6_findPlace l D ty t0 bd fm_g0 (va_up (va_up fm_n0 13 (840 * fm_a0 15 (9 * ((q / 8) + 1) + ((q - q / 8 * 8) + 1)).toNatClampNeg)) 14 (840 * fm_a0 16 (9 * ((q / 8) + 1) + ((q - q / 8 * 8) + 1)).toNatClampNeg)) (q - q / 8 * 8) ((q / 8) + 1) (fx_i9 (fx_q8 h4).1) (fx_i1 (fx_q8 h4).2)) (cwV 2 C.2.2.2.2.1 gX6_area_X6_findPlace rfl rfl rfl (by decide +kernel) ⟨Nat.le_of_ble_eq_true rfl, Nat.le_of_ble_eq_true rfl⟩) ⟨0, 6, _, _, fm_at0 _ _ _ _ _, rfl, rfl⟩ rfl (Nat.le_of_ble_eq_true rfl) dX6_area_90 ⟨Nat.zero_le _, Nat.zero_le _⟩ (fun v9 w9 hp9 => ?_)
    obtain ⟨rfl, rfl⟩ := hp9
    refine fj_ws (ws' := (fm_w bd ty fm_a0 fm_g0 (va_up (va_up fm_n0 13 (840 * fm_a0 15 (9 * ((q / 8) + 1) + (q - q / 8 * 8)).toNatClampNeg)) 14 (840 * fm_a0 16 (9 * ((q / 8) + 1) + (q - q / 8 * 8)).toNatClampNeg)))) rfl ?_
    refine fj_st (st' := .int 1 :: []) rfl ?_
    refine fj_if_eq (tgt := 105) C dX6_area_93 (by decide) (fun h => absurd h (by decide)) (fun _ => ?_)
    refine fj_iload C 4 dX6_area_96 rfl ?_
    refine fj_if_eq (tgt := 105) C dX6_area_98 (by decide) (fun h => absurd h (by decide)) (fun _ => ?_)
    refine fj_iconst (v := 1) C dX6_area_101 (by decide) ?_
    refine fj_goto (tgt := 106) C dX6_area_102 (by decide) ?_
    refine fj_istore (lv' := [(6, .int 1), (11, .int 3), (9, .long ((840 * fm_a0 16 (9 * ((q / 8) + 1) + ((q - q / 8 * 8) + 1)).toNatClampNeg).toInt64)), (7, .long ((840 * fm_a0 15 (9 * ((q / 8) + 1) + ((q - q / 8 * 8) + 1)).toNatClampNeg).toInt64)), (4, .long (((0 + ((((840 * fm_a0 15 (9 * ((q / 8) + 1) + (q - q / 8 * 8)).toNatClampNeg).toInt64) * ((840 * fm_a0 16 (9 * (q / 8) + (q - q / 8 * 8)).toNatClampNeg).toInt64)) - (((840 * fm_a0 15 (9 * (q / 8) + (q - q / 8 * 8)).toNatClampNeg).toInt64) * ((840 * fm_a0 16 (9 * ((q / 8) + 1) + (q - q / 8 * 8)).toNatClampNeg).toInt64)))) + ((((840 * fm_a0 15 (9 * (q / 8) + (q - q / 8 * 8)).toNatClampNeg).toInt64) * ((840 * fm_a0 16 (9 * (q / 8) + ((q - q / 8 * 8) + 1)).toNatClampNeg).toInt64)) - (((840 * fm_a0 15 (9 * (q / 8) + ((q - q / 8 * 8) + 1)).toNatClampNeg).toInt64) * ((840 * fm_a0 16 (9 * (q / 8) + (q - q / 8 * 8)).toNatClampNeg).toInt64)))) + ((((840 * fm_a0 15 (9 * (q / 8) + ((q - q / 8 * 8) + 1)).toNatClampNeg).toInt64) * ((840 * fm_a0 16 (9 * ((q / 8) + 1) + ((q - q / 8 * 8) + 1)).toNatClampNeg).toInt64)) - (((840 * fm_a0 15 (9 * ((q / 8) + 1) + ((q - q / 8 * 8) + 1)).toNatClampNeg).toInt64) * ((840 * fm_a0 16 (9 * (q / 8) + ((q - q / 8 * 8) + 1)).toNatClampNeg).toInt64))))), (3, .int (q / 8)), (2, .int (q - q / 8 * 8)), (0, .ref (bd 0)), (1, .int q)]) C dX6_area_106 (by decide) rfl ?_
    refine fj_lload C 4 dX6_area_108 rfl ?_
    refine fj_lload C 3 dX6_area_110 rfl ?_
    refine fj_aload_n C 7 dX6_area_112 rfl rfl ?_
    refine fj_get (Cn := RX6) (T := TX6) (N := 44) (ci := 6) (v := .int (840 * fm_a0 16 (9 * ((q / 8) + 1) + (q - q / 8 * 8)).toNatClampNeg)) C iX6 0 (fm_at0 _ _ _ _ _) rfl 43 (by decide) kX6_307 rfl dX6_area_113 ?_
    refine fj_i2l C dX6_area_116 ?_
    refine fj_lmul C dX6_area_117 ?_
    refine fj_aload_n C 7 dX6_area_118 rfl rfl ?_
    refine fj_get (Cn := RX6) (T := TX6) (N := 44) (ci := 6) (v := .int (840 * fm_a0 15 (9 * ((q / 8) + 1) + (q - q / 8 * 8)).toNatClampNeg)) C iX6 0 (fm_at0 _ _ _ _ _) rfl 42 (by decide) kX6_304 rfl dX6_area_119 ?_
    refine fj_i2l C dX6_area_122 ?_
    refine fj_lload C 2 dX6_area_123 rfl ?_
    refine fj_lmul C dX6_area_125 ?_
    refine fj_lsub C dX6_area_126 ?_
    refine fj_ladd C dX6_area_127 ?_
    refine fj_lstore (lv' := [(4, .long ((((0 + ((((840 * fm_a0 15 (9 * ((q / 8) + 1) + (q - q / 8 * 8)).toNatClampNeg).toInt64) * ((840 * fm_a0 16 (9 * (q / 8) + (q - q / 8 * 8)).toNatClampNeg).toInt64)) - (((840 * fm_a0 15 (9 * (q / 8) + (q - q / 8 * 8)).toNatClampNeg).toInt64) * ((840 * fm_a0 16 (9 * ((q / 8) + 1) + (q - q / 8 * 8)).toNatClampNeg).toInt64)))) + ((((840 * fm_a0 15 (9 * (q / 8) + (q - q / 8 * 8)).toNatClampNeg).toInt64) * ((840 * fm_a0 16 (9 * (q / 8) + ((q - q / 8 * 8) + 1)).toNatClampNeg).toInt64)) - (((840 * fm_a0 15 (9 * (q / 8) + ((q - q / 8 * 8) + 1)).toNatClampNeg).toInt64) * ((840 * fm_a0 16 (9 * (q / 8) + (q - q / 8 * 8)).toNatClampNeg).toInt64)))) + ((((840 * fm_a0 15 (9 * (q / 8) + ((q - q / 8 * 8) + 1)).toNatClampNeg).toInt64) * ((840 * fm_a0 16 (9 * ((q / 8) + 1) + ((q - q / 8 * 8) + 1)).toNatClampNeg).toInt64)) - (((840 * fm_a0 15 (9 * ((q / 8) + 1) + ((q - q / 8 * 8) + 1)).toNatClampNeg).toInt64) * ((840 * fm_a0 16 (9 * (q / 8) + ((q - q / 8 * 8) + 1)).toNatClampNeg).toInt64)))) + ((((840 * fm_a0 15 (9 * ((q / 8) + 1) + ((q - q / 8 * 8) + 1)).toNatClampNeg).toInt64) * ((840 * fm_a0 16 (9 * ((q / 8) + 1) + (q - q / 8 * 8)).toNatClampNeg).toInt64)) - (((840 * fm_a0 15 (9 * ((q / 8) + 1) + (q - q / 8 * 8)).toNatClampNeg).toInt64) * ((840 * fm_a0 16 (9 * ((q / 8) + 1) + ((q - q / 8 * 8) + 1)).toNatClampNeg).toInt64))))), (6, .int 1), (11, .int 3), (9, .long ((840 * fm_a0 16 (9 * ((q / 8) + 1) + ((q - q / 8 * 8) + 1)).toNatClampNeg).toInt64)), (7, .long ((840 * fm_a0 15 (9 * ((q / 8) + 1) + ((q - q / 8 * 8) + 1)).toNatClampNeg).toInt64)), (3, .int (q / 8)), (2, .int (q - q / 8 * 8)), (0, .ref (bd 0)), (1, .int q)]) C dX6_area_128 (by decide) rfl ?_
    refine fj_aload_n C 7 dX6_area_130 rfl rfl ?_
    refine fj_get (Cn := RX6) (T := TX6) (N := 44) (ci := 6) (v := .int (840 * fm_a0 15 (9 * ((q / 8) + 1) + (q - q / 8 * 8)).toNatClampNeg)) C iX6 0 (fm_at0 _ _ _ _ _) rfl 42 (by decide) kX6_304 rfl dX6_area_131 ?_
    refine fj_i2l C dX6_area_134 ?_
    refine fj_lstore (lv' := [(7, .long ((840 * fm_a0 15 (9 * ((q / 8) + 1) + (q - q / 8 * 8)).toNatClampNeg).toInt64)), (4, .long ((((0 + ((((840 * fm_a0 15 (9 * ((q / 8) + 1) + (q - q / 8 * 8)).toNatClampNeg).toInt64) * ((840 * fm_a0 16 (9 * (q / 8) + (q - q / 8 * 8)).toNatClampNeg).toInt64)) - (((840 * fm_a0 15 (9 * (q / 8) + (q - q / 8 * 8)).toNatClampNeg).toInt64) * ((840 * fm_a0 16 (9 * ((q / 8) + 1) + (q - q / 8 * 8)).toNatClampNeg).toInt64)))) + ((((840 * fm_a0 15 (9 * (q / 8) + (q - q / 8 * 8)).toNatClampNeg).toInt64) * ((840 * fm_a0 16 (9 * (q / 8) + ((q - q / 8 * 8) + 1)).toNatClampNeg).toInt64)) - (((840 * fm_a0 15 (9 * (q / 8) + ((q - q / 8 * 8) + 1)).toNatClampNeg).toInt64) * ((840 * fm_a0 16 (9 * (q / 8) + (q - q / 8 * 8)).toNatClampNeg).toInt64)))) + ((((840 * fm_a0 15 (9 * (q / 8) + ((q - q / 8 * 8) + 1)).toNatClampNeg).toInt64) * ((840 * fm_a0 16 (9 * ((q / 8) + 1) + ((q - q / 8 * 8) + 1)).toNatClampNeg).toInt64)) - (((840 * fm_a0 15 (9 * ((q / 8) + 1) + ((q - q / 8 * 8) + 1)).toNatClampNeg).toInt64) * ((840 * fm_a0 16 (9 * (q / 8) + ((q - q / 8 * 8) + 1)).toNatClampNeg).toInt64)))) + ((((840 * fm_a0 15 (9 * ((q / 8) + 1) + ((q - q / 8 * 8) + 1)).toNatClampNeg).toInt64) * ((840 * fm_a0 16 (9 * ((q / 8) + 1) + (q - q / 8 * 8)).toNatClampNeg).toInt64)) - (((840 * fm_a0 15 (9 * ((q / 8) + 1) + (q - q / 8 * 8)).toNatClampNeg).toInt64) * ((840 * fm_a0 16 (9 * ((q / 8) + 1) + ((q - q / 8 * 8) + 1)).toNatClampNeg).toInt64))))), (6, .int 1), (11, .int 3), (9, .long ((840 * fm_a0 16 (9 * ((q / 8) + 1) + ((q - q / 8 * 8) + 1)).toNatClampNeg).toInt64)), (3, .int (q / 8)), (2, .int (q - q / 8 * 8)), (0, .ref (bd 0)), (1, .int q)]) C dX6_area_135 (by decide) rfl ?_
    refine fj_aload_n C 7 dX6_area_137 rfl rfl ?_
    refine fj_get (Cn := RX6) (T := TX6) (N := 44) (ci := 6) (v := .int (840 * fm_a0 16 (9 * ((q / 8) + 1) + (q - q / 8 * 8)).toNatClampNeg)) C iX6 0 (fm_at0 _ _ _ _ _) rfl 43 (by decide) kX6_307 rfl dX6_area_138 ?_
    refine fj_i2l C dX6_area_141 ?_
    refine fj_lstore (lv' := [(9, .long ((840 * fm_a0 16 (9 * ((q / 8) + 1) + (q - q / 8 * 8)).toNatClampNeg).toInt64)), (7, .long ((840 * fm_a0 15 (9 * ((q / 8) + 1) + (q - q / 8 * 8)).toNatClampNeg).toInt64)), (4, .long ((((0 + ((((840 * fm_a0 15 (9 * ((q / 8) + 1) + (q - q / 8 * 8)).toNatClampNeg).toInt64) * ((840 * fm_a0 16 (9 * (q / 8) + (q - q / 8 * 8)).toNatClampNeg).toInt64)) - (((840 * fm_a0 15 (9 * (q / 8) + (q - q / 8 * 8)).toNatClampNeg).toInt64) * ((840 * fm_a0 16 (9 * ((q / 8) + 1) + (q - q / 8 * 8)).toNatClampNeg).toInt64)))) + ((((840 * fm_a0 15 (9 * (q / 8) + (q - q / 8 * 8)).toNatClampNeg).toInt64) * ((840 * fm_a0 16 (9 * (q / 8) + ((q - q / 8 * 8) + 1)).toNatClampNeg).toInt64)) - (((840 * fm_a0 15 (9 * (q / 8) + ((q - q / 8 * 8) + 1)).toNatClampNeg).toInt64) * ((840 * fm_a0 16 (9 * (q / 8) + (q - q / 8 * 8)).toNatClampNeg).toInt64)))) + ((((840 * fm_a0 15 (9 * (q / 8) + ((q - q / 8 * 8) + 1)).toNatClampNeg).toInt64) * ((840 * fm_a0 16 (9 * ((q / 8) + 1) + ((q - q / 8 * 8) + 1)).toNatClampNeg).toInt64)) - (((840 * fm_a0 15 (9 * ((q / 8) + 1) + ((q - q / 8 * 8) + 1)).toNatClampNeg).toInt64) * ((840 * fm_a0 16 (9 * (q / 8) + ((q - q / 8 * 8) + 1)).toNatClampNeg).toInt64)))) + ((((840 * fm_a0 15 (9 * ((q / 8) + 1) + ((q - q / 8 * 8) + 1)).toNatClampNeg).toInt64) * ((840 * fm_a0 16 (9 * ((q / 8) + 1) + (q - q / 8 * 8)).toNatClampNeg).toInt64)) - (((840 * fm_a0 15 (9 * ((q / 8) + 1) + (q - q / 8 * 8)).toNatClampNeg).toInt64) * ((840 * fm_a0 16 (9 * ((q / 8) + 1) + ((q - q / 8 * 8) + 1)).toNatClampNeg).toInt64))))), (6, .int 1), (11, .int 3), (3, .int (q / 8)), (2, .int (q - q / 8 * 8)), (0, .ref (bd 0)), (1, .int q)]) C dX6_area_142 (by decide) rfl ?_
    refine fj_iinc (v := 4) (lv' := [(11, .int 4), (9, .long ((840 * fm_a0 16 (9 * ((q / 8) + 1) + (q - q / 8 * 8)).toNatClampNeg).toInt64)), (7, .long ((840 * fm_a0 15 (9 * ((q / 8) + 1) + (q - q / 8 * 8)).toNatClampNeg).toInt64)), (4, .long ((((0 + ((((840 * fm_a0 15 (9 * ((q / 8) + 1) + (q - q / 8 * 8)).toNatClampNeg).toInt64) * ((840 * fm_a0 16 (9 * (q / 8) + (q - q / 8 * 8)).toNatClampNeg).toInt64)) - (((840 * fm_a0 15 (9 * (q / 8) + (q - q / 8 * 8)).toNatClampNeg).toInt64) * ((840 * fm_a0 16 (9 * ((q / 8) + 1) + (q - q / 8 * 8)).toNatClampNeg).toInt64)))) + ((((840 * fm_a0 15 (9 * (q / 8) + (q - q / 8 * 8)).toNatClampNeg).toInt64) * ((840 * fm_a0 16 (9 * (q / 8) + ((q - q / 8 * 8) + 1)).toNatClampNeg).toInt64)) - (((840 * fm_a0 15 (9 * (q / 8) + ((q - q / 8 * 8) + 1)).toNatClampNeg).toInt64) * ((840 * fm_a0 16 (9 * (q / 8) + (q - q / 8 * 8)).toNatClampNeg).toInt64)))) + ((((840 * fm_a0 15 (9 * (q / 8) + ((q - q / 8 * 8) + 1)).toNatClampNeg).toInt64) * ((840 * fm_a0 16 (9 * ((q / 8) + 1) + ((q - q / 8 * 8) + 1)).toNatClampNeg).toInt64)) - (((840 * fm_a0 15 (9 * ((q / 8) + 1) + ((q - q / 8 * 8) + 1)).toNatClampNeg).toInt64) * ((840 * fm_a0 16 (9 * (q / 8) + ((q - q / 8 * 8) + 1)).toNatClampNeg).toInt64)))) + ((((840 * fm_a0 15 (9 * ((q / 8) + 1) + ((q - q / 8 * 8) + 1)).toNatClampNeg).toInt64) * ((840 * fm_a0 16 (9 * ((q / 8) + 1) + (q - q / 8 * 8)).toNatClampNeg).toInt64)) - (((840 * fm_a0 15 (9 * ((q / 8) + 1) + (q - q / 8 * 8)).toNatClampNeg).toInt64) * ((840 * fm_a0 16 (9 * ((q / 8) + 1) + ((q - q / 8 * 8) + 1)).toNatClampNeg).toInt64))))), (6, .int 1), (3, .int (q / 8)), (2, .int (q - q / 8 * 8)), (0, .ref (bd 0)), (1, .int q)]) C 4 dX6_area_144 rfl (by decide) (by decide) rfl ?_
    refine fj_goto (tgt := 51) C dX6_area_147 (by decide) ?_
    refine fj_iload C 0 dX6_area_51 rfl ?_
    refine fj_iconst (v := 4) C dX6_area_53 (by decide) ?_
    refine fj_icmp_ge (tgt := 150) C dX6_area_54 (by decide) (fun _ => ?_) (fun h => absurd (by decide) h)
    refine fj_iload C 4 dX6_area_150 rfl ?_
    refine fj_if_eq (tgt := 160) C dX6_area_152 (by decide) (fun h => absurd h (by decide)) (fun _ => ?_)
    refine fj_lload C 3 dX6_area_155 rfl ?_
    refine fj_goto (tgt := 163) C dX6_area_157 (by decide) ?_
    exact fj_lret C E9 dX6_area_163 (by rw [if_pos h4]; rfl)
  · refine fj_ldc2 (v := (-1001)) C dX6_area_7 kL319 ?_
    exact fj_lret C E9 dX6_area_10 (by rw [if_neg h4])
