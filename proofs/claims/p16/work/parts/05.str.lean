def sx_c (i k : Nat) : Int32 := (sx_byt.getD i []).getD k 0
theorem sx_sh : ∀ i, i < 9 → nI (sx_len.getD i 0) >>> ((0 : Int32) &&& 31) = nI (sx_len.getD i 0) := by decide +kernel
theorem sx_ch : ∀ i, i < 9 → ∀ k, k < sx_len.getD i 0 → ((sx_c i k &&& 255).toUInt32 % 65536).toInt32 = sx_c i k := by decide +kernel
theorem sx_le : ∀ i, i < 9 → sx_len.getD i 0 ≤ 6 := by decide +kernel
set_option maxHeartbeats 4000000 in
set_option maxRecDepth 100000 in
theorem d_J0_coder (l : Launch) (D : va_G) (ty : Nat → ClassId) (t0 : Nat → Nat) (W9 : va_W) (i : Nat) (hi : i < 9) : fc l yJ0_coder_7d493 wsJ0_coder_7d493 (fj_rm 0 0 0 0) D ty t0 [.ref (t0 (1 + i))] W9 0 0 (fun v w => v = some (.int 0) ∧ w = W9) := by
  refine fc_start (own := RJ0) (cc := cJ0_coder_7d493) (maxL := 1) (ret := some .byte) (by decide) rfl (Nat.le_of_ble_eq_true rfl) rfl ?_
  intro p e s m args below meth c Q A C hmn E9
  refine fj_lv (lv' := [(0, .ref (t0 (1 + i)))]) [0] rfl ?_
  refine fj_getCS C (ptJ0_coder_7d493_woJ0_coder_7d493 _ (by decide +kernel)) dJ0_coder_7d493_0 ?_
  refine fj_if_eq (tgt := 13) C dJ0_coder_7d493_3 (by decide) (fun h => absurd h (by decide)) (fun _ => ?_)
  refine fj_aload_n C 0 dJ0_coder_7d493_6 rfl rfl ?_
  refine fj_getSc C i hi (ptJ0_coder_7d493_woJ0_coder_7d493 _ (by decide +kernel)) dJ0_coder_7d493_7 ?_
  refine fj_goto (tgt := 14) C dJ0_coder_7d493_10 (by decide) ?_
  exact fj_tret C E9 rfl dJ0_coder_7d493_14 ⟨rfl, rfl⟩
set_option maxHeartbeats 4000000 in
set_option maxRecDepth 100000 in
theorem d_J0_isLatin1 (l : Launch) (D : va_G) (ty : Nat → ClassId) (t0 : Nat → Nat) (W9 : va_W) (i : Nat) (hi : i < 9) : fc l yJ0_isLatin1_aae02 wsJ0_isLatin1_aae02 (fj_rm 0 0 0 0) D ty t0 [.ref (t0 (1 + i))] W9 0 0 (fun v w => v = some (.int 1) ∧ w = W9) := by
  refine fc_start (own := RJ0) (cc := cJ0_isLatin1_aae02) (maxL := 1) (ret := some .boolean) (by decide) rfl (Nat.le_of_ble_eq_true rfl) rfl ?_
  intro p e s m args below meth c Q A C hmn E9
  refine fj_lv (lv' := [(0, .ref (t0 (1 + i)))]) [0] rfl ?_
  refine fj_getCS C (ptJ0_isLatin1_aae02_woJ0_isLatin1_aae02 _ (by decide +kernel)) dJ0_isLatin1_aae02_0 ?_
  refine fj_if_eq (tgt := 17) C dJ0_isLatin1_aae02_3 (by decide) (fun h => absurd h (by decide)) (fun _ => ?_)
  refine fj_aload_n C 0 dJ0_isLatin1_aae02_6 rfl rfl ?_
  refine fj_getSc C i hi (ptJ0_isLatin1_aae02_woJ0_isLatin1_aae02 _ (by decide +kernel)) dJ0_isLatin1_aae02_7 ?_
  refine fj_if_ne (tgt := 17) C dJ0_isLatin1_aae02_10 (by decide) (fun h => absurd rfl h) (fun _ => ?_)
  refine fj_iconst (v := 1) C dJ0_isLatin1_aae02_13 (by decide) ?_
  refine fj_goto (tgt := 18) C dJ0_isLatin1_aae02_14 (by decide) ?_
  exact fj_tret C E9 rfl dJ0_isLatin1_aae02_18 ⟨rfl, rfl⟩
set_option maxHeartbeats 4000000 in
set_option maxRecDepth 100000 in
theorem d_J0_length (l : Launch) (D : va_G) (ty : Nat → ClassId) (t0 : Nat → Nat) (W9 : va_W) (i : Nat) (hi : i < 9) : fc l yJ0_length_8abf5 wsJ0_length_8abf5 (fj_rm 1 20 0 0) D ty t0 [.ref (t0 (1 + i))] W9 0 0 (fun v w => v = some (.int (nI (sx_len.getD i 0))) ∧ w = W9) := by
  refine fc_start (own := RJ0) (cc := cJ0_length_8abf5) (maxL := 1) (ret := some .int) (by decide) rfl (Nat.le_of_ble_eq_true rfl) rfl ?_
  intro p e s m args below meth c Q A C hmn E9
  refine fj_lv (lv' := [(0, .ref (t0 (1 + i)))]) [0] rfl ?_
  refine fj_aload_n C 0 dJ0_length_8abf5_0 rfl rfl ?_
  refine fj_getSv C i hi (ptJ0_length_8abf5_woJ0_length_8abf5 _ (by decide +kernel)) dJ0_length_8abf5_1 ?_
  refine fj_Slen C i hi dJ0_length_8abf5_4 ?_
  refine fj_aload_n C 0 dJ0_length_8abf5_5 rfl rfl ?_
  refine fj_callVsw (As := []) (rest := [.int (nI (sx_len.getD i 0))]) C (d_J0_coder l D ty t0 W9 i hi) (cwV 0 C.2.2.2.2.1 gJ0_length_8abf5_J0_coder_7d493 rfl rfl rfl (by decide +kernel) ⟨Nat.le_of_ble_eq_true rfl, Nat.le_of_ble_eq_true rfl⟩) i hi rfl rfl rfl (Nat.le_of_ble_eq_true rfl) dJ0_length_8abf5_6 ⟨Nat.zero_le _, Nat.zero_le _⟩ (fun v9 w9 hp9 => ?_)
  obtain ⟨rfl, rfl⟩ := hp9
  refine fj_st (st' := .int 0 :: [.int (nI (sx_len.getD i 0))]) rfl ?_
  refine fj_ishr C dJ0_length_8abf5_9 ?_
  refine fj_at (y := nI (sx_len.getD i 0)) (sx_sh i hi) ?_
  exact fj_iret C E9 dJ0_length_8abf5_10 ⟨rfl, rfl⟩
set_option maxHeartbeats 4000000 in
set_option maxRecDepth 100000 in
theorem d_J3_checkIndexN (l : Launch) (D : va_G) (ty : Nat → ClassId) (t0 : Nat → Nat) (W9 : va_W) (x y : Int32) (h0 : ¬ x < 0) (h1 : x < y) : fc l yJ3_checkIndex_8e157 wsJ3_checkIndex_8e157 (fj_rm 0 0 0 0) D ty t0 [.int x, .int y, .null] W9 0 0 (fun v w => v = some (.int x) ∧ w = W9) := by
  refine fc_start (own := RJ3) (cc := cJ3_checkIndex_8e157) (maxL := 3) (ret := some .int) (by decide) rfl (Nat.le_of_ble_eq_true rfl) rfl ?_
  intro p e s m args below meth c Q A C hmn E9
  refine fj_lv (lv' := [(0, .int x), (1, .int y), (2, .null)]) [0, 1, 2] rfl ?_
  refine fj_iload_n C 0 dJ3_checkIndex_8e157_0 rfl rfl ?_
  refine fj_if_lt (tgt := 9) C dJ3_checkIndex_8e157_1 (by decide) (fun h => absurd h h0) (fun _ => ?_)
  refine fj_iload_n C 0 dJ3_checkIndex_8e157_4 rfl rfl ?_
  refine fj_iload_n C 1 dJ3_checkIndex_8e157_5 rfl rfl ?_
  refine fj_icmp_lt (tgt := 16) C dJ3_checkIndex_8e157_6 (by decide) (fun _ => ?_) (fun h => absurd h1 h)
  refine fj_iload_n C 0 dJ3_checkIndex_8e157_16 rfl rfl ?_
  exact fj_iret C E9 dJ3_checkIndex_8e157_17 ⟨rfl, rfl⟩
set_option maxHeartbeats 4000000 in
set_option maxRecDepth 100000 in
theorem d_J3_checkIndexR (l : Launch) (D : va_G) (ty : Nat → ClassId) (t0 : Nat → Nat) (W9 : va_W) (x y : Int32) (h0 : ¬ x < 0) (h1 : x < y) (t : Nat) : fc l yJ3_checkIndex_8e157 wsJ3_checkIndex_8e157 (fj_rm 0 0 0 0) D ty t0 [.int x, .int y, .ref t] W9 0 0 (fun v w => v = some (.int x) ∧ w = W9) := by
  refine fc_start (own := RJ3) (cc := cJ3_checkIndex_8e157) (maxL := 3) (ret := some .int) (by decide) rfl (Nat.le_of_ble_eq_true rfl) rfl ?_
  intro p e s m args below meth c Q A C hmn E9
  refine fj_lv (lv' := [(0, .int x), (1, .int y), (2, .ref t)]) [0, 1, 2] rfl ?_
  refine fj_iload_n C 0 dJ3_checkIndex_8e157_0 rfl rfl ?_
  refine fj_if_lt (tgt := 9) C dJ3_checkIndex_8e157_1 (by decide) (fun h => absurd h h0) (fun _ => ?_)
  refine fj_iload_n C 0 dJ3_checkIndex_8e157_4 rfl rfl ?_
  refine fj_iload_n C 1 dJ3_checkIndex_8e157_5 rfl rfl ?_
  refine fj_icmp_lt (tgt := 16) C dJ3_checkIndex_8e157_6 (by decide) (fun _ => ?_) (fun h => absurd h1 h)
  refine fj_iload_n C 0 dJ3_checkIndex_8e157_16 rfl rfl ?_
  exact fj_iret C E9 dJ3_checkIndex_8e157_17 ⟨rfl, rfl⟩
theorem d_J3_checkIndex (l : Launch) (D : va_G) (ty : Nat → ClassId) (t0 : Nat → Nat) (W9 : va_W) (x y : Int32) (h0 : ¬ x < 0) (h1 : x < y) (u : Value) (hu : u = .null ∨ ∃ t, u = .ref t) : fc l yJ3_checkIndex_8e157 wsJ3_checkIndex_8e157 (fj_rm 0 0 0 0) D ty t0 [.int x, .int y, u] W9 0 0 (fun v w => v = some (.int x) ∧ w = W9) := by
  rcases hu with rfl | ⟨t, rfl⟩
  · exact d_J3_checkIndexN l D ty t0 W9 x y h0 h1
  · exact d_J3_checkIndexR l D ty t0 W9 x y h0 h1 t
theorem sx_cat {u : Value} (hu : u = .null ∨ ∃ t, u = .ref t) : u.category = 1 := by
  rcases hu with rfl | ⟨t, rfl⟩ <;> rfl
set_option maxHeartbeats 4000000 in
set_option maxRecDepth 100000 in
theorem d_J0_checkIndex (l : Launch) (D : va_G) (ty : Nat → ClassId) (t0 : Nat → Nat) (W9 : va_W) (x y : Int32) (h0 : ¬ x < 0) (h1 : x < y) : fc l yJ0_checkIndex_df160 wsJ0_checkIndex_df160 (fj_rm 1 22 0 0) D ty t0 [.int x, .int y] W9 0 0 (fun v w => v = none ∧ w = W9) := by
  refine fc_start (own := RJ0) (cc := cJ0_checkIndex_df160) (maxL := 2) (ret := none) (by decide) rfl (Nat.le_of_ble_eq_true rfl) rfl ?_
  intro p e s m args below meth c Q A C hmn E9
  refine fj_lv (lv' := [(0, .int x), (1, .int y)]) [0, 1] rfl ?_
  refine fj_iload_n C 0 dJ0_checkIndex_df160_0 rfl rfl ?_
  refine fj_iload_n C 1 dJ0_checkIndex_df160_1 rfl rfl ?_
  refine fj_getSF C (ptJ0_checkIndex_df160_woJ0_checkIndex_df160 _ (by decide +kernel)) dJ0_checkIndex_df160_2 (fun u hu => ?_)
  refine fj_callSw (As := [.int x, .int y, u]) (rest := []) C (d_J3_checkIndex l D ty t0 W9 x y h0 h1 u hu) (va_cwS 3 C.2.2.2.2.1 gJ0_checkIndex_df160_J3_checkIndex_8e157 rfl rfl rfl (by decide +kernel) ⟨Nat.le_of_ble_eq_true rfl, Nat.le_of_ble_eq_true rfl⟩) rfl (Nat.le_of_ble_eq_true rfl) dJ0_checkIndex_df160_5 ⟨Nat.zero_le _, Nat.zero_le _⟩ (fun v9 w9 hp9 => ?_)
  obtain ⟨rfl, rfl⟩ := hp9
  refine fj_st (st' := [.int x]) rfl ?_
  refine fj_pop C dJ0_checkIndex_df160_8 rfl ?_
  exact fj_vret C E9 dJ0_checkIndex_df160_9 ⟨rfl, rfl⟩
set_option maxHeartbeats 4000000 in
set_option maxRecDepth 100000 in
theorem d_J1_charAt (l : Launch) (D : va_G) (ty : Nat → ClassId) (t0 : Nat → Nat) (W9 : va_W) (i k : Nat) (hi : i < 9) (hk : k < sx_len.getD i 0) : fc l yJ1_charAt_3b067 wsJ1_charAt_3b067 (fj_rm 2 43 0 0) D ty t0 [.ref (t0 (10 + i)), .int (nI k)] W9 0 0 (fun v w => v = some (.int (sx_c i k)) ∧ w = W9) := by
  refine fc_start (own := RJ1) (cc := cJ1_charAt_3b067) (maxL := 2) (ret := some .char) (by decide) rfl (Nat.le_of_ble_eq_true rfl) rfl ?_
  intro p e s m args below meth c Q A C hmn E9
  refine fj_lv (lv' := [(0, .ref (t0 (10 + i))), (1, .int (nI k))]) [0, 1] rfl ?_
  have hl6 := sx_le i hi
  refine fj_iload_n C 1 dJ1_charAt_3b067_0 rfl rfl ?_
  refine fj_aload_n C 0 dJ1_charAt_3b067_1 rfl rfl ?_
  refine fj_Slen C i hi dJ1_charAt_3b067_2 ?_
  refine fj_callSw (As := [.int (nI k), .int (nI (sx_len.getD i 0))]) (rest := []) C (d_J0_checkIndex l D ty t0 W9 (nI k) (nI (sx_len.getD i 0)) (nI_pos (by omega)) (nI_lt hk (by omega))) (va_cwS 2 C.2.2.2.2.1 gJ1_charAt_3b067_J0_checkIndex_df160 rfl rfl rfl (by decide +kernel) ⟨Nat.le_of_ble_eq_true rfl, Nat.le_of_ble_eq_true rfl⟩) rfl (Nat.le_of_ble_eq_true rfl) dJ1_charAt_3b067_3 ⟨Nat.zero_le _, Nat.zero_le _⟩ (fun v9 w9 hp9 => ?_)
  obtain ⟨rfl, rfl⟩ := hp9
  refine fj_st (st' := []) rfl ?_
  refine fj_aload_n C 0 dJ1_charAt_3b067_6 rfl rfl ?_
  refine fj_iload_n C 1 dJ1_charAt_3b067_7 rfl rfl ?_
  refine fj_Sbld C i hi (vp_in_nI hk (by omega)) dJ1_charAt_3b067_8 ?_
  refine fj_at (y := sx_c i k) (by rw [nI_clamp (by omega)]; rfl) ?_
  refine fj_sipush (v := 255) C dJ1_charAt_3b067_9 (by decide) ?_
  refine fj_iand C dJ1_charAt_3b067_12 ?_
  refine fj_i2c (v := sx_c i k) C (sx_ch i hi k hk) dJ1_charAt_3b067_13 ?_
  exact fj_tret C E9 (by rw [← sx_ch i hi k hk]; exact pk_nc _) dJ1_charAt_3b067_14 ⟨rfl, rfl⟩
set_option maxHeartbeats 4000000 in
set_option maxRecDepth 100000 in
theorem d_J0_charAt (l : Launch) (D : va_G) (ty : Nat → ClassId) (t0 : Nat → Nat) (W9 : va_W) (i k : Nat) (hi : i < 9) (hk : k < sx_len.getD i 0) : fc l yJ0_charAt_5068e wsJ0_charAt_5068e (fj_rm 3 64 0 0) D ty t0 [.ref (t0 (1 + i)), .int (nI k)] W9 0 0 (fun v w => v = some (.int (sx_c i k)) ∧ w = W9) := by
  refine fc_start (own := RJ0) (cc := cJ0_charAt_5068e) (maxL := 2) (ret := some .char) (by decide) rfl (Nat.le_of_ble_eq_true rfl) rfl ?_
  intro p e s m args below meth c Q A C hmn E9
  refine fj_lv (lv' := [(0, .ref (t0 (1 + i))), (1, .int (nI k))]) [0, 1] rfl ?_
  refine fj_aload_n C 0 dJ0_charAt_5068e_0 rfl rfl ?_
  refine fj_callVsw (As := []) (rest := []) C (d_J0_isLatin1 l D ty t0 W9 i hi) (cwV 0 C.2.2.2.2.1 gJ0_charAt_5068e_J0_isLatin1_aae02 rfl rfl rfl (by decide +kernel) ⟨Nat.le_of_ble_eq_true rfl, Nat.le_of_ble_eq_true rfl⟩) i hi rfl rfl rfl (Nat.le_of_ble_eq_true rfl) dJ0_charAt_5068e_1 ⟨Nat.zero_le _, Nat.zero_le _⟩ (fun v9 w9 hp9 => ?_)
  obtain ⟨rfl, hw9⟩ := hp9
  rw [hw9]
  refine fj_st (st' := [.int 1]) rfl ?_
  refine fj_if_eq (tgt := 16) C dJ0_charAt_5068e_4 (by decide) (fun h => absurd h (by decide)) (fun _ => ?_)
  refine fj_aload_n C 0 dJ0_charAt_5068e_7 rfl rfl ?_
  refine fj_getSv C i hi (ptJ0_charAt_5068e_woJ0_charAt_5068e _ (by decide +kernel)) dJ0_charAt_5068e_8 ?_
  refine fj_iload_n C 1 dJ0_charAt_5068e_11 rfl rfl ?_
  refine fj_callSw (As := [.ref (t0 (10 + i)), .int (nI k)]) (rest := []) C (d_J1_charAt l D ty t0 W9 i k hi hk) (va_cwS 2 C.2.2.2.2.1 gJ0_charAt_5068e_J1_charAt_3b067 rfl rfl rfl (by decide +kernel) ⟨Nat.le_of_ble_eq_true rfl, Nat.le_of_ble_eq_true rfl⟩) rfl (Nat.le_of_ble_eq_true rfl) dJ0_charAt_5068e_12 ⟨Nat.zero_le _, Nat.zero_le _⟩ (fun v9 w9 hp9 => ?_)
  obtain ⟨rfl, hw9⟩ := hp9
  rw [hw9]
  refine fj_st (st' := [.int (sx_c i k)]) rfl ?_
  exact fj_tret C E9 (by rw [← sx_ch i hi k hk]; exact pk_nc _) dJ0_charAt_5068e_15 ⟨rfl, rfl⟩
