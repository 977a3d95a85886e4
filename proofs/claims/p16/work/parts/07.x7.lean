theorem LNM_of {B : Nat} {x : Int32} (h : -1 ≤ x ∧ x ≤ nI B) (hB : B ≤ 120) : ∃ N, LNS B x N ∧ (if x < 0 then nI B else x) = nI N := by
  obtain ⟨N, hN⟩ := LNS_of h hB
  refine ⟨N, hN, ?_⟩
  rw [← hN.2]
  by_cases e : x = -1
  · rw [if_pos e, if_pos (by rw [e]; decide)]
  · rw [if_neg e]
    refine if_neg (fun z => e ?_)
    have h1 := Int32.le_iff_toInt_le.mp h.1
    have h2 := Int32.lt_iff_toInt_lt.mp z
    have c : (-1 : Int32).toInt = -1 := by decide
    have c0 : (0 : Int32).toInt = 0 := by decide
    exact Int32.toInt_inj.mp (by omega)
theorem fx_o5 {x : Int32} (h : 0 ≤ x ∧ x ≤ 5) (hs : x.toInt < 0 ∨ 5 < x.toInt) : False := by
  have a1 := Int32.le_iff_toInt_le.mp h.1
  have a2 := Int32.le_iff_toInt_le.mp h.2
  have a3 : (0 : Int32).toInt = 0 := by decide
  have a4 : (5 : Int32).toInt = 5 := by decide
  omega
def CMA (z : Nat → Nat → Int32) (E P S T B : Nat) (x r : Int32) : Prop := (x = 0 ∧ r = nI P) ∨ (x = 1 ∧ r = nI S) ∨ (x = 2 ∧ r = nI B) ∨ (x = 3 ∧ r = nI (cst (z 13) B)) ∨ (x = 4 ∧ r = nI T) ∨ (x = 5 ∧ r = nI E) ∨ (x = 6 ∧ r = nI (cnE (z 25) 1 E)) ∨ (x = 7 ∧ r = nI (cnE (z 25) 2 E)) ∨ (x = 8 ∧ r = nI (cnE (z 25) 0 E)) ∨ (x = 9 ∧ r = nI (cst (z 19) P)) ∨ (x = 10 ∧ r = nI (cnG (z 18) B)) ∨ ((x.toInt < 0 ∨ 10 < x.toInt) ∧ r = -1002)
def STm (a : Nat → Nat → Int32) (md : Int32) (k : Nat) (y d : Int32) : Int32 := if y < 0 then (if (k % 8 / 2 + k / 8 / 2) % 2 = 1 ∧ md ≤ d then 4 else 0) else if a 25 y.toNatClampNeg = 1 then 1 else if a 26 y.toNatClampNeg ≤ d then 3 else 2
def HOm (a : Nat → Nat → Int32) (E : Nat) (k : Nat) : Int32 := if enO a (nI k) E < 0 then -1 else a 22 (enO a (nI k) E).toNatClampNeg
def HMA (z : Nat → Nat → Int32) (md : Int32) (E M k : Nat) (y q r : Int32) : Prop := (q = 0 ∧ r = HOm z E k) ∨ (q = 1 ∧ r = STm z md k (enO z (nI k) E) y) ∨ (q = 2 ∧ r = if enO z (nI k) E < 0 then -1 else z 20 (enO z (nI k) E).toNatClampNeg) ∨ (q = 3 ∧ r = PFM z k y) ∨ (q = 4 ∧ ((enO z (nI k) E < 0 ∧ r = 0) ∨ ∃ e, e < E ∧ enO z (nI k) E = nI e ∧ ∃ u d, z 8 (z 20 e).toNatClampNeg = nI u ∧ u ≤ 20000 ∧ UPT u y d ∧ r = nI (cL (mkF z e M) u d))) ∨ (q = 5 ∧ r = if enO z (nI k) E < 0 then 0 else acM z (enO z (nI k) E).toNatClampNeg (z 21 (enO z (nI k) E).toNatClampNeg).toNatClampNeg (M - (z 21 (enO z (nI k) E).toNatClampNeg).toNatClampNeg))
def cnM (z : Nat → Nat → Int32) (E : Nat) (x : Int32) : Nat → Nat
  | 0 => 0
  | k + 1 => cnM z E x k + if HOm z E k = x then 1 else 0
theorem cnM_p {z : Nat → Nat → Int32} {E : Nat} {x : Int32} {k : Nat} (h : HOm z E k = x) : cnM z E x (k + 1) = cnM z E x k + 1 := by simp [cnM, h]
theorem cnM_z {z : Nat → Nat → Int32} {E : Nat} {x : Int32} {k : Nat} (h : ¬ HOm z E k = x) : cnM z E x (k + 1) = cnM z E x k := by simp [cnM, h]
theorem MTH_I {P S T B N E M : Nat} {a z : Nat → Nat → Int32} {n : Nat → Int32} {y : Int32} (I : YI P S T B a n) (h : MTH S B a n N y z E M) : YI P S T B z (n678 n M E M) := YI_keep I h.2.2.2 (fun j hj => by rw [n678, va_up_ne _ _ (by omega), va_up_ne _ _ (by omega), va_up_ne _ _ (by omega)])
set_option maxHeartbeats 4000000 in
set_option maxRecDepth 100000 in
theorem d_X6_outcome (l : Launch) (D : va_G) (ty : Nat → ClassId) (t0 : Nat → Nat) (bd : Nat → Nat) (a : Nat → Nat → Int32) (g : Nat → Nat → Int64) (n : Nat → Int32) (P : Nat) (S : Nat) (T : Nat) (B : Nat) (I : YI P S T B a n) (x : Int32) (y : Int32)  : fc l yX6_outcome wsX6_outcome (fj_rm 5 116 0 0) D ty t0 [.ref (bd 0), .int x, .int y] (fm_w bd ty a g n) 0 0 (fun v w => (¬ ib x B ∧ v = some (.int (-1001)) ∧ w = fm_w bd ty a g n) ∨ (ib x B ∧ ¬ (-1 ≤ y ∧ y ≤ nI B) ∧ v = some (.int (-1002)) ∧ w = fm_w bd ty a g n) ∨ (ib x B ∧ (-1 ≤ y ∧ y ≤ nI B) ∧ ∃ N, LNS B y N ∧ ∃ (z : Nat → Nat → Int32) (E M : Nat), MTH S B a n N 20000 z E M ∧ v = some (.int (z 18 x.toNatClampNeg)) ∧ w = fm_w bd ty z g (n678 n M E M))) := by
  refine fc_start (own := RX6) (cc := cX6_outcome) (maxL := 3) (ret := (some .int)) (by decide) rfl (Nat.le_of_ble_eq_true rfl) rfl ?_
  intro p e s m args below meth c Q A C hmn E9
  obtain ⟨hn0, hP, hn2, hT, hn4, hS, hn5, hB, yWho, ySort, yQ, yN, yD, yL⟩ := id I
  have iX6 : ∀ w ∈ u_ws RX6 TX6 44, w ∈ wsX6_outcome := ptX6_outcome_wsX60
  have kX6_70 : Cond.fieldLink RX6 70 "FreeLandModel" "outcomes" "[I" ∈ wsX6_outcome := ptX6_outcome_woX6_outcome _ (by decide +kernel)
  refine fj_lv (lv' := [(0, .ref (bd 0)), (1, .int x), (2, .int y)]) [0, 1, 2] rfl ?_
  refine fj_aload_n C 0 dX6_outcome_0 rfl rfl ?_
  refine fj_iload_n C 1 dX6_outcome_1 rfl rfl ?_
  refine fj_callVw (As := [.int x]) (rest := []) C (d_X6_isLine l D ty t0 bd a g n P S T B I x) (cwV 1 C.2.2.2.2.1 gX6_outcome_X6_isLine rfl rfl rfl (by decide +kernel) ⟨Nat.le_of_ble_eq_true rfl, Nat.le_of_ble_eq_true rfl⟩) ⟨0, 6, _, _, fm_at0 _ _ _ _ _, rfl, rfl⟩ rfl (Nat.le_of_ble_eq_true rfl) dX6_outcome_2 ⟨Nat.zero_le _, Nat.zero_le _⟩ (fun v9 w9 hp9 => ?_)
  obtain ⟨rfl, rfl⟩ := hp9
  refine fj_st (st' := .int (if ib x B then 1 else 0) :: []) rfl ?_
  refine fj_ifb_ne (tgt := 12) C dX6_outcome_5 (by decide) (fun h5 => ?_) (fun h5 => ?_)
  · refine fj_aload_n C 0 dX6_outcome_12 rfl rfl ?_
    refine fj_iload_n C 2 dX6_outcome_13 rfl rfl ?_
    refine fj_callVw (As := [.int y]) (rest := []) C (d_X6_isKnown l D ty t0 bd a g n P S T B I y) (cwV 1 C.2.2.2.2.1 gX6_outcome_X6_isKnown rfl rfl rfl (by decide +kernel) ⟨Nat.le_of_ble_eq_true rfl, Nat.le_of_ble_eq_true rfl⟩) ⟨0, 6, _, _, fm_at0 _ _ _ _ _, rfl, rfl⟩ rfl (Nat.le_of_ble_eq_true rfl) dX6_outcome_14 ⟨Nat.zero_le _, Nat.zero_le _⟩ (fun v9 w9 hp9 => ?_)
    obtain ⟨rfl, rfl⟩ := hp9
    refine fj_st (st' := .int (if (-1 ≤ y ∧ y ≤ nI B) then 1 else 0) :: []) rfl ?_
    refine fj_ifb_ne (tgt := 24) C dX6_outcome_17 (by decide) (fun h17 => ?_) (fun h17 => ?_)
    · refine fj_aload_n C 0 dX6_outcome_24 rfl rfl ?_
      refine fj_aload_n C 0 dX6_outcome_25 rfl rfl ?_
      refine fj_iload_n C 2 dX6_outcome_26 rfl rfl ?_
      refine fj_callVw (As := [.int y]) (rest := [.ref (bd 0)]) C (d_X6_first l D ty t0 bd a g n P S T B I y) (cwV 1 C.2.2.2.2.1 gX6_outcome_X6_first rfl rfl rfl (by decide +kernel) ⟨Nat.le_of_ble_eq_true rfl, Nat.le_of_ble_eq_true rfl⟩) ⟨0, 6, _, _, fm_at0 _ _ _ _ _, rfl, rfl⟩ rfl (Nat.le_of_ble_eq_true rfl) dX6_outcome_27 ⟨Nat.zero_le _, Nat.zero_le _⟩ (fun v9 w9 hp9 => ?_)
      obtain ⟨rfl, rfl⟩ := hp9
      refine fj_st (st' := .int (if y < 0 then nI B else y) :: [.ref (bd 0)]) rfl ?_
      obtain ⟨N9, hN9, eN9⟩ := LNM_of h17 hB
      have hNB := hN9.1
      refine fj_at (y := nI N9) eN9 ?_
      refine fj_sipush (v := 20000) C dX6_outcome_30 (by decide) ?_
      refine fj_callVw (As := [.int (nI N9), .int 20000]) (rest := []) C (d_X6_work l D ty t0 bd a g n P S T B I (nI N9) 20000 N9 rfl hNB) (cwV 2 C.2.2.2.2.1 gX6_outcome_X6_work rfl rfl rfl (by decide +kernel) ⟨Nat.le_of_ble_eq_true rfl, Nat.le_of_ble_eq_true rfl⟩) ⟨0, 6, _, _, fm_at0 _ _ _ _ _, rfl, rfl⟩ rfl (Nat.le_of_ble_eq_true rfl) dX6_outcome_33 ⟨Nat.zero_le _, Nat.zero_le _⟩ (fun v9 w9 hp9 => ?_)
      obtain ⟨rfl, z9, E6, M9, hT9, rfl⟩ := hp9
      have Y9 := hT9.2.2.1
      have I9 := MTH_I I hT9
      obtain ⟨hn0, hP, hn2, hT, hn4, hS, hn5, hB, yWho, ySort, yQ, yN, yD, yL⟩ := id I9
      obtain ⟨hn6, hM6, hn7, hn8, hEW, hWM, yO, yEL, yEA, yLW⟩ := id Y9
      refine fj_st (st' := []) rfl ?_
      refine fj_aload_n C 0 dX6_outcome_36 rfl rfl ?_
      refine fj_get (Cn := RX6) (T := TX6) (N := 44) (ci := 6) (v := .ref (bd 18)) C iX6 0 (fm_at0 _ _ _ _ _) rfl 24 (by decide) kX6_70 rfl dX6_outcome_37 ?_
      refine fj_iload_n C 1 dX6_outcome_40 rfl rfl ?_
      refine fj_iald (f := (z9 18)) C 18 (fm_at18 _ _ _ _ _) (by obtain ⟨k, hk, rfl⟩ := ib_nI h5 (by omega); exact vp_in_nI (by omega) (by decide)) dX6_outcome_41 ?_
      exact fj_iret C E9 dX6_outcome_42 (Or.inr (Or.inr ⟨h5, h17, N9, hN9, z9, E6, M9, hT9, rfl, rfl⟩))
    · refine fj_sipush (v := (-1002)) C dX6_outcome_20 (by decide) ?_
      exact fj_iret C E9 dX6_outcome_23 (Or.inr (Or.inl ⟨h5, h17, rfl, rfl⟩))
  · refine fj_sipush (v := (-1001)) C dX6_outcome_8 (by decide) ?_
    exact fj_iret C E9 dX6_outcome_11 (Or.inl ⟨h5, rfl, rfl⟩)

set_option maxHeartbeats 4000000 in
set_option maxRecDepth 100000 in
theorem d_X6_entryMany (l : Launch) (D : va_G) (ty : Nat → ClassId) (t0 : Nat → Nat) (bd : Nat → Nat) (a : Nat → Nat → Int32) (g : Nat → Nat → Int64) (n : Nat → Int32) (P : Nat) (S : Nat) (T : Nat) (B : Nat) (I : YI P S T B a n) (M6 : Nat) (E7 : Nat) (W8 : Nat) (Y : YW S B M6 E7 W8 a n) (x : Int32)  : fc l yX6_entryMany wsX6_entryMany (fj_rm 0 0 0 0) D ty t0 [.ref (bd 0), .int x] (fm_w bd ty a g n) 0 0 (fun v w => v = some (.int (nI (cnE (a 25) x E7))) ∧ w = fm_w bd ty a g n) := by
  refine fc_start (own := RX6) (cc := cX6_entryMany) (maxL := 4) (ret := (some .int)) (by decide) rfl (Nat.le_of_ble_eq_true rfl) rfl ?_
  intro p e s m args below meth c Q A C hmn E9
  obtain ⟨hn0, hP, hn2, hT, hn4, hS, hn5, hB, yWho, ySort, yQ, yN, yD, yL⟩ := id I
  obtain ⟨hn6, hM6, hn7, hn8, hEW, hWM, yO, yEL, yEA, yLW⟩ := id Y
  have iX6 : ∀ w ∈ u_ws RX6 TX6 44, w ∈ wsX6_entryMany := ptX6_entryMany_wsX60
  have kX6_206 : Cond.fieldLink RX6 206 "FreeLandModel" "entries" "I" ∈ wsX6_entryMany := ptX6_entryMany_woX6_entryMany _ (by decide +kernel)
  have kX6_91 : Cond.fieldLink RX6 91 "FreeLandModel" "entryState" "[I" ∈ wsX6_entryMany := ptX6_entryMany_woX6_entryMany _ (by decide +kernel)
  refine fj_lv (lv' := [(0, .ref (bd 0)), (1, .int x)]) [0, 1] rfl ?_
  refine fj_iconst (v := 0) C dX6_entryMany_0 (by decide) ?_
  refine fj_istore_n (lv' := [(2, .int 0), (0, .ref (bd 0)), (1, .int x)]) C dX6_entryMany_1 rfl (by decide) rfl ?_
  refine fj_iconst (v := 0) C dX6_entryMany_2 (by decide) ?_
  refine fj_istore_n (lv' := [(3, .int 0), (2, .int 0), (0, .ref (bd 0)), (1, .int x)]) C dX6_entryMany_3 rfl (by decide) rfl ?_
  refine fj_lv (lv' := [(0, .ref (bd 0)), (1, .int x), (2, .int 0), (3, .int 0)]) [2, 3, 1, 0] rfl ?_
  have lp4 : ∀ (k : Nat), (k ≤ E7) → fj p l e (fj_rm 0 0 0 0) s m args below meth c Q A D 4 0 0 (fm_w bd ty a g n) [(0, .ref (bd 0)), (1, .int x), (2, .int (nI (cnE (a 25) x k))), (3, .int (nI k))] 4 [] := by
    have key : ∀ zz : Nat, (fun (k : Nat) => (k ≤ E7) → fj p l e (fj_rm 0 0 0 0) s m args below meth c Q A D 4 0 0 (fm_w bd ty a g n) [(0, .ref (bd 0)), (1, .int x), (2, .int (nI (cnE (a 25) x k))), (3, .int (nI k))] 4 []) zz := by
      refine fx_ind (fun (k : Nat) => E7 - k) _ ?_
      rintro k ih4 hk
      refine fj_iload_n C 3 dX6_entryMany_4 rfl rfl ?_
      refine fj_aload_n C 0 dX6_entryMany_5 rfl rfl ?_
      refine fj_get (Cn := RX6) (T := TX6) (N := 44) (ci := 6) (v := .int (n 7)) C iX6 0 (fm_at0 _ _ _ _ _) rfl 26 (by decide) kX6_206 rfl dX6_entryMany_6 ?_
      refine fj_at (y := nI E7) hn7 ?_
      refine fj_icmp_ge (tgt := 36) C dX6_entryMany_9 (by decide) (fun h9 => ?_) (fun h9 => ?_)
      · have hge : E7 ≤ k := Nat.le_of_not_lt fun q => absurd (Int32.not_lt.mpr h9) (not_not_intro ((nI_ltI (by omega) (by omega)).mpr q))
        refine fj_iload_n C 2 dX6_entryMany_36 rfl rfl ?_
        exact fj_iret C E9 dX6_entryMany_37 ⟨by rw [show k = E7 by omega], rfl⟩
      · have hlt : k < E7 := (nI_ltI (by omega) (by omega)).mp (Int32.not_le.mp h9)
        refine fj_iload_n C 2 dX6_entryMany_12 rfl rfl ?_
        refine fj_aload_n C 0 dX6_entryMany_13 rfl rfl ?_
        refine fj_get (Cn := RX6) (T := TX6) (N := 44) (ci := 6) (v := .ref (bd 25)) C iX6 0 (fm_at0 _ _ _ _ _) rfl 32 (by decide) kX6_91 rfl dX6_entryMany_14 ?_
        refine fj_iload_n C 3 dX6_entryMany_17 rfl rfl ?_
        refine fj_iald (f := (a 25)) C 25 (fm_at25 _ _ _ _ _) (vp_in_nI (by omega) (by decide)) dX6_entryMany_18 ?_
        refine fj_at (y := a 25 k) (by rw [nI_clamp (by omega)]) ?_
        refine fj_iload_n C 1 dX6_entryMany_19 rfl rfl ?_
        refine fj_icmp_ne (tgt := 27) C dX6_entryMany_20 (by decide) (fun h20 => ?_) (fun h20 => ?_)
        · refine fj_iconst (v := 0) C dX6_entryMany_27 (by decide) ?_
          refine fj_iadd C dX6_entryMany_28 ?_
          refine fj_at (y := nI (cnE (a 25) x (k + 1))) (by first | (rw [cnE_p h20]; exact nI_1 _) | (rw [cnE_z h20]; exact Int32.add_zero _)) ?_
          refine fj_istore_n (lv' := [(2, .int (nI (cnE (a 25) x (k + 1)))), (0, .ref (bd 0)), (1, .int x), (3, .int (nI k))]) C dX6_entryMany_29 rfl (by decide) rfl ?_
          refine fj_iinc (v := nI (k + 1)) (lv' := [(3, .int (nI (k + 1))), (2, .int (nI (cnE (a 25) x (k + 1)))), (0, .ref (bd 0)), (1, .int x)]) C 3 dX6_entryMany_30 rfl (nI_1 k) (by decide) rfl ?_
          refine fj_goto (tgt := 4) C dX6_entryMany_33 (by decide) ?_
          refine fj_lv (lv' := [(0, .ref (bd 0)), (1, .int x), (2, .int (nI (cnE (a 25) x (k + 1)))), (3, .int (nI (k + 1)))]) [2, 3, 1, 0] rfl ?_
          exact ih4 (k + 1) (by show E7 - (k + 1) < E7 - k; omega) (by omega)
        · refine fj_iconst (v := 1) C dX6_entryMany_23 (by decide) ?_
          refine fj_goto (tgt := 28) C dX6_entryMany_24 (by decide) ?_
          refine fj_iadd C dX6_entryMany_28 ?_
          refine fj_at (y := nI (cnE (a 25) x (k + 1))) (by first | (rw [cnE_p h20]; exact nI_1 _) | (rw [cnE_z h20]; exact Int32.add_zero _)) ?_
          refine fj_istore_n (lv' := [(2, .int (nI (cnE (a 25) x (k + 1)))), (0, .ref (bd 0)), (1, .int x), (3, .int (nI k))]) C dX6_entryMany_29 rfl (by decide) rfl ?_
          refine fj_iinc (v := nI (k + 1)) (lv' := [(3, .int (nI (k + 1))), (2, .int (nI (cnE (a 25) x (k + 1)))), (0, .ref (bd 0)), (1, .int x)]) C 3 dX6_entryMany_30 rfl (nI_1 k) (by decide) rfl ?_
          refine fj_goto (tgt := 4) C dX6_entryMany_33 (by decide) ?_
          refine fj_lv (lv' := [(0, .ref (bd 0)), (1, .int x), (2, .int (nI (cnE (a 25) x (k + 1)))), (3, .int (nI (k + 1)))]) [2, 3, 1, 0] rfl ?_
          exact ih4 (k + 1) (by show E7 - (k + 1) < E7 - k; omega) (by omega)
    intro k
    exact key k
  exact lp4 0 (Nat.zero_le _)

set_option maxHeartbeats 4000000 in
set_option maxRecDepth 100000 in
theorem d_X6_count (l : Launch) (D : va_G) (ty : Nat → ClassId) (t0 : Nat → Nat) (bd : Nat → Nat) (a : Nat → Nat → Int32) (g : Nat → Nat → Int64) (n : Nat → Int32) (P : Nat) (S : Nat) (T : Nat) (B : Nat) (I : YI P S T B a n) (x : Int32)  : fc l yX6_count wsX6_count (fj_rm 5 116 0 0) D ty t0 [.ref (bd 0), .int x] (fm_w bd ty a g n) 0 0 (fun v w => ∃ (z : Nat → Nat → Int32) (E M : Nat), MTH S B a n B 20000 z E M ∧ ∃ r, CMA z E P S T B x r ∧ v = some (.int r) ∧ w = fm_w bd ty z g (n678 n M E M)) := by
  refine fc_start (own := RX6) (cc := cX6_count) (maxL := 6) (ret := (some .int)) (by decide) rfl (Nat.le_of_ble_eq_true rfl) rfl ?_
  intro p e s m args below meth c Q A C hmn E9
  obtain ⟨hn0, hP, hn2, hT, hn4, hS, hn5, hB, yWho, ySort, yQ, yN, yD, yL⟩ := id I
  have iX6 : ∀ w ∈ u_ws RX6 TX6 44, w ∈ wsX6_count := ptX6_count_wsX60
  have kX6_197 : Cond.fieldLink RX6 197 "FreeLandModel" "lines" "I" ∈ wsX6_count := ptX6_count_woX6_count _ (by decide +kernel)
  have kX6_134 : Cond.fieldLink RX6 134 "FreeLandModel" "persons" "I" ∈ wsX6_count := ptX6_count_woX6_count _ (by decide +kernel)
  have kX6_158 : Cond.fieldLink RX6 158 "FreeLandModel" "laws" "I" ∈ wsX6_count := ptX6_count_woX6_count _ (by decide +kernel)
  have kX6_145 : Cond.fieldLink RX6 145 "FreeLandModel" "texted" "I" ∈ wsX6_count := ptX6_count_woX6_count _ (by decide +kernel)
  have kX6_206 : Cond.fieldLink RX6 206 "FreeLandModel" "entries" "I" ∈ wsX6_count := ptX6_count_woX6_count _ (by decide +kernel)
  have kX6_73 : Cond.fieldLink RX6 73 "FreeLandModel" "isDead" "[Z" ∈ wsX6_count := ptX6_count_woX6_count _ (by decide +kernel)
  have kX6_54 : Cond.fieldLink RX6 54 "FreeLandModel" "struck" "[Z" ∈ wsX6_count := ptX6_count_woX6_count _ (by decide +kernel)
  have kX6_70 : Cond.fieldLink RX6 70 "FreeLandModel" "outcomes" "[I" ∈ wsX6_count := ptX6_count_woX6_count _ (by decide +kernel)
  refine fj_lv (lv' := [(0, .ref (bd 0)), (1, .int x)]) [0, 1] rfl ?_
  refine fj_iconst (v := 0) C dX6_count_0 (by decide) ?_
  refine fj_istore_n (lv' := [(2, .int 0), (0, .ref (bd 0)), (1, .int x)]) C dX6_count_1 rfl (by decide) rfl ?_
  refine fj_iconst (v := 0) C dX6_count_2 (by decide) ?_
  refine fj_istore_n (lv' := [(3, .int 0), (2, .int 0), (0, .ref (bd 0)), (1, .int x)]) C dX6_count_3 rfl (by decide) rfl ?_
  refine fj_iconst (v := 0) C dX6_count_4 (by decide) ?_
  refine fj_istore (lv' := [(4, .int 0), (3, .int 0), (2, .int 0), (0, .ref (bd 0)), (1, .int x)]) C dX6_count_5 (by decide) rfl ?_
  refine fj_aload_n C 3 dX6_count_7 rfl rfl ?_
  refine fj_aload_n C 3 dX6_count_8 rfl rfl ?_
  refine fj_get (Cn := RX6) (T := TX6) (N := 44) (ci := 6) (v := .int (n 5)) C iX6 0 (fm_at0 _ _ _ _ _) rfl 12 (by decide) kX6_197 rfl dX6_count_9 ?_
  refine fj_at (y := nI B) hn5 ?_
  refine fj_sipush (v := 20000) C dX6_count_12 (by decide) ?_
  refine fj_callVw (As := [.int (nI B), .int 20000]) (rest := []) C (d_X6_work l D ty t0 bd a g n P S T B I (nI B) 20000 B rfl (Nat.le_refl _)) (cwV 2 C.2.2.2.2.1 gX6_count_X6_work rfl rfl rfl (by decide +kernel) ⟨Nat.le_of_ble_eq_true rfl, Nat.le_of_ble_eq_true rfl⟩) ⟨0, 6, _, _, fm_at0 _ _ _ _ _, rfl, rfl⟩ rfl (Nat.le_of_ble_eq_true rfl) dX6_count_15 ⟨Nat.zero_le _, Nat.zero_le _⟩ (fun v9 w9 hp9 => ?_)
  obtain ⟨rfl, z9, E6, M9, hT9, rfl⟩ := hp9
  have Y9 := hT9.2.2.1
  have I9 := MTH_I I hT9
  obtain ⟨hn0, hP, hn2, hT, hn4, hS, hn5, hB, yWho, ySort, yQ, yN, yD, yL⟩ := id I9
  obtain ⟨hn6, hM6, hn7, hn8, hEW, hWM, yO, yEL, yEA, yLW⟩ := id Y9
  refine fj_st (st' := []) rfl ?_
  refine fj_iconst (v := 0) C dX6_count_18 (by decide) ?_
  refine fj_istore (lv' := [(5, .int 0), (4, .int 0), (3, .int 0), (2, .int 0), (0, .ref (bd 0)), (1, .int x)]) C dX6_count_19 (by decide) rfl ?_
  refine fj_lv (lv' := [(0, .ref (bd 0)), (1, .int x), (2, .int 0), (3, .int 0), (4, .int 0), (5, .int 0)]) [4, 5, 3, 2, 1, 0] rfl ?_
  have lp21 : ∀ (i : Nat), (i ≤ B) → fj p l e (fj_rm 5 116 0 0) s m args below meth c Q A D 6 0 0 (fm_w bd ty z9 g (va_up (va_up (va_up n 6 (nI M9)) 7 (nI E6)) 8 (nI M9))) [(0, .ref (bd 0)), (1, .int x), (2, .int (nI (cst (z9 13) i))), (3, .int (nI (cnG (z9 18) i))), (4, .int 0), (5, .int (nI i))] 21 [] := by
    have key : ∀ zz : Nat, (fun (i : Nat) => (i ≤ B) → fj p l e (fj_rm 5 116 0 0) s m args below meth c Q A D 6 0 0 (fm_w bd ty z9 g (va_up (va_up (va_up n 6 (nI M9)) 7 (nI E6)) 8 (nI M9))) [(0, .ref (bd 0)), (1, .int x), (2, .int (nI (cst (z9 13) i))), (3, .int (nI (cnG (z9 18) i))), (4, .int 0), (5, .int (nI i))] 21 []) zz := by
      refine fx_ind (fun (i : Nat) => B - i) _ ?_
      rintro i ih21 hi
      refine fj_iload C 5 dX6_count_21 rfl ?_
      refine fj_aload_n C 0 dX6_count_23 rfl rfl ?_
      refine fj_get (Cn := RX6) (T := TX6) (N := 44) (ci := 6) (v := .int (n 5)) C iX6 0 (fm_at0 _ _ _ _ _) rfl 12 (by decide) kX6_197 rfl dX6_count_24 ?_
      refine fj_at (y := nI B) hn5 ?_
      refine fj_icmp_ge (tgt := 72) C dX6_count_27 (by decide) (fun h27 => ?_) (fun h27 => ?_)
      · have hge : B ≤ i := Nat.le_of_not_lt fun q => absurd (Int32.not_lt.mpr h27) (not_not_intro ((nI_ltI (by omega) (by omega)).mpr q))
        obtain rfl : B = i := by omega
        refine fj_iconst (v := 0) C dX6_count_72 (by decide) ?_
        refine fj_istore (lv' := [(5, .int 0), (0, .ref (bd 0)), (1, .int x), (2, .int (nI (cst (z9 13) B))), (3, .int (nI (cnG (z9 18) B))), (4, .int 0)]) C dX6_count_73 (by decide) rfl ?_
        refine fj_lv (lv' := [(0, .ref (bd 0)), (1, .int x), (2, .int (nI (cst (z9 13) B))), (3, .int (nI (cnG (z9 18) B))), (4, .int 0), (5, .int 0)]) [1, 2, 3, 4, 5, 0] rfl ?_
        have lp75 : ∀ (i2 : Nat), (i2 ≤ P) → fj p l e (fj_rm 5 116 0 0) s m args below meth c Q A D 6 0 0 (fm_w bd ty z9 g (va_up (va_up (va_up n 6 (nI M9)) 7 (nI E6)) 8 (nI M9))) [(0, .ref (bd 0)), (1, .int x), (2, .int (nI (cst (z9 13) B))), (3, .int (nI (cnG (z9 18) B))), (4, .int (nI (cst (z9 19) i2))), (5, .int (nI i2))] 75 [] := by
          have key : ∀ zz : Nat, (fun (i2 : Nat) => (i2 ≤ P) → fj p l e (fj_rm 5 116 0 0) s m args below meth c Q A D 6 0 0 (fm_w bd ty z9 g (va_up (va_up (va_up n 6 (nI M9)) 7 (nI E6)) 8 (nI M9))) [(0, .ref (bd 0)), (1, .int x), (2, .int (nI (cst (z9 13) B))), (3, .int (nI (cnG (z9 18) B))), (4, .int (nI (cst (z9 19) i2))), (5, .int (nI i2))] 75 []) zz := by
            refine fx_ind (fun (i2 : Nat) => P - i2) _ ?_
            rintro i2 ih75 hi2
            refine fj_iload C 5 dX6_count_75 rfl ?_
            refine fj_aload_n C 0 dX6_count_77 rfl rfl ?_
            refine fj_get (Cn := RX6) (T := TX6) (N := 44) (ci := 6) (v := .int (n 0)) C iX6 0 (fm_at0 _ _ _ _ _) rfl 0 (by decide) kX6_134 rfl dX6_count_78 ?_
            refine fj_at (y := nI P) hn0 ?_
            refine fj_icmp_ge (tgt := 110) C dX6_count_81 (by decide) (fun h81 => ?_) (fun h81 => ?_)
            · have hge2 : P ≤ i2 := Nat.le_of_not_lt fun q => absurd (Int32.not_lt.mpr h81) (not_not_intro ((nI_ltI (by omega) (by omega)).mpr q))
              obtain rfl : P = i2 := by omega
              refine fj_iload_n C 1 dX6_count_110 rfl rfl ?_
              rcases fx_sw x 0 10 with hsw | hsw
              · refine fj_tableOut (tgt := 218) C dX6_count_111 hsw (by decide) ?_
                refine fj_sipush (v := (-1002)) C dX6_count_218 (by decide) ?_
                exact fj_iret C E9 dX6_count_221 ⟨z9, E6, M9, hT9, _, (Or.inr (Or.inr (Or.inr (Or.inr (Or.inr (Or.inr (Or.inr (Or.inr (Or.inr (Or.inr (Or.inr (⟨hsw, rfl⟩)))))))))))), rfl, rfl⟩
              · obtain ⟨hs1, hs2⟩ := hsw
                rcases (show x.toInt = 0 ∨ x.toInt = 1 ∨ x.toInt = 2 ∨ x.toInt = 3 ∨ x.toInt = 4 ∨ x.toInt = 5 ∨ x.toInt = 6 ∨ x.toInt = 7 ∨ x.toInt = 8 ∨ x.toInt = 9 ∨ x.toInt = 10 by omega) with hsw | hsw | hsw | hsw | hsw | hsw | hsw | hsw | hsw | hsw | hsw
                · refine fj_tableIn (off := 57) (tgt := 168) C dX6_count_111 (by omega) (by omega) (by rw [hsw]; rfl) (by decide) ?_
                  have hs : x = 0 := Int32.toInt_inj.mp (by rw [hsw]; decide)
                  refine fj_aload_n C 0 dX6_count_168 rfl rfl ?_
                  refine fj_get (Cn := RX6) (T := TX6) (N := 44) (ci := 6) (v := .int (n 0)) C iX6 0 (fm_at0 _ _ _ _ _) rfl 0 (by decide) kX6_134 rfl dX6_count_169 ?_
                  refine fj_at (y := nI P) hn0 ?_
                  exact fj_iret C E9 dX6_count_172 ⟨z9, E6, M9, hT9, _, (Or.inl ⟨hs, rfl⟩), rfl, rfl⟩
                · refine fj_tableIn (off := 62) (tgt := 173) C dX6_count_111 (by omega) (by omega) (by rw [hsw]; rfl) (by decide) ?_
                  have hs : x = 1 := Int32.toInt_inj.mp (by rw [hsw]; decide)
                  refine fj_aload_n C 0 dX6_count_173 rfl rfl ?_
                  refine fj_get (Cn := RX6) (T := TX6) (N := 44) (ci := 6) (v := .int (n 4)) C iX6 0 (fm_at0 _ _ _ _ _) rfl 7 (by decide) kX6_158 rfl dX6_count_174 ?_
                  refine fj_at (y := nI S) hn4 ?_
                  exact fj_iret C E9 dX6_count_177 ⟨z9, E6, M9, hT9, _, (Or.inr (Or.inl ⟨hs, rfl⟩)), rfl, rfl⟩
                · refine fj_tableIn (off := 67) (tgt := 178) C dX6_count_111 (by omega) (by omega) (by rw [hsw]; rfl) (by decide) ?_
                  have hs : x = 2 := Int32.toInt_inj.mp (by rw [hsw]; decide)
                  refine fj_aload_n C 0 dX6_count_178 rfl rfl ?_
                  refine fj_get (Cn := RX6) (T := TX6) (N := 44) (ci := 6) (v := .int (n 5)) C iX6 0 (fm_at0 _ _ _ _ _) rfl 12 (by decide) kX6_197 rfl dX6_count_179 ?_
                  refine fj_at (y := nI B) hn5 ?_
                  exact fj_iret C E9 dX6_count_182 ⟨z9, E6, M9, hT9, _, (Or.inr (Or.inr (Or.inl ⟨hs, rfl⟩))), rfl, rfl⟩
                · refine fj_tableIn (off := 72) (tgt := 183) C dX6_count_111 (by omega) (by omega) (by rw [hsw]; rfl) (by decide) ?_
                  have hs : x = 3 := Int32.toInt_inj.mp (by rw [hsw]; decide)
                  refine fj_iload_n C 2 dX6_count_183 rfl rfl ?_
                  exact fj_iret C E9 dX6_count_184 ⟨z9, E6, M9, hT9, _, (Or.inr (Or.inr (Or.inr (Or.inl ⟨hs, rfl⟩)))), rfl, rfl⟩
                · refine fj_tableIn (off := 74) (tgt := 185) C dX6_count_111 (by omega) (by omega) (by rw [hsw]; rfl) (by decide) ?_
                  have hs : x = 4 := Int32.toInt_inj.mp (by rw [hsw]; decide)
                  refine fj_aload_n C 0 dX6_count_185 rfl rfl ?_
                  refine fj_get (Cn := RX6) (T := TX6) (N := 44) (ci := 6) (v := .int (n 2)) C iX6 0 (fm_at0 _ _ _ _ _) rfl 5 (by decide) kX6_145 rfl dX6_count_186 ?_
                  refine fj_at (y := nI T) hn2 ?_
                  exact fj_iret C E9 dX6_count_189 ⟨z9, E6, M9, hT9, _, (Or.inr (Or.inr (Or.inr (Or.inr (Or.inl ⟨hs, rfl⟩))))), rfl, rfl⟩
                · refine fj_tableIn (off := 79) (tgt := 190) C dX6_count_111 (by omega) (by omega) (by rw [hsw]; rfl) (by decide) ?_
                  have hs : x = 5 := Int32.toInt_inj.mp (by rw [hsw]; decide)
                  refine fj_aload_n C 0 dX6_count_190 rfl rfl ?_
                  refine fj_get (Cn := RX6) (T := TX6) (N := 44) (ci := 6) (v := .int (nI E6)) C iX6 0 (fm_at0 _ _ _ _ _) rfl 26 (by decide) kX6_206 rfl dX6_count_191 ?_
                  exact fj_iret C E9 dX6_count_194 ⟨z9, E6, M9, hT9, _, (Or.inr (Or.inr (Or.inr (Or.inr (Or.inr (Or.inl ⟨hs, rfl⟩)))))), rfl, rfl⟩
                · refine fj_tableIn (off := 84) (tgt := 195) C dX6_count_111 (by omega) (by omega) (by rw [hsw]; rfl) (by decide) ?_
                  have hs : x = 6 := Int32.toInt_inj.mp (by rw [hsw]; decide)
                  refine fj_aload_n C 0 dX6_count_195 rfl rfl ?_
                  refine fj_iconst (v := 1) C dX6_count_196 (by decide) ?_
                  refine fj_callVw (As := [.int 1]) (rest := []) C (d_X6_entryMany l D ty t0 bd z9 g (va_up (va_up (va_up n 6 (nI M9)) 7 (nI E6)) 8 (nI M9)) P S T B I9 M9 E6 M9 Y9 1) (cwV 1 C.2.2.2.2.1 gX6_count_X6_entryMany rfl rfl rfl (by decide +kernel) ⟨Nat.le_of_ble_eq_true rfl, Nat.le_of_ble_eq_true rfl⟩) ⟨0, 6, _, _, fm_at0 _ _ _ _ _, rfl, rfl⟩ rfl (Nat.le_of_ble_eq_true rfl) dX6_count_197 ⟨Nat.zero_le _, Nat.zero_le _⟩ (fun v9 w9 hp9 => ?_)
                  obtain ⟨rfl, rfl⟩ := hp9
                  refine fj_st (st' := .int (nI (cnE (z9 25) 1 E6)) :: []) rfl ?_
                  exact fj_iret C E9 dX6_count_200 ⟨z9, E6, M9, hT9, _, (Or.inr (Or.inr (Or.inr (Or.inr (Or.inr (Or.inr (Or.inl ⟨hs, rfl⟩))))))), rfl, rfl⟩
                · refine fj_tableIn (off := 90) (tgt := 201) C dX6_count_111 (by omega) (by omega) (by rw [hsw]; rfl) (by decide) ?_
                  have hs : x = 7 := Int32.toInt_inj.mp (by rw [hsw]; decide)
                  refine fj_aload_n C 0 dX6_count_201 rfl rfl ?_
                  refine fj_iconst (v := 2) C dX6_count_202 (by decide) ?_
                  refine fj_callVw (As := [.int 2]) (rest := []) C (d_X6_entryMany l D ty t0 bd z9 g (va_up (va_up (va_up n 6 (nI M9)) 7 (nI E6)) 8 (nI M9)) P S T B I9 M9 E6 M9 Y9 2) (cwV 1 C.2.2.2.2.1 gX6_count_X6_entryMany rfl rfl rfl (by decide +kernel) ⟨Nat.le_of_ble_eq_true rfl, Nat.le_of_ble_eq_true rfl⟩) ⟨0, 6, _, _, fm_at0 _ _ _ _ _, rfl, rfl⟩ rfl (Nat.le_of_ble_eq_true rfl) dX6_count_203 ⟨Nat.zero_le _, Nat.zero_le _⟩ (fun v9 w9 hp9 => ?_)
                  obtain ⟨rfl, rfl⟩ := hp9
                  refine fj_st (st' := .int (nI (cnE (z9 25) 2 E6)) :: []) rfl ?_
                  exact fj_iret C E9 dX6_count_206 ⟨z9, E6, M9, hT9, _, (Or.inr (Or.inr (Or.inr (Or.inr (Or.inr (Or.inr (Or.inr (Or.inl ⟨hs, rfl⟩)))))))), rfl, rfl⟩
                · refine fj_tableIn (off := 96) (tgt := 207) C dX6_count_111 (by omega) (by omega) (by rw [hsw]; rfl) (by decide) ?_
                  have hs : x = 8 := Int32.toInt_inj.mp (by rw [hsw]; decide)
                  refine fj_aload_n C 0 dX6_count_207 rfl rfl ?_
                  refine fj_iconst (v := 0) C dX6_count_208 (by decide) ?_
                  refine fj_callVw (As := [.int 0]) (rest := []) C (d_X6_entryMany l D ty t0 bd z9 g (va_up (va_up (va_up n 6 (nI M9)) 7 (nI E6)) 8 (nI M9)) P S T B I9 M9 E6 M9 Y9 0) (cwV 1 C.2.2.2.2.1 gX6_count_X6_entryMany rfl rfl rfl (by decide +kernel) ⟨Nat.le_of_ble_eq_true rfl, Nat.le_of_ble_eq_true rfl⟩) ⟨0, 6, _, _, fm_at0 _ _ _ _ _, rfl, rfl⟩ rfl (Nat.le_of_ble_eq_true rfl) dX6_count_209 ⟨Nat.zero_le _, Nat.zero_le _⟩ (fun v9 w9 hp9 => ?_)
                  obtain ⟨rfl, rfl⟩ := hp9
                  refine fj_st (st' := .int (nI (cnE (z9 25) 0 E6)) :: []) rfl ?_
                  exact fj_iret C E9 dX6_count_212 ⟨z9, E6, M9, hT9, _, (Or.inr (Or.inr (Or.inr (Or.inr (Or.inr (Or.inr (Or.inr (Or.inr (Or.inl ⟨hs, rfl⟩))))))))), rfl, rfl⟩
                · refine fj_tableIn (off := 102) (tgt := 213) C dX6_count_111 (by omega) (by omega) (by rw [hsw]; rfl) (by decide) ?_
                  have hs : x = 9 := Int32.toInt_inj.mp (by rw [hsw]; decide)
                  refine fj_iload C 4 dX6_count_213 rfl ?_
                  exact fj_iret C E9 dX6_count_215 ⟨z9, E6, M9, hT9, _, (Or.inr (Or.inr (Or.inr (Or.inr (Or.inr (Or.inr (Or.inr (Or.inr (Or.inr (Or.inl ⟨hs, rfl⟩)))))))))), rfl, rfl⟩
                · refine fj_tableIn (off := 105) (tgt := 216) C dX6_count_111 (by omega) (by omega) (by rw [hsw]; rfl) (by decide) ?_
                  have hs : x = 10 := Int32.toInt_inj.mp (by rw [hsw]; decide)
                  refine fj_iload_n C 3 dX6_count_216 rfl rfl ?_
                  exact fj_iret C E9 dX6_count_217 ⟨z9, E6, M9, hT9, _, (Or.inr (Or.inr (Or.inr (Or.inr (Or.inr (Or.inr (Or.inr (Or.inr (Or.inr (Or.inr (Or.inl ⟨hs, rfl⟩))))))))))), rfl, rfl⟩
            · have hlt2 : i2 < P := (nI_ltI (by omega) (by omega)).mp (Int32.not_le.mp h81)
              refine fj_iload C 4 dX6_count_84 rfl ?_
              refine fj_aload_n C 0 dX6_count_86 rfl rfl ?_
              refine fj_get (Cn := RX6) (T := TX6) (N := 44) (ci := 6) (v := .ref (bd 19)) C iX6 0 (fm_at0 _ _ _ _ _) rfl 25 (by decide) kX6_73 rfl dX6_count_87 ?_
              refine fj_iload C 5 dX6_count_90 rfl ?_
              refine fj_zald (f := (z9 19)) C 19 (fm_at19 _ _ _ _ _) (vp_in_nI (by omega) (by decide)) dX6_count_92 ?_
              refine fj_at (y := z9 19 i2) (by rw [nI_clamp (by omega)]) ?_
              refine fj_if_eq (tgt := 100) C dX6_count_93 (by decide) (fun h93 => ?_) (fun h93 => ?_)
              · refine fj_iconst (v := 0) C dX6_count_100 (by decide) ?_
                refine fj_iadd C dX6_count_101 ?_
                refine fj_at (y := nI (cst (z9 19) (i2 + 1))) (by first | (rw [cst_p h93]; exact nI_1 _) | (rw [cst_z h93]; exact Int32.add_zero _)) ?_
                refine fj_istore (lv' := [(4, .int (nI (cst (z9 19) (i2 + 1)))), (0, .ref (bd 0)), (1, .int x), (2, .int (nI (cst (z9 13) B))), (3, .int (nI (cnG (z9 18) B))), (5, .int (nI i2))]) C dX6_count_102 (by decide) rfl ?_
                refine fj_iinc (v := nI (i2 + 1)) (lv' := [(5, .int (nI (i2 + 1))), (4, .int (nI (cst (z9 19) (i2 + 1)))), (0, .ref (bd 0)), (1, .int x), (2, .int (nI (cst (z9 13) B))), (3, .int (nI (cnG (z9 18) B)))]) C 5 dX6_count_104 rfl (nI_1 i2) (by decide) rfl ?_
                refine fj_goto (tgt := 75) C dX6_count_107 (by decide) ?_
                refine fj_lv (lv' := [(0, .ref (bd 0)), (1, .int x), (2, .int (nI (cst (z9 13) B))), (3, .int (nI (cnG (z9 18) B))), (4, .int (nI (cst (z9 19) (i2 + 1)))), (5, .int (nI (i2 + 1)))]) [2, 3, 4, 5, 1, 0] rfl ?_
                exact ih75 (i2 + 1) (by show P - (i2 + 1) < P - i2; omega) (by omega)
              · refine fj_iconst (v := 1) C dX6_count_96 (by decide) ?_
                refine fj_goto (tgt := 101) C dX6_count_97 (by decide) ?_
                refine fj_iadd C dX6_count_101 ?_
                refine fj_at (y := nI (cst (z9 19) (i2 + 1))) (by first | (rw [cst_p h93]; exact nI_1 _) | (rw [cst_z h93]; exact Int32.add_zero _)) ?_
                refine fj_istore (lv' := [(4, .int (nI (cst (z9 19) (i2 + 1)))), (0, .ref (bd 0)), (1, .int x), (2, .int (nI (cst (z9 13) B))), (3, .int (nI (cnG (z9 18) B))), (5, .int (nI i2))]) C dX6_count_102 (by decide) rfl ?_
                refine fj_iinc (v := nI (i2 + 1)) (lv' := [(5, .int (nI (i2 + 1))), (4, .int (nI (cst (z9 19) (i2 + 1)))), (0, .ref (bd 0)), (1, .int x), (2, .int (nI (cst (z9 13) B))), (3, .int (nI (cnG (z9 18) B)))]) C 5 dX6_count_104 rfl (nI_1 i2) (by decide) rfl ?_
                refine fj_goto (tgt := 75) C dX6_count_107 (by decide) ?_
                refine fj_lv (lv' := [(0, .ref (bd 0)), (1, .int x), (2, .int (nI (cst (z9 13) B))), (3, .int (nI (cnG (z9 18) B))), (4, .int (nI (cst (z9 19) (i2 + 1)))), (5, .int (nI (i2 + 1)))]) [2, 3, 4, 5, 1, 0] rfl ?_
                exact ih75 (i2 + 1) (by show P - (i2 + 1) < P - i2; omega) (by omega)
          intro i2
          exact key i2
        exact lp75 0 (Nat.zero_le _)
      · have hlt : i < B := (nI_ltI (by omega) (by omega)).mp (Int32.not_le.mp h27)
        refine fj_iload_n C 2 dX6_count_30 rfl rfl ?_
        refine fj_aload_n C 0 dX6_count_31 rfl rfl ?_
        refine fj_get (Cn := RX6) (T := TX6) (N := 44) (ci := 6) (v := .ref (bd 13)) C iX6 0 (fm_at0 _ _ _ _ _) rfl 18 (by decide) kX6_54 rfl dX6_count_32 ?_
        refine fj_iload C 5 dX6_count_35 rfl ?_
        refine fj_zald (f := (z9 13)) C 13 (fm_at13 _ _ _ _ _) (vp_in_nI (by omega) (by decide)) dX6_count_37 ?_
        refine fj_at (y := z9 13 i) (by rw [nI_clamp (by omega)]) ?_
        refine fj_if_eq (tgt := 45) C dX6_count_38 (by decide) (fun h38 => ?_) (fun h38 => ?_)
        · refine fj_iconst (v := 0) C dX6_count_45 (by decide) ?_
          refine fj_iadd C dX6_count_46 ?_
          refine fj_at (y := nI (cst (z9 13) (i + 1))) (by first | (rw [cst_p h38]; exact nI_1 _) | (rw [cst_z h38]; exact Int32.add_zero _)) ?_
          refine fj_istore_n (lv' := [(2, .int (nI (cst (z9 13) (i + 1)))), (0, .ref (bd 0)), (1, .int x), (3, .int (nI (cnG (z9 18) i))), (4, .int 0), (5, .int (nI i))]) C dX6_count_47 rfl (by decide) rfl ?_
          refine fj_iload_n C 3 dX6_count_48 rfl rfl ?_
          refine fj_aload_n C 1 dX6_count_49 rfl rfl ?_
          refine fj_get (Cn := RX6) (T := TX6) (N := 44) (ci := 6) (v := .ref (bd 18)) C iX6 0 (fm_at0 _ _ _ _ _) rfl 24 (by decide) kX6_70 rfl dX6_count_50 ?_
          refine fj_iload C 5 dX6_count_53 rfl ?_
          refine fj_iald (f := (z9 18)) C 18 (fm_at18 _ _ _ _ _) (vp_in_nI (by omega) (by decide)) dX6_count_55 ?_
          refine fj_at (y := z9 18 i) (by rw [nI_clamp (by omega)]) ?_
          refine fj_if_le (tgt := 63) C dX6_count_56 (by decide) (fun h56 => ?_) (fun h56 => ?_)
          · refine fj_iconst (v := 0) C dX6_count_63 (by decide) ?_
            refine fj_iadd C dX6_count_64 ?_
            refine fj_at (y := nI (cnG (z9 18) (i + 1))) (by first | (rw [cnG_p (Int32.not_le.mp h56)]; exact nI_1 _) | (rw [cnG_z (fun z => absurd h56 (Int32.not_le.mpr z))]; exact Int32.add_zero _)) ?_
            refine fj_istore_n (lv' := [(3, .int (nI (cnG (z9 18) (i + 1)))), (2, .int (nI (cst (z9 13) (i + 1)))), (0, .ref (bd 0)), (1, .int x), (4, .int 0), (5, .int (nI i))]) C dX6_count_65 rfl (by decide) rfl ?_
            refine fj_iinc (v := nI (i + 1)) (lv' := [(5, .int (nI (i + 1))), (3, .int (nI (cnG (z9 18) (i + 1)))), (2, .int (nI (cst (z9 13) (i + 1)))), (0, .ref (bd 0)), (1, .int x), (4, .int 0)]) C 5 dX6_count_66 rfl (nI_1 i) (by decide) rfl ?_
            refine fj_goto (tgt := 21) C dX6_count_69 (by decide) ?_
            refine fj_lv (lv' := [(0, .ref (bd 0)), (1, .int x), (2, .int (nI (cst (z9 13) (i + 1)))), (3, .int (nI (cnG (z9 18) (i + 1)))), (4, .int 0), (5, .int (nI (i + 1)))]) [3, 4, 2, 1, 5, 0] rfl ?_
            exact ih21 (i + 1) (by show B - (i + 1) < B - i; omega) (by omega)
          · refine fj_iconst (v := 1) C dX6_count_59 (by decide) ?_
            refine fj_goto (tgt := 64) C dX6_count_60 (by decide) ?_
            refine fj_iadd C dX6_count_64 ?_
            refine fj_at (y := nI (cnG (z9 18) (i + 1))) (by first | (rw [cnG_p (Int32.not_le.mp h56)]; exact nI_1 _) | (rw [cnG_z (fun z => absurd h56 (Int32.not_le.mpr z))]; exact Int32.add_zero _)) ?_
            refine fj_istore_n (lv' := [(3, .int (nI (cnG (z9 18) (i + 1)))), (2, .int (nI (cst (z9 13) (i + 1)))), (0, .ref (bd 0)), (1, .int x), (4, .int 0), (5, .int (nI i))]) C dX6_count_65 rfl (by decide) rfl ?_
            refine fj_iinc (v := nI (i + 1)) (lv' := [(5, .int (nI (i + 1))), (3, .int (nI (cnG (z9 18) (i + 1)))), (2, .int (nI (cst (z9 13) (i + 1)))), (0, .ref (bd 0)), (1, .int x), (4, .int 0)]) C 5 dX6_count_66 rfl (nI_1 i) (by decide) rfl ?_
            refine fj_goto (tgt := 21) C dX6_count_69 (by decide) ?_
            refine fj_lv (lv' := [(0, .ref (bd 0)), (1, .int x), (2, .int (nI (cst (z9 13) (i + 1)))), (3, .int (nI (cnG (z9 18) (i + 1)))), (4, .int 0), (5, .int (nI (i + 1)))]) [3, 4, 2, 1, 5, 0] rfl ?_
            exact ih21 (i + 1) (by show B - (i + 1) < B - i; omega) (by omega)
        · refine fj_iconst (v := 1) C dX6_count_41 (by decide) ?_
          refine fj_goto (tgt := 46) C dX6_count_42 (by decide) ?_
          refine fj_iadd C dX6_count_46 ?_
          refine fj_at (y := nI (cst (z9 13) (i + 1))) (by first | (rw [cst_p h38]; exact nI_1 _) | (rw [cst_z h38]; exact Int32.add_zero _)) ?_
          refine fj_istore_n (lv' := [(2, .int (nI (cst (z9 13) (i + 1)))), (0, .ref (bd 0)), (1, .int x), (3, .int (nI (cnG (z9 18) i))), (4, .int 0), (5, .int (nI i))]) C dX6_count_47 rfl (by decide) rfl ?_
          refine fj_iload_n C 3 dX6_count_48 rfl rfl ?_
          refine fj_aload_n C 1 dX6_count_49 rfl rfl ?_
          refine fj_get (Cn := RX6) (T := TX6) (N := 44) (ci := 6) (v := .ref (bd 18)) C iX6 0 (fm_at0 _ _ _ _ _) rfl 24 (by decide) kX6_70 rfl dX6_count_50 ?_
          refine fj_iload C 5 dX6_count_53 rfl ?_
          refine fj_iald (f := (z9 18)) C 18 (fm_at18 _ _ _ _ _) (vp_in_nI (by omega) (by decide)) dX6_count_55 ?_
          refine fj_at (y := z9 18 i) (by rw [nI_clamp (by omega)]) ?_
          refine fj_if_le (tgt := 63) C dX6_count_56 (by decide) (fun h56 => ?_) (fun h56 => ?_)
          · refine fj_iconst (v := 0) C dX6_count_63 (by decide) ?_
            refine fj_iadd C dX6_count_64 ?_
            refine fj_at (y := nI (cnG (z9 18) (i + 1))) (by first | (rw [cnG_p (Int32.not_le.mp h56)]; exact nI_1 _) | (rw [cnG_z (fun z => absurd h56 (Int32.not_le.mpr z))]; exact Int32.add_zero _)) ?_
            refine fj_istore_n (lv' := [(3, .int (nI (cnG (z9 18) (i + 1)))), (2, .int (nI (cst (z9 13) (i + 1)))), (0, .ref (bd 0)), (1, .int x), (4, .int 0), (5, .int (nI i))]) C dX6_count_65 rfl (by decide) rfl ?_
            refine fj_iinc (v := nI (i + 1)) (lv' := [(5, .int (nI (i + 1))), (3, .int (nI (cnG (z9 18) (i + 1)))), (2, .int (nI (cst (z9 13) (i + 1)))), (0, .ref (bd 0)), (1, .int x), (4, .int 0)]) C 5 dX6_count_66 rfl (nI_1 i) (by decide) rfl ?_
            refine fj_goto (tgt := 21) C dX6_count_69 (by decide) ?_
            refine fj_lv (lv' := [(0, .ref (bd 0)), (1, .int x), (2, .int (nI (cst (z9 13) (i + 1)))), (3, .int (nI (cnG (z9 18) (i + 1)))), (4, .int 0), (5, .int (nI (i + 1)))]) [3, 4, 2, 1, 5, 0] rfl ?_
            exact ih21 (i + 1) (by show B - (i + 1) < B - i; omega) (by omega)
          · refine fj_iconst (v := 1) C dX6_count_59 (by decide) ?_
            refine fj_goto (tgt := 64) C dX6_count_60 (by decide) ?_
            refine fj_iadd C dX6_count_64 ?_
            refine fj_at (y := nI (cnG (z9 18) (i + 1))) (by first | (rw [cnG_p (Int32.not_le.mp h56)]; exact nI_1 _) | (rw [cnG_z (fun z => absurd h56 (Int32.not_le.mpr z))]; exact Int32.add_zero _)) ?_
            refine fj_istore_n (lv' := [(3, .int (nI (cnG (z9 18) (i + 1)))), (2, .int (nI (cst (z9 13) (i + 1)))), (0, .ref (bd 0)), (1, .int x), (4, .int 0), (5, .int (nI i))]) C dX6_count_65 rfl (by decide) rfl ?_
            refine fj_iinc (v := nI (i + 1)) (lv' := [(5, .int (nI (i + 1))), (3, .int (nI (cnG (z9 18) (i + 1)))), (2, .int (nI (cst (z9 13) (i + 1)))), (0, .ref (bd 0)), (1, .int x), (4, .int 0)]) C 5 dX6_count_66 rfl (nI_1 i) (by decide) rfl ?_
            refine fj_goto (tgt := 21) C dX6_count_69 (by decide) ?_
            refine fj_lv (lv' := [(0, .ref (bd 0)), (1, .int x), (2, .int (nI (cst (z9 13) (i + 1)))), (3, .int (nI (cnG (z9 18) (i + 1)))), (4, .int 0), (5, .int (nI (i + 1)))]) [3, 4, 2, 1, 5, 0] rfl ?_
            exact ih21 (i + 1) (by show B - (i + 1) < B - i; omega) (by omega)
    intro i
    exact key i
  exact lp21 0 (Nat.zero_le _)

set_option maxHeartbeats 4000000 in
set_option maxRecDepth 100000 in
theorem d_X6_stateOf (l : Launch) (D : va_G) (ty : Nat → ClassId) (t0 : Nat → Nat) (bd : Nat → Nat) (a : Nat → Nat → Int32) (g : Nat → Nat → Int64) (n : Nat → Int32) (P : Nat) (S : Nat) (T : Nat) (B : Nat) (I : YI P S T B a n) (M6 : Nat) (E7 : Nat) (W8 : Nat) (Y : YW S B M6 E7 W8 a n) (x : Int32) (y : Int32) (s9 : Int32) (k : Nat) (ek : x = nI k) (hk : k < 64) (hye : y = -1 ∨ ∃ e5, e5 < E7 ∧ y = nI e5) : fc l yX6_stateOf wsX6_stateOf (fj_rm 1 20 0 0) D ty t0 [.ref (bd 0), .int x, .int y, .int s9] (fm_w bd ty a g n) 0 0 (fun v w => v = some (.int (STm a (n 1) k y s9)) ∧ w = fm_w bd ty a g n) := by
  subst ek
  refine fc_start (own := RX6) (cc := cX6_stateOf) (maxL := 4) (ret := (some .int)) (by decide) rfl (Nat.le_of_ble_eq_true rfl) rfl ?_
  intro p e s m args below meth c Q A C hmn E9
  obtain ⟨hn0, hP, hn2, hT, hn4, hS, hn5, hB, yWho, ySort, yQ, yN, yD, yL⟩ := id I
  obtain ⟨hn6, hM6, hn7, hn8, hEW, hWM, yO, yEL, yEA, yLW⟩ := id Y
  have iX6 : ∀ w ∈ u_ws RX6 TX6 44, w ∈ wsX6_stateOf := ptX6_stateOf_wsX60
  have kX6_91 : Cond.fieldLink RX6 91 "FreeLandModel" "entryState" "[I" ∈ wsX6_stateOf := ptX6_stateOf_woX6_stateOf _ (by decide +kernel)
  have kX6_94 : Cond.fieldLink RX6 94 "FreeLandModel" "bindDay" "[I" ∈ wsX6_stateOf := ptX6_stateOf_woX6_stateOf _ (by decide +kernel)
  have kX6_16 : Cond.fieldLink RX6 16 "FreeLandModel" "mapDay" "I" ∈ wsX6_stateOf := ptX6_stateOf_woX6_stateOf _ (by decide +kernel)
  refine fj_lv (lv' := [(0, .ref (bd 0)), (1, .int (nI k)), (2, .int y), (3, .int s9)]) [0, 1, 2, 3] rfl ?_
  refine fj_iload_n C 2 dX6_stateOf_0 rfl rfl ?_
  refine fj_if_ge (tgt := 25) C dX6_stateOf_1 (by decide) (fun h1 => ?_) (fun h1 => ?_)
  · obtain ⟨e5, he5, rfl⟩ := hye.resolve_left (fun q => by rw [q] at h1; exact absurd h1 (by decide))
    refine fj_aload_n C 0 dX6_stateOf_25 rfl rfl ?_
    refine fj_get (Cn := RX6) (T := TX6) (N := 44) (ci := 6) (v := .ref (bd 25)) C iX6 0 (fm_at0 _ _ _ _ _) rfl 32 (by decide) kX6_91 rfl dX6_stateOf_26 ?_
    refine fj_iload_n C 2 dX6_stateOf_29 rfl rfl ?_
    refine fj_iald (f := (a 25)) C 25 (fm_at25 _ _ _ _ _) (vp_in_nI (by omega) (by decide)) dX6_stateOf_30 ?_
    refine fj_at (y := a 25 e5) (by rw [nI_clamp (by omega)]) ?_
    refine fj_iconst (v := 1) C dX6_stateOf_31 (by decide) ?_
    refine fj_icmp_ne (tgt := 39) C dX6_stateOf_32 (by decide) (fun h32 => ?_) (fun h32 => ?_)
    · refine fj_aload_n C 0 dX6_stateOf_39 rfl rfl ?_
      refine fj_get (Cn := RX6) (T := TX6) (N := 44) (ci := 6) (v := .ref (bd 26)) C iX6 0 (fm_at0 _ _ _ _ _) rfl 33 (by decide) kX6_94 rfl dX6_stateOf_40 ?_
      refine fj_iload_n C 2 dX6_stateOf_43 rfl rfl ?_
      refine fj_iald (f := (a 26)) C 26 (fm_at26 _ _ _ _ _) (vp_in_nI (by omega) (by decide)) dX6_stateOf_44 ?_
      refine fj_at (y := a 26 e5) (by rw [nI_clamp (by omega)]) ?_
      refine fj_iload_n C 3 dX6_stateOf_45 rfl rfl ?_
      refine fj_icmp_gt (tgt := 53) C dX6_stateOf_46 (by decide) (fun h46 => ?_) (fun h46 => ?_)
      · refine fj_iconst (v := 2) C dX6_stateOf_53 (by decide) ?_
        exact fj_iret C E9 dX6_stateOf_54 ⟨by rw [STm, if_neg (nI_nneg (by omega)), nI_clamp (by omega)]; first | (rw [if_pos h32]; done) | (rw [if_neg h32, if_neg (Int32.not_le.mpr h46)]; done) | (rw [if_neg h32, if_pos (Int32.not_lt.mp h46)]; done), rfl⟩
      · refine fj_iconst (v := 3) C dX6_stateOf_49 (by decide) ?_
        refine fj_goto (tgt := 54) C dX6_stateOf_50 (by decide) ?_
        exact fj_iret C E9 dX6_stateOf_54 ⟨by rw [STm, if_neg (nI_nneg (by omega)), nI_clamp (by omega)]; first | (rw [if_pos h32]; done) | (rw [if_neg h32, if_neg (Int32.not_le.mpr h46)]; done) | (rw [if_neg h32, if_pos (Int32.not_lt.mp h46)]; done), rfl⟩
    · refine fj_iconst (v := 1) C dX6_stateOf_35 (by decide) ?_
      refine fj_goto (tgt := 54) C dX6_stateOf_36 (by decide) ?_
      exact fj_iret C E9 dX6_stateOf_54 ⟨by rw [STm, if_neg (nI_nneg (by omega)), nI_clamp (by omega)]; first | (rw [if_pos h32]; done) | (rw [if_neg h32, if_neg (Int32.not_le.mpr h46)]; done) | (rw [if_neg h32, if_pos (Int32.not_lt.mp h46)]; done), rfl⟩
  · refine fj_iload_n C 1 dX6_stateOf_4 rfl rfl ?_
    refine fj_callSw (As := [.int (nI k)]) (rest := []) C (d_X6_isOdd l D ty t0 (fm_w bd ty a g n) (nI k) k rfl hk) (va_cwS 1 C.2.2.2.2.1 gX6_stateOf_X6_isOdd rfl rfl rfl (by decide +kernel) ⟨Nat.le_of_ble_eq_true rfl, Nat.le_of_ble_eq_true rfl⟩)  rfl (Nat.le_of_ble_eq_true rfl) dX6_stateOf_5 ⟨Nat.zero_le _, Nat.zero_le _⟩ (fun v9 w9 hp9 => ?_)
    obtain ⟨rfl, rfl⟩ := hp9
    refine fj_st (st' := .int (if ((k % 8 / 2 + k / 8 / 2) % 2 = 1) then 1 else 0) :: []) rfl ?_
    refine fj_ifb_eq (tgt := 23) C dX6_stateOf_8 (by decide) (fun h8 => ?_) (fun h8 => ?_)
    · refine fj_iconst (v := 0) C dX6_stateOf_23 (by decide) ?_
      exact fj_iret C E9 dX6_stateOf_24 ⟨by rw [STm, if_pos (Int32.not_le.mp h1)]; first | (rw [if_neg (fun z => h8 z.1)]; done) | (rw [if_neg (fun z => absurd h16 (Int32.not_lt.mpr z.2))]; done) | (rw [if_pos ⟨h8, Int32.not_lt.mp h16⟩]; done), rfl⟩
    · refine fj_iload_n C 3 dX6_stateOf_11 rfl rfl ?_
      refine fj_aload_n C 0 dX6_stateOf_12 rfl rfl ?_
      refine fj_get (Cn := RX6) (T := TX6) (N := 44) (ci := 6) (v := .int (n 1)) C iX6 0 (fm_at0 _ _ _ _ _) rfl 3 (by decide) kX6_16 rfl dX6_stateOf_13 ?_
      refine fj_icmp_lt (tgt := 23) C dX6_stateOf_16 (by decide) (fun h16 => ?_) (fun h16 => ?_)
      · refine fj_iconst (v := 0) C dX6_stateOf_23 (by decide) ?_
        exact fj_iret C E9 dX6_stateOf_24 ⟨by rw [STm, if_pos (Int32.not_le.mp h1)]; first | (rw [if_neg (fun z => h8 z.1)]; done) | (rw [if_neg (fun z => absurd h16 (Int32.not_lt.mpr z.2))]; done) | (rw [if_pos ⟨h8, Int32.not_lt.mp h16⟩]; done), rfl⟩
      · refine fj_iconst (v := 4) C dX6_stateOf_19 (by decide) ?_
        refine fj_goto (tgt := 24) C dX6_stateOf_20 (by decide) ?_
        exact fj_iret C E9 dX6_stateOf_24 ⟨by rw [STm, if_pos (Int32.not_le.mp h1)]; first | (rw [if_neg (fun z => h8 z.1)]; done) | (rw [if_neg (fun z => absurd h16 (Int32.not_lt.mpr z.2))]; done) | (rw [if_pos ⟨h8, Int32.not_lt.mp h16⟩]; done), rfl⟩

set_option maxHeartbeats 4000000 in
set_option maxRecDepth 100000 in
theorem d_X6_holderOf (l : Launch) (D : va_G) (ty : Nat → ClassId) (t0 : Nat → Nat) (bd : Nat → Nat) (a : Nat → Nat → Int32) (g : Nat → Nat → Int64) (n : Nat → Int32) (P : Nat) (S : Nat) (T : Nat) (B : Nat) (I : YI P S T B a n) (M6 : Nat) (E7 : Nat) (W8 : Nat) (Y : YW S B M6 E7 W8 a n) (x : Int32) (k : Nat) (ek : x = nI k) (hk : k < 64) : fc l yX6_holderOf wsX6_holderOf (fj_rm 1 23 0 0) D ty t0 [.ref (bd 0), .int x] (fm_w bd ty a g n) 0 0 (fun v w => v = some (.int (HOm a E7 k)) ∧ w = fm_w bd ty a g n) := by
  subst ek
  refine fc_start (own := RX6) (cc := cX6_holderOf) (maxL := 3) (ret := (some .int)) (by decide) rfl (Nat.le_of_ble_eq_true rfl) rfl ?_
  intro p e s m args below meth c Q A C hmn E9
  obtain ⟨hn0, hP, hn2, hT, hn4, hS, hn5, hB, yWho, ySort, yQ, yN, yD, yL⟩ := id I
  obtain ⟨hn6, hM6, hn7, hn8, hEW, hWM, yO, yEL, yEA, yLW⟩ := id Y
  have iX6 : ∀ w ∈ u_ws RX6 TX6 44, w ∈ wsX6_holderOf := ptX6_holderOf_wsX60
  have kX6_82 : Cond.fieldLink RX6 82 "FreeLandModel" "holders" "[I" ∈ wsX6_holderOf := ptX6_holderOf_woX6_holderOf _ (by decide +kernel)
  refine fj_lv (lv' := [(0, .ref (bd 0)), (1, .int (nI k))]) [0, 1] rfl ?_
  refine fj_aload_n C 0 dX6_holderOf_0 rfl rfl ?_
  refine fj_iload_n C 1 dX6_holderOf_1 rfl rfl ?_
  refine fj_callVw (As := [.int (nI k)]) (rest := []) C (d_X6_entryOf l D ty t0 bd a g n P S T B I M6 E7 W8 Y (nI k)) (cwV 1 C.2.2.2.2.1 gX6_holderOf_X6_entryOf rfl rfl rfl (by decide +kernel) ⟨Nat.le_of_ble_eq_true rfl, Nat.le_of_ble_eq_true rfl⟩) ⟨0, 6, _, _, fm_at0 _ _ _ _ _, rfl, rfl⟩ rfl (Nat.le_of_ble_eq_true rfl) dX6_holderOf_2 ⟨Nat.zero_le _, Nat.zero_le _⟩ (fun v9 w9 hp9 => ?_)
  obtain ⟨rfl, rfl⟩ := hp9
  refine fj_st (st' := .int (enO a (nI k) E7) :: []) rfl ?_
  refine fj_topi (fun r9 e_r9 => ?_)
  refine fj_istore_n (lv' := [(2, .int r9), (0, .ref (bd 0)), (1, .int (nI k))]) C dX6_holderOf_5 rfl (by decide) rfl ?_
  refine fj_iload_n C 0 dX6_holderOf_6 rfl rfl ?_
  refine fj_if_ge (tgt := 14) C dX6_holderOf_7 (by decide) (fun h7 => ?_) (fun h7 => ?_)
  · obtain ⟨e5, he5, rfl⟩ := (show r9 = -1 ∨ ∃ e5, e5 < E7 ∧ r9 = nI e5 by rw [e_r9]; exact enO_in a _ E7).resolve_left (fun q => by rw [q] at h7; exact absurd h7 (by decide))
    refine fj_aload_n C 1 dX6_holderOf_14 rfl rfl ?_
    refine fj_get (Cn := RX6) (T := TX6) (N := 44) (ci := 6) (v := .ref (bd 22)) C iX6 0 (fm_at0 _ _ _ _ _) rfl 29 (by decide) kX6_82 rfl dX6_holderOf_15 ?_
    refine fj_iload_n C 0 dX6_holderOf_18 rfl rfl ?_
    refine fj_iald (f := (a 22)) C 22 (fm_at22 _ _ _ _ _) (vp_in_nI (by omega) (by decide)) dX6_holderOf_19 ?_
    refine fj_at (y := a 22 e5) (by rw [nI_clamp (by omega)]) ?_
    exact fj_iret C E9 dX6_holderOf_20 ⟨by rw [HOm, ← e_r9]; first | (rw [if_pos (Int32.not_le.mp h7)]; done) | (rw [if_neg (nI_nneg (by omega)), nI_clamp (by omega)]; done), rfl⟩
  · refine fj_iconst (v := (-1)) C dX6_holderOf_10 (by decide) ?_
    refine fj_goto (tgt := 20) C dX6_holderOf_11 (by decide) ?_
    exact fj_iret C E9 dX6_holderOf_20 ⟨by rw [HOm, ← e_r9]; first | (rw [if_pos (Int32.not_le.mp h7)]; done) | (rw [if_neg (nI_nneg (by omega)), nI_clamp (by omega)]; done), rfl⟩

set_option maxHeartbeats 4000000 in
set_option maxRecDepth 100000 in
theorem d_X6_holds (l : Launch) (D : va_G) (ty : Nat → ClassId) (t0 : Nat → Nat) (bd : Nat → Nat) (a : Nat → Nat → Int32) (g : Nat → Nat → Int64) (n : Nat → Int32) (P : Nat) (S : Nat) (T : Nat) (B : Nat) (I : YI P S T B a n) (x : Int32) (y : Int32) (u : Int32) (q : Int32)  : fc l yX6_holds wsX6_holds (fj_rm 5 116 0 0) D ty t0 [.ref (bd 0), .int x, .int y, .int u, .int q] (fm_w bd ty a g n) 0 0 (fun v w => (¬ (0 ≤ x ∧ x ≤ 63) ∧ v = some (.int (-1001)) ∧ w = fm_w bd ty a g n) ∨ ((0 ≤ x ∧ x ≤ 63) ∧ ¬ ((0 ≤ y ∧ y ≤ 20000) ∧ (-1 ≤ u ∧ u ≤ nI B) ∧ (0 ≤ q ∧ q ≤ 5)) ∧ v = some (.int (-1002)) ∧ w = fm_w bd ty a g n) ∨ (∃ k, k ≤ 63 ∧ x = nI k ∧ ((0 ≤ y ∧ y ≤ 20000) ∧ (-1 ≤ u ∧ u ≤ nI B) ∧ (0 ≤ q ∧ q ≤ 5)) ∧ ∃ N, LNS B u N ∧ ∃ (z : Nat → Nat → Int32) (E M : Nat), MTH S B a n N y z E M ∧ ∃ (r : Int32) (b : Nat → Nat → Int32), (∀ q, q < 29 → b q = z q) ∧ HMA z (n 1) E M k y q r ∧ v = some (.int r) ∧ w = fm_w bd ty b g (n678 n M E M))) := by
  refine fc_start (own := RX6) (cc := cX6_holds) (maxL := 6) (ret := (some .int)) (by decide) rfl (Nat.le_of_ble_eq_true rfl) rfl ?_
  intro p e s m args below meth c Q A C hmn E9
  obtain ⟨hn0, hP, hn2, hT, hn4, hS, hn5, hB, yWho, ySort, yQ, yN, yD, yL⟩ := id I
  have kL276 : Cond.constantLong RX6 276 (5) ∈ wsX6_holds := ptX6_holds_woX6_holds _ (by decide +kernel)
  have iX6 : ∀ w ∈ u_ws RX6 TX6 44, w ∈ wsX6_holds := ptX6_holds_wsX60
  have kX6_39 : Cond.fieldLink RX6 39 "FreeLandModel" "days" "[I" ∈ wsX6_holds := ptX6_holds_woX6_holds _ (by decide +kernel)
  have kX6_76 : Cond.fieldLink RX6 76 "FreeLandModel" "entryLine" "[I" ∈ wsX6_holds := ptX6_holds_woX6_holds _ (by decide +kernel)
  have kX6_82 : Cond.fieldLink RX6 82 "FreeLandModel" "holders" "[I" ∈ wsX6_holds := ptX6_holds_woX6_holds _ (by decide +kernel)
  refine fj_lv (lv' := [(0, .ref (bd 0)), (1, .int x), (2, .int y), (3, .int u), (4, .int q)]) [0, 1, 2, 3, 4] rfl ?_
  refine fj_iload_n C 1 dX6_holds_0 rfl rfl ?_
  refine fj_callSw (As := [.int x]) (rest := []) C (d_X6_isQuarter l D ty t0 (fm_w bd ty a g n) x) (va_cwS 1 C.2.2.2.2.1 gX6_holds_X6_isQuarter rfl rfl rfl (by decide +kernel) ⟨Nat.le_of_ble_eq_true rfl, Nat.le_of_ble_eq_true rfl⟩)  rfl (Nat.le_of_ble_eq_true rfl) dX6_holds_1 ⟨Nat.zero_le _, Nat.zero_le _⟩ (fun v9 w9 hp9 => ?_)
  obtain ⟨rfl, rfl⟩ := hp9
  refine fj_st (st' := .int (if (0 ≤ x ∧ x ≤ 63) then 1 else 0) :: []) rfl ?_
  refine fj_ifb_ne (tgt := 11) C dX6_holds_4 (by decide) (fun h4 => ?_) (fun h4 => ?_)
  · obtain ⟨k, hk, rfl⟩ := fx_le8 h4 (N := 63) rfl (by decide)
    refine fj_iload_n C 2 dX6_holds_11 rfl rfl ?_
    refine fj_callSw (As := [.int y]) (rest := []) C (d_X6_isDay l D ty t0 (fm_w bd ty a g n) y) (va_cwS 1 C.2.2.2.2.1 gX6_holds_X6_isDay rfl rfl rfl (by decide +kernel) ⟨Nat.le_of_ble_eq_true rfl, Nat.le_of_ble_eq_true rfl⟩)  rfl (Nat.le_of_ble_eq_true rfl) dX6_holds_12 ⟨Nat.zero_le _, Nat.zero_le _⟩ (fun v9 w9 hp9 => ?_)
    obtain ⟨rfl, rfl⟩ := hp9
    refine fj_st (st' := .int (if (0 ≤ y ∧ y ≤ 20000) then 1 else 0) :: []) rfl ?_
    refine fj_ifb_eq (tgt := 39) C dX6_holds_15 (by decide) (fun h15 => ?_) (fun h15 => ?_)
    · refine fj_sipush (v := (-1002)) C dX6_holds_39 (by decide) ?_
      exact fj_iret C E9 dX6_holds_42 (Or.inr (Or.inl ⟨h4, (fun z8 => by first | exact h15 z8.1 | exact h23 z8.2.1 | exact h36 z8.2.2), rfl, rfl⟩))
    · refine fj_aload_n C 0 dX6_holds_18 rfl rfl ?_
      refine fj_iload_n C 3 dX6_holds_19 rfl rfl ?_
      refine fj_callVw (As := [.int u]) (rest := []) C (d_X6_isKnown l D ty t0 bd a g n P S T B I u) (cwV 1 C.2.2.2.2.1 gX6_holds_X6_isKnown rfl rfl rfl (by decide +kernel) ⟨Nat.le_of_ble_eq_true rfl, Nat.le_of_ble_eq_true rfl⟩) ⟨0, 6, _, _, fm_at0 _ _ _ _ _, rfl, rfl⟩ rfl (Nat.le_of_ble_eq_true rfl) dX6_holds_20 ⟨Nat.zero_le _, Nat.zero_le _⟩ (fun v9 w9 hp9 => ?_)
      obtain ⟨rfl, rfl⟩ := hp9
      refine fj_st (st' := .int (if (-1 ≤ u ∧ u ≤ nI B) then 1 else 0) :: []) rfl ?_
      refine fj_ifb_eq (tgt := 39) C dX6_holds_23 (by decide) (fun h23 => ?_) (fun h23 => ?_)
      · refine fj_sipush (v := (-1002)) C dX6_holds_39 (by decide) ?_
        exact fj_iret C E9 dX6_holds_42 (Or.inr (Or.inl ⟨h4, (fun z8 => by first | exact h15 z8.1 | exact h23 z8.2.1 | exact h36 z8.2.2), rfl, rfl⟩))
      · refine fj_iload C 4 dX6_holds_26 rfl ?_
        refine fj_i2l C dX6_holds_28 ?_
        refine fj_lconst (v := 0) C dX6_holds_29 (by decide) ?_
        refine fj_ldc2 (v := 5) C dX6_holds_30 kL276 ?_
        refine fj_callSw (As := [.long q.toInt64, .long 0, .long 5]) (rest := []) C (d_X6_inI l D ty t0 (fm_w bd ty a g n) q 0 5 0 5 (by decide) (by decide)) (va_cwS 3 C.2.2.2.2.1 gX6_holds_X6_in rfl rfl rfl (by decide +kernel) ⟨Nat.le_of_ble_eq_true rfl, Nat.le_of_ble_eq_true rfl⟩)  rfl (Nat.le_of_ble_eq_true rfl) dX6_holds_33 ⟨Nat.zero_le _, Nat.zero_le _⟩ (fun v9 w9 hp9 => ?_)
        obtain ⟨rfl, rfl⟩ := hp9
        refine fj_st (st' := .int (if (0 ≤ q ∧ q ≤ 5) then 1 else 0) :: []) rfl ?_
        refine fj_ifb_ne (tgt := 43) C dX6_holds_36 (by decide) (fun h36 => ?_) (fun h36 => ?_)
        · refine fj_aload_n C 0 dX6_holds_43 rfl rfl ?_
          refine fj_aload_n C 0 dX6_holds_44 rfl rfl ?_
          refine fj_iload_n C 3 dX6_holds_45 rfl rfl ?_
          refine fj_callVw (As := [.int u]) (rest := [.ref (bd 0)]) C (d_X6_first l D ty t0 bd a g n P S T B I u) (cwV 1 C.2.2.2.2.1 gX6_holds_X6_first rfl rfl rfl (by decide +kernel) ⟨Nat.le_of_ble_eq_true rfl, Nat.le_of_ble_eq_true rfl⟩) ⟨0, 6, _, _, fm_at0 _ _ _ _ _, rfl, rfl⟩ rfl (Nat.le_of_ble_eq_true rfl) dX6_holds_46 ⟨Nat.zero_le _, Nat.zero_le _⟩ (fun v9 w9 hp9 => ?_)
          obtain ⟨rfl, rfl⟩ := hp9
          refine fj_st (st' := .int (if u < 0 then nI B else u) :: [.ref (bd 0)]) rfl ?_
          obtain ⟨N9, hN9, eN9⟩ := LNM_of h23 hB
          have hNB := hN9.1
          refine fj_at (y := nI N9) eN9 ?_
          refine fj_iload_n C 2 dX6_holds_49 rfl rfl ?_
          refine fj_callVw (As := [.int (nI N9), .int y]) (rest := []) C (d_X6_work l D ty t0 bd a g n P S T B I (nI N9) y N9 rfl hNB) (cwV 2 C.2.2.2.2.1 gX6_holds_X6_work rfl rfl rfl (by decide +kernel) ⟨Nat.le_of_ble_eq_true rfl, Nat.le_of_ble_eq_true rfl⟩) ⟨0, 6, _, _, fm_at0 _ _ _ _ _, rfl, rfl⟩ rfl (Nat.le_of_ble_eq_true rfl) dX6_holds_50 ⟨Nat.zero_le _, Nat.zero_le _⟩ (fun v9 w9 hp9 => ?_)
          obtain ⟨rfl, z9, E6, M9, hT9, rfl⟩ := hp9
          have Y9 := hT9.2.2.1
          have I9 := MTH_I I hT9
          obtain ⟨hn0, hP, hn2, hT, hn4, hS, hn5, hB, yWho, ySort, yQ, yN, yD, yL⟩ := id I9
          obtain ⟨hn6, hM6, hn7, hn8, hEW, hWM, yO, yEL, yEA, yLW⟩ := id Y9
          refine fj_st (st' := []) rfl ?_
          refine fj_aload_n C 0 dX6_holds_53 rfl rfl ?_
          refine fj_iload_n C 1 dX6_holds_54 rfl rfl ?_
          refine fj_callVw (As := [.int (nI k)]) (rest := []) C (d_X6_entryOf l D ty t0 bd z9 g (va_up (va_up (va_up n 6 (nI M9)) 7 (nI E6)) 8 (nI M9)) P S T B I9 M9 E6 M9 Y9 (nI k)) (cwV 1 C.2.2.2.2.1 gX6_holds_X6_entryOf rfl rfl rfl (by decide +kernel) ⟨Nat.le_of_ble_eq_true rfl, Nat.le_of_ble_eq_true rfl⟩) ⟨0, 6, _, _, fm_at0 _ _ _ _ _, rfl, rfl⟩ rfl (Nat.le_of_ble_eq_true rfl) dX6_holds_55 ⟨Nat.zero_le _, Nat.zero_le _⟩ (fun v9 w9 hp9 => ?_)
          obtain ⟨rfl, rfl⟩ := hp9
          refine fj_st (st' := .int (enO z9 (nI k) E6) :: []) rfl ?_
          refine fj_topi (fun r9 e_r9 => ?_)
          refine fj_istore (lv' := [(5, .int r9), (0, .ref (bd 0)), (1, .int (nI k)), (2, .int y), (3, .int u), (4, .int q)]) C dX6_holds_58 (by decide) rfl ?_
          refine fj_iload C 5 dX6_holds_60 rfl ?_
          rcases fx_sw q 0 5 with hsw | hsw
          · refine fj_tableOut (tgt := 166) C dX6_holds_62 hsw (by decide) ?_
            have hs : q = 4 := (fx_o5 h36 hsw).elim
            refine fj_iload C 0 dX6_holds_166 rfl ?_
            refine fj_if_ge (tgt := 173) C dX6_holds_168 (by decide) (fun h168 => ?_) (fun h168 => ?_)
            · obtain ⟨e5, he5, rfl⟩ := (show r9 = -1 ∨ ∃ e5, e5 < E6 ∧ r9 = nI e5 by rw [e_r9]; exact enO_in z9 _ E6).resolve_left (fun q => by rw [q] at h168; exact absurd h168 (by decide))
              obtain ⟨l6, hl6, el6⟩ := yEL e5 he5
              obtain ⟨u7, hu7, eu7⟩ := yD l6 hl6
              obtain ⟨d5, hd5, ed5⟩ := fx_le8 h15 (N := 20000) rfl (by decide)
              refine fj_aload_n C 1 dX6_holds_173 rfl rfl ?_
              refine fj_iload C 0 dX6_holds_174 rfl ?_
              refine fj_callVw (As := [.int (nI e5)]) (rest := []) C (d_X6_markLived l D ty t0 bd z9 g (va_up (va_up (va_up n 6 (nI M9)) 7 (nI E6)) 8 (nI M9)) P S T B I9 M9 E6 M9 Y9 (nI e5) e5 rfl he5) (cwV 1 C.2.2.2.2.1 gX6_holds_X6_markLived rfl rfl rfl (by decide +kernel) ⟨Nat.le_of_ble_eq_true rfl, Nat.le_of_ble_eq_true rfl⟩) ⟨0, 6, _, _, fm_at0 _ _ _ _ _, rfl, rfl⟩ rfl (Nat.le_of_ble_eq_true rfl) dX6_holds_176 ⟨Nat.zero_le _, Nat.zero_le _⟩ (fun v9 w9 hp9 => ?_)
              obtain ⟨rfl, rfl⟩ := hp9
              refine fj_st (st' := []) rfl ?_
              refine fj_aload_n C 1 dX6_holds_179 rfl rfl ?_
              refine fj_aload_n C 1 dX6_holds_180 rfl rfl ?_
              refine fj_get (Cn := RX6) (T := TX6) (N := 44) (ci := 6) (v := .ref (bd 8)) C iX6 0 (fm_at0 _ _ _ _ _) rfl 13 (by decide) kX6_39 rfl dX6_holds_181 ?_
              refine fj_aload_n C 1 dX6_holds_184 rfl rfl ?_
              refine fj_get (Cn := RX6) (T := TX6) (N := 44) (ci := 6) (v := .ref (bd 20)) C iX6 0 (fm_at0 _ _ _ _ _) rfl 27 (by decide) kX6_76 rfl dX6_holds_185 ?_
              refine fj_iload C 0 dX6_holds_188 rfl ?_
              refine fj_iald (f := (z9 20)) C 20 (fm_at20 _ _ _ _ _) (vp_in_nI (by omega) (by decide)) dX6_holds_190 ?_
              refine fj_at (y := nI l6) (by rw [nI_clamp (by omega), el6]) ?_
              refine fj_iald (f := (z9 8)) C 8 (fm_at8 _ _ _ _ _) (vp_in_nI (by omega) (by decide)) dX6_holds_191 ?_
              refine fj_at (y := nI u7) (by rw [nI_clamp (by omega), eu7]) ?_
              refine fj_iload_n C 3 dX6_holds_192 rfl rfl ?_
              refine fj_callVw (As := [.int (nI u7), .int y]) (rest := []) C (d_X6_livedDays l D ty t0 bd (va_up z9 29 (mkF z9 e5 M9)) g (va_up (va_up (va_up n 6 (nI M9)) 7 (nI E6)) 8 (nI M9)) (nI u7) y u7 rfl (by omega) (to_d0 ed5 hd5)) (cwV 2 C.2.2.2.2.1 gX6_holds_X6_livedDays rfl rfl rfl (by decide +kernel) ⟨Nat.le_of_ble_eq_true rfl, Nat.le_of_ble_eq_true rfl⟩) ⟨0, 6, _, _, fm_at0 _ _ _ _ _, rfl, rfl⟩ rfl (Nat.le_of_ble_eq_true rfl) dX6_holds_193 ⟨Nat.zero_le _, Nat.zero_le _⟩ (fun v9 w9 hp9 => ?_)
              obtain ⟨d9, hU9, rfl, rfl⟩ := hp9
              refine fj_st (st' := .int (nI (cL (mkF z9 e5 M9) u7 d9)) :: []) rfl ?_
              exact fj_iret C E9 dX6_holds_196 (Or.inr (Or.inr ⟨k, hk, rfl, ⟨h15, h23, h36⟩, N9, hN9, z9, E6, M9, hT9, _, (va_up z9 29 (mkF z9 e5 M9)), (fun _ hq => va_up_ne _ _ (by omega)), (Or.inr (Or.inr (Or.inr (Or.inr (Or.inl ⟨hs, Or.inr ⟨e5, he5, e_r9.symm, u7, d9, by rw [el6, nI_clamp (by omega), eu7], hu7, hU9, rfl⟩⟩))))), rfl, rfl⟩))
            · refine fj_iconst (v := 0) C dX6_holds_171 (by decide) ?_
              exact fj_iret C E9 dX6_holds_172 (Or.inr (Or.inr ⟨k, hk, rfl, ⟨h15, h23, h36⟩, N9, hN9, z9, E6, M9, hT9, _, z9, (fun _ _ => rfl), (Or.inr (Or.inr (Or.inr (Or.inr (Or.inl ⟨hs, Or.inl ⟨by rw [← e_r9]; exact Int32.not_le.mp h168, rfl⟩⟩))))), rfl, rfl⟩))
          · obtain ⟨hs1, hs2⟩ := hsw
            rcases (show q.toInt = 0 ∨ q.toInt = 1 ∨ q.toInt = 2 ∨ q.toInt = 3 ∨ q.toInt = 4 ∨ q.toInt = 5 by omega) with hsw | hsw | hsw | hsw | hsw | hsw
            · refine fj_tableIn (off := 38) (tgt := 100) C dX6_holds_62 (by omega) (by omega) (by rw [hsw]; rfl) (by decide) ?_
              have hs : q = 0 := Int32.toInt_inj.mp (by rw [hsw]; decide)
              refine fj_iload C 0 dX6_holds_100 rfl ?_
              refine fj_if_ge (tgt := 109) C dX6_holds_102 (by decide) (fun h102 => ?_) (fun h102 => ?_)
              · obtain ⟨e5, he5, rfl⟩ := (show r9 = -1 ∨ ∃ e5, e5 < E6 ∧ r9 = nI e5 by rw [e_r9]; exact enO_in z9 _ E6).resolve_left (fun q => by rw [q] at h102; exact absurd h102 (by decide))
                refine fj_aload_n C 1 dX6_holds_109 rfl rfl ?_
                refine fj_get (Cn := RX6) (T := TX6) (N := 44) (ci := 6) (v := .ref (bd 22)) C iX6 0 (fm_at0 _ _ _ _ _) rfl 29 (by decide) kX6_82 rfl dX6_holds_110 ?_
                refine fj_iload C 0 dX6_holds_113 rfl ?_
                refine fj_iald (f := (z9 22)) C 22 (fm_at22 _ _ _ _ _) (vp_in_nI (by omega) (by decide)) dX6_holds_115 ?_
                refine fj_at (y := z9 22 e5) (by rw [nI_clamp (by omega)]) ?_
                exact fj_iret C E9 dX6_holds_116 (Or.inr (Or.inr ⟨k, hk, rfl, ⟨h15, h23, h36⟩, N9, hN9, z9, E6, M9, hT9, _, z9, (fun _ _ => rfl), (Or.inl ⟨hs, by rw [HOm]; first | (rw [← e_r9, if_pos (Int32.not_le.mp h102)]; done) | (rw [← e_r9, if_neg (nI_nneg (by omega)), nI_clamp (by omega)]; done)⟩), rfl, rfl⟩))
              · refine fj_iconst (v := (-1)) C dX6_holds_105 (by decide) ?_
                refine fj_goto (tgt := 116) C dX6_holds_106 (by decide) ?_
                exact fj_iret C E9 dX6_holds_116 (Or.inr (Or.inr ⟨k, hk, rfl, ⟨h15, h23, h36⟩, N9, hN9, z9, E6, M9, hT9, _, z9, (fun _ _ => rfl), (Or.inl ⟨hs, by rw [HOm]; first | (rw [← e_r9, if_pos (Int32.not_le.mp h102)]; done) | (rw [← e_r9, if_neg (nI_nneg (by omega)), nI_clamp (by omega)]; done)⟩), rfl, rfl⟩))
            · refine fj_tableIn (off := 55) (tgt := 117) C dX6_holds_62 (by omega) (by omega) (by rw [hsw]; rfl) (by decide) ?_
              have hs : q = 1 := Int32.toInt_inj.mp (by rw [hsw]; decide)
              refine fj_aload_n C 1 dX6_holds_117 rfl rfl ?_
              refine fj_iload_n C 2 dX6_holds_118 rfl rfl ?_
              refine fj_iload C 0 dX6_holds_119 rfl ?_
              refine fj_iload_n C 3 dX6_holds_121 rfl rfl ?_
              refine fj_callVw (As := [.int (nI k), .int r9, .int y]) (rest := []) C (d_X6_stateOf l D ty t0 bd z9 g (va_up (va_up (va_up n 6 (nI M9)) 7 (nI E6)) 8 (nI M9)) P S T B I9 M9 E6 M9 Y9 (nI k) r9 y k rfl (by omega) (by rw [e_r9]; exact enO_in z9 _ E6)) (cwV 3 C.2.2.2.2.1 gX6_holds_X6_stateOf rfl rfl rfl (by decide +kernel) ⟨Nat.le_of_ble_eq_true rfl, Nat.le_of_ble_eq_true rfl⟩) ⟨0, 6, _, _, fm_at0 _ _ _ _ _, rfl, rfl⟩ rfl (Nat.le_of_ble_eq_true rfl) dX6_holds_122 ⟨Nat.zero_le _, Nat.zero_le _⟩ (fun v9 w9 hp9 => ?_)
              obtain ⟨rfl, rfl⟩ := hp9
              refine fj_st (st' := .int (STm z9 (n 1) k r9 y) :: []) rfl ?_
              exact fj_iret C E9 dX6_holds_125 (Or.inr (Or.inr ⟨k, hk, rfl, ⟨h15, h23, h36⟩, N9, hN9, z9, E6, M9, hT9, _, z9, (fun _ _ => rfl), (Or.inr (Or.inl ⟨hs, by rw [← e_r9]⟩)), rfl, rfl⟩))
            · refine fj_tableIn (off := 64) (tgt := 126) C dX6_holds_62 (by omega) (by omega) (by rw [hsw]; rfl) (by decide) ?_
              have hs : q = 2 := Int32.toInt_inj.mp (by rw [hsw]; decide)
              refine fj_iload C 0 dX6_holds_126 rfl ?_
              refine fj_if_ge (tgt := 135) C dX6_holds_128 (by decide) (fun h128 => ?_) (fun h128 => ?_)
              · obtain ⟨e5, he5, rfl⟩ := (show r9 = -1 ∨ ∃ e5, e5 < E6 ∧ r9 = nI e5 by rw [e_r9]; exact enO_in z9 _ E6).resolve_left (fun q => by rw [q] at h128; exact absurd h128 (by decide))
                refine fj_aload_n C 1 dX6_holds_135 rfl rfl ?_
                refine fj_get (Cn := RX6) (T := TX6) (N := 44) (ci := 6) (v := .ref (bd 20)) C iX6 0 (fm_at0 _ _ _ _ _) rfl 27 (by decide) kX6_76 rfl dX6_holds_136 ?_
                refine fj_iload C 0 dX6_holds_139 rfl ?_
                refine fj_iald (f := (z9 20)) C 20 (fm_at20 _ _ _ _ _) (vp_in_nI (by omega) (by decide)) dX6_holds_141 ?_
                refine fj_at (y := z9 20 e5) (by rw [nI_clamp (by omega)]) ?_
                exact fj_iret C E9 dX6_holds_142 (Or.inr (Or.inr ⟨k, hk, rfl, ⟨h15, h23, h36⟩, N9, hN9, z9, E6, M9, hT9, _, z9, (fun _ _ => rfl), (Or.inr (Or.inr (Or.inl ⟨hs, by first | (rw [← e_r9, if_pos (Int32.not_le.mp h128)]; done) | (rw [← e_r9, if_neg (nI_nneg (by omega)), nI_clamp (by omega)]; done)⟩))), rfl, rfl⟩))
              · refine fj_iconst (v := (-1)) C dX6_holds_131 (by decide) ?_
                refine fj_goto (tgt := 142) C dX6_holds_132 (by decide) ?_
                exact fj_iret C E9 dX6_holds_142 (Or.inr (Or.inr ⟨k, hk, rfl, ⟨h15, h23, h36⟩, N9, hN9, z9, E6, M9, hT9, _, z9, (fun _ _ => rfl), (Or.inr (Or.inr (Or.inl ⟨hs, by first | (rw [← e_r9, if_pos (Int32.not_le.mp h128)]; done) | (rw [← e_r9, if_neg (nI_nneg (by omega)), nI_clamp (by omega)]; done)⟩))), rfl, rfl⟩))
            · refine fj_tableIn (off := 81) (tgt := 143) C dX6_holds_62 (by omega) (by omega) (by rw [hsw]; rfl) (by decide) ?_
              have hs : q = 3 := Int32.toInt_inj.mp (by rw [hsw]; decide)
              refine fj_aload_n C 1 dX6_holds_143 rfl rfl ?_
              refine fj_iload_n C 2 dX6_holds_144 rfl rfl ?_
              refine fj_iload_n C 3 dX6_holds_145 rfl rfl ?_
              refine fj_callVw (As := [.int (nI k), .int y]) (rest := []) C (d_X6_preferredOn l D ty t0 bd z9 g (va_up (va_up (va_up n 6 (nI M9)) 7 (nI E6)) 8 (nI M9)) (nI k) y k rfl (by omega)) (cwV 2 C.2.2.2.2.1 gX6_holds_X6_preferredOn rfl rfl rfl (by decide +kernel) ⟨Nat.le_of_ble_eq_true rfl, Nat.le_of_ble_eq_true rfl⟩) ⟨0, 6, _, _, fm_at0 _ _ _ _ _, rfl, rfl⟩ rfl (Nat.le_of_ble_eq_true rfl) dX6_holds_146 ⟨Nat.zero_le _, Nat.zero_le _⟩ (fun v9 w9 hp9 => ?_)
              obtain ⟨rfl, rfl⟩ := hp9
              refine fj_st (st' := .int (PFM z9 k y) :: []) rfl ?_
              exact fj_iret C E9 dX6_holds_149 (Or.inr (Or.inr ⟨k, hk, rfl, ⟨h15, h23, h36⟩, N9, hN9, z9, E6, M9, hT9, _, z9, (fun _ _ => rfl), (Or.inr (Or.inr (Or.inr (Or.inl ⟨hs, rfl⟩)))), rfl, rfl⟩))
            · refine fj_tableIn (off := 104) (tgt := 166) C dX6_holds_62 (by omega) (by omega) (by rw [hsw]; rfl) (by decide) ?_
              have hs : q = 4 := Int32.toInt_inj.mp (by rw [hsw]; decide)
              refine fj_iload C 0 dX6_holds_166 rfl ?_
              refine fj_if_ge (tgt := 173) C dX6_holds_168 (by decide) (fun h168 => ?_) (fun h168 => ?_)
              · obtain ⟨e5, he5, rfl⟩ := (show r9 = -1 ∨ ∃ e5, e5 < E6 ∧ r9 = nI e5 by rw [e_r9]; exact enO_in z9 _ E6).resolve_left (fun q => by rw [q] at h168; exact absurd h168 (by decide))
                obtain ⟨l6, hl6, el6⟩ := yEL e5 he5
                obtain ⟨u7, hu7, eu7⟩ := yD l6 hl6
                obtain ⟨d5, hd5, ed5⟩ := fx_le8 h15 (N := 20000) rfl (by decide)
                refine fj_aload_n C 1 dX6_holds_173 rfl rfl ?_
                refine fj_iload C 0 dX6_holds_174 rfl ?_
                refine fj_callVw (As := [.int (nI e5)]) (rest := []) C (d_X6_markLived l D ty t0 bd z9 g (va_up (va_up (va_up n 6 (nI M9)) 7 (nI E6)) 8 (nI M9)) P S T B I9 M9 E6 M9 Y9 (nI e5) e5 rfl he5) (cwV 1 C.2.2.2.2.1 gX6_holds_X6_markLived rfl rfl rfl (by decide +kernel) ⟨Nat.le_of_ble_eq_true rfl, Nat.le_of_ble_eq_true rfl⟩) ⟨0, 6, _, _, fm_at0 _ _ _ _ _, rfl, rfl⟩ rfl (Nat.le_of_ble_eq_true rfl) dX6_holds_176 ⟨Nat.zero_le _, Nat.zero_le _⟩ (fun v9 w9 hp9 => ?_)
                obtain ⟨rfl, rfl⟩ := hp9
                refine fj_st (st' := []) rfl ?_
                refine fj_aload_n C 1 dX6_holds_179 rfl rfl ?_
                refine fj_aload_n C 1 dX6_holds_180 rfl rfl ?_
                refine fj_get (Cn := RX6) (T := TX6) (N := 44) (ci := 6) (v := .ref (bd 8)) C iX6 0 (fm_at0 _ _ _ _ _) rfl 13 (by decide) kX6_39 rfl dX6_holds_181 ?_
                refine fj_aload_n C 1 dX6_holds_184 rfl rfl ?_
                refine fj_get (Cn := RX6) (T := TX6) (N := 44) (ci := 6) (v := .ref (bd 20)) C iX6 0 (fm_at0 _ _ _ _ _) rfl 27 (by decide) kX6_76 rfl dX6_holds_185 ?_
                refine fj_iload C 0 dX6_holds_188 rfl ?_
                refine fj_iald (f := (z9 20)) C 20 (fm_at20 _ _ _ _ _) (vp_in_nI (by omega) (by decide)) dX6_holds_190 ?_
                refine fj_at (y := nI l6) (by rw [nI_clamp (by omega), el6]) ?_
                refine fj_iald (f := (z9 8)) C 8 (fm_at8 _ _ _ _ _) (vp_in_nI (by omega) (by decide)) dX6_holds_191 ?_
                refine fj_at (y := nI u7) (by rw [nI_clamp (by omega), eu7]) ?_
                refine fj_iload_n C 3 dX6_holds_192 rfl rfl ?_
                refine fj_callVw (As := [.int (nI u7), .int y]) (rest := []) C (d_X6_livedDays l D ty t0 bd (va_up z9 29 (mkF z9 e5 M9)) g (va_up (va_up (va_up n 6 (nI M9)) 7 (nI E6)) 8 (nI M9)) (nI u7) y u7 rfl (by omega) (to_d0 ed5 hd5)) (cwV 2 C.2.2.2.2.1 gX6_holds_X6_livedDays rfl rfl rfl (by decide +kernel) ⟨Nat.le_of_ble_eq_true rfl, Nat.le_of_ble_eq_true rfl⟩) ⟨0, 6, _, _, fm_at0 _ _ _ _ _, rfl, rfl⟩ rfl (Nat.le_of_ble_eq_true rfl) dX6_holds_193 ⟨Nat.zero_le _, Nat.zero_le _⟩ (fun v9 w9 hp9 => ?_)
                obtain ⟨d9, hU9, rfl, rfl⟩ := hp9
                refine fj_st (st' := .int (nI (cL (mkF z9 e5 M9) u7 d9)) :: []) rfl ?_
                exact fj_iret C E9 dX6_holds_196 (Or.inr (Or.inr ⟨k, hk, rfl, ⟨h15, h23, h36⟩, N9, hN9, z9, E6, M9, hT9, _, (va_up z9 29 (mkF z9 e5 M9)), (fun _ hq => va_up_ne _ _ (by omega)), (Or.inr (Or.inr (Or.inr (Or.inr (Or.inl ⟨hs, Or.inr ⟨e5, he5, e_r9.symm, u7, d9, by rw [el6, nI_clamp (by omega), eu7], hu7, hU9, rfl⟩⟩))))), rfl, rfl⟩))
              · refine fj_iconst (v := 0) C dX6_holds_171 (by decide) ?_
                exact fj_iret C E9 dX6_holds_172 (Or.inr (Or.inr ⟨k, hk, rfl, ⟨h15, h23, h36⟩, N9, hN9, z9, E6, M9, hT9, _, z9, (fun _ _ => rfl), (Or.inr (Or.inr (Or.inr (Or.inr (Or.inl ⟨hs, Or.inl ⟨by rw [← e_r9]; exact Int32.not_le.mp h168, rfl⟩⟩))))), rfl, rfl⟩))
            · refine fj_tableIn (off := 88) (tgt := 150) C dX6_holds_62 (by omega) (by omega) (by rw [hsw]; rfl) (by decide) ?_
              have hs : q = 5 := Int32.toInt_inj.mp (by rw [hsw]; decide)
              refine fj_iload C 0 dX6_holds_150 rfl ?_
              refine fj_if_ge (tgt := 159) C dX6_holds_152 (by decide) (fun h152 => ?_) (fun h152 => ?_)
              · obtain ⟨e5, he5, rfl⟩ := (show r9 = -1 ∨ ∃ e5, e5 < E6 ∧ r9 = nI e5 by rw [e_r9]; exact enO_in z9 _ E6).resolve_left (fun q => by rw [q] at h152; exact absurd h152 (by decide))
                refine fj_aload_n C 1 dX6_holds_159 rfl rfl ?_
                refine fj_iload C 0 dX6_holds_160 rfl ?_
                refine fj_callVw (As := [.int (nI e5)]) (rest := []) C (d_X6_acres l D ty t0 bd z9 g (va_up (va_up (va_up n 6 (nI M9)) 7 (nI E6)) 8 (nI M9)) P S T B I9 M9 E6 M9 Y9 (nI e5) e5 rfl he5) (cwV 1 C.2.2.2.2.1 gX6_holds_X6_acres rfl rfl rfl (by decide +kernel) ⟨Nat.le_of_ble_eq_true rfl, Nat.le_of_ble_eq_true rfl⟩) ⟨0, 6, _, _, fm_at0 _ _ _ _ _, rfl, rfl⟩ rfl (Nat.le_of_ble_eq_true rfl) dX6_holds_162 ⟨Nat.zero_le _, Nat.zero_le _⟩ (fun v9 w9 hp9 => ?_)
                obtain ⟨rfl, rfl⟩ := hp9
                refine fj_st (st' := .int (acM z9 e5 (z9 21 e5).toNatClampNeg (M9 - (z9 21 e5).toNatClampNeg)) :: []) rfl ?_
                exact fj_iret C E9 dX6_holds_165 (Or.inr (Or.inr ⟨k, hk, rfl, ⟨h15, h23, h36⟩, N9, hN9, z9, E6, M9, hT9, _, z9, (fun _ _ => rfl), (Or.inr (Or.inr (Or.inr (Or.inr (Or.inr (⟨hs, by first | (rw [← e_r9, if_pos (Int32.not_le.mp h152)]; done) | (rw [← e_r9, if_neg (nI_nneg (by omega)), nI_clamp (by omega)]; done)⟩)))))), rfl, rfl⟩))
              · refine fj_iconst (v := 0) C dX6_holds_155 (by decide) ?_
                refine fj_goto (tgt := 165) C dX6_holds_156 (by decide) ?_
                exact fj_iret C E9 dX6_holds_165 (Or.inr (Or.inr ⟨k, hk, rfl, ⟨h15, h23, h36⟩, N9, hN9, z9, E6, M9, hT9, _, z9, (fun _ _ => rfl), (Or.inr (Or.inr (Or.inr (Or.inr (Or.inr (⟨hs, by first | (rw [← e_r9, if_pos (Int32.not_le.mp h152)]; done) | (rw [← e_r9, if_neg (nI_nneg (by omega)), nI_clamp (by omega)]; done)⟩)))))), rfl, rfl⟩))
        · refine fj_sipush (v := (-1002)) C dX6_holds_39 (by decide) ?_
          exact fj_iret C E9 dX6_holds_42 (Or.inr (Or.inl ⟨h4, (fun z8 => by first | exact h15 z8.1 | exact h23 z8.2.1 | exact h36 z8.2.2), rfl, rfl⟩))
  · refine fj_sipush (v := (-1001)) C dX6_holds_7 (by decide) ?_
    exact fj_iret C E9 dX6_holds_10 (Or.inl ⟨h4, rfl, rfl⟩)

set_option maxHeartbeats 4000000 in
set_option maxRecDepth 100000 in
theorem d_X6_holdings (l : Launch) (D : va_G) (ty : Nat → ClassId) (t0 : Nat → Nat) (bd : Nat → Nat) (a : Nat → Nat → Int32) (g : Nat → Nat → Int64) (n : Nat → Int32) (P : Nat) (S : Nat) (T : Nat) (B : Nat) (I : YI P S T B a n) (x : Int32) (y : Int32)  : fc l yX6_holdings wsX6_holdings (fj_rm 5 116 0 0) D ty t0 [.ref (bd 0), .int x, .int y] (fm_w bd ty a g n) 0 0 (fun v w => (¬ ib x P ∧ v = some (.int (-1001)) ∧ w = fm_w bd ty a g n) ∨ (ib x P ∧ ¬ (-1 ≤ y ∧ y ≤ nI B) ∧ v = some (.int (-1002)) ∧ w = fm_w bd ty a g n) ∨ (ib x P ∧ (-1 ≤ y ∧ y ≤ nI B) ∧ ∃ N, LNS B y N ∧ ∃ (z : Nat → Nat → Int32) (E M : Nat), MTH S B a n N 20000 z E M ∧ v = some (.int (nI (cnM z E x 64))) ∧ w = fm_w bd ty z g (n678 n M E M))) := by
  refine fc_start (own := RX6) (cc := cX6_holdings) (maxL := 5) (ret := (some .int)) (by decide) rfl (Nat.le_of_ble_eq_true rfl) rfl ?_
  intro p e s m args below meth c Q A C hmn E9
  obtain ⟨hn0, hP, hn2, hT, hn4, hS, hn5, hB, yWho, ySort, yQ, yN, yD, yL⟩ := id I
  refine fj_lv (lv' := [(0, .ref (bd 0)), (1, .int x), (2, .int y)]) [0, 1, 2] rfl ?_
  refine fj_aload_n C 0 dX6_holdings_0 rfl rfl ?_
  refine fj_iload_n C 1 dX6_holdings_1 rfl rfl ?_
  refine fj_callVw (As := [.int x]) (rest := []) C (d_X6_isPerson l D ty t0 bd a g n P S T B I x) (cwV 1 C.2.2.2.2.1 gX6_holdings_X6_isPerson rfl rfl rfl (by decide +kernel) ⟨Nat.le_of_ble_eq_true rfl, Nat.le_of_ble_eq_true rfl⟩) ⟨0, 6, _, _, fm_at0 _ _ _ _ _, rfl, rfl⟩ rfl (Nat.le_of_ble_eq_true rfl) dX6_holdings_2 ⟨Nat.zero_le _, Nat.zero_le _⟩ (fun v9 w9 hp9 => ?_)
  obtain ⟨rfl, rfl⟩ := hp9
  refine fj_st (st' := .int (if ib x P then 1 else 0) :: []) rfl ?_
  refine fj_ifb_ne (tgt := 12) C dX6_holdings_5 (by decide) (fun h5 => ?_) (fun h5 => ?_)
  · refine fj_aload_n C 0 dX6_holdings_12 rfl rfl ?_
    refine fj_iload_n C 2 dX6_holdings_13 rfl rfl ?_
    refine fj_callVw (As := [.int y]) (rest := []) C (d_X6_isKnown l D ty t0 bd a g n P S T B I y) (cwV 1 C.2.2.2.2.1 gX6_holdings_X6_isKnown rfl rfl rfl (by decide +kernel) ⟨Nat.le_of_ble_eq_true rfl, Nat.le_of_ble_eq_true rfl⟩) ⟨0, 6, _, _, fm_at0 _ _ _ _ _, rfl, rfl⟩ rfl (Nat.le_of_ble_eq_true rfl) dX6_holdings_14 ⟨Nat.zero_le _, Nat.zero_le _⟩ (fun v9 w9 hp9 => ?_)
    obtain ⟨rfl, rfl⟩ := hp9
    refine fj_st (st' := .int (if (-1 ≤ y ∧ y ≤ nI B) then 1 else 0) :: []) rfl ?_
    refine fj_ifb_ne (tgt := 24) C dX6_holdings_17 (by decide) (fun h17 => ?_) (fun h17 => ?_)
    · refine fj_aload_n C 0 dX6_holdings_24 rfl rfl ?_
      refine fj_aload_n C 0 dX6_holdings_25 rfl rfl ?_
      refine fj_iload_n C 2 dX6_holdings_26 rfl rfl ?_
      refine fj_callVw (As := [.int y]) (rest := [.ref (bd 0)]) C (d_X6_first l D ty t0 bd a g n P S T B I y) (cwV 1 C.2.2.2.2.1 gX6_holdings_X6_first rfl rfl rfl (by decide +kernel) ⟨Nat.le_of_ble_eq_true rfl, Nat.le_of_ble_eq_true rfl⟩) ⟨0, 6, _, _, fm_at0 _ _ _ _ _, rfl, rfl⟩ rfl (Nat.le_of_ble_eq_true rfl) dX6_holdings_27 ⟨Nat.zero_le _, Nat.zero_le _⟩ (fun v9 w9 hp9 => ?_)
      obtain ⟨rfl, rfl⟩ := hp9
      refine fj_st (st' := .int (if y < 0 then nI B else y) :: [.ref (bd 0)]) rfl ?_
      obtain ⟨N9, hN9, eN9⟩ := LNM_of h17 hB
      have hNB := hN9.1
      refine fj_at (y := nI N9) eN9 ?_
      refine fj_sipush (v := 20000) C dX6_holdings_30 (by decide) ?_
      refine fj_callVw (As := [.int (nI N9), .int 20000]) (rest := []) C (d_X6_work l D ty t0 bd a g n P S T B I (nI N9) 20000 N9 rfl hNB) (cwV 2 C.2.2.2.2.1 gX6_holdings_X6_work rfl rfl rfl (by decide +kernel) ⟨Nat.le_of_ble_eq_true rfl, Nat.le_of_ble_eq_true rfl⟩) ⟨0, 6, _, _, fm_at0 _ _ _ _ _, rfl, rfl⟩ rfl (Nat.le_of_ble_eq_true rfl) dX6_holdings_33 ⟨Nat.zero_le _, Nat.zero_le _⟩ (fun v9 w9 hp9 => ?_)
      obtain ⟨rfl, z9, E6, M9, hT9, rfl⟩ := hp9
      have Y9 := hT9.2.2.1
      have I9 := MTH_I I hT9
      obtain ⟨hn0, hP, hn2, hT, hn4, hS, hn5, hB, yWho, ySort, yQ, yN, yD, yL⟩ := id I9
      obtain ⟨hn6, hM6, hn7, hn8, hEW, hWM, yO, yEL, yEA, yLW⟩ := id Y9
      refine fj_st (st' := []) rfl ?_
      refine fj_iconst (v := 0) C dX6_holdings_36 (by decide) ?_
      refine fj_istore_n (lv' := [(3, .int 0), (0, .ref (bd 0)), (1, .int x), (2, .int y)]) C dX6_holdings_37 rfl (by decide) rfl ?_
      refine fj_iconst (v := 0) C dX6_holdings_38 (by decide) ?_
      refine fj_istore (lv' := [(4, .int 0), (3, .int 0), (0, .ref (bd 0)), (1, .int x), (2, .int y)]) C dX6_holdings_39 (by decide) rfl ?_
      refine fj_lv (lv' := [(0, .ref (bd 0)), (1, .int x), (2, .int y), (3, .int 0), (4, .int 0)]) [2, 3, 4, 1, 0] rfl ?_
      have lp41 : ∀ (i : Nat), (i ≤ 64) → fj p l e (fj_rm 5 116 0 0) s m args below meth c Q A D 5 0 0 (fm_w bd ty z9 g (va_up (va_up (va_up n 6 (nI M9)) 7 (nI E6)) 8 (nI M9))) [(0, .ref (bd 0)), (1, .int x), (2, .int y), (3, .int (nI (cnM z9 E6 x i))), (4, .int (nI i))] 41 [] := by
        have key : ∀ zz : Nat, (fun (i : Nat) => (i ≤ 64) → fj p l e (fj_rm 5 116 0 0) s m args below meth c Q A D 5 0 0 (fm_w bd ty z9 g (va_up (va_up (va_up n 6 (nI M9)) 7 (nI E6)) 8 (nI M9))) [(0, .ref (bd 0)), (1, .int x), (2, .int y), (3, .int (nI (cnM z9 E6 x i))), (4, .int (nI i))] 41 []) zz := by
          refine fx_ind (fun (i : Nat) => 64 - i) _ ?_
          rintro i ih41 hi
          refine fj_iload C 4 dX6_holdings_41 rfl ?_
          refine fj_bipush (v := 64) C dX6_holdings_43 (by decide) ?_
          refine fj_icmp_ge (tgt := 72) C dX6_holdings_45 (by decide) (fun h45 => ?_) (fun h45 => ?_)
          · obtain rfl : i = 64 := by have := (nI_leI (a := 64) (by decide) (by omega)).mp h45; omega
            refine fj_iload_n C 3 dX6_holdings_72 rfl rfl ?_
            exact fj_iret C E9 dX6_holdings_73 (Or.inr (Or.inr ⟨h5, h17, N9, hN9, z9, E6, M9, hT9, rfl, rfl⟩))
          · have hlt : i < 64 := Nat.lt_of_not_le fun q => h45 ((nI_leI (a := 64) (by decide) (by omega)).mpr q)
            refine fj_iload_n C 3 dX6_holdings_48 rfl rfl ?_
            refine fj_aload_n C 0 dX6_holdings_49 rfl rfl ?_
            refine fj_iload C 4 dX6_holdings_50 rfl ?_
            refine fj_callVw (As := [.int (nI i)]) (rest := [.int (nI (cnM z9 E6 x i))]) C (d_X6_holderOf l D ty t0 bd z9 g (va_up (va_up (va_up n 6 (nI M9)) 7 (nI E6)) 8 (nI M9)) P S T B I9 M9 E6 M9 Y9 (nI i) i rfl (by omega)) (cwV 1 C.2.2.2.2.1 gX6_holdings_X6_holderOf rfl rfl rfl (by decide +kernel) ⟨Nat.le_of_ble_eq_true rfl, Nat.le_of_ble_eq_true rfl⟩) ⟨0, 6, _, _, fm_at0 _ _ _ _ _, rfl, rfl⟩ rfl (Nat.le_of_ble_eq_true rfl) dX6_holdings_52 ⟨Nat.zero_le _, Nat.zero_le _⟩ (fun v9 w9 hp9 => ?_)
            obtain ⟨rfl, rfl⟩ := hp9
            refine fj_st (st' := .int (HOm z9 E6 i) :: [.int (nI (cnM z9 E6 x i))]) rfl ?_
            refine fj_iload_n C 1 dX6_holdings_55 rfl rfl ?_
            refine fj_icmp_ne (tgt := 63) C dX6_holdings_56 (by decide) (fun h56 => ?_) (fun h56 => ?_)
            · refine fj_iconst (v := 0) C dX6_holdings_63 (by decide) ?_
              refine fj_iadd C dX6_holdings_64 ?_
              refine fj_at (y := nI (cnM z9 E6 x (i + 1))) (by first | (rw [cnM_p h56]; exact nI_1 _) | (rw [cnM_z h56]; exact Int32.add_zero _)) ?_
              refine fj_istore_n (lv' := [(3, .int (nI (cnM z9 E6 x (i + 1)))), (0, .ref (bd 0)), (1, .int x), (2, .int y), (4, .int (nI i))]) C dX6_holdings_65 rfl (by decide) rfl ?_
              refine fj_iinc (v := nI (i + 1)) (lv' := [(4, .int (nI (i + 1))), (3, .int (nI (cnM z9 E6 x (i + 1)))), (0, .ref (bd 0)), (1, .int x), (2, .int y)]) C 4 dX6_holdings_66 rfl (nI_1 i) (by decide) rfl ?_
              refine fj_goto (tgt := 41) C dX6_holdings_69 (by decide) ?_
              refine fj_lv (lv' := [(0, .ref (bd 0)), (1, .int x), (2, .int y), (3, .int (nI (cnM z9 E6 x (i + 1)))), (4, .int (nI (i + 1)))]) [2, 3, 4, 1, 0] rfl ?_
              exact ih41 (i + 1) (by show 64 - (i + 1) < 64 - i; omega) (by omega)
            · refine fj_iconst (v := 1) C dX6_holdings_59 (by decide) ?_
              refine fj_goto (tgt := 64) C dX6_holdings_60 (by decide) ?_
              refine fj_iadd C dX6_holdings_64 ?_
              refine fj_at (y := nI (cnM z9 E6 x (i + 1))) (by first | (rw [cnM_p h56]; exact nI_1 _) | (rw [cnM_z h56]; exact Int32.add_zero _)) ?_
              refine fj_istore_n (lv' := [(3, .int (nI (cnM z9 E6 x (i + 1)))), (0, .ref (bd 0)), (1, .int x), (2, .int y), (4, .int (nI i))]) C dX6_holdings_65 rfl (by decide) rfl ?_
              refine fj_iinc (v := nI (i + 1)) (lv' := [(4, .int (nI (i + 1))), (3, .int (nI (cnM z9 E6 x (i + 1)))), (0, .ref (bd 0)), (1, .int x), (2, .int y)]) C 4 dX6_holdings_66 rfl (nI_1 i) (by decide) rfl ?_
              refine fj_goto (tgt := 41) C dX6_holdings_69 (by decide) ?_
              refine fj_lv (lv' := [(0, .ref (bd 0)), (1, .int x), (2, .int y), (3, .int (nI (cnM z9 E6 x (i + 1)))), (4, .int (nI (i + 1)))]) [2, 3, 4, 1, 0] rfl ?_
              exact ih41 (i + 1) (by show 64 - (i + 1) < 64 - i; omega) (by omega)
        intro i
        exact key i
      exact lp41 0 (Nat.zero_le _)
    · refine fj_sipush (v := (-1002)) C dX6_holdings_20 (by decide) ?_
      exact fj_iret C E9 dX6_holdings_23 (Or.inr (Or.inl ⟨h5, h17, rfl, rfl⟩))
  · refine fj_sipush (v := (-1001)) C dX6_holdings_8 (by decide) ?_
    exact fj_iret C E9 dX6_holdings_11 (Or.inl ⟨h5, rfl, rfl⟩)

set_option maxHeartbeats 4000000 in
set_option maxRecDepth 100000 in
theorem d_X6_digest (l : Launch) (D : va_G) (ty : Nat → ClassId) (t0 : Nat → Nat) (bd : Nat → Nat) (a : Nat → Nat → Int32) (g : Nat → Nat → Int64) (n : Nat → Int32) (P : Nat) (S : Nat) (T : Nat) (B : Nat) (I : YI P S T B a n) (x : Int32)  : fc l yX6_digest wsX6_digest (fj_rm 5 116 0 0) D ty t0 [.ref (bd 0), .int x] (fm_w bd ty a g n) 0 0 (fun v w => (¬ (-1 ≤ x ∧ x ≤ nI B) ∧ v = some (.int (-1002)) ∧ w = fm_w bd ty a g n) ∨ ((-1 ≤ x ∧ x ≤ nI B) ∧ ∃ N, LNS B x N ∧ ∃ (z : Nat → Nat → Int32) (E M : Nat), MTH S B a n N 20000 z E M ∧ v = some (.int (dgF (HOm z E) (dgF (z 18) 7 N) 64)) ∧ w = fm_w bd ty z g (n678 n M E M))) := by
  refine fc_start (own := RX6) (cc := cX6_digest) (maxL := 5) (ret := (some .int)) (by decide) rfl (Nat.le_of_ble_eq_true rfl) rfl ?_
  intro p e s m args below meth c Q A C hmn E9
  obtain ⟨hn0, hP, hn2, hT, hn4, hS, hn5, hB, yWho, ySort, yQ, yN, yD, yL⟩ := id I
  have iX6 : ∀ w ∈ u_ws RX6 TX6 44, w ∈ wsX6_digest := ptX6_digest_wsX60
  have kX6_70 : Cond.fieldLink RX6 70 "FreeLandModel" "outcomes" "[I" ∈ wsX6_digest := ptX6_digest_woX6_digest _ (by decide +kernel)
  refine fj_lv (lv' := [(0, .ref (bd 0)), (1, .int x)]) [0, 1] rfl ?_
  refine fj_aload_n C 0 dX6_digest_0 rfl rfl ?_
  refine fj_iload_n C 1 dX6_digest_1 rfl rfl ?_
  refine fj_callVw (As := [.int x]) (rest := []) C (d_X6_isKnown l D ty t0 bd a g n P S T B I x) (cwV 1 C.2.2.2.2.1 gX6_digest_X6_isKnown rfl rfl rfl (by decide +kernel) ⟨Nat.le_of_ble_eq_true rfl, Nat.le_of_ble_eq_true rfl⟩) ⟨0, 6, _, _, fm_at0 _ _ _ _ _, rfl, rfl⟩ rfl (Nat.le_of_ble_eq_true rfl) dX6_digest_2 ⟨Nat.zero_le _, Nat.zero_le _⟩ (fun v9 w9 hp9 => ?_)
  obtain ⟨rfl, rfl⟩ := hp9
  refine fj_st (st' := .int (if (-1 ≤ x ∧ x ≤ nI B) then 1 else 0) :: []) rfl ?_
  refine fj_ifb_ne (tgt := 12) C dX6_digest_5 (by decide) (fun h5 => ?_) (fun h5 => ?_)
  · refine fj_aload_n C 0 dX6_digest_12 rfl rfl ?_
    refine fj_iload_n C 1 dX6_digest_13 rfl rfl ?_
    refine fj_callVw (As := [.int x]) (rest := []) C (d_X6_first l D ty t0 bd a g n P S T B I x) (cwV 1 C.2.2.2.2.1 gX6_digest_X6_first rfl rfl rfl (by decide +kernel) ⟨Nat.le_of_ble_eq_true rfl, Nat.le_of_ble_eq_true rfl⟩) ⟨0, 6, _, _, fm_at0 _ _ _ _ _, rfl, rfl⟩ rfl (Nat.le_of_ble_eq_true rfl) dX6_digest_14 ⟨Nat.zero_le _, Nat.zero_le _⟩ (fun v9 w9 hp9 => ?_)
    obtain ⟨rfl, rfl⟩ := hp9
    refine fj_st (st' := .int (if x < 0 then nI B else x) :: []) rfl ?_
    obtain ⟨N9, hN9, eN9⟩ := LNM_of h5 hB
    have hNB := hN9.1
    refine fj_at (y := nI N9) eN9 ?_
    refine fj_istore_n (lv' := [(2, .int (nI N9)), (0, .ref (bd 0)), (1, .int x)]) C dX6_digest_17 rfl (by decide) rfl ?_
    refine fj_aload_n C 1 dX6_digest_18 rfl rfl ?_
    refine fj_iload_n C 0 dX6_digest_19 rfl rfl ?_
    refine fj_sipush (v := 20000) C dX6_digest_20 (by decide) ?_
    refine fj_callVw (As := [.int (nI N9), .int 20000]) (rest := []) C (d_X6_work l D ty t0 bd a g n P S T B I (nI N9) 20000 N9 rfl hNB) (cwV 2 C.2.2.2.2.1 gX6_digest_X6_work rfl rfl rfl (by decide +kernel) ⟨Nat.le_of_ble_eq_true rfl, Nat.le_of_ble_eq_true rfl⟩) ⟨0, 6, _, _, fm_at0 _ _ _ _ _, rfl, rfl⟩ rfl (Nat.le_of_ble_eq_true rfl) dX6_digest_23 ⟨Nat.zero_le _, Nat.zero_le _⟩ (fun v9 w9 hp9 => ?_)
    obtain ⟨rfl, z9, E6, M9, hT9, rfl⟩ := hp9
    have Y9 := hT9.2.2.1
    have I9 := MTH_I I hT9
    obtain ⟨hn0, hP, hn2, hT, hn4, hS, hn5, hB, yWho, ySort, yQ, yN, yD, yL⟩ := id I9
    obtain ⟨hn6, hM6, hn7, hn8, hEW, hWM, yO, yEL, yEA, yLW⟩ := id Y9
    refine fj_st (st' := []) rfl ?_
    refine fj_bipush (v := 7) C dX6_digest_26 (by decide) ?_
    refine fj_istore_n (lv' := [(3, .int 7), (2, .int (nI N9)), (0, .ref (bd 0)), (1, .int x)]) C dX6_digest_28 rfl (by decide) rfl ?_
    refine fj_iconst (v := 0) C dX6_digest_29 (by decide) ?_
    refine fj_istore (lv' := [(4, .int 0), (3, .int 7), (2, .int (nI N9)), (0, .ref (bd 0)), (1, .int x)]) C dX6_digest_30 (by decide) rfl ?_
    refine fj_lv (lv' := [(0, .ref (bd 0)), (1, .int x), (2, .int (nI N9)), (3, .int 7), (4, .int 0)]) [3, 4, 2, 1, 0] rfl ?_
    have lp32 : ∀ (i : Nat), (i ≤ N9) → fj p l e (fj_rm 5 116 0 0) s m args below meth c Q A D 5 0 0 (fm_w bd ty z9 g (va_up (va_up (va_up n 6 (nI M9)) 7 (nI E6)) 8 (nI M9))) [(0, .ref (bd 0)), (1, .int x), (2, .int (nI N9)), (3, .int (dgF (z9 18) 7 i)), (4, .int (nI i))] 32 [] := by
      have key : ∀ zz : Nat, (fun (i : Nat) => (i ≤ N9) → fj p l e (fj_rm 5 116 0 0) s m args below meth c Q A D 5 0 0 (fm_w bd ty z9 g (va_up (va_up (va_up n 6 (nI M9)) 7 (nI E6)) 8 (nI M9))) [(0, .ref (bd 0)), (1, .int x), (2, .int (nI N9)), (3, .int (dgF (z9 18) 7 i)), (4, .int (nI i))] 32 []) zz := by
        refine fx_ind (fun (i : Nat) => N9 - i) _ ?_
        rintro i ih32 hi
        refine fj_iload C 4 dX6_digest_32 rfl ?_
        refine fj_iload_n C 2 dX6_digest_34 rfl rfl ?_
        refine fj_icmp_ge (tgt := 57) C dX6_digest_35 (by decide) (fun h35 => ?_) (fun h35 => ?_)
        · obtain rfl : N9 = i := by have := (nI_leI (a := N9) (by omega) (by omega)).mp h35; omega
          refine fj_iconst (v := 0) C dX6_digest_57 (by decide) ?_
          refine fj_istore (lv' := [(4, .int 0), (0, .ref (bd 0)), (1, .int x), (2, .int (nI N9)), (3, .int (dgF (z9 18) 7 N9))]) C dX6_digest_58 (by decide) rfl ?_
          refine fj_lv (lv' := [(0, .ref (bd 0)), (1, .int x), (2, .int (nI N9)), (3, .int (dgF (z9 18) 7 N9)), (4, .int 0)]) [1, 2, 3, 4, 0] rfl ?_
          have lp60 : ∀ (i2 : Nat), (i2 ≤ 64) → fj p l e (fj_rm 5 116 0 0) s m args below meth c Q A D 5 0 0 (fm_w bd ty z9 g (va_up (va_up (va_up n 6 (nI M9)) 7 (nI E6)) 8 (nI M9))) [(0, .ref (bd 0)), (1, .int x), (2, .int (nI N9)), (3, .int (dgF (HOm z9 E6) (dgF (z9 18) 7 N9) i2)), (4, .int (nI i2))] 60 [] := by
            have key : ∀ zz : Nat, (fun (i2 : Nat) => (i2 ≤ 64) → fj p l e (fj_rm 5 116 0 0) s m args below meth c Q A D 5 0 0 (fm_w bd ty z9 g (va_up (va_up (va_up n 6 (nI M9)) 7 (nI E6)) 8 (nI M9))) [(0, .ref (bd 0)), (1, .int x), (2, .int (nI N9)), (3, .int (dgF (HOm z9 E6) (dgF (z9 18) 7 N9) i2)), (4, .int (nI i2))] 60 []) zz := by
              refine fx_ind (fun (i2 : Nat) => 64 - i2) _ ?_
              rintro i2 ih60 hi2
              refine fj_iload C 4 dX6_digest_60 rfl ?_
              refine fj_bipush (v := 64) C dX6_digest_62 (by decide) ?_
              refine fj_icmp_ge (tgt := 85) C dX6_digest_64 (by decide) (fun h64 => ?_) (fun h64 => ?_)
              · obtain rfl : i2 = 64 := by have := (nI_leI (a := 64) (by decide) (by omega)).mp h64; omega
                refine fj_iload_n C 3 dX6_digest_85 rfl rfl ?_
                exact fj_iret C E9 dX6_digest_86 (Or.inr ⟨h5, N9, hN9, z9, E6, M9, hT9, rfl, rfl⟩)
              · have hlt : i2 < 64 := Nat.lt_of_not_le fun q => h64 ((nI_leI (a := 64) (by decide) (by omega)).mpr q)
                refine fj_bipush (v := 31) C dX6_digest_67 (by decide) ?_
                refine fj_iload_n C 3 dX6_digest_69 rfl rfl ?_
                refine fj_imul C dX6_digest_70 ?_
                refine fj_aload_n C 0 dX6_digest_71 rfl rfl ?_
                refine fj_iload C 4 dX6_digest_72 rfl ?_
                refine fj_callVw (As := [.int (nI i2)]) (rest := [.int (31 * (dgF (HOm z9 E6) (dgF (z9 18) 7 N9) i2))]) C (d_X6_holderOf l D ty t0 bd z9 g (va_up (va_up (va_up n 6 (nI M9)) 7 (nI E6)) 8 (nI M9)) P S T B I9 M9 E6 M9 Y9 (nI i2) i2 rfl (by omega)) (cwV 1 C.2.2.2.2.1 gX6_digest_X6_holderOf rfl rfl rfl (by decide +kernel) ⟨Nat.le_of_ble_eq_true rfl, Nat.le_of_ble_eq_true rfl⟩) ⟨0, 6, _, _, fm_at0 _ _ _ _ _, rfl, rfl⟩ rfl (Nat.le_of_ble_eq_true rfl) dX6_digest_74 ⟨Nat.zero_le _, Nat.zero_le _⟩ (fun v9 w9 hp9 => ?_)
                obtain ⟨rfl, rfl⟩ := hp9
                refine fj_st (st' := .int (HOm z9 E6 i2) :: [.int (31 * (dgF (HOm z9 E6) (dgF (z9 18) 7 N9) i2))]) rfl ?_
                refine fj_iadd C dX6_digest_77 ?_
                refine fj_at (y := dgF (HOm z9 E6) (dgF (z9 18) 7 N9) (i2 + 1)) rfl ?_
                refine fj_istore_n (lv' := [(3, .int (dgF (HOm z9 E6) (dgF (z9 18) 7 N9) (i2 + 1))), (0, .ref (bd 0)), (1, .int x), (2, .int (nI N9)), (4, .int (nI i2))]) C dX6_digest_78 rfl (by decide) rfl ?_
                refine fj_iinc (v := nI (i2 + 1)) (lv' := [(4, .int (nI (i2 + 1))), (3, .int (dgF (HOm z9 E6) (dgF (z9 18) 7 N9) (i2 + 1))), (0, .ref (bd 0)), (1, .int x), (2, .int (nI N9))]) C 4 dX6_digest_79 rfl (nI_1 i2) (by decide) rfl ?_
                refine fj_goto (tgt := 60) C dX6_digest_82 (by decide) ?_
                refine fj_lv (lv' := [(0, .ref (bd 0)), (1, .int x), (2, .int (nI N9)), (3, .int (dgF (HOm z9 E6) (dgF (z9 18) 7 N9) (i2 + 1))), (4, .int (nI (i2 + 1)))]) [2, 3, 4, 1, 0] rfl ?_
                exact ih60 (i2 + 1) (by show 64 - (i2 + 1) < 64 - i2; omega) (by omega)
            intro i2
            exact key i2
          exact lp60 0 (Nat.zero_le _)
        · have hlt9 : i < N9 := Nat.lt_of_not_le fun q => h35 ((nI_leI (a := N9) (by omega) (by omega)).mpr q)
          refine fj_bipush (v := 31) C dX6_digest_38 (by decide) ?_
          refine fj_iload_n C 3 dX6_digest_40 rfl rfl ?_
          refine fj_imul C dX6_digest_41 ?_
          refine fj_aload_n C 0 dX6_digest_42 rfl rfl ?_
          refine fj_get (Cn := RX6) (T := TX6) (N := 44) (ci := 6) (v := .ref (bd 18)) C iX6 0 (fm_at0 _ _ _ _ _) rfl 24 (by decide) kX6_70 rfl dX6_digest_43 ?_
          refine fj_iload C 4 dX6_digest_46 rfl ?_
          refine fj_iald (f := (z9 18)) C 18 (fm_at18 _ _ _ _ _) (vp_in_nI (by omega) (by decide)) dX6_digest_48 ?_
          refine fj_at (y := z9 18 i) (by rw [nI_clamp (by omega)]) ?_
          refine fj_iadd C dX6_digest_49 ?_
          refine fj_at (y := dgF (z9 18) 7 (i + 1)) rfl ?_
          refine fj_istore_n (lv' := [(3, .int (dgF (z9 18) 7 (i + 1))), (0, .ref (bd 0)), (1, .int x), (2, .int (nI N9)), (4, .int (nI i))]) C dX6_digest_50 rfl (by decide) rfl ?_
          refine fj_iinc (v := nI (i + 1)) (lv' := [(4, .int (nI (i + 1))), (3, .int (dgF (z9 18) 7 (i + 1))), (0, .ref (bd 0)), (1, .int x), (2, .int (nI N9))]) C 4 dX6_digest_51 rfl (nI_1 i) (by decide) rfl ?_
          refine fj_goto (tgt := 32) C dX6_digest_54 (by decide) ?_
          refine fj_lv (lv' := [(0, .ref (bd 0)), (1, .int x), (2, .int (nI N9)), (3, .int (dgF (z9 18) 7 (i + 1))), (4, .int (nI (i + 1)))]) [2, 3, 4, 1, 0] rfl ?_
          exact ih32 (i + 1) (by show N9 - (i + 1) < N9 - i; omega) (by omega)
      intro i
      exact key i
    exact lp32 0 (Nat.zero_le _)
  · refine fj_sipush (v := (-1002)) C dX6_digest_8 (by decide) ?_
    exact fj_iret C E9 dX6_digest_11 (Or.inl ⟨h5, rfl, rfl⟩)
