set_option maxHeartbeats 8000000 in
set_option maxRecDepth 100000 in
theorem nw_inM : ∀ q ∈ nw_M, Cond.methodLinkNest q.1 q.2.1 q.2.2 "FreeLand" ∈ lw_tbl := by decide +kernel
set_option maxHeartbeats 8000000 in
set_option maxRecDepth 100000 in
theorem nw_inF : ∀ q ∈ nw_F, Cond.fieldLinkNest q.1 q.2.1 q.2.2.1 q.2.2.2.1 q.2.2.2.2 "FreeLand" ∈ lw_tbl := by decide +kernel
theorem nI_bv (x : Int32) : nI x.toBitVec.toNat = x := Int32.toBitVec_inj.mp (BitVec.eq_of_toNat_eq (pk_tn x.toBitVec.isLt))
set_option maxHeartbeats 8000000 in
set_option maxRecDepth 100000 in
/-- the statics, as the start has them, and the script -/
theorem fx_first {s : State} {b L : Nat} {xs : Nat → Int32} {A : Nat → Prop} (hts : ∀ w ∈ lw_tbl, w.before #[Value.ref b] s = true) (hgv : (Jvm.Cond.and given_1 narrow_1).before #[Value.ref b] s = true) (hX : va_X b L xs s s.heap) (hbl : b < s.heap.size) (hA : ∀ a : Nat, a < s.heap.size → ¬ A a) : ∃ t0 : Nat → Nat, fx_X t0 A s s.heap ∧ t0 1 = b ∧ t0 2 = L := by
  have hs := flat_of_before _ hgv
  have harr : (Cond.arrayOf (.static "FreeLand$Laws" "AT_FIRST" "[I") .int).before #[Value.ref b] s = true := hs _ (by decide +kernel)
  have hlen := va_eqt (hs (Cond.eq (.length (.static "FreeLand$Laws" "AT_FIRST" "[I")) (.int 9)) (by decide +kernel))
  have e0 := va_eqt (hs (Cond.eq (.elem (.static "FreeLand$Laws" "AT_FIRST" "[I") (.int 0)) (.int 7600)) (by decide +kernel))
  have e1 := va_eqt (hs (Cond.eq (.elem (.static "FreeLand$Laws" "AT_FIRST" "[I") (.int 1)) (.int 1800)) (by decide +kernel))
  have e2 := va_eqt (hs (Cond.eq (.elem (.static "FreeLand$Laws" "AT_FIRST" "[I") (.int 2)) (.int 180)) (by decide +kernel))
  have e3 := va_eqt (hs (Cond.eq (.elem (.static "FreeLand$Laws" "AT_FIRST" "[I") (.int 3)) (.int 10)) (by decide +kernel))
  have e4 := va_eqt (hs (Cond.eq (.elem (.static "FreeLand$Laws" "AT_FIRST" "[I") (.int 4)) (.int 2600)) (by decide +kernel))
  have e5 := va_eqt (hs (Cond.eq (.elem (.static "FreeLand$Laws" "AT_FIRST" "[I") (.int 5)) (.int 180)) (by decide +kernel))
  have e6 := va_eqt (hs (Cond.eq (.elem (.static "FreeLand$Laws" "AT_FIRST" "[I") (.int 6)) (.int 30)) (by decide +kernel))
  have e7 := va_eqt (hs (Cond.eq (.elem (.static "FreeLand$Laws" "AT_FIRST" "[I") (.int 7)) (.int 1)) (by decide +kernel))
  have e8 := va_eqt (hs (Cond.eq (.elem (.static "FreeLand$Laws" "AT_FIRST" "[I") (.int 8)) (.int 100)) (by decide +kernel))
  obtain ⟨t, h1, h2⟩ := va_Tof (N := 9) (f := fun j => .int (fx_AF j)) (A := A) (by decide) harr hlen (fun j hj => by
    rcases (show j = 0 ∨ j = 1 ∨ j = 2 ∨ j = 3 ∨ j = 4 ∨ j = 5 ∨ j = 6 ∨ j = 7 ∨ j = 8 by omega) with rfl | rfl | rfl | rfl | rfl | rfl | rfl | rfl | rfl
    · exact e0
    · exact e1
    · exact e2
    · exact e3
    · exact e4
    · exact e5
    · exact e6
    · exact e7
    · exact e8) hA
  have ef : sx_f (fun k => if k = 0 then t else if k = 1 then b else if k = 2 then L else (xs (k - 3)).toBitVec.toNat) = xs := by
    funext j
    show nI (if 3 + j = 0 then t else if 3 + j = 1 then b else if 3 + j = 2 then L else (xs (3 + j - 3)).toBitVec.toNat) = xs j
    rw [if_neg (by omega), if_neg (by omega), if_neg (by omega), show 3 + j - 3 = j by omega]
    exact nI_bv (xs j)
  refine ⟨fun k => if k = 0 then t else if k = 1 then b else if k = 2 then L else (xs (k - 3)).toBitVec.toNat, ⟨va_Zref (hts (.laysStatic "FreeLand$Laws" "AT_FIRST" "[I") (by decide +kernel)) (hts (.initialized "FreeLand$Laws") (by decide +kernel)) h1 hA, h2, ?_, hbl, hA b hbl⟩, rfl, rfl⟩
  rw [ef]
  exact hX
set_option maxHeartbeats 8000000 in
set_option maxRecDepth 100000 in
/-- all that a method takes as given holds at the law's entry -/
theorem lw_C {p : Program} {s : State} {m : MethodId} {meth : Method} {c : Code} {b L : Nat} {xs : Nat → Int32} (C0 : lw_At p s m meth c b L xs) : ∃ (D : va_G) (ty : Nat → ClassId) (t0 : Nat → Nat), fj_C p s m #[Value.ref b] c cL_law 16 RL wsL_law (fun q => s.heap.size ≤ q) D ty t0 ∧ t0 1 = b ∧ t0 2 = L := by
  obtain ⟨hx, hb, hr, hml, hown, hts, hX, hbl, hlocks, hgv⟩ := C0
  obtain ⟨c0, i0, k0⟩ := u_known (C := RX0) (T := TX0) (N := 8) (n := 8) hts inX0 (hts (.instantiable RX0 8) (by decide +kernel))
  obtain ⟨c1, i1, k1⟩ := u_known (C := RX1) (T := TX1) (N := 7) (n := 7) hts inX1 (hts (.instantiable RX1 7) (by decide +kernel))
  obtain ⟨c2, i2, k2⟩ := u_known (C := RX2) (T := TX2) (N := 7) (n := 7) hts inX2 (hts (.instantiable RX2 7) (by decide +kernel))
  obtain ⟨c3, i3, k3⟩ := u_known (C := RX3) (T := TX3) (N := 3) (n := 3) hts inX3 (hts (.instantiable RX3 3) (by decide +kernel))
  obtain ⟨c4, i4, k4⟩ := u_known (C := RX4) (T := TX4) (N := 18) (n := 18) hts inX4 (hts (.instantiable RX4 18) (by decide +kernel))
  obtain ⟨c5, i5, k5⟩ := u_known (C := RX5) (T := TX5) (N := 5) (n := 5) hts inX5 (hts (.instantiable RX5 5) (by decide +kernel))
  obtain ⟨dC, dI, hKc⟩ : ∃ (dC : Nat → ClassId) (dI : Nat → Nat → Nat), ∀ (k : Nat) (q : vw_C), vwCl[k]? = some q → u_Kn s q.1 q.2.1 q.2.2 (dC k) (dI k) := by
    refine ⟨fun k => [c0, c1, c2, c3, c4, c5].getD k c0, fun k => [i0, i1, i2, i3, i4, i5].getD k i0, ?_⟩
    intro k q hq
    match k, hq with
    | 0, hq => cases hq; exact k0
    | 1, hq => cases hq; exact k1
    | 2, hq => cases hq; exact k2
    | 3, hq => cases hq; exact k3
    | 4, hq => cases hq; exact k4
    | 5, hq => cases hq; exact k5
    | k + 6, hq => simp [vwCl] at hq
  obtain ⟨tI, kI, pI, aI1, aI2, aI3⟩ := Cond.arrayClass_spec (hts (.arrayClass .int) (by decide +kernel))
  obtain ⟨tZ, kZ, pZ, aZ1, aZ2, aZ3⟩ := Cond.arrayClass_spec (hts (.arrayClass .boolean) (by decide +kernel))
  obtain ⟨tB, kB, pB, aB1, aB2, aB3⟩ := Cond.arrayClass_spec (hts (.arrayClass .byte) (by decide +kernel))
  obtain ⟨tJ, kJ, pJ, aJ1, aJ2, aJ3⟩ := Cond.arrayClass_spec (hts (.arrayClass .long) (by decide +kernel))
  have hao := hts (.arrayOver (.array .int)) (by decide +kernel)
  obtain ⟨pO, tO, kO, aO1, aO2, aO3, aO4⟩ := Cond.arrayOver_specA hao
  obtain ⟨t0, hX0, hb1, hb2⟩ := fx_first (A := fun q => s.heap.size ≤ q) hts hgv hX hbl (fun a h => Nat.not_le.mpr h)
  refine ⟨(dC, dI), fun k => [tI, tZ, tB, tJ, tO].getD k tI, t0, ⟨hx, hb, hml, hown, fun w h => hts w (wsL_law_in w h), ⟨hKc, fun k q hq => ?_⟩, fun _ h => h, ⟨fun q hq => va_Nw.of rfl (hts _ (nw_inM q hq)), fun q hq => va_Nw.of rfl (hts _ (nw_inF q hq)), hao, rfl⟩, hX0⟩, hb1, hb2⟩
  match k, hq with
  | 0, hq => cases hq; exact ⟨fun n z => ⟨fun k h => (by cases h), kI, aI2, pI, aI3⟩, aI1⟩
  | 1, hq => cases hq; exact ⟨fun n z => ⟨fun k h => (by cases h), kZ, aZ2, pZ, aZ3⟩, aZ1⟩
  | 2, hq => cases hq; exact ⟨fun n z => ⟨fun k h => (by cases h), kB, aB2, pB, aB3⟩, aB1⟩
  | 3, hq => cases hq; exact ⟨fun n z => ⟨fun k h => (by cases h), kJ, aJ2, pJ, aJ3⟩, aJ1⟩
  | 4, hq => cases hq; exact ⟨fun n z => ⟨fun k h => (by cases h), kO, aO2, pO, aO3⟩, aO4⟩
  | k + 5, hq => simp [fj_ty] at hq
theorem xi_0 : XI 0 0 0 0 fx_a0 fx_n0 := ⟨rfl, by decide, rfl, by decide, rfl, by decide, rfl, by decide, fun i h => absurd h (Nat.not_lt_zero i), fun i h => absurd h (Nat.not_lt_zero i), fun i h => absurd h (Nat.not_lt_zero i), fun i h => absurd h (Nat.not_lt_zero i), fun i h => absurd h (Nat.not_lt_zero i), fun i h => absurd h (Nat.not_lt_zero i)⟩
set_option maxHeartbeats 8000000 in
set_option maxRecDepth 100000 in
theorem whole_start {p : Program} {e : Env} {s : State} {m : MethodId} {below : List Frame} {meth : Method} {c : Code} (l : Launch) (hflags : l.flags = flags0) {b L : Nat} {xs : Nat → Int32} (hL : L ≤ 260) (C0 : lw_At p s m meth c b L xs) : W p l e room_1 s m #[Value.ref b] below meth c s.heap [] 0 0 (lw_Z below #[Value.ref b] s) (entryFrame m ([Value.ref b] : List Value).toArray 16) := by
  obtain ⟨D, ty, t0, C, hb1, hb2⟩ := lw_C C0
  obtain ⟨hx, hb, hr, hml, hown, hts, hX, hbl, hlocks, hgv⟩ := C0
  have hL2 : t0 2 ≤ 260 := by omega
  subst hb1
  have hl := lv_entry ([.ref (t0 1)]) (n := 16) (Nat.le_of_ble_eq_true rfl)
  rw [lg_entry_eq]
  suffices K : fj p l e room_1 s m #[Value.ref (t0 1)] below meth c (lw_Z below #[Value.ref (t0 1)] s) (fun q => s.heap.size ≤ q) D 16 0 0 [] (lv_args 0 [.ref (t0 1)]) 0 [] from K s.heap [] _ (fun k q h => by simp at h) ⟨fun i j p q h => by simp at h, fun k q h => by simp at h⟩ va_S.rf hl
  refine fj_lv (lv' := [(0, .ref (t0 1))]) [0] rfl ?_
  refine fj_new (Cn := RX5) (T := TX5) (N := 5) (ci := 5) (fs := [.null, .null, .null, .null, .null]) C ptL_law_wsX50 tyX5 tyX5_ok (ptL_law_woL_law _ (by decide +kernel)) (ptL_law_woL_law _ (by decide +kernel)) (ptL_law_woL_law _ (by decide +kernel)) rfl (fun j hj => by rcases (show j = 0 ∨ j = 1 ∨ j = 2 ∨ j = 3 ∨ j = 4 by omega) with rfl | rfl | rfl | rfl | rfl <;> rfl) (Nat.le_of_ble_eq_true rfl) (Nat.le_of_ble_eq_true rfl) dL_law_0 (fun q0 => ?_)
  refine fj_ws (ws' := [(q0, .inr (5, [.null, .null, .null, .null, .null]))]) rfl ?_
  refine fj_dup C dL_law_3 rfl ?_
  refine fj_callI (As := []) (rest := [.ref q0]) (wr := []) C (c_X5_init l D ty t0 q0) (cwI 0 C.2.2.2.2.1 gL_law_X5_init rfl rfl rfl (C.2.2.2.2.1 _ (ptL_law_woL_law _ (by decide +kernel))) (C.2.2.2.2.1 _ (ptL_law_woL_law _ (by decide +kernel))) (C.2.2.2.2.1 _ (ptL_law_woL_law _ (by decide +kernel))) rfl (by decide +kernel) ⟨Nat.le_of_ble_eq_true rfl, Nat.le_of_ble_eq_true rfl⟩) rfl (Nat.le_of_ble_eq_true rfl) dL_law_4 ⟨Nat.le_of_ble_eq_true rfl, Nat.le_of_ble_eq_true rfl⟩ [0] [] rfl rfl rfl rfl (fun _ h => absurd h List.not_mem_nil) (fun v9 w9 hp9 => ?_)
  obtain ⟨rfl, ad, rfl, rfl⟩ := hp9
  refine fj_st (st' := [.ref (ad 0)]) rfl ?_
  refine fj_ws (ws' := fx_w ad ty fx_a0 fx_g0 fx_n0) rfl ?_
  refine fj_astore_n (lv' := [(1, .ref (ad 0)), (0, .ref (t0 1))]) C dL_law_7 rfl (by decide) rfl ?_
  have kAI : Cond.arrayClass .int ∈ wsL_law := ptL_law_woL_law _ (by decide +kernel)
  refine fj_sipush (v := 1000) C dL_law_8 (by decide) ?_
  refine fj_aload_n C 1 dL_law_11 rfl rfl ?_
  refine fj_iconst (v := 0) C dL_law_12 (by decide) ?_
  refine fj_sipush (v := 3000) C dL_law_13 (by decide) ?_
  refine fj_callSw (As := [.ref (t0 1), .int 0, .int 3000]) (rest := [.int 1000]) C (d_L_some l D ty t0 (fx_w ad ty fx_a0 fx_g0 fx_n0) hL2 0 3000 (by decide) (by decide) (by decide)) (va_cwS 3 C.2.2.2.2.1 gL_law_L_some rfl rfl rfl (by decide +kernel) ⟨Nat.le_of_ble_eq_true rfl, Nat.le_of_ble_eq_true rfl⟩) rfl (Nat.le_of_ble_eq_true rfl) dL_law_16 ⟨Nat.le_of_ble_eq_true rfl, Nat.le_of_ble_eq_true rfl⟩ (fun v9 w9 hp9 => ?_)
  obtain ⟨⟨k1, hk1, rfl⟩, hw9⟩ := hp9
  rw [hw9]
  refine fj_st (st' := .int (nI k1) :: [.int 1000]) rfl ?_
  refine fj_iadd C dL_law_19 ?_
  obtain ⟨F, eF⟩ : ∃ F, F = 1000 + k1 := ⟨_, rfl⟩
  refine fj_at (y := nI F) (by rw [eF]; exact nI_add 1000 k1) ?_
  refine fj_istore_n (lv' := [(2, .int (nI F)), (1, .ref (ad 0)), (0, .ref (t0 1))]) C dL_law_20 rfl (by decide) rfl ?_
  refine fj_iload_n C 0 dL_law_21 rfl rfl ?_
  refine fj_aload_n C 2 dL_law_22 rfl rfl ?_
  refine fj_iconst (v := 1) C dL_law_23 (by decide) ?_
  refine fj_sipush (v := 3200) C dL_law_24 (by decide) ?_
  refine fj_callSw (As := [.ref (t0 1), .int 1, .int 3200]) (rest := [.int (nI F)]) C (d_L_some l D ty t0 (fx_w ad ty fx_a0 fx_g0 fx_n0) hL2 1 3200 (by decide) (by decide) (by decide)) (va_cwS 3 C.2.2.2.2.1 gL_law_L_some rfl rfl rfl (by decide +kernel) ⟨Nat.le_of_ble_eq_true rfl, Nat.le_of_ble_eq_true rfl⟩) rfl (Nat.le_of_ble_eq_true rfl) dL_law_27 ⟨Nat.le_of_ble_eq_true rfl, Nat.le_of_ble_eq_true rfl⟩ (fun v9 w9 hp9 => ?_)
  obtain ⟨⟨k2, hk2, rfl⟩, hw9⟩ := hp9
  rw [hw9]
  refine fj_st (st' := .int (nI k2) :: [.int (nI F)]) rfl ?_
  refine fj_iadd C dL_law_30 ?_
  obtain ⟨G, eG⟩ : ∃ G, G = F + k2 := ⟨_, rfl⟩
  refine fj_at (y := nI G) (by rw [eG]; exact nI_add F k2) ?_
  have hFG : 1000 ≤ F ∧ F ≤ G ∧ G ≤ 7200 := by omega
  refine fj_istore_n (lv' := [(3, .int (nI G)), (2, .int (nI F)), (1, .ref (ad 0)), (0, .ref (t0 1))]) C dL_law_31 rfl (by decide) rfl ?_
  refine fj_aload_n C 2 dL_law_32 rfl rfl ?_
  refine fj_sipush (v := (-12000)) C dL_law_33 (by decide) ?_
  refine fj_iconst (v := 0) C dL_law_36 (by decide) ?_
  refine fj_callVw (As := [.int (-12000), .int 0]) (rest := []) C (d_X5_person l D ty t0 ad fx_a0 fx_g0 fx_n0 0 0 0 0 xi_0 (-12000) 0) (cwV 2 C.2.2.2.2.1 gL_law_X5_person rfl rfl rfl (by decide +kernel) ⟨Nat.le_of_ble_eq_true rfl, Nat.le_of_ble_eq_true rfl⟩) ⟨0, 5, _, _, fx_at0 _ _ _ _ _, rfl, rfl⟩ rfl (Nat.le_of_ble_eq_true rfl) dL_law_37 ⟨Nat.le_of_ble_eq_true rfl, Nat.le_of_ble_eq_true rfl⟩ (fun v9 w9 hp9 => ?_)
  obtain ⟨rfl, a1, n1, rfl, hi1, e12, e13, er1, en1⟩ := q_person xi_0 (by decide) hp9
  refine fj_st (st' := .int (nI 0) :: []) rfl ?_
  refine fj_at (y := 0) rfl ?_
  refine fj_if_ne (tgt := 86) C dL_law_40 (by decide) (fun h => absurd (by decide) h) (fun _ => ?_)
  refine fj_aload_n C 2 dL_law_43 rfl rfl ?_
  refine fj_sipush (v := (-12000)) C dL_law_44 (by decide) ?_
  refine fj_iconst (v := 0) C dL_law_47 (by decide) ?_
  refine fj_callVw (As := [.int (-12000), .int 0]) (rest := []) C (d_X5_person l D ty t0 ad a1 fx_g0 n1 1 0 0 0 hi1 (-12000) 0) (cwV 2 C.2.2.2.2.1 gL_law_X5_person rfl rfl rfl (by decide +kernel) ⟨Nat.le_of_ble_eq_true rfl, Nat.le_of_ble_eq_true rfl⟩) ⟨0, 5, _, _, fx_at0 _ _ _ _ _, rfl, rfl⟩ rfl (Nat.le_of_ble_eq_true rfl) dL_law_48 ⟨Nat.le_of_ble_eq_true rfl, Nat.le_of_ble_eq_true rfl⟩ (fun v9 w9 hp9 => ?_)
  obtain ⟨rfl, a2, n2, rfl, hi2, e22, e23, er2, en2⟩ := q_person hi1 (by decide) hp9
  refine fj_st (st' := .int (nI (0 + 1)) :: []) rfl ?_
  refine fj_at (y := 1) rfl ?_
  refine fj_iconst (v := 1) C dL_law_51 (by decide) ?_
  refine fj_icmp_ne (tgt := 86) C dL_law_52 (by decide) (fun h => absurd (by decide) h) (fun _ => ?_)
  refine fj_aload_n C 2 dL_law_55 rfl rfl ?_
  refine fj_iload_n C 1 dL_law_56 rfl rfl ?_
  refine fj_iconst (v := 0) C dL_law_57 (by decide) ?_
  refine fj_iconst (v := 0) C dL_law_58 (by decide) ?_
  refine fj_bipush (v := 9) C dL_law_59 (by decide) ?_
  refine fj_iconst (v := 0) C dL_law_61 (by decide) ?_
  refine fj_callVw (As := [.int (nI F), .int 0, .int 0, .int 9, .int 0]) (rest := []) C (d_X5_line l D ty t0 ad a2 fx_g0 n2 2 0 0 0 hi2 (nI F) 0 0 9 0) (cwV 5 C.2.2.2.2.1 gL_law_X5_line rfl rfl rfl (by decide +kernel) ⟨Nat.le_of_ble_eq_true rfl, Nat.le_of_ble_eq_true rfl⟩) ⟨0, 5, _, _, fx_at0 _ _ _ _ _, rfl, rfl⟩ rfl (Nat.le_of_ble_eq_true rfl) dL_law_62 ⟨Nat.le_of_ble_eq_true rfl, Nat.le_of_ble_eq_true rfl⟩ (fun v9 w9 hp9 => ?_)
  obtain ⟨rfl, a3, n3, rfl, hl3⟩ := q_line (P := 2) hi2 ord_0 (lok_two (by omega) (by decide) (Or.inl rfl)) hp9
  refine fj_st (st' := .int (nI 0) :: []) rfl ?_
  refine fj_at (y := 0) rfl ?_
  refine fj_if_ne (tgt := 86) C dL_law_65 (by decide) (fun h => absurd (by decide) h) (fun _ => ?_)
  refine fj_aload_n C 2 dL_law_68 rfl rfl ?_
  refine fj_iload_n C 0 dL_law_69 rfl rfl ?_
  refine fj_iconst (v := 5) C dL_law_70 (by decide) ?_
  refine fj_iconst (v := 0) C dL_law_71 (by decide) ?_
  refine fj_bipush (v := 9) C dL_law_72 (by decide) ?_
  refine fj_iconst (v := 0) C dL_law_74 (by decide) ?_
  refine fj_callVw (As := [.int (nI G), .int 5, .int 0, .int 9, .int 0]) (rest := []) C (d_X5_line l D ty t0 ad a3 fx_g0 n3 2 0 0 (0 + 1) hl3.1 (nI G) 5 0 9 0) (cwV 5 C.2.2.2.2.1 gL_law_X5_line rfl rfl rfl (by decide +kernel) ⟨Nat.le_of_ble_eq_true rfl, Nat.le_of_ble_eq_true rfl⟩) ⟨0, 5, _, _, fx_at0 _ _ _ _ _, rfl, rfl⟩ rfl (Nat.le_of_ble_eq_true rfl) dL_law_75 ⟨Nat.le_of_ble_eq_true rfl, Nat.le_of_ble_eq_true rfl⟩ (fun v9 w9 hp9 => ?_)
  obtain ⟨rfl, a4, n4, rfl, hl4⟩ := q_line (P := 2) hl3.1 hl3.2.1 (lok_two (by omega) (by decide) (Or.inr rfl)) hp9
  refine fj_st (st' := .int (nI (0 + 1)) :: []) rfl ?_
  refine fj_at (y := 1) rfl ?_
  refine fj_iconst (v := 1) C dL_law_78 (by decide) ?_
  refine fj_icmp_ne (tgt := 86) C dL_law_79 (by decide) (fun h => absurd (by decide) h) (fun _ => ?_)
  refine fj_iconst (v := 1) C dL_law_82 (by decide) ?_
  refine fj_goto (tgt := 87) C dL_law_83 (by decide) ?_
  refine fj_istore (lv' := [(4, .int 1), (3, .int (nI G)), (2, .int (nI F)), (1, .ref (ad 0)), (0, .ref (t0 1))]) C dL_law_87 (by decide) rfl ?_
  refine fj_bipush (v := 60) C dL_law_89 (by decide) ?_
  refine fj_newa (ty9 := .int) (a0 := (60, .inl (fun _ => 0))) (N' := 60) C rfl kAI 0 rfl (fun _ _ h => h) (fun _ => rfl) (by decide) (by decide) (by decide) (Nat.le_of_ble_eq_true rfl) (Nat.le_of_ble_eq_true rfl) dL_law_91 (fun q1 => ?_)
  refine fj_astore (lv' := [(5, .ref q1), (4, .int 1), (3, .int (nI G)), (2, .int (nI F)), (1, .ref (ad 0)), (0, .ref (t0 1))]) C dL_law_93 (by decide) rfl ?_
  refine fj_bipush (v := 60) C dL_law_95 (by decide) ?_
  refine fj_newa (ty9 := .int) (a0 := (60, .inl (fun _ => 0))) (N' := 60) C rfl kAI 0 rfl (fun _ _ h => h) (fun _ => rfl) (by decide) (by decide) (by decide) (Nat.le_of_ble_eq_true rfl) (Nat.le_of_ble_eq_true rfl) dL_law_97 (fun q2 => ?_)
  refine fj_astore (lv' := [(6, .ref q2), (5, .ref q1), (4, .int 1), (3, .int (nI G)), (2, .int (nI F)), (1, .ref (ad 0)), (0, .ref (t0 1))]) C dL_law_99 (by decide) rfl ?_
  refine fj_iconst (v := 0) C dL_law_101 (by decide) ?_
  refine fj_istore (lv' := [(7, .int 0), (6, .ref q2), (5, .ref q1), (4, .int 1), (3, .int (nI G)), (2, .int (nI F)), (1, .ref (ad 0)), (0, .ref (t0 1))]) C dL_law_102 (by decide) rfl ?_
  refine fj_iconst (v := 0) C dL_law_104 (by decide) ?_
  refine fj_istore (lv' := [(8, .int 0), (7, .int 0), (6, .ref q2), (5, .ref q1), (4, .int 1), (3, .int (nI G)), (2, .int (nI F)), (1, .ref (ad 0)), (0, .ref (t0 1))]) C dL_law_105 (by decide) rfl ?_
  refine fj_iconst (v := 2) C dL_law_107 (by decide) ?_
  refine fj_istore (lv' := [(9, .int 2), (8, .int 0), (7, .int 0), (6, .ref q2), (5, .ref q1), (4, .int 1), (3, .int (nI G)), (2, .int (nI F)), (1, .ref (ad 0)), (0, .ref (t0 1))]) C dL_law_108 (by decide) rfl ?_
  refine fj_iconst (v := 2) C dL_law_110 (by decide) ?_
  refine fj_istore (lv' := [(10, .int 2), (9, .int 2), (8, .int 0), (7, .int 0), (6, .ref q2), (5, .ref q1), (4, .int 1), (3, .int (nI G)), (2, .int (nI F)), (1, .ref (ad 0)), (0, .ref (t0 1))]) C dL_law_111 (by decide) rfl ?_
  refine fj_perm (ws' := pw q1 q2 ty (fun _ => 0) (fun _ => 0) ++ fx_w ad ty a4 fx_g0 n4) [44, 45, 0, 1, 2, 3, 4, 5, 6, 7, 8, 9, 10, 11, 12, 13, 14, 15, 16, 17, 18, 19, 20, 21, 22, 23, 24, 25, 26, 27, 28, 29, 30, 31, 32, 33, 34, 35, 36, 37, 38, 39, 40, 41, 42, 43] rfl rfl rfl ?_
  refine fj_lv (lv' := [(10, .int (nI 2)), (9, .int (nI 2)), (8, .int 0), (7, .int (nI 0)), (6, .ref q2), (5, .ref q1), (4, .int 1), (3, .int (nI G)), (2, .int (nI F)), (1, .ref (ad 0)), (0, .ref (t0 1))]) [0, 1, 2, 3, 4, 5, 6, 7, 8, 9, 10] rfl ?_
  have h23 : ∀ l, a2 23 l = 0 := fun l => by rw [er2 23 (by decide) (by decide), er1 23 (by decide) (by decide)]; rfl
  have hbk : BK F G 2 2 a4 n4 := bk_two (by rw [en2 5 (by decide), en1 5 (by decide)]; rfl) ⟨by rw [e22, e12, upd_ne (by decide), upd_at], by rw [e23, e13, upd_ne (by decide), upd_at]⟩ ⟨by rw [e22, upd_at], by rw [e23, upd_at], h23⟩ hFG hl3 hl4
  have hs1 : a4 23 1 = 0 := by rw [hl4.2.2.2.2.2.2.2.1 23 (Or.inr rfl), hl3.2.2.2.2.2.2.2.1 23 (Or.inr rfl)]; exact h23 1
  exact law_1 l C hr hlocks hL2 ad q1 q2 (by omega) (fun M V f g acr a n hb hl hs => law_2s l C hr hlocks hL2 ad q1 q2 (by omega) (by have := hl.1; have := (bk_M hb).2; omega) (bk_F hb) (law_3a l C hr hlocks hL2 ad q1 q2 (by omega) (law_3b l C hr hlocks hL2 ad q1 q2 (by omega) (li_fm hb hl) hs (law_4 l C hr hlocks hL2 ad q1 q2 (by omega))))) 301 2 0 (fun _ => 0) (fun _ => 0) 0 a4 n4 (by decide) hbk (li_0 hbk) hs1
set_option maxHeartbeats 4000000 in
theorem lw_walk (l : Launch) (hflags : l.flags = flags0) (b : Addr) (xs : List Int32) : MetFree l x (headSpec (Jvm.Cond.code x code maxLocals ret :: tables_1) room_1) (lw_P b xs) (fun _ _ _ _ _ => True) lw_Q := by
  refine MetFree.of_bodyS (code := code) (maxLocals := maxLocals) (ret := ret) (by decide) ?_ ?_
  · intro args s m h hn
    obtain ⟨meth, c, h1, h2, h3, h4, h5, h6, -, -⟩ := Cond.code_spec hn (atoms_spec (ws := Jvm.Cond.code x code maxLocals ret :: tables_1) h _ List.mem_cons_self)
    exact ⟨meth, c, h1, h2, h3, h4, h5, h6⟩
  · intro p e s m args below meth c s₁ B hml0 hP _
    obtain ⟨rfl, hx, hbd, hgv⟩ := hP
    obtain ⟨scr, harrAt, hlist, hof, hsmall⟩ := hx
    obtain ⟨hcb, hkn, -, -⟩ := State.arrayAt?_spec harrAt
    have hown : s.vm.findClass R_law = some m.cls := findClass_of_methodNamed B.named
    have hts0 : ∀ c ∈ (Jvm.Cond.code x code maxLocals ret :: tables_1), c.before #[Value.ref b] s = true := atoms_spec (ws := Jvm.Cond.code x code maxLocals ret :: tables_1) B.pre
    have hts : ∀ w ∈ lw_tbl, w.before #[Value.ref b] s = true := k2_hts_sels lw_privs (fun w hw => hts0 w (List.mem_cons_of_mem _ hw)) lw_privs_ok
    have hml : c.maxLocals = 16 := B.maxLocals_eq (hts0 _ List.mem_cons_self)
    have X₀ : Stand p l e room_1 s m #[Value.ref b] below meth c s₁ [] 0 0 := Stand.of_body B
    have hh0 : s₁.heap = s.heap := by rw [B.state]; rfl
    have hsz : scr.slots.size = xs.length := by rw [← Array.length_toList, hlist, List.length_map]
    have hval : ∀ j : Nat, j < xs.length → scr.slots[j]? = some (.int (xs.getD j 0)) := fun j hj => by
      rw [← Array.getElem?_toList, hlist]
      simp [hj]
    have hbl : b < s.heap.size := (Array.getElem?_eq_some_iff.mp hcb).1
    have hX : va_X b xs.length (fun j => xs.getD j 0) s s.heap := ⟨scr, hcb, hof, hkn, hsz, hval⟩
    have K : W p l e room_1 s m #[Value.ref b] below meth c s₁.heap [] 0 0 (lw_Z below #[Value.ref b] s) (entryFrame m ([Value.ref b] : List Value).toArray 16) := by
      rw [hh0]
      exact whole_start l hflags hbd ⟨B.exec, B.bytes, B.returns, hml, hown, hts, hX, hbl, B.notSynchronized, hgv⟩
    obtain ⟨t, a1, o, b1, b2, b3⟩ := K s₁ rfl X₀
    exact ⟨t, o, a1, b1, b2, b3⟩
theorem lw_pre_spec {args : Array Value} {s : State} (h : (Jvm.Cond.and given_1 narrow_1).before args s = true) (hr : rest_1_c.before args s = true) : ∃ (b : Addr) (xs : List Int32), lw_P b xs args s := by
  have hs := flat_of_before _ h
  have hq := flat_of_before _ hr
  have hc : (Cond.count 1).before args s = true := hs _ (by decide +kernel)
  have harr : (Cond.arrayOf (.arg 0) .int).before args s = true := hs _ (by decide +kernel)
  have hle : (Cond.le (.length (.arg 0)) (.int 260)).before args s = true := hs _ (by decide +kernel)
  have hlen : (Cond.isInt (.length (.arg 0))).before args s = true := hq _ (by decide +kernel)
  have hall : (Cond.all (.arg 0) (.isInt (.elem (.arg 0) (.index 0)))).before args s = true := hq _ (by decide +kernel)
  obtain ⟨b, xs, hb, hx⟩ := State.ints_of_pre rfl harr hlen hall
  have hsm : xs.length < 2 ^ 31 := hx.choose_spec.2.2.2
  have hev : (Term.length (.arg 0)).eval args s none [] s = some (.int xs.length.toInt32) := hx.length_eval hb
  have hv := Cond.le_ints hev (show (Term.int 260).eval args s none [] s = some (.int 260) from rfl)
  have hd : xs.length.toInt32 ≤ 260 := by
    simpa [Cond.before, Cond.holds, hv] using hle
  have hN : xs.length ≤ 260 := (Int32.ofNat_le_ofNat hsm (by decide)).mp (show Int32.ofNat xs.length ≤ Int32.ofNat 260 from hd)
  exact ⟨b, xs, Cond.one_arg hc (show args[0]? = some (.ref b) from hb), hx, hN, h⟩
theorem lw_comes (l : Launch) (hflags : l.flags = flags0) : Comes l x (Jvm.Cond.code x code maxLocals ret :: tables_1) room_1 (fun tb e args s => Calls_1 tb e args s ∧ rest_1 tb e args s ∧ Pre_1 tb e args s)
    (fun _ _ args s o t => lw_Q args s o t) := by
  intro p e ha hc hk s m args below hf hfit hheap happ hpre
  obtain ⟨b, xs, hP⟩ := lw_pre_spec hpre.2.2 hpre.2.1
  obtain ⟨k, o, h1, h2, h3, hQ⟩ := lw_walk l hflags b xs p e ha hc hk s m args below hf ((Spec.applies_iff_loose hf).mp happ).1 hP trivial
  exact ⟨k, o, h1, h2, h3, hQ⟩
theorem lw_frame {s t : State} {o : Outcome} {args : Array Value} (h : Framed s o t [] 600000 7302250) :
    Framed s o t (fieldLocs frame_1_writes args s ++ arrayLocs frame_1_arrays args s ++ staticLocs frame_1_statics s) 600000 7302250 := h
theorem lw_limb (L : Cond) (hL : ∀ (args : Array Value) (s t : State), L.after args s (.returned (some (.int 1))) t = true) :
    ArmFor flags0 classFile x code maxLocals ret World_1 tables_1 room_1 Calls_1 rest_1 Pre_1
      (fun tb e a s o t => postC L tb e a s o t ∧ Framed s o t (fieldLocs frame_1_writes a s ++ arrayLocs frame_1_arrays a s ++ staticLocs frame_1_statics s) 600000 7302250) := by
  intro l hflags _ _ p e ha hc hk s m args below hf hfit hheap happ hpre
  obtain ⟨k, o, h1, h2, h3, rfl, hF⟩ := lw_comes l hflags p e ha hc hk s m args below hf hfit hheap happ hpre
  exact ⟨k, _, h1, h2, h3, hL args s _, lw_frame hF⟩
theorem i_vc : Claimed_1_1 ∧ Claimed_1_2 := ⟨lw_limb limb_1_1 (fun args s t => by simp [limb_1_1, Cond.after, Cond.holds, Cond.value]), lw_limb limb_1_2 (fun args s t => Cond.after_iff.mpr (by
  first | (rw [show limb_1_2 = Cond.eq .result (.int 1) from rfl, Cond.eq_ints (x := 1) (y := 1) rfl rfl]; simp; done) | (simp [limb_1_2, Cond.value, Term.eval]; done)))⟩

