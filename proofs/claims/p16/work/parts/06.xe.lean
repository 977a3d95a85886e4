def ENP (a : Nat → Nat → Int32) (S T : Nat) (x : Int32) (n : Nat → Int32) (r : Int32) (b : Nat → Nat → Int32) (u : Nat → Int32) : Prop := ∃ (R : Nat → Int32) (fa c : Int32), RDP (a 5) T R fa c ∧ ((¬ c = 0 ∧ r = -10 - c ∧ b = va_up a (9 + S) R ∧ u = va_up (va_up n 2 fa) 1 0) ∨ (c = 0 ∧ r = nI S ∧ (∃ k, k ≤ S ∧ (∀ i, k ≤ i → i < S → x < a 6 (a 8 i).toNatClampNeg) ∧ (k = 0 ∨ a 6 (a 8 (k - 1)).toNatClampNeg ≤ x) ∧ b = va_up (va_up (va_up a (9 + S) R) 6 (upd (a 6) S x)) 8 (upd (shf (a 8) S k) k (nI S))) ∧ u = va_up (va_up (va_up n 2 fa) 1 0) 3 (nI (S + 1))))
set_option maxHeartbeats 4000000 in
set_option maxRecDepth 100000 in
theorem d_X2_enact (l : Launch) (D : va_G) (ty : Nat → ClassId) (t0 : Nat → Nat) (ad : Nat → Nat) (a : Nat → Nat → Int32) (g : Nat → Nat → Int64) (n : Nat → Int32) (P : Nat) (S : Nat) (T : Nat) (B : Nat) (I : XI P S T B a n) (x : Int32) (hS8 : S < 8) : fc l yX2_enact wsX2_enact (fj_rm 7 157 0 0) D ty t0 [.ref (ad 4), .int x] (fx_w ad ty a g n) 0 0 (fun v w => ∃ (r : Int32) (b : Nat → Nat → Int32) (u : Nat → Int32), ENP a S T x n r b u ∧ v = some (.int r) ∧ w = fx_w ad ty b g u) := by
  refine fc_start (own := RX2) (cc := cX2_enact) (maxL := 4) (ret := (some .int)) (by decide) rfl (Nat.le_of_ble_eq_true rfl) rfl ?_
  intro p e s m args below meth c Q A C hmn E9
  obtain ⟨hn0, hP, hn1, hT, hn3, hS, hn4, hB, iLO, iBO, iWho, iSort, iQ, iN⟩ := id I
  have iX2 : ∀ w ∈ u_ws RX2 TX2 7, w ∈ wsX2_enact := ptX2_enact_wsX20
  have kX2_25 : Cond.fieldLink RX2 25 "FreeLand$Laws" "value" "[[I" ∈ wsX2_enact := ptX2_enact_woX2_enact _ (by decide +kernel)
  have kX2_34 : Cond.fieldLink RX2 34 "FreeLand$Laws" "size" "I" ∈ wsX2_enact := ptX2_enact_woX2_enact _ (by decide +kernel)
  have kX2_31 : Cond.fieldLink RX2 31 "FreeLand$Laws" "length" "I" ∈ wsX2_enact := ptX2_enact_woX2_enact _ (by decide +kernel)
  have kX2_19 : Cond.fieldLink RX2 19 "FreeLand$Laws" "from" "[I" ∈ wsX2_enact := ptX2_enact_woX2_enact _ (by decide +kernel)
  have kX2_28 : Cond.fieldLink RX2 28 "FreeLand$Laws" "order" "[I" ∈ wsX2_enact := ptX2_enact_woX2_enact _ (by decide +kernel)
  refine fj_lv (lv' := [(0, .ref (ad 4)), (1, .int x)]) [0, 1] rfl ?_
  refine fj_aload_n C 0 dX2_enact_0 rfl rfl ?_
  refine fj_aload_n C 0 dX2_enact_1 rfl rfl ?_
  refine fj_get (Cn := RX2) (T := TX2) (N := 7) (ci := 2) (v := .ref (ad 7)) C iX2 4 (fx_at4 _ _ _ _ _) rfl 4 (by decide) kX2_25 rfl dX2_enact_2 ?_
  refine fj_aload_n C 0 dX2_enact_5 rfl rfl ?_
  refine fj_get (Cn := RX2) (T := TX2) (N := 7) (ci := 2) (v := .int (n 3)) C iX2 4 (fx_at4 _ _ _ _ _) rfl 6 (by decide) kX2_34 rfl dX2_enact_6 ?_
  refine fj_at (y := nI S) hn3 ?_
  refine fj_aald (r := ad (9 + S)) C 7 (fx_at7 _ _ _ _ _) (vp_in_nI (by omega) (by decide)) (by rw [(nI_clamp (by omega))]; exact if_pos hS8) dX2_enact_9 ?_
  refine fj_callVw (As := [.ref (ad (9 + S))]) (rest := []) C (d_X2_read l D ty t0 ad a g n P S T B I S hS8) (cwV 1 C.2.2.2.2.1 gX2_enact_X2_read rfl rfl rfl (by decide +kernel) ⟨Nat.le_of_ble_eq_true rfl, Nat.le_of_ble_eq_true rfl⟩) ⟨4, 2, _, _, fx_at4 _ _ _ _ _, rfl, rfl⟩ rfl (Nat.le_of_ble_eq_true rfl) dX2_enact_10 ⟨Nat.zero_le _, Nat.zero_le _⟩ (fun v9 w9 hp9 => ?_)
  obtain ⟨R9, f9, c9, hR9, rfl, rfl⟩ := hp9
  generalize hz9 : va_up a (9 + S) R9 = b9
  have hsm : ∀ q, q < 9 ∨ 16 < q → b9 q = a q := fun q h9 => by rw [← hz9, va_up_ne _ _ (by omega)]
  have b8 := hsm 8 (by omega)
  have b6 := hsm 6 (by omega)
  refine fj_st (st' := .int c9 :: []) rfl ?_
  refine fj_istore_n (lv' := [(2, .int c9), (0, .ref (ad 4)), (1, .int x)]) C dX2_enact_13 rfl (by decide) rfl ?_
  refine fj_aload_n C 1 dX2_enact_14 rfl rfl ?_
  refine fj_iconst (v := 0) C dX2_enact_15 (by decide) ?_
  refine fj_put (Cn := RX2) (T := TX2) (N := 7) (ci := 2) C iX2 tyX2 tyX2_ok nmX2 4 (fx_at4 _ _ _ _ _) rfl 1 (by decide) kX2_31 rfl rfl rfl (Nat.le_of_ble_eq_true rfl) dX2_enact_16 (fx_si4_1 _ _ _ _ _ _) ?_
  refine fj_iload_n C 0 dX2_enact_19 rfl rfl ?_
  refine fj_if_eq (tgt := 28) C dX2_enact_20 (by decide) (fun h20 => ?_) (fun h20 => ?_)
  · have hc0 : c9 = 0 := h20
    refine fj_aload_n C 1 dX2_enact_28 rfl rfl ?_
    refine fj_get (Cn := RX2) (T := TX2) (N := 7) (ci := 2) (v := .ref (ad 6)) C iX2 4 (fx_at4 _ _ _ _ _) rfl 3 (by decide) kX2_19 rfl dX2_enact_29 ?_
    refine fj_aload_n C 1 dX2_enact_32 rfl rfl ?_
    refine fj_get (Cn := RX2) (T := TX2) (N := 7) (ci := 2) (v := .int (n 3)) C iX2 4 (fx_at4 _ _ _ _ _) rfl 6 (by decide) kX2_34 rfl dX2_enact_33 ?_
    refine fj_at (y := nI S) hn3 ?_
    refine fj_iload_n C 2 dX2_enact_36 rfl rfl ?_
    refine fj_iast (f := (b9 6)) C 6 (fx_at6 _ _ _ _ _) (vp_in_nI (by omega) (by decide)) dX2_enact_37 (fx_st6 _ _ _ _ _ _) ?_
    refine fj_ws (ws' := (fx_w ad ty (va_up b9 6 (upd (b9 6) S x)) g (va_up (va_up n 2 f9) 1 0))) (by rw [nI_clamp (by omega)]) ?_
    refine fj_aload_n C 1 dX2_enact_38 rfl rfl ?_
    refine fj_get (Cn := RX2) (T := TX2) (N := 7) (ci := 2) (v := .int (n 3)) C iX2 4 (fx_at4 _ _ _ _ _) rfl 6 (by decide) kX2_34 rfl dX2_enact_39 ?_
    refine fj_at (y := nI S) hn3 ?_
    refine fj_istore_n (lv' := [(3, .int (nI S)), (2, .int c9), (0, .ref (ad 4)), (1, .int x)]) C dX2_enact_42 rfl (by decide) rfl ?_
    refine fj_lv (lv' := [(0, .ref (ad 4)), (1, .int x), (2, .int c9), (3, .int (nI S))]) [2, 3, 1, 0] rfl ?_
    have lp43 : ∀ (k : Nat), (k ≤ S) → (∀ i, k ≤ i → i < S → x < b9 6 (b9 8 i).toNatClampNeg) → fj p l e (fj_rm 7 157 0 0) s m args below meth c Q A D 4 0 0 (fx_w ad ty (va_up (va_up b9 6 (upd (b9 6) S x)) 8 (shf (b9 8) S k)) g (va_up (va_up n 2 f9) 1 0)) [(0, .ref (ad 4)), (1, .int x), (2, .int c9), (3, .int (nI k))] 43 [] := by
      have key : ∀ zz : Nat, (fun (k : Nat) => (k ≤ S) → (∀ i, k ≤ i → i < S → x < b9 6 (b9 8 i).toNatClampNeg) → fj p l e (fj_rm 7 157 0 0) s m args below meth c Q A D 4 0 0 (fx_w ad ty (va_up (va_up b9 6 (upd (b9 6) S x)) 8 (shf (b9 8) S k)) g (va_up (va_up n 2 f9) 1 0)) [(0, .ref (ad 4)), (1, .int x), (2, .int c9), (3, .int (nI k))] 43 []) zz := by
        refine fx_ind (fun (k : Nat) => k) _ ?_
        rintro k ih hk hd
        refine fj_iload_n C 3 dX2_enact_43 rfl rfl ?_
        refine fj_if_le (tgt := 84) C dX2_enact_44 (by decide) (fun h44 => ?_) (fun h44 => ?_)
        · have e0 : k = 0 := Nat.eq_zero_of_not_pos (fun q => nI_nle q (by omega) h44)
          refine fj_aload_n C 0 dX2_enact_84 rfl rfl ?_
          refine fj_get (Cn := RX2) (T := TX2) (N := 7) (ci := 2) (v := .ref (ad 8)) C iX2 4 (fx_at4 _ _ _ _ _) rfl 5 (by decide) kX2_28 rfl dX2_enact_85 ?_
          refine fj_iload_n C 3 dX2_enact_88 rfl rfl ?_
          refine fj_aload_n C 0 dX2_enact_89 rfl rfl ?_
          refine fj_get (Cn := RX2) (T := TX2) (N := 7) (ci := 2) (v := .int (n 3)) C iX2 4 (fx_at4 _ _ _ _ _) rfl 6 (by decide) kX2_34 rfl dX2_enact_90 ?_
          refine fj_at (y := nI S) hn3 ?_
          refine fj_iast (f := (shf (b9 8) S k)) C 8 (fx_at8 _ _ _ _ _) (vp_in_nI (by omega) (by decide)) dX2_enact_93 (fx_st8 _ _ _ _ _ _) ?_
          refine fj_ws (ws' := (fx_w ad ty (va_up (va_up b9 6 (upd (b9 6) S x)) 8 (upd (shf (b9 8) S k) (nI k).toNatClampNeg (nI S))) g (va_up (va_up n 2 f9) 1 0))) rfl ?_
          refine fj_ws (ws' := (fx_w ad ty (va_up (va_up b9 6 (upd (b9 6) S x)) 8 (upd (shf (b9 8) S k) k (nI S))) g (va_up (va_up n 2 f9) 1 0))) (by rw [nI_clamp (by omega)]) ?_
          refine fj_aload_n C 0 dX2_enact_94 rfl rfl ?_
          refine fj_dup C dX2_enact_95 rfl ?_
          refine fj_get (Cn := RX2) (T := TX2) (N := 7) (ci := 2) (v := .int (n 3)) C iX2 4 (fx_at4 _ _ _ _ _) rfl 6 (by decide) kX2_34 rfl dX2_enact_96 ?_
          refine fj_at (y := nI S) hn3 ?_
          refine fj_iconst (v := 1) C dX2_enact_99 (by decide) ?_
          refine fj_iadd C dX2_enact_100 ?_
          refine fj_at (y := nI (S + 1)) (nI_1 S) ?_
          refine fj_put (Cn := RX2) (T := TX2) (N := 7) (ci := 2) C iX2 tyX2 tyX2_ok nmX2 4 (fx_at4 _ _ _ _ _) rfl 6 (by decide) kX2_34 rfl rfl rfl (Nat.le_of_ble_eq_true rfl) dX2_enact_101 (fx_si4_6 _ _ _ _ _ _) ?_
          refine fj_aload_n C 0 dX2_enact_104 rfl rfl ?_
          refine fj_get (Cn := RX2) (T := TX2) (N := 7) (ci := 2) (v := .int (nI (S + 1))) C iX2 4 (fx_at4 _ _ _ _ _) rfl 6 (by decide) kX2_34 rfl dX2_enact_105 ?_
          refine fj_iconst (v := 1) C dX2_enact_108 (by decide) ?_
          refine fj_isub C dX2_enact_109 ?_
          refine fj_at (y := nI S) (nI_pred S) ?_
          exact fj_iret C E9 dX2_enact_110 (by
      refine ⟨_, _, _, ⟨R9, f9, c9, hR9, Or.inr ⟨h20, rfl, ⟨k, hk, fun i h1 h2 => ?_, ?_, ?_⟩, rfl⟩⟩, rfl, rfl⟩
      · rw [← b6, ← b8]; exact hd i h1 h2
      · rw [← b6, ← b8]; first | exact Or.inl e0 | exact Or.inr h61
      · rw [hz9, ← b6, ← b8])
        · obtain ⟨k, rfl⟩ : ∃ z, k = z + 1 := ⟨k - 1, by have : k ≠ 0 := fun e => h44 (by rw [e]; decide); omega⟩
          refine fj_aload_n C 0 dX2_enact_47 rfl rfl ?_
          refine fj_get (Cn := RX2) (T := TX2) (N := 7) (ci := 2) (v := .ref (ad 6)) C iX2 4 (fx_at4 _ _ _ _ _) rfl 3 (by decide) kX2_19 rfl dX2_enact_48 ?_
          refine fj_aload_n C 0 dX2_enact_51 rfl rfl ?_
          refine fj_get (Cn := RX2) (T := TX2) (N := 7) (ci := 2) (v := .ref (ad 8)) C iX2 4 (fx_at4 _ _ _ _ _) rfl 5 (by decide) kX2_28 rfl dX2_enact_52 ?_
          refine fj_iload_n C 3 dX2_enact_55 rfl rfl ?_
          refine fj_iconst (v := 1) C dX2_enact_56 (by decide) ?_
          refine fj_isub C dX2_enact_57 ?_
          refine fj_at (y := nI k) (nI_pred k) ?_
          refine fj_iald (f := (shf (b9 8) S (k + 1))) C 8 (fx_at8 _ _ _ _ _) (vp_in_nI (by omega) (by decide)) dX2_enact_58 ?_
          obtain ⟨j, hj, ej0⟩ := iLO k (by omega)
          have ej : b9 8 k = nI j := by rw [b8]; exact ej0
          refine fj_at (y := b9 8 k) (by rw [nI_clamp (by omega)]; exact shf_lo (by omega)) ?_
          refine fj_iald (f := (upd (b9 6) S x)) C 6 (fx_at6 _ _ _ _ _) (by rw [ej]; exact vp_in_nI (by omega) (by decide)) dX2_enact_59 ?_
          refine fj_at (y := b9 6 (b9 8 k).toNatClampNeg) (by rw [ej, nI_clamp (by omega)]; exact pk_un (by omega)) ?_
          refine fj_iload_n C 1 dX2_enact_60 rfl rfl ?_
          refine fj_icmp_le (tgt := 84) C dX2_enact_61 (by decide) (fun h61 => ?_) (fun h61 => ?_)
          · refine fj_aload_n C 0 dX2_enact_84 rfl rfl ?_
            refine fj_get (Cn := RX2) (T := TX2) (N := 7) (ci := 2) (v := .ref (ad 8)) C iX2 4 (fx_at4 _ _ _ _ _) rfl 5 (by decide) kX2_28 rfl dX2_enact_85 ?_
            refine fj_iload_n C 3 dX2_enact_88 rfl rfl ?_
            refine fj_aload_n C 0 dX2_enact_89 rfl rfl ?_
            refine fj_get (Cn := RX2) (T := TX2) (N := 7) (ci := 2) (v := .int (n 3)) C iX2 4 (fx_at4 _ _ _ _ _) rfl 6 (by decide) kX2_34 rfl dX2_enact_90 ?_
            refine fj_at (y := nI S) hn3 ?_
            refine fj_iast (f := (shf (b9 8) S (k + 1))) C 8 (fx_at8 _ _ _ _ _) (vp_in_nI (by omega) (by decide)) dX2_enact_93 (fx_st8 _ _ _ _ _ _) ?_
            refine fj_ws (ws' := (fx_w ad ty (va_up (va_up b9 6 (upd (b9 6) S x)) 8 (upd (shf (b9 8) S (k + 1)) (nI (k + 1)).toNatClampNeg (nI S))) g (va_up (va_up n 2 f9) 1 0))) rfl ?_
            refine fj_ws (ws' := (fx_w ad ty (va_up (va_up b9 6 (upd (b9 6) S x)) 8 (upd (shf (b9 8) S (k + 1)) (k + 1) (nI S))) g (va_up (va_up n 2 f9) 1 0))) (by rw [nI_clamp (by omega)]) ?_
            refine fj_aload_n C 0 dX2_enact_94 rfl rfl ?_
            refine fj_dup C dX2_enact_95 rfl ?_
            refine fj_get (Cn := RX2) (T := TX2) (N := 7) (ci := 2) (v := .int (n 3)) C iX2 4 (fx_at4 _ _ _ _ _) rfl 6 (by decide) kX2_34 rfl dX2_enact_96 ?_
            refine fj_at (y := nI S) hn3 ?_
            refine fj_iconst (v := 1) C dX2_enact_99 (by decide) ?_
            refine fj_iadd C dX2_enact_100 ?_
            refine fj_at (y := nI (S + 1)) (nI_1 S) ?_
            refine fj_put (Cn := RX2) (T := TX2) (N := 7) (ci := 2) C iX2 tyX2 tyX2_ok nmX2 4 (fx_at4 _ _ _ _ _) rfl 6 (by decide) kX2_34 rfl rfl rfl (Nat.le_of_ble_eq_true rfl) dX2_enact_101 (fx_si4_6 _ _ _ _ _ _) ?_
            refine fj_aload_n C 0 dX2_enact_104 rfl rfl ?_
            refine fj_get (Cn := RX2) (T := TX2) (N := 7) (ci := 2) (v := .int (nI (S + 1))) C iX2 4 (fx_at4 _ _ _ _ _) rfl 6 (by decide) kX2_34 rfl dX2_enact_105 ?_
            refine fj_iconst (v := 1) C dX2_enact_108 (by decide) ?_
            refine fj_isub C dX2_enact_109 ?_
            refine fj_at (y := nI S) (nI_pred S) ?_
            exact fj_iret C E9 dX2_enact_110 (by
      refine ⟨_, _, _, ⟨R9, f9, c9, hR9, Or.inr ⟨h20, rfl, ⟨(k + 1), hk, fun i h1 h2 => ?_, ?_, ?_⟩, rfl⟩⟩, rfl, rfl⟩
      · rw [← b6, ← b8]; exact hd i h1 h2
      · rw [← b6, ← b8]; first | exact Or.inl e0 | exact Or.inr h61
      · rw [hz9, ← b6, ← b8])
          · refine fj_aload_n C 0 dX2_enact_64 rfl rfl ?_
            refine fj_get (Cn := RX2) (T := TX2) (N := 7) (ci := 2) (v := .ref (ad 8)) C iX2 4 (fx_at4 _ _ _ _ _) rfl 5 (by decide) kX2_28 rfl dX2_enact_65 ?_
            refine fj_iload_n C 3 dX2_enact_68 rfl rfl ?_
            refine fj_aload_n C 0 dX2_enact_69 rfl rfl ?_
            refine fj_get (Cn := RX2) (T := TX2) (N := 7) (ci := 2) (v := .ref (ad 8)) C iX2 4 (fx_at4 _ _ _ _ _) rfl 5 (by decide) kX2_28 rfl dX2_enact_70 ?_
            refine fj_iload_n C 3 dX2_enact_73 rfl rfl ?_
            refine fj_iconst (v := 1) C dX2_enact_74 (by decide) ?_
            refine fj_isub C dX2_enact_75 ?_
            refine fj_at (y := nI k) (nI_pred k) ?_
            refine fj_iald (f := (shf (b9 8) S (k + 1))) C 8 (fx_at8 _ _ _ _ _) (vp_in_nI (by omega) (by decide)) dX2_enact_76 ?_
            refine fj_at (y := b9 8 k) (by rw [nI_clamp (by omega)]; exact shf_lo (by omega)) ?_
            refine fj_iast (f := (shf (b9 8) S (k + 1))) C 8 (fx_at8 _ _ _ _ _) (vp_in_nI (by omega) (by decide)) dX2_enact_77 (fx_st8 _ _ _ _ _ _) ?_
            refine fj_ws (ws' := (fx_w ad ty (va_up (va_up b9 6 (upd (b9 6) S x)) 8 (upd (shf (b9 8) S (k + 1)) (nI (k + 1)).toNatClampNeg (b9 8 k))) g (va_up (va_up n 2 f9) 1 0))) rfl ?_
            refine fj_ws (ws' := (fx_w ad ty (va_up (va_up b9 6 (upd (b9 6) S x)) 8 (shf (b9 8) S k)) g (va_up (va_up n 2 f9) 1 0))) (by rw [nI_clamp (show k + 1 < 2 ^ 31 by omega), shf_s (by omega)]) ?_
            refine fj_iinc (v := nI k) (lv' := [(3, .int (nI k)), (0, .ref (ad 4)), (1, .int x), (2, .int c9)]) C 3 dX2_enact_78 rfl (fx_dec k) (by decide) rfl ?_
            refine fj_goto (tgt := 43) C dX2_enact_81 (by decide) ?_
            refine fj_lv (lv' := [(0, .ref (ad 4)), (1, .int x), (2, .int c9), (3, .int (nI k))]) [1, 2, 3, 0] rfl ?_
            exact ih k (by show k < k + 1; omega) (by omega) (fun i h1 h2 => (Nat.eq_or_lt_of_le h1).elim (fun e => e ▸ Int32.not_le.mp h61) (fun q => hd i q h2))
      intro k
      exact key k
    refine fj_ws (ws' := (fx_w ad ty (va_up (va_up b9 6 (upd (b9 6) S x)) 8 (shf (b9 8) S S)) g (va_up (va_up n 2 f9) 1 0))) (by rw [shf_0]; rfl) ?_
    exact lp43 S (Nat.le_refl S) (fun i h1 h2 => absurd h1 (by omega))
  · refine fj_bipush (v := (-10)) C dX2_enact_23 (by decide) ?_
    refine fj_iload_n C 0 dX2_enact_25 rfl rfl ?_
    refine fj_isub C dX2_enact_26 ?_
    exact fj_iret C E9 dX2_enact_27 ⟨_, _, _, ⟨R9, f9, c9, hR9, Or.inl ⟨h20, rfl, hz9.symm, rfl⟩⟩, rfl, rfl⟩

set_option maxHeartbeats 4000000 in
set_option maxRecDepth 100000 in
theorem d_X5_law (l : Launch) (D : va_G) (ty : Nat → ClassId) (t0 : Nat → Nat) (ad : Nat → Nat) (a : Nat → Nat → Int32) (g : Nat → Nat → Int64) (n : Nat → Int32) (P : Nat) (S : Nat) (T : Nat) (B : Nat) (I : XI P S T B a n) (x : Int32)  : fc l yX5_law wsX5_law (fj_rm 8 180 0 0) D ty t0 [.ref (ad 0), .int x] (fx_w ad ty a g n) 0 0 (fun v w => (¬ (0 ≤ x ∧ x ≤ 20000) ∧ v = some (.int (-1002)) ∧ w = fx_w ad ty a g n) ∨ ((0 ≤ x ∧ x ≤ 20000) ∧ ¬ S < 8 ∧ v = some (.int (-1004)) ∧ w = fx_w ad ty a g n) ∨ ((0 ≤ x ∧ x ≤ 20000) ∧ S < 8 ∧ ∃ (r : Int32) (b : Nat → Nat → Int32) (u : Nat → Int32), ENP a S T x n r b u ∧ v = some (.int r) ∧ w = fx_w ad ty b g u)) := by
  refine fc_start (own := RX5) (cc := cX5_law) (maxL := 2) (ret := (some .int)) (by decide) rfl (Nat.le_of_ble_eq_true rfl) rfl ?_
  intro p e s m args below meth c Q A C hmn E9
  obtain ⟨hn0, hP, hn1, hT, hn3, hS, hn4, hB, iLO, iBO, iWho, iSort, iQ, iN⟩ := id I
  have iX5 : ∀ w ∈ u_ws RX5 TX5 5, w ∈ wsX5_law := ptX5_law_wsX50
  have kX5_19 : Cond.fieldLink RX5 19 "FreeLand" "laws" "LFreeLand$Laws;" ∈ wsX5_law := ptX5_law_woX5_law _ (by decide +kernel)
  have iX2 : ∀ w ∈ u_ws RX2 TX2 7, w ∈ wsX5_law := ptX5_law_wsX20
  have kX5_72 : (RX5, 72, "FreeLand$Laws", "size", "I") ∈ nw_F := (by decide +kernel)
  have kN73 : (RX5, 73, yX2_enact) ∈ nw_M := (by decide +kernel)
  have kIX2 : Cond.initialized RX2 ∈ wsX5_law := ptX5_law_woX5_law _ (by decide +kernel)
  have kVX2_enact : Cond.instanceMethod yX2_enact ∈ wsX5_law := ptX5_law_woX5_law _ (by decide +kernel)
  have kSX2_enact : Cond.selects RX2 yX2_enact yX2_enact ∈ wsX5_law := ptX5_law_woX5_law _ (by decide +kernel)
  refine fj_lv (lv' := [(0, .ref (ad 0)), (1, .int x)]) [0, 1] rfl ?_
  refine fj_iload_n C 1 dX5_law_0 rfl rfl ?_
  refine fj_callSw (As := [.int x]) (rest := []) C (d_X5_isDay l D ty t0 (fx_w ad ty a g n) x) (va_cwS 1 C.2.2.2.2.1 gX5_law_X5_isDay rfl rfl rfl (by decide +kernel) ⟨Nat.le_of_ble_eq_true rfl, Nat.le_of_ble_eq_true rfl⟩)  rfl (Nat.le_of_ble_eq_true rfl) dX5_law_1 ⟨Nat.zero_le _, Nat.zero_le _⟩ (fun v9 w9 hp9 => ?_)
  obtain ⟨rfl, rfl⟩ := hp9
  refine fj_st (st' := .int (if (0 ≤ x ∧ x ≤ 20000) then 1 else 0) :: []) rfl ?_
  refine fj_ifb_ne (tgt := 11) C dX5_law_4 (by decide) (fun h4 => ?_) (fun h4 => ?_)
  · refine fj_aload_n C 0 dX5_law_11 rfl rfl ?_
    refine fj_get (Cn := RX5) (T := TX5) (N := 5) (ci := 5) (v := .ref (ad 4)) C iX5 0 (fx_at0 _ _ _ _ _) rfl 1 (by decide) kX5_19 rfl dX5_law_12 ?_
    refine fj_getN (Cn := RX2) (T := TX2) (N := 7) (ci := 2) (v := .int (n 3)) C iX2 4 (fx_at4 _ _ _ _ _) rfl 6 (by decide) kX5_72 rfl dX5_law_15 ?_
    refine fj_at (y := nI S) hn3 ?_
    refine fj_bipush (v := 8) C dX5_law_18 (by decide) ?_
    refine fj_icmp_lt (tgt := 27) C dX5_law_20 (by decide) (fun h20 => ?_) (fun h20 => ?_)
    · have hS8 : S < 8 := (nI_ltI (b := 8) (by omega) (by decide)).mp h20
      refine fj_aload_n C 0 dX5_law_27 rfl rfl ?_
      refine fj_get (Cn := RX5) (T := TX5) (N := 5) (ci := 5) (v := .ref (ad 4)) C iX5 0 (fx_at0 _ _ _ _ _) rfl 1 (by decide) kX5_19 rfl dX5_law_28 ?_
      refine fj_iload_n C 1 dX5_law_31 rfl rfl ?_
      refine fj_callVNw (As := [.int x]) (rest := []) C (d_X2_enact l D ty t0 ad a g n P S T B I x hS8) ⟨va_cnB 1 C.2.2.2.2.1 gX5_law_X2_enact_n73 rfl rfl rfl (nw_m C.2.2.2.2.2.2.2.1 kN73) (C.2.2.2.2.1 _ kIX2) (by decide +kernel) ⟨Nat.le_of_ble_eq_true rfl, Nat.le_of_ble_eq_true rfl⟩, C.2.2.2.2.1 _ kVX2_enact, C.2.2.2.2.1 _ kSX2_enact⟩ ⟨4, 2, _, _, fx_at4 _ _ _ _ _, rfl, rfl⟩ rfl (Nat.le_of_ble_eq_true rfl) dX5_law_32 ⟨Nat.zero_le _, Nat.zero_le _⟩ (fun v9 w9 hp9 => ?_)
      obtain ⟨r9, b9, u9, hE9, rfl, rfl⟩ := hp9
      refine fj_st (st' := .int r9 :: []) rfl ?_
      exact fj_iret C E9 dX5_law_35 (Or.inr (Or.inr ⟨h4, hS8, r9, b9, u9, hE9, rfl, rfl⟩))
    · have hS8 : ¬ S < 8 := fun q => h20 ((nI_ltI (b := 8) (by omega) (by decide)).mpr q)
      refine fj_sipush (v := (-1004)) C dX5_law_23 (by decide) ?_
      exact fj_iret C E9 dX5_law_26 (Or.inr (Or.inl ⟨h4, hS8, rfl, rfl⟩))
  · refine fj_sipush (v := (-1002)) C dX5_law_7 (by decide) ?_
    exact fj_iret C E9 dX5_law_10 (Or.inl ⟨h4, rfl, rfl⟩)
