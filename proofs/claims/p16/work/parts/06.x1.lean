/-- a row whose places behind k up to B have moved one on -/
def shf (f : Nat → Int32) (B k : Nat) : Nat → Int32 := fun i => if k < i ∧ i ≤ B then f (i - 1) else f i
theorem shf_0 (f : Nat → Int32) (B : Nat) : shf f B B = f := by
  funext i
  have : ¬ (B < i ∧ i ≤ B) := by omega
  simp [shf, this]
theorem shf_lo {f : Nat → Int32} {B k i : Nat} (h : i ≤ k) : shf f B k i = f i := if_neg (by omega)
theorem shf_s {f : Nat → Int32} {B k : Nat} (h : k + 1 ≤ B) : upd (shf f B (k + 1)) (k + 1) (f k) = shf f B k := by
  funext i
  simp only [upd, shf]
  by_cases e : i = k + 1
  · subst e
    simp [h]
  · by_cases q : k + 1 < i ∧ i ≤ B
    · rw [if_neg e, if_pos q, if_pos ⟨by omega, q.2⟩]
    · rw [if_neg e, if_neg q, if_neg (by omega)]
theorem fx_dec (k : Nat) : nI (k + 1) + Int32.ofInt (-1) = nI k := pk_m1 k
set_option maxHeartbeats 4000000 in
set_option maxRecDepth 100000 in
theorem d_X0_add (l : Launch) (D : va_G) (ty : Nat → ClassId) (t0 : Nat → Nat) (ad : Nat → Nat) (a : Nat → Nat → Int32) (g : Nat → Nat → Int64) (n : Nat → Int32) (P : Nat) (S : Nat) (T : Nat) (B : Nat) (I : XI P S T B a n) (x : Int32) (y : Int32) (hB2 : B < 120) : fc l yX0_add wsX0_add (fj_rm 0 0 0 0) D ty t0 [.ref (ad 17), .int x, .int y] (fx_w ad ty a g n) 0 0 (fun v w => v = some (.int (nI B)) ∧ ∃ k, k ≤ B ∧ (∀ i, k ≤ i → i < B → x < a 18 (a 24 i).toNatClampNeg) ∧ (k = 0 ∨ a 18 (a 24 (k - 1)).toNatClampNeg ≤ x) ∧ w = fx_w ad ty (va_up (va_up (va_up a 18 (upd (a 18) (nI B).toNatClampNeg x)) 19 (upd (a 19) (nI B).toNatClampNeg y)) 24 (upd (shf (a 24) B k) (nI k).toNatClampNeg (nI B))) g (va_up n 4 (nI (B + 1)))) := by
  refine fc_start (own := RX0) (cc := cX0_add) (maxL := 4) (ret := (some .int)) (by decide) rfl (Nat.le_of_ble_eq_true rfl) rfl ?_
  intro p e s m args below meth c Q A C hmn E9
  obtain ⟨hn0, hP, hn1, hT, hn3, hS, hn4, hB, iLO, iBO, iWho, iSort, iQ, iN⟩ := id I
  have iX0 : ∀ w ∈ u_ws RX0 TX0 8, w ∈ wsX0_add := ptX0_add_wsX00
  have kX0_9 : Cond.fieldLink RX0 9 "FreeLand$Book" "day" "[I" ∈ wsX0_add := ptX0_add_woX0_add _ (by decide +kernel)
  have kX0_34 : Cond.fieldLink RX0 34 "FreeLand$Book" "size" "I" ∈ wsX0_add := ptX0_add_woX0_add _ (by decide +kernel)
  have kX0_15 : Cond.fieldLink RX0 15 "FreeLand$Book" "sort" "[I" ∈ wsX0_add := ptX0_add_woX0_add _ (by decide +kernel)
  have kX0_31 : Cond.fieldLink RX0 31 "FreeLand$Book" "order" "[I" ∈ wsX0_add := ptX0_add_woX0_add _ (by decide +kernel)
  refine fj_lv (lv' := [(0, .ref (ad 17)), (1, .int x), (2, .int y)]) [0, 1, 2] rfl ?_
  refine fj_aload_n C 0 dX0_add_0 rfl rfl ?_
  refine fj_get (Cn := RX0) (T := TX0) (N := 8) (ci := 0) (v := .ref (ad 18)) C iX0 17 (fx_at17 _ _ _ _ _) rfl 0 (by decide) kX0_9 rfl dX0_add_1 ?_
  refine fj_aload_n C 0 dX0_add_4 rfl rfl ?_
  refine fj_get (Cn := RX0) (T := TX0) (N := 8) (ci := 0) (v := .int (n 4)) C iX0 17 (fx_at17 _ _ _ _ _) rfl 7 (by decide) kX0_34 rfl dX0_add_5 ?_
  refine fj_at (y := nI B) hn4 ?_
  refine fj_iload_n C 1 dX0_add_8 rfl rfl ?_
  refine fj_iast (f := (a 18)) C 18 (fx_at18 _ _ _ _ _) (vp_in_nI hB2 (by decide)) dX0_add_9 (fx_st18 _ _ _ _ _ _) ?_
  refine fj_aload_n C 0 dX0_add_10 rfl rfl ?_
  refine fj_get (Cn := RX0) (T := TX0) (N := 8) (ci := 0) (v := .ref (ad 19)) C iX0 17 (fx_at17 _ _ _ _ _) rfl 1 (by decide) kX0_15 rfl dX0_add_11 ?_
  refine fj_aload_n C 0 dX0_add_14 rfl rfl ?_
  refine fj_get (Cn := RX0) (T := TX0) (N := 8) (ci := 0) (v := .int (n 4)) C iX0 17 (fx_at17 _ _ _ _ _) rfl 7 (by decide) kX0_34 rfl dX0_add_15 ?_
  refine fj_at (y := nI B) hn4 ?_
  refine fj_iload_n C 2 dX0_add_18 rfl rfl ?_
  refine fj_iast (f := (a 19)) C 19 (fx_at19 _ _ _ _ _) (vp_in_nI hB2 (by decide)) dX0_add_19 (fx_st19 _ _ _ _ _ _) ?_
  refine fj_aload_n C 0 dX0_add_20 rfl rfl ?_
  refine fj_get (Cn := RX0) (T := TX0) (N := 8) (ci := 0) (v := .int (n 4)) C iX0 17 (fx_at17 _ _ _ _ _) rfl 7 (by decide) kX0_34 rfl dX0_add_21 ?_
  refine fj_at (y := nI B) hn4 ?_
  refine fj_istore_n (lv' := [(3, .int (nI B)), (0, .ref (ad 17)), (1, .int x), (2, .int y)]) C dX0_add_24 rfl (by decide) rfl ?_
  refine fj_lv (lv' := [(0, .ref (ad 17)), (1, .int x), (2, .int y), (3, .int (nI B))]) [1, 2, 3, 0] rfl ?_
  have lp25 : ∀ (k : Nat), (k ≤ B) → (∀ i, k ≤ i → i < B → x < a 18 (a 24 i).toNatClampNeg) → fj p l e (fj_rm 0 0 0 0) s m args below meth c Q A D 4 0 0 (fx_w ad ty (va_up (va_up (va_up a 18 (upd (a 18) (nI B).toNatClampNeg x)) 19 (upd (a 19) (nI B).toNatClampNeg y)) 24 (shf (a 24) B k)) g n) [(0, .ref (ad 17)), (1, .int x), (2, .int y), (3, .int (nI k))] 25 [] := by
    have key : ∀ zz : Nat, (fun (k : Nat) => (k ≤ B) → (∀ i, k ≤ i → i < B → x < a 18 (a 24 i).toNatClampNeg) → fj p l e (fj_rm 0 0 0 0) s m args below meth c Q A D 4 0 0 (fx_w ad ty (va_up (va_up (va_up a 18 (upd (a 18) (nI B).toNatClampNeg x)) 19 (upd (a 19) (nI B).toNatClampNeg y)) 24 (shf (a 24) B k)) g n) [(0, .ref (ad 17)), (1, .int x), (2, .int y), (3, .int (nI k))] 25 []) zz := by
      refine fx_ind (fun (k : Nat) => k) _ ?_
      rintro k ih hk hd
      refine fj_iload_n C 3 dX0_add_25 rfl rfl ?_
      refine fj_if_le (tgt := 66) C dX0_add_26 (by decide) (fun h26 => ?_) (fun h26 => ?_)
      · have e0 : k = 0 := Nat.eq_zero_of_not_pos (fun q => nI_nle q (by omega) h26)
        refine fj_aload_n C 0 dX0_add_66 rfl rfl ?_
        refine fj_get (Cn := RX0) (T := TX0) (N := 8) (ci := 0) (v := .ref (ad 24)) C iX0 17 (fx_at17 _ _ _ _ _) rfl 6 (by decide) kX0_31 rfl dX0_add_67 ?_
        refine fj_iload_n C 3 dX0_add_70 rfl rfl ?_
        refine fj_aload_n C 0 dX0_add_71 rfl rfl ?_
        refine fj_get (Cn := RX0) (T := TX0) (N := 8) (ci := 0) (v := .int (n 4)) C iX0 17 (fx_at17 _ _ _ _ _) rfl 7 (by decide) kX0_34 rfl dX0_add_72 ?_
        refine fj_at (y := nI B) hn4 ?_
        refine fj_iast (f := (shf (a 24) B k)) C 24 (fx_at24 _ _ _ _ _) (vp_in_nI (by omega) (by decide)) dX0_add_75 (fx_st24 _ _ _ _ _ _) ?_
        refine fj_ws (ws' := (fx_w ad ty (va_up (va_up (va_up a 18 (upd (a 18) (nI B).toNatClampNeg x)) 19 (upd (a 19) (nI B).toNatClampNeg y)) 24 (upd (shf (a 24) B k) (nI k).toNatClampNeg (nI B))) g n)) rfl ?_
        refine fj_aload_n C 0 dX0_add_76 rfl rfl ?_
        refine fj_dup C dX0_add_77 rfl ?_
        refine fj_get (Cn := RX0) (T := TX0) (N := 8) (ci := 0) (v := .int (n 4)) C iX0 17 (fx_at17 _ _ _ _ _) rfl 7 (by decide) kX0_34 rfl dX0_add_78 ?_
        refine fj_at (y := nI B) hn4 ?_
        refine fj_iconst (v := 1) C dX0_add_81 (by decide) ?_
        refine fj_iadd C dX0_add_82 ?_
        refine fj_at (y := nI (B + 1)) (nI_1 B) ?_
        refine fj_put (Cn := RX0) (T := TX0) (N := 8) (ci := 0) C iX0 tyX0 tyX0_ok nmX0 17 (fx_at17 _ _ _ _ _) rfl 7 (by decide) kX0_34 rfl rfl rfl (Nat.le_of_ble_eq_true rfl) dX0_add_83 (fx_si17_7 _ _ _ _ _ _) ?_
        refine fj_aload_n C 0 dX0_add_86 rfl rfl ?_
        refine fj_get (Cn := RX0) (T := TX0) (N := 8) (ci := 0) (v := .int (nI (B + 1))) C iX0 17 (fx_at17 _ _ _ _ _) rfl 7 (by decide) kX0_34 rfl dX0_add_87 ?_
        refine fj_iconst (v := 1) C dX0_add_90 (by decide) ?_
        refine fj_isub C dX0_add_91 ?_
        refine fj_at (y := nI B) (nI_pred B) ?_
        exact fj_iret C E9 dX0_add_92 (by first | exact ⟨rfl, k, hk, hd, Or.inl e0, rfl⟩ | exact ⟨rfl, k + 1, hk, hd, Or.inr h43, rfl⟩)
      · obtain ⟨k, rfl⟩ : ∃ z, k = z + 1 := ⟨k - 1, by have : k ≠ 0 := fun e => h26 (by rw [e]; decide); omega⟩
        refine fj_aload_n C 0 dX0_add_29 rfl rfl ?_
        refine fj_get (Cn := RX0) (T := TX0) (N := 8) (ci := 0) (v := .ref (ad 18)) C iX0 17 (fx_at17 _ _ _ _ _) rfl 0 (by decide) kX0_9 rfl dX0_add_30 ?_
        refine fj_aload_n C 0 dX0_add_33 rfl rfl ?_
        refine fj_get (Cn := RX0) (T := TX0) (N := 8) (ci := 0) (v := .ref (ad 24)) C iX0 17 (fx_at17 _ _ _ _ _) rfl 6 (by decide) kX0_31 rfl dX0_add_34 ?_
        refine fj_iload_n C 3 dX0_add_37 rfl rfl ?_
        refine fj_iconst (v := 1) C dX0_add_38 (by decide) ?_
        refine fj_isub C dX0_add_39 ?_
        refine fj_at (y := nI k) (nI_pred k) ?_
        refine fj_iald (f := (shf (a 24) B (k + 1))) C 24 (fx_at24 _ _ _ _ _) (vp_in_nI (by omega) (by decide)) dX0_add_40 ?_
        obtain ⟨j, hj, ej⟩ := iBO k (by omega)
        refine fj_at (y := a 24 k) (by rw [nI_clamp (by omega)]; exact shf_lo (by omega)) ?_
        refine fj_iald (f := (upd (a 18) (nI B).toNatClampNeg x)) C 18 (fx_at18 _ _ _ _ _) (by rw [ej]; exact vp_in_nI (by omega) (by decide)) dX0_add_41 ?_
        refine fj_at (y := a 18 (a 24 k).toNatClampNeg) (by rw [ej, nI_clamp (by omega), nI_clamp (by omega)]; exact pk_un (by omega)) ?_
        refine fj_iload_n C 1 dX0_add_42 rfl rfl ?_
        refine fj_icmp_le (tgt := 66) C dX0_add_43 (by decide) (fun h43 => ?_) (fun h43 => ?_)
        · refine fj_aload_n C 0 dX0_add_66 rfl rfl ?_
          refine fj_get (Cn := RX0) (T := TX0) (N := 8) (ci := 0) (v := .ref (ad 24)) C iX0 17 (fx_at17 _ _ _ _ _) rfl 6 (by decide) kX0_31 rfl dX0_add_67 ?_
          refine fj_iload_n C 3 dX0_add_70 rfl rfl ?_
          refine fj_aload_n C 0 dX0_add_71 rfl rfl ?_
          refine fj_get (Cn := RX0) (T := TX0) (N := 8) (ci := 0) (v := .int (n 4)) C iX0 17 (fx_at17 _ _ _ _ _) rfl 7 (by decide) kX0_34 rfl dX0_add_72 ?_
          refine fj_at (y := nI B) hn4 ?_
          refine fj_iast (f := (shf (a 24) B (k + 1))) C 24 (fx_at24 _ _ _ _ _) (vp_in_nI (by omega) (by decide)) dX0_add_75 (fx_st24 _ _ _ _ _ _) ?_
          refine fj_ws (ws' := (fx_w ad ty (va_up (va_up (va_up a 18 (upd (a 18) (nI B).toNatClampNeg x)) 19 (upd (a 19) (nI B).toNatClampNeg y)) 24 (upd (shf (a 24) B (k + 1)) (nI (k + 1)).toNatClampNeg (nI B))) g n)) rfl ?_
          refine fj_aload_n C 0 dX0_add_76 rfl rfl ?_
          refine fj_dup C dX0_add_77 rfl ?_
          refine fj_get (Cn := RX0) (T := TX0) (N := 8) (ci := 0) (v := .int (n 4)) C iX0 17 (fx_at17 _ _ _ _ _) rfl 7 (by decide) kX0_34 rfl dX0_add_78 ?_
          refine fj_at (y := nI B) hn4 ?_
          refine fj_iconst (v := 1) C dX0_add_81 (by decide) ?_
          refine fj_iadd C dX0_add_82 ?_
          refine fj_at (y := nI (B + 1)) (nI_1 B) ?_
          refine fj_put (Cn := RX0) (T := TX0) (N := 8) (ci := 0) C iX0 tyX0 tyX0_ok nmX0 17 (fx_at17 _ _ _ _ _) rfl 7 (by decide) kX0_34 rfl rfl rfl (Nat.le_of_ble_eq_true rfl) dX0_add_83 (fx_si17_7 _ _ _ _ _ _) ?_
          refine fj_aload_n C 0 dX0_add_86 rfl rfl ?_
          refine fj_get (Cn := RX0) (T := TX0) (N := 8) (ci := 0) (v := .int (nI (B + 1))) C iX0 17 (fx_at17 _ _ _ _ _) rfl 7 (by decide) kX0_34 rfl dX0_add_87 ?_
          refine fj_iconst (v := 1) C dX0_add_90 (by decide) ?_
          refine fj_isub C dX0_add_91 ?_
          refine fj_at (y := nI B) (nI_pred B) ?_
          exact fj_iret C E9 dX0_add_92 (by first | exact ⟨rfl, k, hk, hd, Or.inl e0, rfl⟩ | exact ⟨rfl, k + 1, hk, hd, Or.inr h43, rfl⟩)
        · refine fj_aload_n C 0 dX0_add_46 rfl rfl ?_
          refine fj_get (Cn := RX0) (T := TX0) (N := 8) (ci := 0) (v := .ref (ad 24)) C iX0 17 (fx_at17 _ _ _ _ _) rfl 6 (by decide) kX0_31 rfl dX0_add_47 ?_
          refine fj_iload_n C 3 dX0_add_50 rfl rfl ?_
          refine fj_aload_n C 0 dX0_add_51 rfl rfl ?_
          refine fj_get (Cn := RX0) (T := TX0) (N := 8) (ci := 0) (v := .ref (ad 24)) C iX0 17 (fx_at17 _ _ _ _ _) rfl 6 (by decide) kX0_31 rfl dX0_add_52 ?_
          refine fj_iload_n C 3 dX0_add_55 rfl rfl ?_
          refine fj_iconst (v := 1) C dX0_add_56 (by decide) ?_
          refine fj_isub C dX0_add_57 ?_
          refine fj_at (y := nI k) (nI_pred k) ?_
          refine fj_iald (f := (shf (a 24) B (k + 1))) C 24 (fx_at24 _ _ _ _ _) (vp_in_nI (by omega) (by decide)) dX0_add_58 ?_
          refine fj_at (y := a 24 k) (by rw [nI_clamp (by omega)]; exact shf_lo (by omega)) ?_
          refine fj_iast (f := (shf (a 24) B (k + 1))) C 24 (fx_at24 _ _ _ _ _) (vp_in_nI (by omega) (by decide)) dX0_add_59 (fx_st24 _ _ _ _ _ _) ?_
          refine fj_ws (ws' := (fx_w ad ty (va_up (va_up (va_up a 18 (upd (a 18) (nI B).toNatClampNeg x)) 19 (upd (a 19) (nI B).toNatClampNeg y)) 24 (upd (shf (a 24) B (k + 1)) (nI (k + 1)).toNatClampNeg (a 24 k))) g n)) rfl ?_
          refine fj_ws (ws' := (fx_w ad ty (va_up (va_up (va_up a 18 (upd (a 18) (nI B).toNatClampNeg x)) 19 (upd (a 19) (nI B).toNatClampNeg y)) 24 (shf (a 24) B k)) g n)) (by rw [nI_clamp (show k + 1 < 2 ^ 31 by omega), shf_s (by omega)]) ?_
          refine fj_iinc (v := nI k) (lv' := [(3, .int (nI k)), (0, .ref (ad 17)), (1, .int x), (2, .int y)]) C 3 dX0_add_60 rfl (fx_dec k) (by decide) rfl ?_
          refine fj_goto (tgt := 25) C dX0_add_63 (by decide) ?_
          refine fj_lv (lv' := [(0, .ref (ad 17)), (1, .int x), (2, .int y), (3, .int (nI k))]) [1, 2, 3, 0] rfl ?_
          exact ih k (by show k < k + 1; omega) (by omega) (fun i h1 h2 => (Nat.eq_or_lt_of_le h1).elim (fun e => e ▸ Int32.not_le.mp h43) (fun q => hd i q h2))
    intro k
    exact key k
  refine fj_ws (ws' := (fx_w ad ty (va_up (va_up (va_up a 18 (upd (a 18) (nI B).toNatClampNeg x)) 19 (upd (a 19) (nI B).toNatClampNeg y)) 24 (shf (a 24) B B)) g n)) (by rw [shf_0]; rfl) ?_
  exact lp25 B (Nat.le_refl B) (fun i h1 h2 => absurd h1 (by omega))

set_option maxHeartbeats 4000000 in
set_option maxRecDepth 100000 in
theorem d_X5_line (l : Launch) (D : va_G) (ty : Nat → ClassId) (t0 : Nat → Nat) (ad : Nat → Nat) (a : Nat → Nat → Int32) (g : Nat → Nat → Int64) (n : Nat → Int32) (P : Nat) (S : Nat) (T : Nat) (B : Nat) (I : XI P S T B a n) (x : Int32) (z : Int32) (p9 : Int32) (q : Int32) (u : Int32)  : fc l yX5_line wsX5_line (fj_rm 2 43 0 0) D ty t0 [.ref (ad 0), .int x, .int z, .int p9, .int q, .int u] (fx_w ad ty a g n) 0 0 (fun v w => v = some (.int (if ¬ (0 ≤ z ∧ z ≤ 6) then -1002 else if ¬ (ib p9 P ∧ (z = 6 → ib u P) ∧ (¬ z = 6 → (0 ≤ q ∧ q ≤ 63))) then -1001 else if ¬ ((0 ≤ x ∧ x ≤ 20000) ∧ ((z = 1 → 1 ≤ u ∧ u ≤ 5000) ∧ (z = 2 → 1 ≤ u ∧ u ≤ 160))) then -1002 else if B < 120 then nI B else -1004)) ∧ (((0 ≤ z ∧ z ≤ 6) ∧ (ib p9 P ∧ (z = 6 → ib u P) ∧ (¬ z = 6 → (0 ≤ q ∧ q ≤ 63))) ∧ (0 ≤ x ∧ x ≤ 20000) ∧ ((z = 1 → 1 ≤ u ∧ u ≤ 5000) ∧ (z = 2 → 1 ≤ u ∧ u ≤ 160)) ∧ B < 120) → ∃ k, k ≤ B ∧ (∀ i, k ≤ i → i < B → x < a 18 (a 24 i).toNatClampNeg) ∧ (k = 0 ∨ a 18 (a 24 (k - 1)).toNatClampNeg ≤ x) ∧ w = fx_w ad ty (va_up (va_up (va_up (va_up (va_up (va_up a 18 (upd (a 18) (nI B).toNatClampNeg x)) 19 (upd (a 19) (nI B).toNatClampNeg z)) 24 (upd (shf (a 24) B k) (nI k).toNatClampNeg (nI B))) 20 (upd (a 20) (nI B).toNatClampNeg p9)) 21 (upd (a 21) (nI B).toNatClampNeg q)) 22 (upd (a 22) (nI B).toNatClampNeg u)) g (va_up n 4 (nI (B + 1)))) ∧ (¬ ((0 ≤ z ∧ z ≤ 6) ∧ (ib p9 P ∧ (z = 6 → ib u P) ∧ (¬ z = 6 → (0 ≤ q ∧ q ≤ 63))) ∧ (0 ≤ x ∧ x ≤ 20000) ∧ ((z = 1 → 1 ≤ u ∧ u ≤ 5000) ∧ (z = 2 → 1 ≤ u ∧ u ≤ 160)) ∧ B < 120) → w = fx_w ad ty a g n)) := by
  refine fc_start (own := RX5) (cc := cX5_line) (maxL := 7) (ret := (some .int)) (by decide) rfl (Nat.le_of_ble_eq_true rfl) rfl ?_
  intro p e s m args below meth c Q A C hmn E9
  obtain ⟨hn0, hP, hn1, hT, hn3, hS, hn4, hB, iLO, iBO, iWho, iSort, iQ, iN⟩ := id I
  have iX5 : ∀ w ∈ u_ws RX5 TX5 5, w ∈ wsX5_line := ptX5_line_wsX50
  have kX5_26 : Cond.fieldLink RX5 26 "FreeLand" "book" "LFreeLand$Book;" ∈ wsX5_line := ptX5_line_woX5_line _ (by decide +kernel)
  have iX0 : ∀ w ∈ u_ws RX0 TX0 8, w ∈ wsX5_line := ptX5_line_wsX00
  have kX5_100 : (RX5, 100, "FreeLand$Book", "size", "I") ∈ nw_F := (by decide +kernel)
  have kN101 : (RX5, 101, yX0_add) ∈ nw_M := (by decide +kernel)
  have kIX0 : Cond.initialized RX0 ∈ wsX5_line := ptX5_line_woX5_line _ (by decide +kernel)
  have kVX0_add : Cond.instanceMethod yX0_add ∈ wsX5_line := ptX5_line_woX5_line _ (by decide +kernel)
  have kSX0_add : Cond.selects RX0 yX0_add yX0_add ∈ wsX5_line := ptX5_line_woX5_line _ (by decide +kernel)
  have kX5_102 : (RX5, 102, "FreeLand$Book", "who", "[I") ∈ nw_F := (by decide +kernel)
  have kX5_105 : (RX5, 105, "FreeLand$Book", "where", "[I") ∈ nw_F := (by decide +kernel)
  have kX5_108 : (RX5, 108, "FreeLand$Book", "number", "[I") ∈ nw_F := (by decide +kernel)
  refine fj_lv (lv' := [(0, .ref (ad 0)), (1, .int x), (2, .int z), (3, .int p9), (4, .int q), (5, .int u)]) [0, 1, 2, 3, 4, 5] rfl ?_
  refine fj_iload_n C 2 dX5_line_0 rfl rfl ?_
  refine fj_iconst (v := 0) C dX5_line_1 (by decide) ?_
  refine fj_bipush (v := 6) C dX5_line_2 (by decide) ?_
  refine fj_callSw (As := [.int z, .int 0, .int 6]) (rest := []) C (d_X5_within l D ty t0 (fx_w ad ty a g n) z 0 6) (va_cwS 3 C.2.2.2.2.1 gX5_line_X5_within rfl rfl rfl (by decide +kernel) ⟨Nat.le_of_ble_eq_true rfl, Nat.le_of_ble_eq_true rfl⟩)  rfl (Nat.le_of_ble_eq_true rfl) dX5_line_4 ⟨Nat.zero_le _, Nat.zero_le _⟩ (fun v9 w9 hp9 => ?_)
  obtain ⟨rfl, rfl⟩ := hp9
  refine fj_st (st' := .int (if (0 ≤ z ∧ z ≤ 6) then 1 else 0) :: []) rfl ?_
  refine fj_ifb_ne (tgt := 14) C dX5_line_7 (by decide) (fun h7 => ?_) (fun h7 => ?_)
  · refine fj_aload_n C 0 dX5_line_14 rfl rfl ?_
    refine fj_iload_n C 3 dX5_line_15 rfl rfl ?_
    refine fj_callVw (As := [.int p9]) (rest := []) C (d_X5_isPerson l D ty t0 ad a g n P S T B I p9) (cwV 1 C.2.2.2.2.1 gX5_line_X5_isPerson rfl rfl rfl (by decide +kernel) ⟨Nat.le_of_ble_eq_true rfl, Nat.le_of_ble_eq_true rfl⟩) ⟨0, 5, _, _, fx_at0 _ _ _ _ _, rfl, rfl⟩ rfl (Nat.le_of_ble_eq_true rfl) dX5_line_16 ⟨Nat.zero_le _, Nat.zero_le _⟩ (fun v9 w9 hp9 => ?_)
    obtain ⟨rfl, rfl⟩ := hp9
    refine fj_st (st' := .int (if ib p9 P then 1 else 0) :: []) rfl ?_
    refine fj_ifb_ne (tgt := 26) C dX5_line_19 (by decide) (fun h19 => ?_) (fun h19 => ?_)
    · refine fj_iload_n C 2 dX5_line_26 rfl rfl ?_
      refine fj_bipush (v := 6) C dX5_line_27 (by decide) ?_
      refine fj_icmp_ne (tgt := 44) C dX5_line_29 (by decide) (fun h29 => ?_) (fun h29 => ?_)
      · refine fj_iload C 4 dX5_line_44 rfl ?_
        refine fj_callSw (As := [.int q]) (rest := []) C (d_X5_isQuarter l D ty t0 (fx_w ad ty a g n) q) (va_cwS 1 C.2.2.2.2.1 gX5_line_X5_isQuarter rfl rfl rfl (by decide +kernel) ⟨Nat.le_of_ble_eq_true rfl, Nat.le_of_ble_eq_true rfl⟩)  rfl (Nat.le_of_ble_eq_true rfl) dX5_line_46 ⟨Nat.zero_le _, Nat.zero_le _⟩ (fun v9 w9 hp9 => ?_)
        obtain ⟨rfl, rfl⟩ := hp9
        refine fj_st (st' := .int (if (0 ≤ q ∧ q ≤ 63) then 1 else 0) :: []) rfl ?_
        refine fj_ifb_ne (tgt := 56) C dX5_line_49 (by decide) (fun h49 => ?_) (fun h49 => ?_)
        · refine fj_iload_n C 1 dX5_line_56 rfl rfl ?_
          refine fj_callSw (As := [.int x]) (rest := []) C (d_X5_isDay l D ty t0 (fx_w ad ty a g n) x) (va_cwS 1 C.2.2.2.2.1 gX5_line_X5_isDay rfl rfl rfl (by decide +kernel) ⟨Nat.le_of_ble_eq_true rfl, Nat.le_of_ble_eq_true rfl⟩)  rfl (Nat.le_of_ble_eq_true rfl) dX5_line_57 ⟨Nat.zero_le _, Nat.zero_le _⟩ (fun v9 w9 hp9 => ?_)
          obtain ⟨rfl, rfl⟩ := hp9
          refine fj_st (st' := .int (if (0 ≤ x ∧ x ≤ 20000) then 1 else 0) :: []) rfl ?_
          refine fj_ifb_eq (tgt := 72) C dX5_line_60 (by decide) (fun h60 => ?_) (fun h60 => ?_)
          · refine fj_sipush (v := (-1002)) C dX5_line_72 (by decide) ?_
            exact fj_iret C E9 dX5_line_75 ⟨by grind, fun h => absurd h (by grind), fun _ => rfl⟩
          · refine fj_iload_n C 2 dX5_line_63 rfl rfl ?_
            refine fj_iload C 5 dX5_line_64 rfl ?_
            refine fj_callSw (As := [.int z, .int u]) (rest := []) C (d_X5_fitsSort l D ty t0 (fx_w ad ty a g n) z u) (va_cwS 2 C.2.2.2.2.1 gX5_line_X5_fitsSort rfl rfl rfl (by decide +kernel) ⟨Nat.le_of_ble_eq_true rfl, Nat.le_of_ble_eq_true rfl⟩)  rfl (Nat.le_of_ble_eq_true rfl) dX5_line_66 ⟨Nat.zero_le _, Nat.zero_le _⟩ (fun v9 w9 hp9 => ?_)
            obtain ⟨rfl, rfl⟩ := hp9
            refine fj_st (st' := .int (if ((z = 1 → 1 ≤ u ∧ u ≤ 5000) ∧ (z = 2 → 1 ≤ u ∧ u ≤ 160)) then 1 else 0) :: []) rfl ?_
            refine fj_ifb_ne (tgt := 76) C dX5_line_69 (by decide) (fun h69 => ?_) (fun h69 => ?_)
            · refine fj_aload_n C 0 dX5_line_76 rfl rfl ?_
              refine fj_get (Cn := RX5) (T := TX5) (N := 5) (ci := 5) (v := .ref (ad 17)) C iX5 0 (fx_at0 _ _ _ _ _) rfl 2 (by decide) kX5_26 rfl dX5_line_77 ?_
              refine fj_getN (Cn := RX0) (T := TX0) (N := 8) (ci := 0) (v := .int (n 4)) C iX0 17 (fx_at17 _ _ _ _ _) rfl 7 (by decide) kX5_100 rfl dX5_line_80 ?_
              refine fj_at (y := nI B) hn4 ?_
              refine fj_bipush (v := 120) C dX5_line_83 (by decide) ?_
              refine fj_icmp_lt (tgt := 92) C dX5_line_85 (by decide) (fun h85 => ?_) (fun h85 => ?_)
              · have hB2 : B < 120 := (nI_ltI (b := 120) (by omega) (by decide)).mp h85
                refine fj_aload_n C 0 dX5_line_92 rfl rfl ?_
                refine fj_get (Cn := RX5) (T := TX5) (N := 5) (ci := 5) (v := .ref (ad 17)) C iX5 0 (fx_at0 _ _ _ _ _) rfl 2 (by decide) kX5_26 rfl dX5_line_93 ?_
                refine fj_iload_n C 1 dX5_line_96 rfl rfl ?_
                refine fj_iload_n C 2 dX5_line_97 rfl rfl ?_
                refine fj_callVNw (As := [.int x, .int z]) (rest := []) C (d_X0_add l D ty t0 ad a g n P S T B I x z hB2) ⟨va_cnB 2 C.2.2.2.2.1 gX5_line_X0_add_n101 rfl rfl rfl (nw_m C.2.2.2.2.2.2.2.1 kN101) (C.2.2.2.2.1 _ kIX0) (by decide +kernel) ⟨Nat.le_of_ble_eq_true rfl, Nat.le_of_ble_eq_true rfl⟩, C.2.2.2.2.1 _ kVX0_add, C.2.2.2.2.1 _ kSX0_add⟩ ⟨17, 0, _, _, fx_at17 _ _ _ _ _, rfl, rfl⟩ rfl (Nat.le_of_ble_eq_true rfl) dX5_line_98 ⟨Nat.zero_le _, Nat.zero_le _⟩ (fun v9 w9 hp9 => ?_)
                obtain ⟨rfl, k9, hk9, hd9, he9, rfl⟩ := hp9
                refine fj_st (st' := .int (nI B) :: []) rfl ?_
                refine fj_istore (lv' := [(6, .int (nI B)), (0, .ref (ad 0)), (1, .int x), (2, .int z), (3, .int p9), (4, .int q), (5, .int u)]) C dX5_line_101 (by decide) rfl ?_
                refine fj_aload_n C 1 dX5_line_103 rfl rfl ?_
                refine fj_get (Cn := RX5) (T := TX5) (N := 5) (ci := 5) (v := .ref (ad 17)) C iX5 0 (fx_at0 _ _ _ _ _) rfl 2 (by decide) kX5_26 rfl dX5_line_104 ?_
                refine fj_getN (Cn := RX0) (T := TX0) (N := 8) (ci := 0) (v := .ref (ad 20)) C iX0 17 (fx_at17 _ _ _ _ _) rfl 2 (by decide) kX5_102 rfl dX5_line_107 ?_
                refine fj_iload C 0 dX5_line_110 rfl ?_
                refine fj_iload_n C 4 dX5_line_112 rfl rfl ?_
                refine fj_iast (f := (a 20)) C 20 (fx_at20 _ _ _ _ _) (vp_in_nI hB2 (by decide)) dX5_line_113 (fx_st20 _ _ _ _ _ _) ?_
                refine fj_aload_n C 1 dX5_line_114 rfl rfl ?_
                refine fj_get (Cn := RX5) (T := TX5) (N := 5) (ci := 5) (v := .ref (ad 17)) C iX5 0 (fx_at0 _ _ _ _ _) rfl 2 (by decide) kX5_26 rfl dX5_line_115 ?_
                refine fj_getN (Cn := RX0) (T := TX0) (N := 8) (ci := 0) (v := .ref (ad 21)) C iX0 17 (fx_at17 _ _ _ _ _) rfl 3 (by decide) kX5_105 rfl dX5_line_118 ?_
                refine fj_iload C 0 dX5_line_121 rfl ?_
                refine fj_iload C 5 dX5_line_123 rfl ?_
                refine fj_iast (f := (a 21)) C 21 (fx_at21 _ _ _ _ _) (vp_in_nI hB2 (by decide)) dX5_line_125 (fx_st21 _ _ _ _ _ _) ?_
                refine fj_aload_n C 1 dX5_line_126 rfl rfl ?_
                refine fj_get (Cn := RX5) (T := TX5) (N := 5) (ci := 5) (v := .ref (ad 17)) C iX5 0 (fx_at0 _ _ _ _ _) rfl 2 (by decide) kX5_26 rfl dX5_line_127 ?_
                refine fj_getN (Cn := RX0) (T := TX0) (N := 8) (ci := 0) (v := .ref (ad 22)) C iX0 17 (fx_at17 _ _ _ _ _) rfl 4 (by decide) kX5_108 rfl dX5_line_130 ?_
                refine fj_iload C 0 dX5_line_133 rfl ?_
                refine fj_iload C 6 dX5_line_135 rfl ?_
                refine fj_iast (f := (a 22)) C 22 (fx_at22 _ _ _ _ _) (vp_in_nI hB2 (by decide)) dX5_line_137 (fx_st22 _ _ _ _ _ _) ?_
                refine fj_iload C 0 dX5_line_138 rfl ?_
                exact fj_iret C E9 dX5_line_140 ⟨by grind, fun _ => ⟨k9, hk9, hd9, he9, rfl⟩, fun h => absurd (by grind) h⟩
              · have hB2 : ¬ B < 120 := fun q => h85 ((nI_ltI (b := 120) (by omega) (by decide)).mpr q)
                refine fj_sipush (v := (-1004)) C dX5_line_88 (by decide) ?_
                exact fj_iret C E9 dX5_line_91 ⟨by grind, fun h => absurd h (by grind), fun _ => rfl⟩
            · refine fj_sipush (v := (-1002)) C dX5_line_72 (by decide) ?_
              exact fj_iret C E9 dX5_line_75 ⟨by grind, fun h => absurd h (by grind), fun _ => rfl⟩
        · refine fj_sipush (v := (-1001)) C dX5_line_52 (by decide) ?_
          exact fj_iret C E9 dX5_line_55 ⟨by grind, fun h => absurd h (by grind), fun _ => rfl⟩
      · refine fj_aload_n C 0 dX5_line_32 rfl rfl ?_
        refine fj_iload C 5 dX5_line_33 rfl ?_
        refine fj_callVw (As := [.int u]) (rest := []) C (d_X5_isPerson l D ty t0 ad a g n P S T B I u) (cwV 1 C.2.2.2.2.1 gX5_line_X5_isPerson rfl rfl rfl (by decide +kernel) ⟨Nat.le_of_ble_eq_true rfl, Nat.le_of_ble_eq_true rfl⟩) ⟨0, 5, _, _, fx_at0 _ _ _ _ _, rfl, rfl⟩ rfl (Nat.le_of_ble_eq_true rfl) dX5_line_35 ⟨Nat.zero_le _, Nat.zero_le _⟩ (fun v9 w9 hp9 => ?_)
        obtain ⟨rfl, rfl⟩ := hp9
        refine fj_st (st' := .int (if ib u P then 1 else 0) :: []) rfl ?_
        refine fj_ifb_ne (tgt := 56) C dX5_line_38 (by decide) (fun h38 => ?_) (fun h38 => ?_)
        · refine fj_iload_n C 1 dX5_line_56 rfl rfl ?_
          refine fj_callSw (As := [.int x]) (rest := []) C (d_X5_isDay l D ty t0 (fx_w ad ty a g n) x) (va_cwS 1 C.2.2.2.2.1 gX5_line_X5_isDay rfl rfl rfl (by decide +kernel) ⟨Nat.le_of_ble_eq_true rfl, Nat.le_of_ble_eq_true rfl⟩)  rfl (Nat.le_of_ble_eq_true rfl) dX5_line_57 ⟨Nat.zero_le _, Nat.zero_le _⟩ (fun v9 w9 hp9 => ?_)
          obtain ⟨rfl, rfl⟩ := hp9
          refine fj_st (st' := .int (if (0 ≤ x ∧ x ≤ 20000) then 1 else 0) :: []) rfl ?_
          refine fj_ifb_eq (tgt := 72) C dX5_line_60 (by decide) (fun h60 => ?_) (fun h60 => ?_)
          · refine fj_sipush (v := (-1002)) C dX5_line_72 (by decide) ?_
            exact fj_iret C E9 dX5_line_75 ⟨by grind, fun h => absurd h (by grind), fun _ => rfl⟩
          · refine fj_iload_n C 2 dX5_line_63 rfl rfl ?_
            refine fj_iload C 5 dX5_line_64 rfl ?_
            refine fj_callSw (As := [.int z, .int u]) (rest := []) C (d_X5_fitsSort l D ty t0 (fx_w ad ty a g n) z u) (va_cwS 2 C.2.2.2.2.1 gX5_line_X5_fitsSort rfl rfl rfl (by decide +kernel) ⟨Nat.le_of_ble_eq_true rfl, Nat.le_of_ble_eq_true rfl⟩)  rfl (Nat.le_of_ble_eq_true rfl) dX5_line_66 ⟨Nat.zero_le _, Nat.zero_le _⟩ (fun v9 w9 hp9 => ?_)
            obtain ⟨rfl, rfl⟩ := hp9
            refine fj_st (st' := .int (if ((z = 1 → 1 ≤ u ∧ u ≤ 5000) ∧ (z = 2 → 1 ≤ u ∧ u ≤ 160)) then 1 else 0) :: []) rfl ?_
            refine fj_ifb_ne (tgt := 76) C dX5_line_69 (by decide) (fun h69 => ?_) (fun h69 => ?_)
            · refine fj_aload_n C 0 dX5_line_76 rfl rfl ?_
              refine fj_get (Cn := RX5) (T := TX5) (N := 5) (ci := 5) (v := .ref (ad 17)) C iX5 0 (fx_at0 _ _ _ _ _) rfl 2 (by decide) kX5_26 rfl dX5_line_77 ?_
              refine fj_getN (Cn := RX0) (T := TX0) (N := 8) (ci := 0) (v := .int (n 4)) C iX0 17 (fx_at17 _ _ _ _ _) rfl 7 (by decide) kX5_100 rfl dX5_line_80 ?_
              refine fj_at (y := nI B) hn4 ?_
              refine fj_bipush (v := 120) C dX5_line_83 (by decide) ?_
              refine fj_icmp_lt (tgt := 92) C dX5_line_85 (by decide) (fun h85 => ?_) (fun h85 => ?_)
              · have hB2 : B < 120 := (nI_ltI (b := 120) (by omega) (by decide)).mp h85
                refine fj_aload_n C 0 dX5_line_92 rfl rfl ?_
                refine fj_get (Cn := RX5) (T := TX5) (N := 5) (ci := 5) (v := .ref (ad 17)) C iX5 0 (fx_at0 _ _ _ _ _) rfl 2 (by decide) kX5_26 rfl dX5_line_93 ?_
                refine fj_iload_n C 1 dX5_line_96 rfl rfl ?_
                refine fj_iload_n C 2 dX5_line_97 rfl rfl ?_
                refine fj_callVNw (As := [.int x, .int z]) (rest := []) C (d_X0_add l D ty t0 ad a g n P S T B I x z hB2) ⟨va_cnB 2 C.2.2.2.2.1 gX5_line_X0_add_n101 rfl rfl rfl (nw_m C.2.2.2.2.2.2.2.1 kN101) (C.2.2.2.2.1 _ kIX0) (by decide +kernel) ⟨Nat.le_of_ble_eq_true rfl, Nat.le_of_ble_eq_true rfl⟩, C.2.2.2.2.1 _ kVX0_add, C.2.2.2.2.1 _ kSX0_add⟩ ⟨17, 0, _, _, fx_at17 _ _ _ _ _, rfl, rfl⟩ rfl (Nat.le_of_ble_eq_true rfl) dX5_line_98 ⟨Nat.zero_le _, Nat.zero_le _⟩ (fun v9 w9 hp9 => ?_)
                obtain ⟨rfl, k9, hk9, hd9, he9, rfl⟩ := hp9
                refine fj_st (st' := .int (nI B) :: []) rfl ?_
                refine fj_istore (lv' := [(6, .int (nI B)), (0, .ref (ad 0)), (1, .int x), (2, .int z), (3, .int p9), (4, .int q), (5, .int u)]) C dX5_line_101 (by decide) rfl ?_
                refine fj_aload_n C 1 dX5_line_103 rfl rfl ?_
                refine fj_get (Cn := RX5) (T := TX5) (N := 5) (ci := 5) (v := .ref (ad 17)) C iX5 0 (fx_at0 _ _ _ _ _) rfl 2 (by decide) kX5_26 rfl dX5_line_104 ?_
                refine fj_getN (Cn := RX0) (T := TX0) (N := 8) (ci := 0) (v := .ref (ad 20)) C iX0 17 (fx_at17 _ _ _ _ _) rfl 2 (by decide) kX5_102 rfl dX5_line_107 ?_
                refine fj_iload C 0 dX5_line_110 rfl ?_
                refine fj_iload_n C 4 dX5_line_112 rfl rfl ?_
                refine fj_iast (f := (a 20)) C 20 (fx_at20 _ _ _ _ _) (vp_in_nI hB2 (by decide)) dX5_line_113 (fx_st20 _ _ _ _ _ _) ?_
                refine fj_aload_n C 1 dX5_line_114 rfl rfl ?_
                refine fj_get (Cn := RX5) (T := TX5) (N := 5) (ci := 5) (v := .ref (ad 17)) C iX5 0 (fx_at0 _ _ _ _ _) rfl 2 (by decide) kX5_26 rfl dX5_line_115 ?_
                refine fj_getN (Cn := RX0) (T := TX0) (N := 8) (ci := 0) (v := .ref (ad 21)) C iX0 17 (fx_at17 _ _ _ _ _) rfl 3 (by decide) kX5_105 rfl dX5_line_118 ?_
                refine fj_iload C 0 dX5_line_121 rfl ?_
                refine fj_iload C 5 dX5_line_123 rfl ?_
                refine fj_iast (f := (a 21)) C 21 (fx_at21 _ _ _ _ _) (vp_in_nI hB2 (by decide)) dX5_line_125 (fx_st21 _ _ _ _ _ _) ?_
                refine fj_aload_n C 1 dX5_line_126 rfl rfl ?_
                refine fj_get (Cn := RX5) (T := TX5) (N := 5) (ci := 5) (v := .ref (ad 17)) C iX5 0 (fx_at0 _ _ _ _ _) rfl 2 (by decide) kX5_26 rfl dX5_line_127 ?_
                refine fj_getN (Cn := RX0) (T := TX0) (N := 8) (ci := 0) (v := .ref (ad 22)) C iX0 17 (fx_at17 _ _ _ _ _) rfl 4 (by decide) kX5_108 rfl dX5_line_130 ?_
                refine fj_iload C 0 dX5_line_133 rfl ?_
                refine fj_iload C 6 dX5_line_135 rfl ?_
                refine fj_iast (f := (a 22)) C 22 (fx_at22 _ _ _ _ _) (vp_in_nI hB2 (by decide)) dX5_line_137 (fx_st22 _ _ _ _ _ _) ?_
                refine fj_iload C 0 dX5_line_138 rfl ?_
                exact fj_iret C E9 dX5_line_140 ⟨by grind, fun _ => ⟨k9, hk9, hd9, he9, rfl⟩, fun h => absurd (by grind) h⟩
              · have hB2 : ¬ B < 120 := fun q => h85 ((nI_ltI (b := 120) (by omega) (by decide)).mpr q)
                refine fj_sipush (v := (-1004)) C dX5_line_88 (by decide) ?_
                exact fj_iret C E9 dX5_line_91 ⟨by grind, fun h => absurd h (by grind), fun _ => rfl⟩
            · refine fj_sipush (v := (-1002)) C dX5_line_72 (by decide) ?_
              exact fj_iret C E9 dX5_line_75 ⟨by grind, fun h => absurd h (by grind), fun _ => rfl⟩
        · refine fj_goto (tgt := 52) C dX5_line_41 (by decide) ?_
          refine fj_sipush (v := (-1001)) C dX5_line_52 (by decide) ?_
          exact fj_iret C E9 dX5_line_55 ⟨by grind, fun h => absurd h (by grind), fun _ => rfl⟩
    · refine fj_sipush (v := (-1001)) C dX5_line_22 (by decide) ?_
      exact fj_iret C E9 dX5_line_25 ⟨by grind, fun h => absurd h (by grind), fun _ => rfl⟩
  · refine fj_sipush (v := (-1002)) C dX5_line_10 (by decide) ?_
    exact fj_iret C E9 dX5_line_13 ⟨by grind, fun h => absurd h (by grind), fun _ => rfl⟩
