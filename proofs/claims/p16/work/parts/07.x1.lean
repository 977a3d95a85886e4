theorem ib_YL {S : Nat} {x : Int32} (h : x = -1 ∨ ib x S) (hS : S < 2 ^ 31) : YL S x := h.imp id (fun z => ib_nI z hS)
def wdw (f : Nat → Int32) (k : Nat) : Nat → Int64
  | 0 => 0
  | d + 1 => wdw f k d <<< ((8 : Int32).toInt64 &&& 63) ||| (f (k + d)).toInt64
def LTR (f : Nat → Int32) (k z : Nat) : Prop := z - k < 7 ∧ ∀ j, j < z - k → 97 ≤ f (k + j) ∧ f (k + j) ≤ 122
def fo (h : Nat → Int64) (u : Int64) : Nat → Int32
  | 0 => -1
  | i + 1 => if h i = u then nI i else fo h u i
theorem fo_in (h : Nat → Int64) (u : Int64) : ∀ i, fo h u i = -1 ∨ ∃ j, j < i ∧ fo h u i = nI j := by
  intro i
  induction i with
  | zero => exact Or.inl rfl
  | succ i ih =>
    rw [fo]
    by_cases q : h i = u
    · rw [if_pos q]; exact Or.inr ⟨i, by omega, rfl⟩
    · rw [if_neg q]; exact ih.imp id (fun ⟨j, h1, h2⟩ => ⟨j, by omega, h2⟩)
/-- which word the reference finds -/
def MDR (f : Nat → Int32) (h : Nat → Int64) (k z : Nat) (r : Int32) : Prop := (LTR f k z ∧ r = fo h (wdw f k (z - k)) 9) ∨ (¬ LTR f k z ∧ r = -1)
theorem MDR_in {f : Nat → Int32} {h : Nat → Int64} {k z : Nat} {r : Int32} (q : MDR f h k z r) (h0 : 0 ≤ r) : ∃ i, i < 9 ∧ r = nI i := by
  rcases q with ⟨_, e⟩ | ⟨_, e⟩
  · rcases fo_in h (wdw f k (z - k)) 9 with e2 | e2
    · rw [e, e2] at h0; exact absurd h0 (by decide)
    · rw [e]; exact e2
  · rw [e] at h0; exact absurd h0 (by decide)
theorem ltr_s {f : Nat → Int32} {k z d : Nat} {ltr : Int32} (hl : (ltr = 1 ∧ z - k < 7 ∧ ∀ j, j < d → 97 ≤ f (k + j) ∧ f (k + j) ≤ 122) ∨ (ltr = 0 ∧ ¬ LTR f k z)) (h : ¬ ltr = 0) (hd : k + d < z) : ((if 97 ≤ f (k + d) ∧ f (k + d) ≤ 122 then (1 : Int32) else 0) = 1 ∧ z - k < 7 ∧ ∀ j, j < d + 1 → 97 ≤ f (k + j) ∧ f (k + j) ≤ 122) ∨ ((if 97 ≤ f (k + d) ∧ f (k + d) ≤ 122 then (1 : Int32) else 0) = 0 ∧ ¬ LTR f k z) := by
  by_cases q9 : 97 ≤ f (k + d) ∧ f (k + d) ≤ 122
  · rw [if_pos q9]
    refine hl.elim (fun q => Or.inl ⟨rfl, q.2.1, fun j h9 => ?_⟩) (fun q => absurd q.1 h)
    rcases Nat.eq_or_lt_of_le (Nat.le_of_lt_succ h9) with e9 | y9
    · rw [e9]; exact q9
    · exact q.2.2 j y9
  · rw [if_neg q9]
    exact Or.inr ⟨rfl, fun y9 => q9 (y9.2 d (by omega))⟩
theorem lfo_n {a : Nat → Nat → Int32} {x b : Int32} {k : Nat} (hb : lfo a x k = b) (h : x < a 4 k) : lfo a x (k + 1) = b := by
  rw [lfo, hb]; exact if_neg (fun z => absurd z.1 (Int32.not_le.mpr h))
theorem lfo_0 {a : Nat → Nat → Int32} {x b : Int32} {k : Nat} (hb : lfo a x k = b) (h : ¬ x < a 4 k) (h0 : b < 0) : lfo a x (k + 1) = nI k := by
  rw [lfo, hb]; exact if_pos ⟨Int32.not_lt.mp h, Or.inl h0⟩
theorem lfo_1 {a : Nat → Nat → Int32} {x : Int32} {k j : Nat} (hb : lfo a x k = nI j) (hj : j < 2 ^ 31) (h : ¬ x < a 4 k) (h0 : IBF a j k) : lfo a x (k + 1) = nI k := by
  rw [lfo, hb, nI_clamp hj]; exact if_pos ⟨Int32.not_lt.mp h, Or.inr h0⟩
theorem lfo_2 {a : Nat → Nat → Int32} {x : Int32} {k j : Nat} (hb : lfo a x k = nI j) (hj : j < 2 ^ 31) (h0 : ¬ IBF a j k) : lfo a x (k + 1) = nI j := by
  rw [lfo, hb, nI_clamp hj]; exact if_neg (fun z => z.2.elim (nI_nneg hj) h0)
theorem sbo_a {a : Nat → Nat → Int32} {b : Int32} {k j q : Nat} (hb : (if 0 ≤ a 5 (9 * j + q) then nI j else sbo a j q k) = b) (h5 : ¬ 0 ≤ a 5 (9 * j + q)) (h : ¬ IBF a k j) : (if 0 ≤ a 5 (9 * j + q) then nI j else sbo a j q (k + 1)) = b := by
  rw [if_neg h5] at hb ⊢
  rw [sbo, hb]; exact if_neg (fun z => h z.1)
theorem sbo_b {a : Nat → Nat → Int32} {b : Int32} {k j q : Nat} (hb : (if 0 ≤ a 5 (9 * j + q) then nI j else sbo a j q k) = b) (h5 : ¬ 0 ≤ a 5 (9 * j + q)) (h : a 5 (9 * k + q) < 0) : (if 0 ≤ a 5 (9 * j + q) then nI j else sbo a j q (k + 1)) = b := by
  rw [if_neg h5] at hb ⊢
  rw [sbo, hb]; exact if_neg (fun z => absurd h (Int32.not_lt.mpr z.2.1))
theorem sbo_c {a : Nat → Nat → Int32} {b : Int32} {k j q : Nat} (hb : (if 0 ≤ a 5 (9 * j + q) then nI j else sbo a j q k) = b) (h5 : ¬ 0 ≤ a 5 (9 * j + q)) (h1 : IBF a k j) (h2 : ¬ a 5 (9 * k + q) < 0) (h3 : b < 0) : (if 0 ≤ a 5 (9 * j + q) then nI j else sbo a j q (k + 1)) = nI k := by
  rw [if_neg h5] at hb ⊢
  rw [sbo, hb]; exact if_pos ⟨h1, Int32.not_lt.mp h2, Or.inl h3⟩
theorem sbo_d {a : Nat → Nat → Int32} {k j j2 q : Nat} (hb : (if 0 ≤ a 5 (9 * j + q) then nI j else sbo a j q k) = nI j2) (hj : j2 < 2 ^ 31) (h5 : ¬ 0 ≤ a 5 (9 * j + q)) (h1 : IBF a k j) (h2 : ¬ a 5 (9 * k + q) < 0) (h3 : IBF a j2 k) : (if 0 ≤ a 5 (9 * j + q) then nI j else sbo a j q (k + 1)) = nI k := by
  rw [if_neg h5] at hb ⊢
  rw [sbo, hb, nI_clamp hj]; exact if_pos ⟨h1, Int32.not_lt.mp h2, Or.inr h3⟩
theorem sbo_e {a : Nat → Nat → Int32} {k j j2 q : Nat} (hb : (if 0 ≤ a 5 (9 * j + q) then nI j else sbo a j q k) = nI j2) (hj : j2 < 2 ^ 31) (h5 : ¬ 0 ≤ a 5 (9 * j + q)) (h3 : ¬ IBF a j2 k) : (if 0 ≤ a 5 (9 * j + q) then nI j else sbo a j q (k + 1)) = nI j2 := by
  rw [if_neg h5] at hb ⊢
  rw [sbo, hb, nI_clamp hj]; exact if_neg (fun z => z.2.2.elim (nI_nneg hj) h3)
theorem MDR_neg {f : Nat → Int32} {h : Nat → Int64} {k z : Nat} {r : Int32} (q : MDR f h k z r) (h0 : ¬ 0 ≤ r) : r = -1 := by
  rcases q with ⟨_, e⟩ | ⟨_, e⟩
  · rcases fo_in h (wdw f k (z - k)) 9 with e2 | ⟨j, hj, e2⟩
    · rw [e, e2]
    · rw [e, e2] at h0; exact absurd (Int32.not_lt.mp (nI_nneg (by omega))) h0
  · exact e
set_option maxHeartbeats 4000000 in
set_option maxRecDepth 100000 in
theorem d_X6_feed (l : Launch) (D : va_G) (ty : Nat → ClassId) (t0 : Nat → Nat) (bd : Nat → Nat) (a : Nat → Nat → Int32) (g : Nat → Nat → Int64) (n : Nat → Int32) (P : Nat) (S : Nat) (T : Nat) (B : Nat) (I : YI P S T B a n) (x : Int32) (u : Int64)  : fc l yX6_feed wsX6_feed (fj_rm 1 25 0 0) D ty t0 [.ref (bd 0), .int x, .long u] (fm_w bd ty a g n) 0 0 (fun v w => (¬ (1 ≤ x ∧ x ≤ 8) ∧ v = some (.int (-1002)) ∧ w = fm_w bd ty a g n) ∨ (∃ k, k ≤ 8 ∧ x = nI k ∧ 1 ≤ x ∧ ((¬ T + k ≤ 120 ∧ v = some (.int (-1004)) ∧ w = fm_w bd ty a g n) ∨ (T + k ≤ 120 ∧ v = some (.int (nI (T + k))) ∧ w = fm_w bd ty (va_up a 3 (apM (a 3) T u k k)) g (va_up n 2 (nI (T + k))))))) := by
  refine fc_start (own := RX6) (cc := cX6_feed) (maxL := 5) (ret := (some .int)) (by decide) rfl (Nat.le_of_ble_eq_true rfl) rfl ?_
  intro p e s m args below meth c Q A C hmn E9
  obtain ⟨hn0, hP, hn2, hT, hn4, hS, hn5, hB, yWho, ySort, yQ, yN, yD, yL⟩ := id I
  have kL143 : Cond.constantLong RX6 143 (8) ∈ wsX6_feed := ptX6_feed_woX6_feed _ (by decide +kernel)
  have iX6 : ∀ w ∈ u_ws RX6 TX6 44, w ∈ wsX6_feed := ptX6_feed_wsX60
  have kX6_145 : Cond.fieldLink RX6 145 "FreeLandModel" "texted" "I" ∈ wsX6_feed := ptX6_feed_woX6_feed _ (by decide +kernel)
  have kX6_20 : Cond.fieldLink RX6 20 "FreeLandModel" "text" "[I" ∈ wsX6_feed := ptX6_feed_woX6_feed _ (by decide +kernel)
  have kL148 : Cond.constantLong RX6 148 (255) ∈ wsX6_feed := ptX6_feed_woX6_feed _ (by decide +kernel)
  refine fj_lv (lv' := [(0, .ref (bd 0)), (1, .int x), (2, .long u)]) [0, 1, 2] rfl ?_
  refine fj_iload_n C 1 dX6_feed_0 rfl rfl ?_
  refine fj_i2l C dX6_feed_1 ?_
  refine fj_lconst (v := 1) C dX6_feed_2 (by decide) ?_
  refine fj_ldc2 (v := 8) C dX6_feed_3 kL143 ?_
  refine fj_callSw (As := [.long x.toInt64, .long 1, .long 8]) (rest := []) C (d_X6_inI l D ty t0 (fm_w bd ty a g n) x 1 8 1 8 (by decide) (by decide)) (va_cwS 3 C.2.2.2.2.1 gX6_feed_X6_in rfl rfl rfl (by decide +kernel) ⟨Nat.le_of_ble_eq_true rfl, Nat.le_of_ble_eq_true rfl⟩)  rfl (Nat.le_of_ble_eq_true rfl) dX6_feed_6 ⟨Nat.zero_le _, Nat.zero_le _⟩ (fun v9 w9 hp9 => ?_)
  obtain ⟨rfl, rfl⟩ := hp9
  refine fj_st (st' := .int (if (1 ≤ x ∧ x ≤ 8) then 1 else 0) :: []) rfl ?_
  refine fj_ifb_ne (tgt := 16) C dX6_feed_9 (by decide) (fun h9 => ?_) (fun h9 => ?_)
  · obtain ⟨k, hk8, rfl⟩ := fx_le8 ⟨Int32.le_trans (by decide : (0 : Int32) ≤ 1) h9.1, h9.2⟩ (N := 8) rfl (by decide)
    refine fj_aload_n C 0 dX6_feed_16 rfl rfl ?_
    refine fj_get (Cn := RX6) (T := TX6) (N := 44) (ci := 6) (v := .int (n 2)) C iX6 0 (fm_at0 _ _ _ _ _) rfl 5 (by decide) kX6_145 rfl dX6_feed_17 ?_
    refine fj_at (y := nI T) hn2 ?_
    refine fj_iload_n C 1 dX6_feed_20 rfl rfl ?_
    refine fj_iadd C dX6_feed_21 ?_
    refine fj_at (y := nI (T + k)) (nI_add T k) ?_
    refine fj_bipush (v := 120) C dX6_feed_22 (by decide) ?_
    refine fj_icmp_le (tgt := 31) C dX6_feed_24 (by decide) (fun h24 => ?_) (fun h24 => ?_)
    · have hTk : T + k ≤ 120 := (nI_leI (b := 120) (by omega) (by decide)).mp h24
      refine fj_iload_n C 1 dX6_feed_31 rfl rfl ?_
      refine fj_iconst (v := 1) C dX6_feed_32 (by decide) ?_
      refine fj_isub C dX6_feed_33 ?_
      refine fj_istore (lv' := [(4, .int ((nI k) - 1)), (0, .ref (bd 0)), (1, .int (nI k)), (2, .long u)]) C dX6_feed_34 (by decide) rfl ?_
      refine fj_lv (lv' := [(0, .ref (bd 0)), (1, .int (nI k)), (2, .long u), (4, .int ((nI k) - 1))]) [1, 2, 3, 0] rfl ?_
      have lp36 : ∀ (d : Nat) (r : Nat), (d + r = k) → fj p l e (fj_rm 1 25 0 0) s m args below meth c Q A D 5 0 0 (fm_w bd ty (va_up a 3 (apM (a 3) T u k d)) g (va_up n 2 (nI (T + d)))) [(0, .ref (bd 0)), (1, .int (nI k)), (2, .long u), (4, .int (nI r - 1))] 36 [] := by
        have key : ∀ zz : Nat × Nat, (fun (zz : Nat × Nat) => match zz with | (d, r) => (d + r = k) → fj p l e (fj_rm 1 25 0 0) s m args below meth c Q A D 5 0 0 (fm_w bd ty (va_up a 3 (apM (a 3) T u k d)) g (va_up n 2 (nI (T + d)))) [(0, .ref (bd 0)), (1, .int (nI k)), (2, .long u), (4, .int (nI r - 1))] 36 []) zz := by
          refine fx_ind (fun (zz : Nat × Nat) => match zz with | (d, r) => r) _ ?_
          rintro ⟨d, r⟩ ih hd
          refine fj_iload C 3 dX6_feed_36 rfl ?_
          refine fj_if_lt (tgt := 78) C dX6_feed_38 (by decide) (fun h38 => ?_) (fun h38 => ?_)
          · have e0 : r = 0 := fx_r0 h38 (by omega)
            refine fj_aload_n C 0 dX6_feed_78 rfl rfl ?_
            refine fj_get (Cn := RX6) (T := TX6) (N := 44) (ci := 6) (v := .int (nI (T + d))) C iX6 0 (fm_at0 _ _ _ _ _) rfl 5 (by decide) kX6_145 rfl dX6_feed_79 ?_
            exact fj_iret C E9 dX6_feed_82 (Or.inr ⟨k, hk8, rfl, h9.1, Or.inr ⟨hTk, by rw [show d = k by omega], by rw [show d = k by omega]⟩⟩)
          · obtain ⟨r, rfl⟩ : ∃ z, r = z + 1 := ⟨r - 1, by have : r ≠ 0 := fun e => h38 (by rw [e]; decide); omega⟩
            refine fj_aload_n C 0 dX6_feed_41 rfl rfl ?_
            refine fj_get (Cn := RX6) (T := TX6) (N := 44) (ci := 6) (v := .ref (bd 3)) C iX6 0 (fm_at0 _ _ _ _ _) rfl 4 (by decide) kX6_20 rfl dX6_feed_42 ?_
            refine fj_aload_n C 0 dX6_feed_45 rfl rfl ?_
            refine fj_get (Cn := RX6) (T := TX6) (N := 44) (ci := 6) (v := .int (nI (T + d))) C iX6 0 (fm_at0 _ _ _ _ _) rfl 5 (by decide) kX6_145 rfl dX6_feed_46 ?_
            refine fj_lload_n C 2 dX6_feed_49 rfl rfl ?_
            refine fj_bipush (v := 8) C dX6_feed_50 (by decide) ?_
            refine fj_iload C 3 dX6_feed_52 rfl ?_
            refine fj_at (y := nI r) (nI_pred r) ?_
            refine fj_imul C dX6_feed_54 ?_
            refine fj_at (y := nI (8 * r)) (pk_mul 8 r) ?_
            refine fj_lshr C dX6_feed_55 ?_
            refine fj_ldc2 (v := 255) C dX6_feed_56 kL148 ?_
            refine fj_land C dX6_feed_59 ?_
            refine fj_l2i C dX6_feed_60 ?_
            refine fj_iast (f := (apM (a 3) T u k d)) C 3 (fm_at3 _ _ _ _ _) (vp_in_nI (by omega) (by decide)) dX6_feed_61 (fm_st3 _ _ _ _ _ _) ?_
            refine fj_ws (ws' := (fm_w bd ty (va_up a 3 (upd (apM (a 3) T u k d) (nI (T + d)).toNatClampNeg (((u >>> ((nI (8 * r)).toInt64 &&& 63)) &&& 255).toInt32))) g (va_up n 2 (nI (T + d))))) rfl ?_
            refine fj_ws (ws' := (fm_w bd ty (va_up a 3 (apM (a 3) T u k (d + 1))) g (va_up n 2 (nI (T + d))))) (by rw [apM_s (show k - (d + 1) = r by omega), nI_clamp (by omega)]; rfl) ?_
            refine fj_aload_n C 0 dX6_feed_62 rfl rfl ?_
            refine fj_dup C dX6_feed_63 rfl ?_
            refine fj_get (Cn := RX6) (T := TX6) (N := 44) (ci := 6) (v := .int (nI (T + d))) C iX6 0 (fm_at0 _ _ _ _ _) rfl 5 (by decide) kX6_145 rfl dX6_feed_64 ?_
            refine fj_iconst (v := 1) C dX6_feed_67 (by decide) ?_
            refine fj_iadd C dX6_feed_68 ?_
            refine fj_at (y := nI (T + (d + 1))) (nI_1 (T + d)) ?_
            refine fj_put (Cn := RX6) (T := TX6) (N := 44) (ci := 6) C iX6 tyX6 tyX6_ok nmX6 0 (fm_at0 _ _ _ _ _) rfl 5 (by decide) kX6_145 rfl rfl rfl (Nat.le_of_ble_eq_true rfl) dX6_feed_69 (fm_si0_5 _ _ _ _ _ _) ?_
            refine fj_ws (ws' := (fm_w bd ty (va_up a 3 (apM (a 3) T u k (d + 1))) g (va_up n 2 (nI (T + (d + 1)))))) rfl ?_
            refine fj_iinc (v := nI r - 1) (lv' := [(4, .int (nI r - 1)), (0, .ref (bd 0)), (1, .int (nI k)), (2, .long u)]) C 3 dX6_feed_72 rfl (fx_im r) (by decide) rfl ?_
            refine fj_goto (tgt := 36) C dX6_feed_75 (by decide) ?_
            refine fj_lv (lv' := [(0, .ref (bd 0)), (1, .int (nI k)), (2, .long u), (4, .int (nI r - 1))]) [1, 2, 3, 0] rfl ?_
            exact ih ⟨d + 1, r⟩ (by show r < r + 1; omega) (by omega)
        intro d r
        exact key ⟨d, r⟩
      refine fj_ws (ws' := (fm_w bd ty (va_up a 3 (apM (a 3) T u k 0)) g (va_up n 2 (nI (T + 0))))) (by rw [Nat.add_zero, ← hn2]; rfl) ?_
      exact lp36 0 k (Nat.zero_add k)
    · have hTk : ¬ T + k ≤ 120 := fun q => h24 ((nI_leI (b := 120) (by omega) (by decide)).mpr q)
      refine fj_sipush (v := (-1004)) C dX6_feed_27 (by decide) ?_
      exact fj_iret C E9 dX6_feed_30 (Or.inr ⟨k, hk8, rfl, h9.1, Or.inl ⟨hTk, rfl, rfl⟩⟩)
  · refine fj_sipush (v := (-1002)) C dX6_feed_12 (by decide) ?_
    exact fj_iret C E9 dX6_feed_15 (Or.inl ⟨by assumption, rfl, rfl⟩)

set_option maxHeartbeats 4000000 in
set_option maxRecDepth 100000 in
theorem d_X6_fails (l : Launch) (D : va_G) (ty : Nat → ClassId) (t0 : Nat → Nat) (bd : Nat → Nat) (a : Nat → Nat → Int32) (g : Nat → Nat → Int64) (n : Nat → Int32)  (x : Int32) (y : Int32)  : fc l yX6_fails wsX6_fails (fj_rm 0 0 0 0) D ty t0 [.ref (bd 0), .int x, .int y] (fm_w bd ty a g n) 0 0 (fun v w => v = some (.int (-10 - x)) ∧ w = fm_w bd ty a g (va_up n 3 y)) := by
  refine fc_start (own := RX6) (cc := cX6_fails) (maxL := 3) (ret := (some .int)) (by decide) rfl (Nat.le_of_ble_eq_true rfl) rfl ?_
  intro p e s m args below meth c Q A C hmn E9
  have iX6 : ∀ w ∈ u_ws RX6 TX6 44, w ∈ wsX6_fails := ptX6_fails_wsX60
  have kX6_23 : Cond.fieldLink RX6 23 "FreeLandModel" "faultPlace" "I" ∈ wsX6_fails := ptX6_fails_woX6_fails _ (by decide +kernel)
  refine fj_lv (lv' := [(0, .ref (bd 0)), (1, .int x), (2, .int y)]) [0, 1, 2] rfl ?_
  refine fj_aload_n C 0 dX6_fails_0 rfl rfl ?_
  refine fj_iload_n C 2 dX6_fails_1 rfl rfl ?_
  refine fj_put (Cn := RX6) (T := TX6) (N := 44) (ci := 6) C iX6 tyX6 tyX6_ok nmX6 0 (fm_at0 _ _ _ _ _) rfl 6 (by decide) kX6_23 rfl rfl rfl (Nat.le_of_ble_eq_true rfl) dX6_fails_2 (fm_si0_6 _ _ _ _ _ _) ?_
  refine fj_bipush (v := (-10)) C dX6_fails_5 (by decide) ?_
  refine fj_iload_n C 1 dX6_fails_7 rfl rfl ?_
  refine fj_isub C dX6_fails_8 ?_
  exact fj_iret C E9 dX6_fails_9 ⟨rfl, rfl⟩

set_option maxHeartbeats 4000000 in
set_option maxRecDepth 100000 in
theorem d_X6_isBefore (l : Launch) (D : va_G) (ty : Nat → ClassId) (t0 : Nat → Nat) (bd : Nat → Nat) (a : Nat → Nat → Int32) (g : Nat → Nat → Int64) (n : Nat → Int32)  (x : Int32) (y : Int32) (i : Nat) (j : Nat) (ei : x = nI i) (ej : y = nI j) (hi : i < 8) (hj : j < 8) : fc l yX6_isBefore wsX6_isBefore (fj_rm 0 0 0 0) D ty t0 [.ref (bd 0), .int x, .int y] (fm_w bd ty a g n) 0 0 (fun v w => v = some (.int (if IBF a i j then 1 else 0)) ∧ w = fm_w bd ty a g n) := by
  subst ei ej
  refine fc_start (own := RX6) (cc := cX6_isBefore) (maxL := 3) (ret := (some .boolean)) (by decide) rfl (Nat.le_of_ble_eq_true rfl) rfl ?_
  intro p e s m args below meth c Q A C hmn E9
  have iX6 : ∀ w ∈ u_ws RX6 TX6 44, w ∈ wsX6_isBefore := ptX6_isBefore_wsX60
  have kX6_26 : Cond.fieldLink RX6 26 "FreeLandModel" "lawDays" "[I" ∈ wsX6_isBefore := ptX6_isBefore_woX6_isBefore _ (by decide +kernel)
  refine fj_lv (lv' := [(0, .ref (bd 0)), (1, .int (nI i)), (2, .int (nI j))]) [0, 1, 2] rfl ?_
  refine fj_aload_n C 0 dX6_isBefore_0 rfl rfl ?_
  refine fj_get (Cn := RX6) (T := TX6) (N := 44) (ci := 6) (v := .ref (bd 4)) C iX6 0 (fm_at0 _ _ _ _ _) rfl 8 (by decide) kX6_26 rfl dX6_isBefore_1 ?_
  refine fj_iload_n C 1 dX6_isBefore_4 rfl rfl ?_
  refine fj_iald (f := (a 4)) C 4 (fm_at4 _ _ _ _ _) (vp_in_nI (by omega) (by decide)) dX6_isBefore_5 ?_
  refine fj_at (y := a 4 i) (by rw [nI_clamp (by omega)]) ?_
  refine fj_aload_n C 0 dX6_isBefore_6 rfl rfl ?_
  refine fj_get (Cn := RX6) (T := TX6) (N := 44) (ci := 6) (v := .ref (bd 4)) C iX6 0 (fm_at0 _ _ _ _ _) rfl 8 (by decide) kX6_26 rfl dX6_isBefore_7 ?_
  refine fj_iload_n C 2 dX6_isBefore_10 rfl rfl ?_
  refine fj_iald (f := (a 4)) C 4 (fm_at4 _ _ _ _ _) (vp_in_nI (by omega) (by decide)) dX6_isBefore_11 ?_
  refine fj_at (y := a 4 j) (by rw [nI_clamp (by omega)]) ?_
  refine fj_icmp_lt (tgt := 35) C dX6_isBefore_12 (by decide) (fun h12 => ?_) (fun h12 => ?_)
  · refine fj_iconst (v := 1) C dX6_isBefore_35 (by decide) ?_
    refine fj_goto (tgt := 40) C dX6_isBefore_36 (by decide) ?_
    exact fj_zret C E9 rfl dX6_isBefore_40 ⟨by first | (rw [if_pos (Or.inl h12)]; done) | (rw [if_neg (fun z => z.elim h12 (fun y => h27 y.1))]; done) | (rw [if_neg (fun z => z.elim h12 (fun y => absurd ((nI_leI (by omega) (by omega)).mp h32) (by omega)))]; done) | (rw [if_pos (Or.inr ⟨h27, Nat.lt_of_not_le fun y => h32 ((nI_leI (by omega) (by omega)).mpr y)⟩)]; done), rfl⟩
  · refine fj_aload_n C 0 dX6_isBefore_15 rfl rfl ?_
    refine fj_get (Cn := RX6) (T := TX6) (N := 44) (ci := 6) (v := .ref (bd 4)) C iX6 0 (fm_at0 _ _ _ _ _) rfl 8 (by decide) kX6_26 rfl dX6_isBefore_16 ?_
    refine fj_iload_n C 1 dX6_isBefore_19 rfl rfl ?_
    refine fj_iald (f := (a 4)) C 4 (fm_at4 _ _ _ _ _) (vp_in_nI (by omega) (by decide)) dX6_isBefore_20 ?_
    refine fj_at (y := a 4 i) (by rw [nI_clamp (by omega)]) ?_
    refine fj_aload_n C 0 dX6_isBefore_21 rfl rfl ?_
    refine fj_get (Cn := RX6) (T := TX6) (N := 44) (ci := 6) (v := .ref (bd 4)) C iX6 0 (fm_at0 _ _ _ _ _) rfl 8 (by decide) kX6_26 rfl dX6_isBefore_22 ?_
    refine fj_iload_n C 2 dX6_isBefore_25 rfl rfl ?_
    refine fj_iald (f := (a 4)) C 4 (fm_at4 _ _ _ _ _) (vp_in_nI (by omega) (by decide)) dX6_isBefore_26 ?_
    refine fj_at (y := a 4 j) (by rw [nI_clamp (by omega)]) ?_
    refine fj_icmp_ne (tgt := 39) C dX6_isBefore_27 (by decide) (fun h27 => ?_) (fun h27 => ?_)
    · refine fj_iconst (v := 0) C dX6_isBefore_39 (by decide) ?_
      exact fj_zret C E9 rfl dX6_isBefore_40 ⟨by first | (rw [if_pos (Or.inl h12)]; done) | (rw [if_neg (fun z => z.elim h12 (fun y => h27 y.1))]; done) | (rw [if_neg (fun z => z.elim h12 (fun y => absurd ((nI_leI (by omega) (by omega)).mp h32) (by omega)))]; done) | (rw [if_pos (Or.inr ⟨h27, Nat.lt_of_not_le fun y => h32 ((nI_leI (by omega) (by omega)).mpr y)⟩)]; done), rfl⟩
    · refine fj_iload_n C 1 dX6_isBefore_30 rfl rfl ?_
      refine fj_iload_n C 2 dX6_isBefore_31 rfl rfl ?_
      refine fj_icmp_ge (tgt := 39) C dX6_isBefore_32 (by decide) (fun h32 => ?_) (fun h32 => ?_)
      · refine fj_iconst (v := 0) C dX6_isBefore_39 (by decide) ?_
        exact fj_zret C E9 rfl dX6_isBefore_40 ⟨by first | (rw [if_pos (Or.inl h12)]; done) | (rw [if_neg (fun z => z.elim h12 (fun y => h27 y.1))]; done) | (rw [if_neg (fun z => z.elim h12 (fun y => absurd ((nI_leI (by omega) (by omega)).mp h32) (by omega)))]; done) | (rw [if_pos (Or.inr ⟨h27, Nat.lt_of_not_le fun y => h32 ((nI_leI (by omega) (by omega)).mpr y)⟩)]; done), rfl⟩
      · refine fj_iconst (v := 1) C dX6_isBefore_35 (by decide) ?_
        refine fj_goto (tgt := 40) C dX6_isBefore_36 (by decide) ?_
        exact fj_zret C E9 rfl dX6_isBefore_40 ⟨by first | (rw [if_pos (Or.inl h12)]; done) | (rw [if_neg (fun z => z.elim h12 (fun y => h27 y.1))]; done) | (rw [if_neg (fun z => z.elim h12 (fun y => absurd ((nI_leI (by omega) (by omega)).mp h32) (by omega)))]; done) | (rw [if_pos (Or.inr ⟨h27, Nat.lt_of_not_le fun y => h32 ((nI_leI (by omega) (by omega)).mpr y)⟩)]; done), rfl⟩

set_option maxHeartbeats 4000000 in
set_option maxRecDepth 100000 in
theorem d_X6_lawFor (l : Launch) (D : va_G) (ty : Nat → ClassId) (t0 : Nat → Nat) (bd : Nat → Nat) (a : Nat → Nat → Int32) (g : Nat → Nat → Int64) (n : Nat → Int32) (P : Nat) (S : Nat) (T : Nat) (B : Nat) (I : YI P S T B a n) (x : Int32)  : fc l yX6_lawFor wsX6_lawFor (fj_rm 1 22 0 0) D ty t0 [.ref (bd 0), .int x] (fm_w bd ty a g n) 0 0 (fun v w => v = some (.int (lfo a x S)) ∧ w = fm_w bd ty a g n) := by
  refine fc_start (own := RX6) (cc := cX6_lawFor) (maxL := 4) (ret := (some .int)) (by decide) rfl (Nat.le_of_ble_eq_true rfl) rfl ?_
  intro p e s m args below meth c Q A C hmn E9
  obtain ⟨hn0, hP, hn2, hT, hn4, hS, hn5, hB, yWho, ySort, yQ, yN, yD, yL⟩ := id I
  have iX6 : ∀ w ∈ u_ws RX6 TX6 44, w ∈ wsX6_lawFor := ptX6_lawFor_wsX60
  have kX6_158 : Cond.fieldLink RX6 158 "FreeLandModel" "laws" "I" ∈ wsX6_lawFor := ptX6_lawFor_woX6_lawFor _ (by decide +kernel)
  have kX6_26 : Cond.fieldLink RX6 26 "FreeLandModel" "lawDays" "[I" ∈ wsX6_lawFor := ptX6_lawFor_woX6_lawFor _ (by decide +kernel)
  refine fj_lv (lv' := [(0, .ref (bd 0)), (1, .int x)]) [0, 1] rfl ?_
  refine fj_iconst (v := (-1)) C dX6_lawFor_0 (by decide) ?_
  refine fj_istore_n (lv' := [(2, .int (-1)), (0, .ref (bd 0)), (1, .int x)]) C dX6_lawFor_1 rfl (by decide) rfl ?_
  refine fj_iconst (v := 0) C dX6_lawFor_2 (by decide) ?_
  refine fj_istore_n (lv' := [(3, .int 0), (2, .int (-1)), (0, .ref (bd 0)), (1, .int x)]) C dX6_lawFor_3 rfl (by decide) rfl ?_
  refine fj_lv (lv' := [(0, .ref (bd 0)), (1, .int x), (2, .int (-1)), (3, .int 0)]) [2, 3, 1, 0] rfl ?_
  have lp4 : ∀ (k : Nat) (b : Int32), (k ≤ S) → (lfo a x k = b) → (YL k b) → fj p l e (fj_rm 1 22 0 0) s m args below meth c Q A D 4 0 0 (fm_w bd ty a g n) [(0, .ref (bd 0)), (1, .int x), (2, .int b), (3, .int (nI k))] 4 [] := by
    have key : ∀ zz : Nat × Int32, (fun (zz : Nat × Int32) => match zz with | (k, b) => (k ≤ S) → (lfo a x k = b) → (YL k b) → fj p l e (fj_rm 1 22 0 0) s m args below meth c Q A D 4 0 0 (fm_w bd ty a g n) [(0, .ref (bd 0)), (1, .int x), (2, .int b), (3, .int (nI k))] 4 []) zz := by
      refine fx_ind (fun (zz : Nat × Int32) => match zz with | (k, b) => S - k) _ ?_
      rintro ⟨k, b⟩ ih hk hb hj
      refine fj_iload_n C 3 dX6_lawFor_4 rfl rfl ?_
      refine fj_aload_n C 0 dX6_lawFor_5 rfl rfl ?_
      refine fj_get (Cn := RX6) (T := TX6) (N := 44) (ci := 6) (v := .int (n 4)) C iX6 0 (fm_at0 _ _ _ _ _) rfl 7 (by decide) kX6_158 rfl dX6_lawFor_6 ?_
      refine fj_at (y := nI S) hn4 ?_
      refine fj_icmp_ge (tgt := 43) C dX6_lawFor_9 (by decide) (fun h9 => ?_) (fun h9 => ?_)
      · have hge : S ≤ k := Nat.le_of_not_lt fun q => absurd (Int32.not_lt.mpr h9) (not_not_intro ((nI_ltI (by omega) (by omega)).mpr q))
        refine fj_iload_n C 2 dX6_lawFor_43 rfl rfl ?_
        exact fj_iret C E9 dX6_lawFor_44 ⟨by rw [← hb, show k = S by omega], rfl⟩
      · have hlt : k < S := (nI_ltI (by omega) (by omega)).mp (Int32.not_le.mp h9)
        refine fj_aload_n C 0 dX6_lawFor_12 rfl rfl ?_
        refine fj_get (Cn := RX6) (T := TX6) (N := 44) (ci := 6) (v := .ref (bd 4)) C iX6 0 (fm_at0 _ _ _ _ _) rfl 8 (by decide) kX6_26 rfl dX6_lawFor_13 ?_
        refine fj_iload_n C 3 dX6_lawFor_16 rfl rfl ?_
        refine fj_iald (f := (a 4)) C 4 (fm_at4 _ _ _ _ _) (vp_in_nI (by omega) (by decide)) dX6_lawFor_17 ?_
        refine fj_at (y := a 4 k) (by rw [nI_clamp (by omega)]) ?_
        refine fj_iload_n C 1 dX6_lawFor_18 rfl rfl ?_
        refine fj_icmp_gt (tgt := 37) C dX6_lawFor_19 (by decide) (fun h19 => ?_) (fun h19 => ?_)
        · refine fj_iinc (v := nI (k + 1)) (lv' := [(3, .int (nI (k + 1))), (0, .ref (bd 0)), (1, .int x), (2, .int b)]) C 3 dX6_lawFor_37 rfl (nI_1 k) (by decide) rfl ?_
          refine fj_goto (tgt := 4) C dX6_lawFor_40 (by decide) ?_
          refine fj_lv (lv' := [(0, .ref (bd 0)), (1, .int x), (2, .int b), (3, .int (nI (k + 1)))]) [1, 2, 3, 0] rfl ?_
          exact ih ⟨k + 1, b⟩ (by show S - (k + 1) < S - k; omega) (by omega) (by first | exact lfo_n hb h19 | exact lfo_0 hb h19 h23 | exact lfo_1 hb (by omega) h19 h32 | exact lfo_2 hb (by omega) h32) (by first | exact Or.inr ⟨k, by omega, rfl⟩ | exact Or.inr ⟨j, by omega, rfl⟩ | exact hj.imp id (fun ⟨j, h1, h2⟩ => ⟨j, by omega, h2⟩))
        · refine fj_iload_n C 2 dX6_lawFor_22 rfl rfl ?_
          refine fj_if_lt (tgt := 35) C dX6_lawFor_23 (by decide) (fun h23 => ?_) (fun h23 => ?_)
          · refine fj_iload_n C 3 dX6_lawFor_35 rfl rfl ?_
            refine fj_istore_n (lv' := [(2, .int (nI k)), (0, .ref (bd 0)), (1, .int x), (3, .int (nI k))]) C dX6_lawFor_36 rfl (by decide) rfl ?_
            refine fj_iinc (v := nI (k + 1)) (lv' := [(3, .int (nI (k + 1))), (2, .int (nI k)), (0, .ref (bd 0)), (1, .int x)]) C 3 dX6_lawFor_37 rfl (nI_1 k) (by decide) rfl ?_
            refine fj_goto (tgt := 4) C dX6_lawFor_40 (by decide) ?_
            refine fj_lv (lv' := [(0, .ref (bd 0)), (1, .int x), (2, .int (nI k)), (3, .int (nI (k + 1)))]) [2, 3, 1, 0] rfl ?_
            exact ih ⟨k + 1, nI k⟩ (by show S - (k + 1) < S - k; omega) (by omega) (by first | exact lfo_n hb h19 | exact lfo_0 hb h19 h23 | exact lfo_1 hb (by omega) h19 h32 | exact lfo_2 hb (by omega) h32) (by first | exact Or.inr ⟨k, by omega, rfl⟩ | exact Or.inr ⟨j, by omega, rfl⟩ | exact hj.imp id (fun ⟨j, h1, h2⟩ => ⟨j, by omega, h2⟩))
          · obtain ⟨j, hjk, rfl⟩ := hj.resolve_left (fun e => h23 (by rw [e]; decide))
            refine fj_aload_n C 0 dX6_lawFor_26 rfl rfl ?_
            refine fj_iload_n C 2 dX6_lawFor_27 rfl rfl ?_
            refine fj_iload_n C 3 dX6_lawFor_28 rfl rfl ?_
            refine fj_callVw (As := [.int (nI j), .int (nI k)]) (rest := []) C (d_X6_isBefore l D ty t0 bd a g n (nI j) (nI k) j k rfl rfl (by omega) (by omega)) (cwV 2 C.2.2.2.2.1 gX6_lawFor_X6_isBefore rfl rfl rfl (by decide +kernel) ⟨Nat.le_of_ble_eq_true rfl, Nat.le_of_ble_eq_true rfl⟩) ⟨0, 6, _, _, fm_at0 _ _ _ _ _, rfl, rfl⟩ rfl (Nat.le_of_ble_eq_true rfl) dX6_lawFor_29 ⟨Nat.zero_le _, Nat.zero_le _⟩ (fun v9 w9 hp9 => ?_)
            obtain ⟨rfl, rfl⟩ := hp9
            refine fj_st (st' := .int (if IBF a j k then 1 else 0) :: []) rfl ?_
            refine fj_ifb_eq (tgt := 37) C dX6_lawFor_32 (by decide) (fun h32 => ?_) (fun h32 => ?_)
            · refine fj_iinc (v := nI (k + 1)) (lv' := [(3, .int (nI (k + 1))), (0, .ref (bd 0)), (1, .int x), (2, .int (nI j))]) C 3 dX6_lawFor_37 rfl (nI_1 k) (by decide) rfl ?_
              refine fj_goto (tgt := 4) C dX6_lawFor_40 (by decide) ?_
              refine fj_lv (lv' := [(0, .ref (bd 0)), (1, .int x), (2, .int (nI j)), (3, .int (nI (k + 1)))]) [1, 2, 3, 0] rfl ?_
              exact ih ⟨k + 1, (nI j)⟩ (by show S - (k + 1) < S - k; omega) (by omega) (by first | exact lfo_n hb h19 | exact lfo_0 hb h19 h23 | exact lfo_1 hb (by omega) h19 h32 | exact lfo_2 hb (by omega) h32) (by first | exact Or.inr ⟨k, by omega, rfl⟩ | exact Or.inr ⟨j, by omega, rfl⟩ | exact hj.imp id (fun ⟨j, h1, h2⟩ => ⟨j, by omega, h2⟩))
            · refine fj_iload_n C 3 dX6_lawFor_35 rfl rfl ?_
              refine fj_istore_n (lv' := [(2, .int (nI k)), (0, .ref (bd 0)), (1, .int x), (3, .int (nI k))]) C dX6_lawFor_36 rfl (by decide) rfl ?_
              refine fj_iinc (v := nI (k + 1)) (lv' := [(3, .int (nI (k + 1))), (2, .int (nI k)), (0, .ref (bd 0)), (1, .int x)]) C 3 dX6_lawFor_37 rfl (nI_1 k) (by decide) rfl ?_
              refine fj_goto (tgt := 4) C dX6_lawFor_40 (by decide) ?_
              refine fj_lv (lv' := [(0, .ref (bd 0)), (1, .int x), (2, .int (nI k)), (3, .int (nI (k + 1)))]) [2, 3, 1, 0] rfl ?_
              exact ih ⟨k + 1, nI k⟩ (by show S - (k + 1) < S - k; omega) (by omega) (by first | exact lfo_n hb h19 | exact lfo_0 hb h19 h23 | exact lfo_1 hb (by omega) h19 h32 | exact lfo_2 hb (by omega) h32) (by first | exact Or.inr ⟨k, by omega, rfl⟩ | exact Or.inr ⟨j, by omega, rfl⟩ | exact hj.imp id (fun ⟨j, h1, h2⟩ => ⟨j, by omega, h2⟩))
    intro k b
    exact key ⟨k, b⟩
  exact lp4 0 (-1) (Nat.zero_le _) rfl (Or.inl rfl)

set_option maxHeartbeats 4000000 in
set_option maxRecDepth 100000 in
theorem d_X6_lawOf (l : Launch) (D : va_G) (ty : Nat → ClassId) (t0 : Nat → Nat) (bd : Nat → Nat) (a : Nat → Nat → Int32) (g : Nat → Nat → Int64) (n : Nat → Int32) (P : Nat) (S : Nat) (T : Nat) (B : Nat) (I : YI P S T B a n) (x : Int32)  : fc l yX6_lawOf wsX6_lawOf (fj_rm 2 45 0 0) D ty t0 [.ref (bd 0), .int x] (fm_w bd ty a g n) 0 0 (fun v w => v = some (.int (if 0 ≤ x ∧ x ≤ 20000 then lfo a x S else -1002)) ∧ w = fm_w bd ty a g n) := by
  refine fc_start (own := RX6) (cc := cX6_lawOf) (maxL := 2) (ret := (some .int)) (by decide) rfl (Nat.le_of_ble_eq_true rfl) rfl ?_
  intro p e s m args below meth c Q A C hmn E9
  obtain ⟨hn0, hP, hn2, hT, hn4, hS, hn5, hB, yWho, ySort, yQ, yN, yD, yL⟩ := id I
  refine fj_lv (lv' := [(0, .ref (bd 0)), (1, .int x)]) [0, 1] rfl ?_
  refine fj_iload_n C 1 dX6_lawOf_0 rfl rfl ?_
  refine fj_callSw (As := [.int x]) (rest := []) C (d_X6_isDay l D ty t0 (fm_w bd ty a g n) x) (va_cwS 1 C.2.2.2.2.1 gX6_lawOf_X6_isDay rfl rfl rfl (by decide +kernel) ⟨Nat.le_of_ble_eq_true rfl, Nat.le_of_ble_eq_true rfl⟩)  rfl (Nat.le_of_ble_eq_true rfl) dX6_lawOf_1 ⟨Nat.zero_le _, Nat.zero_le _⟩ (fun v9 w9 hp9 => ?_)
  obtain ⟨rfl, rfl⟩ := hp9
  refine fj_st (st' := .int (if (0 ≤ x ∧ x ≤ 20000) then 1 else 0) :: []) rfl ?_
  refine fj_ifb_eq (tgt := 15) C dX6_lawOf_4 (by decide) (fun h4 => ?_) (fun h4 => ?_)
  · refine fj_sipush (v := (-1002)) C dX6_lawOf_15 (by decide) ?_
    exact fj_iret C E9 dX6_lawOf_18 ⟨by first | (rw [if_pos h4]; done) | (rw [if_neg h4]; done), rfl⟩
  · refine fj_aload_n C 0 dX6_lawOf_7 rfl rfl ?_
    refine fj_iload_n C 1 dX6_lawOf_8 rfl rfl ?_
    refine fj_callVw (As := [.int x]) (rest := []) C (d_X6_lawFor l D ty t0 bd a g n P S T B I x) (cwV 1 C.2.2.2.2.1 gX6_lawOf_X6_lawFor rfl rfl rfl (by decide +kernel) ⟨Nat.le_of_ble_eq_true rfl, Nat.le_of_ble_eq_true rfl⟩) ⟨0, 6, _, _, fm_at0 _ _ _ _ _, rfl, rfl⟩ rfl (Nat.le_of_ble_eq_true rfl) dX6_lawOf_9 ⟨Nat.zero_le _, Nat.zero_le _⟩ (fun v9 w9 hp9 => ?_)
    obtain ⟨rfl, rfl⟩ := hp9
    refine fj_st (st' := .int (lfo a x S) :: []) rfl ?_
    refine fj_goto (tgt := 18) C dX6_lawOf_12 (by decide) ?_
    exact fj_iret C E9 dX6_lawOf_18 ⟨by first | (rw [if_pos h4]; done) | (rw [if_neg h4]; done), rfl⟩

set_option maxHeartbeats 4000000 in
set_option maxRecDepth 100000 in
theorem d_X6_setBy (l : Launch) (D : va_G) (ty : Nat → ClassId) (t0 : Nat → Nat) (bd : Nat → Nat) (a : Nat → Nat → Int32) (g : Nat → Nat → Int64) (n : Nat → Int32) (P : Nat) (S : Nat) (T : Nat) (B : Nat) (I : YI P S T B a n) (x : Int32) (y : Int32) (hx : YL S x) (q : Nat) (eq : y = nI q) (hq : q < 9) : fc l yX6_setBy wsX6_setBy (fj_rm 1 22 0 0) D ty t0 [.ref (bd 0), .int x, .int y] (fm_w bd ty a g n) 0 0 (fun v w => v = some (.int (sbw a S x q)) ∧ w = fm_w bd ty a g n) := by
  subst eq
  refine fc_start (own := RX6) (cc := cX6_setBy) (maxL := 5) (ret := (some .int)) (by decide) rfl (Nat.le_of_ble_eq_true rfl) rfl ?_
  intro p e s m args below meth c Q A C hmn E9
  obtain ⟨hn0, hP, hn2, hT, hn4, hS, hn5, hB, yWho, ySort, yQ, yN, yD, yL⟩ := id I
  have iX6 : ∀ w ∈ u_ws RX6 TX6 44, w ∈ wsX6_setBy := ptX6_setBy_wsX60
  have kX6_29 : Cond.fieldLink RX6 29 "FreeLandModel" "lawSets" "[I" ∈ wsX6_setBy := ptX6_setBy_woX6_setBy _ (by decide +kernel)
  have kX6_158 : Cond.fieldLink RX6 158 "FreeLandModel" "laws" "I" ∈ wsX6_setBy := ptX6_setBy_woX6_setBy _ (by decide +kernel)
  have kX6_32 : Cond.fieldLink RX6 32 "FreeLandModel" "defaults" "[I" ∈ wsX6_setBy := ptX6_setBy_woX6_setBy _ (by decide +kernel)
  refine fj_lv (lv' := [(0, .ref (bd 0)), (1, .int x), (2, .int (nI q))]) [0, 1, 2] rfl ?_
  refine fj_iload_n C 1 dX6_setBy_0 rfl rfl ?_
  refine fj_if_ge (tgt := 11) C dX6_setBy_1 (by decide) (fun h1 => ?_) (fun h1 => ?_)
  · obtain ⟨j, hj, rfl⟩ := YL_neg hx (by omega) h1
    refine fj_aload_n C 0 dX6_setBy_11 rfl rfl ?_
    refine fj_get (Cn := RX6) (T := TX6) (N := 44) (ci := 6) (v := .ref (bd 5)) C iX6 0 (fm_at0 _ _ _ _ _) rfl 9 (by decide) kX6_29 rfl dX6_setBy_12 ?_
    refine fj_bipush (v := 9) C dX6_setBy_15 (by decide) ?_
    refine fj_iload_n C 1 dX6_setBy_17 rfl rfl ?_
    refine fj_imul C dX6_setBy_18 ?_
    refine fj_at (y := nI (9 * j)) (pk_mul 9 j) ?_
    refine fj_iload_n C 2 dX6_setBy_19 rfl rfl ?_
    refine fj_iadd C dX6_setBy_20 ?_
    refine fj_at (y := nI (9 * j + q)) (nI_add (9 * j) q) ?_
    refine fj_iald (f := (a 5)) C 5 (fm_at5 _ _ _ _ _) (vp_in_nI (by omega) (by decide)) dX6_setBy_21 ?_
    refine fj_at (y := a 5 (9 * j + q)) (by rw [nI_clamp (by omega)]) ?_
    refine fj_if_lt (tgt := 29) C dX6_setBy_22 (by decide) (fun h22 => ?_) (fun h22 => ?_)
    · refine fj_iconst (v := (-1)) C dX6_setBy_29 (by decide) ?_
      refine fj_istore_n (lv' := [(3, .int (-1)), (0, .ref (bd 0)), (1, .int (nI j)), (2, .int (nI q))]) C dX6_setBy_30 rfl (by decide) rfl ?_
      refine fj_iconst (v := 0) C dX6_setBy_31 (by decide) ?_
      refine fj_istore (lv' := [(4, .int 0), (3, .int (-1)), (0, .ref (bd 0)), (1, .int (nI j)), (2, .int (nI q))]) C dX6_setBy_32 (by decide) rfl ?_
      refine fj_lv (lv' := [(0, .ref (bd 0)), (1, .int (nI j)), (2, .int (nI q)), (3, .int (-1)), (4, .int 0)]) [2, 3, 4, 1, 0] rfl ?_
      have lp34 : ∀ (k : Nat) (b : Int32), (k ≤ S) → ((if 0 ≤ a 5 (9 * j + q) then nI j else sbo a j q k) = b) → (YL S b) → fj p l e (fj_rm 1 22 0 0) s m args below meth c Q A D 5 0 0 (fm_w bd ty a g n) [(0, .ref (bd 0)), (1, .int (nI j)), (2, .int (nI q)), (3, .int b), (4, .int (nI k))] 34 [] := by
        have key : ∀ zz : Nat × Int32, (fun (zz : Nat × Int32) => match zz with | (k, b) => (k ≤ S) → ((if 0 ≤ a 5 (9 * j + q) then nI j else sbo a j q k) = b) → (YL S b) → fj p l e (fj_rm 1 22 0 0) s m args below meth c Q A D 5 0 0 (fm_w bd ty a g n) [(0, .ref (bd 0)), (1, .int (nI j)), (2, .int (nI q)), (3, .int b), (4, .int (nI k))] 34 []) zz := by
          refine fx_ind (fun (zz : Nat × Int32) => match zz with | (k, b) => S - k) _ ?_
          rintro ⟨k, b⟩ ih hk hb hjb
          refine fj_iload C 4 dX6_setBy_34 rfl ?_
          refine fj_aload_n C 0 dX6_setBy_36 rfl rfl ?_
          refine fj_get (Cn := RX6) (T := TX6) (N := 44) (ci := 6) (v := .int (n 4)) C iX6 0 (fm_at0 _ _ _ _ _) rfl 7 (by decide) kX6_158 rfl dX6_setBy_37 ?_
          refine fj_at (y := nI S) hn4 ?_
          refine fj_icmp_ge (tgt := 105) C dX6_setBy_40 (by decide) (fun h40 => ?_) (fun h40 => ?_)
          · have hge : S ≤ k := Nat.le_of_not_lt fun q => absurd (Int32.not_lt.mpr h40) (not_not_intro ((nI_ltI (by omega) (by omega)).mpr q))
            have hsb : sby a S j q = b := by first | (rw [← hb, sby, show k = S by omega]; done) | (rw [← hb, sby, if_pos h54, if_pos h54]; done)
            refine fj_iload_n C 3 dX6_setBy_105 rfl rfl ?_
            refine fj_if_ge (tgt := 118) C dX6_setBy_106 (by decide) (fun h106 => ?_) (fun h106 => ?_)
            · obtain ⟨j2, hj2, rfl⟩ := YL_neg hjb (by omega) h106
              refine fj_aload_n C 0 dX6_setBy_118 rfl rfl ?_
              refine fj_get (Cn := RX6) (T := TX6) (N := 44) (ci := 6) (v := .ref (bd 5)) C iX6 0 (fm_at0 _ _ _ _ _) rfl 9 (by decide) kX6_29 rfl dX6_setBy_119 ?_
              refine fj_bipush (v := 9) C dX6_setBy_122 (by decide) ?_
              refine fj_iload_n C 3 dX6_setBy_124 rfl rfl ?_
              refine fj_imul C dX6_setBy_125 ?_
              refine fj_at (y := nI (9 * j2)) (pk_mul 9 j2) ?_
              refine fj_iload_n C 2 dX6_setBy_126 rfl rfl ?_
              refine fj_iadd C dX6_setBy_127 ?_
              refine fj_at (y := nI (9 * j2 + q)) (nI_add (9 * j2) q) ?_
              refine fj_iald (f := (a 5)) C 5 (fm_at5 _ _ _ _ _) (vp_in_nI (by omega) (by decide)) dX6_setBy_128 ?_
              refine fj_at (y := a 5 (9 * j2 + q)) (by rw [nI_clamp (by omega)]) ?_
              exact fj_iret C E9 dX6_setBy_129 ⟨by rw [sbw, if_neg (nI_nneg (by omega)), nI_clamp (by omega), hsb]; first | (rw [if_pos (Int32.not_le.mp h106)]; done) | (rw [if_neg (nI_nneg (by omega)), nI_clamp (by omega)]; done), rfl⟩
            · refine fj_aload_n C 0 dX6_setBy_109 rfl rfl ?_
              refine fj_get (Cn := RX6) (T := TX6) (N := 44) (ci := 6) (v := .ref (bd 6)) C iX6 0 (fm_at0 _ _ _ _ _) rfl 10 (by decide) kX6_32 rfl dX6_setBy_110 ?_
              refine fj_iload_n C 2 dX6_setBy_113 rfl rfl ?_
              refine fj_iald (f := (a 6)) C 6 (fm_at6 _ _ _ _ _) (vp_in_nI (by omega) (by decide)) dX6_setBy_114 ?_
              refine fj_at (y := a 6 q) (by rw [nI_clamp (by omega)]) ?_
              refine fj_goto (tgt := 129) C dX6_setBy_115 (by decide) ?_
              exact fj_iret C E9 dX6_setBy_129 ⟨by rw [sbw, if_neg (nI_nneg (by omega)), nI_clamp (by omega), hsb]; first | (rw [if_pos (Int32.not_le.mp h106)]; done) | (rw [if_neg (nI_nneg (by omega)), nI_clamp (by omega)]; done), rfl⟩
          · have hlt : k < S := (nI_ltI (by omega) (by omega)).mp (Int32.not_le.mp h40)
            refine fj_aload_n C 0 dX6_setBy_43 rfl rfl ?_
            refine fj_get (Cn := RX6) (T := TX6) (N := 44) (ci := 6) (v := .ref (bd 5)) C iX6 0 (fm_at0 _ _ _ _ _) rfl 9 (by decide) kX6_29 rfl dX6_setBy_44 ?_
            refine fj_bipush (v := 9) C dX6_setBy_47 (by decide) ?_
            refine fj_iload_n C 1 dX6_setBy_49 rfl rfl ?_
            refine fj_imul C dX6_setBy_50 ?_
            refine fj_at (y := nI (9 * j)) (pk_mul 9 j) ?_
            refine fj_iload_n C 2 dX6_setBy_51 rfl rfl ?_
            refine fj_iadd C dX6_setBy_52 ?_
            refine fj_at (y := nI (9 * j + q)) (nI_add (9 * j) q) ?_
            refine fj_iald (f := (a 5)) C 5 (fm_at5 _ _ _ _ _) (vp_in_nI (by omega) (by decide)) dX6_setBy_53 ?_
            refine fj_at (y := a 5 (9 * j + q)) (by rw [nI_clamp (by omega)]) ?_
            refine fj_if_ge (tgt := 105) C dX6_setBy_54 (by decide) (fun h54 => ?_) (fun h54 => ?_)
            · have hsb : sby a S j q = b := by first | (rw [← hb, sby, show k = S by omega]; done) | (rw [← hb, sby, if_pos h54, if_pos h54]; done)
              refine fj_iload_n C 3 dX6_setBy_105 rfl rfl ?_
              refine fj_if_ge (tgt := 118) C dX6_setBy_106 (by decide) (fun h106 => ?_) (fun h106 => ?_)
              · obtain ⟨j2, hj2, rfl⟩ := YL_neg hjb (by omega) h106
                refine fj_aload_n C 0 dX6_setBy_118 rfl rfl ?_
                refine fj_get (Cn := RX6) (T := TX6) (N := 44) (ci := 6) (v := .ref (bd 5)) C iX6 0 (fm_at0 _ _ _ _ _) rfl 9 (by decide) kX6_29 rfl dX6_setBy_119 ?_
                refine fj_bipush (v := 9) C dX6_setBy_122 (by decide) ?_
                refine fj_iload_n C 3 dX6_setBy_124 rfl rfl ?_
                refine fj_imul C dX6_setBy_125 ?_
                refine fj_at (y := nI (9 * j2)) (pk_mul 9 j2) ?_
                refine fj_iload_n C 2 dX6_setBy_126 rfl rfl ?_
                refine fj_iadd C dX6_setBy_127 ?_
                refine fj_at (y := nI (9 * j2 + q)) (nI_add (9 * j2) q) ?_
                refine fj_iald (f := (a 5)) C 5 (fm_at5 _ _ _ _ _) (vp_in_nI (by omega) (by decide)) dX6_setBy_128 ?_
                refine fj_at (y := a 5 (9 * j2 + q)) (by rw [nI_clamp (by omega)]) ?_
                exact fj_iret C E9 dX6_setBy_129 ⟨by rw [sbw, if_neg (nI_nneg (by omega)), nI_clamp (by omega), hsb]; first | (rw [if_pos (Int32.not_le.mp h106)]; done) | (rw [if_neg (nI_nneg (by omega)), nI_clamp (by omega)]; done), rfl⟩
              · refine fj_aload_n C 0 dX6_setBy_109 rfl rfl ?_
                refine fj_get (Cn := RX6) (T := TX6) (N := 44) (ci := 6) (v := .ref (bd 6)) C iX6 0 (fm_at0 _ _ _ _ _) rfl 10 (by decide) kX6_32 rfl dX6_setBy_110 ?_
                refine fj_iload_n C 2 dX6_setBy_113 rfl rfl ?_
                refine fj_iald (f := (a 6)) C 6 (fm_at6 _ _ _ _ _) (vp_in_nI (by omega) (by decide)) dX6_setBy_114 ?_
                refine fj_at (y := a 6 q) (by rw [nI_clamp (by omega)]) ?_
                refine fj_goto (tgt := 129) C dX6_setBy_115 (by decide) ?_
                exact fj_iret C E9 dX6_setBy_129 ⟨by rw [sbw, if_neg (nI_nneg (by omega)), nI_clamp (by omega), hsb]; first | (rw [if_pos (Int32.not_le.mp h106)]; done) | (rw [if_neg (nI_nneg (by omega)), nI_clamp (by omega)]; done), rfl⟩
            · refine fj_aload_n C 0 dX6_setBy_57 rfl rfl ?_
              refine fj_iload C 4 dX6_setBy_58 rfl ?_
              refine fj_iload_n C 1 dX6_setBy_60 rfl rfl ?_
              refine fj_callVw (As := [.int (nI k), .int (nI j)]) (rest := []) C (d_X6_isBefore l D ty t0 bd a g n (nI k) (nI j) k j rfl rfl (by omega) (by omega)) (cwV 2 C.2.2.2.2.1 gX6_setBy_X6_isBefore rfl rfl rfl (by decide +kernel) ⟨Nat.le_of_ble_eq_true rfl, Nat.le_of_ble_eq_true rfl⟩) ⟨0, 6, _, _, fm_at0 _ _ _ _ _, rfl, rfl⟩ rfl (Nat.le_of_ble_eq_true rfl) dX6_setBy_61 ⟨Nat.zero_le _, Nat.zero_le _⟩ (fun v9 w9 hp9 => ?_)
              obtain ⟨rfl, rfl⟩ := hp9
              refine fj_st (st' := .int (if IBF a k j then 1 else 0) :: []) rfl ?_
              refine fj_ifb_eq (tgt := 99) C dX6_setBy_64 (by decide) (fun h64 => ?_) (fun h64 => ?_)
              · refine fj_iinc (v := nI (k + 1)) (lv' := [(4, .int (nI (k + 1))), (0, .ref (bd 0)), (1, .int (nI j)), (2, .int (nI q)), (3, .int b)]) C 4 dX6_setBy_99 rfl (nI_1 k) (by decide) rfl ?_
                refine fj_goto (tgt := 34) C dX6_setBy_102 (by decide) ?_
                refine fj_lv (lv' := [(0, .ref (bd 0)), (1, .int (nI j)), (2, .int (nI q)), (3, .int b), (4, .int (nI (k + 1)))]) [1, 2, 3, 4, 0] rfl ?_
                exact ih ⟨k + 1, b⟩ (by show S - (k + 1) < S - k; omega) (by omega) (by first | exact sbo_a hb h54 h64 | exact sbo_b hb h54 h79 | exact sbo_c hb h54 h64 h79 h83 | exact sbo_d hb (by omega) h54 h64 h79 h93 | exact sbo_e hb (by omega) h54 h93) (by first | exact Or.inr ⟨k, by omega, rfl⟩ | exact Or.inr ⟨j2, by omega, rfl⟩ | exact hjb)
              · refine fj_aload_n C 0 dX6_setBy_67 rfl rfl ?_
                refine fj_get (Cn := RX6) (T := TX6) (N := 44) (ci := 6) (v := .ref (bd 5)) C iX6 0 (fm_at0 _ _ _ _ _) rfl 9 (by decide) kX6_29 rfl dX6_setBy_68 ?_
                refine fj_bipush (v := 9) C dX6_setBy_71 (by decide) ?_
                refine fj_iload C 4 dX6_setBy_73 rfl ?_
                refine fj_imul C dX6_setBy_75 ?_
                refine fj_at (y := nI (9 * k)) (pk_mul 9 k) ?_
                refine fj_iload_n C 2 dX6_setBy_76 rfl rfl ?_
                refine fj_iadd C dX6_setBy_77 ?_
                refine fj_at (y := nI (9 * k + q)) (nI_add (9 * k) q) ?_
                refine fj_iald (f := (a 5)) C 5 (fm_at5 _ _ _ _ _) (vp_in_nI (by omega) (by decide)) dX6_setBy_78 ?_
                refine fj_at (y := a 5 (9 * k + q)) (by rw [nI_clamp (by omega)]) ?_
                refine fj_if_lt (tgt := 99) C dX6_setBy_79 (by decide) (fun h79 => ?_) (fun h79 => ?_)
                · refine fj_iinc (v := nI (k + 1)) (lv' := [(4, .int (nI (k + 1))), (0, .ref (bd 0)), (1, .int (nI j)), (2, .int (nI q)), (3, .int b)]) C 4 dX6_setBy_99 rfl (nI_1 k) (by decide) rfl ?_
                  refine fj_goto (tgt := 34) C dX6_setBy_102 (by decide) ?_
                  refine fj_lv (lv' := [(0, .ref (bd 0)), (1, .int (nI j)), (2, .int (nI q)), (3, .int b), (4, .int (nI (k + 1)))]) [1, 2, 3, 4, 0] rfl ?_
                  exact ih ⟨k + 1, b⟩ (by show S - (k + 1) < S - k; omega) (by omega) (by first | exact sbo_a hb h54 h64 | exact sbo_b hb h54 h79 | exact sbo_c hb h54 h64 h79 h83 | exact sbo_d hb (by omega) h54 h64 h79 h93 | exact sbo_e hb (by omega) h54 h93) (by first | exact Or.inr ⟨k, by omega, rfl⟩ | exact Or.inr ⟨j2, by omega, rfl⟩ | exact hjb)
                · refine fj_iload_n C 3 dX6_setBy_82 rfl rfl ?_
                  refine fj_if_lt (tgt := 96) C dX6_setBy_83 (by decide) (fun h83 => ?_) (fun h83 => ?_)
                  · refine fj_iload C 4 dX6_setBy_96 rfl ?_
                    refine fj_istore_n (lv' := [(3, .int (nI k)), (0, .ref (bd 0)), (1, .int (nI j)), (2, .int (nI q)), (4, .int (nI k))]) C dX6_setBy_98 rfl (by decide) rfl ?_
                    refine fj_iinc (v := nI (k + 1)) (lv' := [(4, .int (nI (k + 1))), (3, .int (nI k)), (0, .ref (bd 0)), (1, .int (nI j)), (2, .int (nI q))]) C 4 dX6_setBy_99 rfl (nI_1 k) (by decide) rfl ?_
                    refine fj_goto (tgt := 34) C dX6_setBy_102 (by decide) ?_
                    refine fj_lv (lv' := [(0, .ref (bd 0)), (1, .int (nI j)), (2, .int (nI q)), (3, .int (nI k)), (4, .int (nI (k + 1)))]) [2, 3, 4, 1, 0] rfl ?_
                    exact ih ⟨k + 1, nI k⟩ (by show S - (k + 1) < S - k; omega) (by omega) (by first | exact sbo_a hb h54 h64 | exact sbo_b hb h54 h79 | exact sbo_c hb h54 h64 h79 h83 | exact sbo_d hb (by omega) h54 h64 h79 h93 | exact sbo_e hb (by omega) h54 h93) (by first | exact Or.inr ⟨k, by omega, rfl⟩ | exact Or.inr ⟨j2, by omega, rfl⟩ | exact hjb)
                  · obtain ⟨j2, hj2, rfl⟩ := hjb.resolve_left (fun e => h83 (by rw [e]; decide))
                    refine fj_aload_n C 0 dX6_setBy_86 rfl rfl ?_
                    refine fj_iload_n C 3 dX6_setBy_87 rfl rfl ?_
                    refine fj_iload C 4 dX6_setBy_88 rfl ?_
                    refine fj_callVw (As := [.int (nI j2), .int (nI k)]) (rest := []) C (d_X6_isBefore l D ty t0 bd a g n (nI j2) (nI k) j2 k rfl rfl (by omega) (by omega)) (cwV 2 C.2.2.2.2.1 gX6_setBy_X6_isBefore rfl rfl rfl (by decide +kernel) ⟨Nat.le_of_ble_eq_true rfl, Nat.le_of_ble_eq_true rfl⟩) ⟨0, 6, _, _, fm_at0 _ _ _ _ _, rfl, rfl⟩ rfl (Nat.le_of_ble_eq_true rfl) dX6_setBy_90 ⟨Nat.zero_le _, Nat.zero_le _⟩ (fun v9 w9 hp9 => ?_)
                    obtain ⟨rfl, rfl⟩ := hp9
                    refine fj_st (st' := .int (if IBF a j2 k then 1 else 0) :: []) rfl ?_
                    refine fj_ifb_eq (tgt := 99) C dX6_setBy_93 (by decide) (fun h93 => ?_) (fun h93 => ?_)
                    · refine fj_iinc (v := nI (k + 1)) (lv' := [(4, .int (nI (k + 1))), (0, .ref (bd 0)), (1, .int (nI j)), (2, .int (nI q)), (3, .int (nI j2))]) C 4 dX6_setBy_99 rfl (nI_1 k) (by decide) rfl ?_
                      refine fj_goto (tgt := 34) C dX6_setBy_102 (by decide) ?_
                      refine fj_lv (lv' := [(0, .ref (bd 0)), (1, .int (nI j)), (2, .int (nI q)), (3, .int (nI j2)), (4, .int (nI (k + 1)))]) [1, 2, 3, 4, 0] rfl ?_
                      exact ih ⟨k + 1, (nI j2)⟩ (by show S - (k + 1) < S - k; omega) (by omega) (by first | exact sbo_a hb h54 h64 | exact sbo_b hb h54 h79 | exact sbo_c hb h54 h64 h79 h83 | exact sbo_d hb (by omega) h54 h64 h79 h93 | exact sbo_e hb (by omega) h54 h93) (by first | exact Or.inr ⟨k, by omega, rfl⟩ | exact Or.inr ⟨j2, by omega, rfl⟩ | exact hjb)
                    · refine fj_iload C 4 dX6_setBy_96 rfl ?_
                      refine fj_istore_n (lv' := [(3, .int (nI k)), (0, .ref (bd 0)), (1, .int (nI j)), (2, .int (nI q)), (4, .int (nI k))]) C dX6_setBy_98 rfl (by decide) rfl ?_
                      refine fj_iinc (v := nI (k + 1)) (lv' := [(4, .int (nI (k + 1))), (3, .int (nI k)), (0, .ref (bd 0)), (1, .int (nI j)), (2, .int (nI q))]) C 4 dX6_setBy_99 rfl (nI_1 k) (by decide) rfl ?_
                      refine fj_goto (tgt := 34) C dX6_setBy_102 (by decide) ?_
                      refine fj_lv (lv' := [(0, .ref (bd 0)), (1, .int (nI j)), (2, .int (nI q)), (3, .int (nI k)), (4, .int (nI (k + 1)))]) [2, 3, 4, 1, 0] rfl ?_
                      exact ih ⟨k + 1, nI k⟩ (by show S - (k + 1) < S - k; omega) (by omega) (by first | exact sbo_a hb h54 h64 | exact sbo_b hb h54 h79 | exact sbo_c hb h54 h64 h79 h83 | exact sbo_d hb (by omega) h54 h64 h79 h93 | exact sbo_e hb (by omega) h54 h93) (by first | exact Or.inr ⟨k, by omega, rfl⟩ | exact Or.inr ⟨j2, by omega, rfl⟩ | exact hjb)
        intro k b
        exact key ⟨k, b⟩
      exact lp34 0 (-1) (Nat.zero_le _) (by first | exact if_pos (Int32.not_lt.mp h22) | exact if_neg (fun z => absurd h22 (Int32.not_lt.mpr z))) (by first | exact Or.inl rfl | exact Or.inr ⟨j, hj, rfl⟩)
    · refine fj_iload_n C 1 dX6_setBy_25 rfl rfl ?_
      refine fj_goto (tgt := 30) C dX6_setBy_26 (by decide) ?_
      refine fj_istore_n (lv' := [(3, .int (nI j)), (0, .ref (bd 0)), (1, .int (nI j)), (2, .int (nI q))]) C dX6_setBy_30 rfl (by decide) rfl ?_
      refine fj_iconst (v := 0) C dX6_setBy_31 (by decide) ?_
      refine fj_istore (lv' := [(4, .int 0), (3, .int (nI j)), (0, .ref (bd 0)), (1, .int (nI j)), (2, .int (nI q))]) C dX6_setBy_32 (by decide) rfl ?_
      refine fj_lv (lv' := [(0, .ref (bd 0)), (1, .int (nI j)), (2, .int (nI q)), (3, .int (nI j)), (4, .int 0)]) [2, 3, 4, 1, 0] rfl ?_
      have lp34 : ∀ (k : Nat) (b : Int32), (k ≤ S) → ((if 0 ≤ a 5 (9 * j + q) then nI j else sbo a j q k) = b) → (YL S b) → fj p l e (fj_rm 1 22 0 0) s m args below meth c Q A D 5 0 0 (fm_w bd ty a g n) [(0, .ref (bd 0)), (1, .int (nI j)), (2, .int (nI q)), (3, .int b), (4, .int (nI k))] 34 [] := by
        have key : ∀ zz : Nat × Int32, (fun (zz : Nat × Int32) => match zz with | (k, b) => (k ≤ S) → ((if 0 ≤ a 5 (9 * j + q) then nI j else sbo a j q k) = b) → (YL S b) → fj p l e (fj_rm 1 22 0 0) s m args below meth c Q A D 5 0 0 (fm_w bd ty a g n) [(0, .ref (bd 0)), (1, .int (nI j)), (2, .int (nI q)), (3, .int b), (4, .int (nI k))] 34 []) zz := by
          refine fx_ind (fun (zz : Nat × Int32) => match zz with | (k, b) => S - k) _ ?_
          rintro ⟨k, b⟩ ih hk hb hjb
          refine fj_iload C 4 dX6_setBy_34 rfl ?_
          refine fj_aload_n C 0 dX6_setBy_36 rfl rfl ?_
          refine fj_get (Cn := RX6) (T := TX6) (N := 44) (ci := 6) (v := .int (n 4)) C iX6 0 (fm_at0 _ _ _ _ _) rfl 7 (by decide) kX6_158 rfl dX6_setBy_37 ?_
          refine fj_at (y := nI S) hn4 ?_
          refine fj_icmp_ge (tgt := 105) C dX6_setBy_40 (by decide) (fun h40 => ?_) (fun h40 => ?_)
          · have hge : S ≤ k := Nat.le_of_not_lt fun q => absurd (Int32.not_lt.mpr h40) (not_not_intro ((nI_ltI (by omega) (by omega)).mpr q))
            have hsb : sby a S j q = b := by first | (rw [← hb, sby, show k = S by omega]; done) | (rw [← hb, sby, if_pos h54, if_pos h54]; done)
            refine fj_iload_n C 3 dX6_setBy_105 rfl rfl ?_
            refine fj_if_ge (tgt := 118) C dX6_setBy_106 (by decide) (fun h106 => ?_) (fun h106 => ?_)
            · obtain ⟨j2, hj2, rfl⟩ := YL_neg hjb (by omega) h106
              refine fj_aload_n C 0 dX6_setBy_118 rfl rfl ?_
              refine fj_get (Cn := RX6) (T := TX6) (N := 44) (ci := 6) (v := .ref (bd 5)) C iX6 0 (fm_at0 _ _ _ _ _) rfl 9 (by decide) kX6_29 rfl dX6_setBy_119 ?_
              refine fj_bipush (v := 9) C dX6_setBy_122 (by decide) ?_
              refine fj_iload_n C 3 dX6_setBy_124 rfl rfl ?_
              refine fj_imul C dX6_setBy_125 ?_
              refine fj_at (y := nI (9 * j2)) (pk_mul 9 j2) ?_
              refine fj_iload_n C 2 dX6_setBy_126 rfl rfl ?_
              refine fj_iadd C dX6_setBy_127 ?_
              refine fj_at (y := nI (9 * j2 + q)) (nI_add (9 * j2) q) ?_
              refine fj_iald (f := (a 5)) C 5 (fm_at5 _ _ _ _ _) (vp_in_nI (by omega) (by decide)) dX6_setBy_128 ?_
              refine fj_at (y := a 5 (9 * j2 + q)) (by rw [nI_clamp (by omega)]) ?_
              exact fj_iret C E9 dX6_setBy_129 ⟨by rw [sbw, if_neg (nI_nneg (by omega)), nI_clamp (by omega), hsb]; first | (rw [if_pos (Int32.not_le.mp h106)]; done) | (rw [if_neg (nI_nneg (by omega)), nI_clamp (by omega)]; done), rfl⟩
            · refine fj_aload_n C 0 dX6_setBy_109 rfl rfl ?_
              refine fj_get (Cn := RX6) (T := TX6) (N := 44) (ci := 6) (v := .ref (bd 6)) C iX6 0 (fm_at0 _ _ _ _ _) rfl 10 (by decide) kX6_32 rfl dX6_setBy_110 ?_
              refine fj_iload_n C 2 dX6_setBy_113 rfl rfl ?_
              refine fj_iald (f := (a 6)) C 6 (fm_at6 _ _ _ _ _) (vp_in_nI (by omega) (by decide)) dX6_setBy_114 ?_
              refine fj_at (y := a 6 q) (by rw [nI_clamp (by omega)]) ?_
              refine fj_goto (tgt := 129) C dX6_setBy_115 (by decide) ?_
              exact fj_iret C E9 dX6_setBy_129 ⟨by rw [sbw, if_neg (nI_nneg (by omega)), nI_clamp (by omega), hsb]; first | (rw [if_pos (Int32.not_le.mp h106)]; done) | (rw [if_neg (nI_nneg (by omega)), nI_clamp (by omega)]; done), rfl⟩
          · have hlt : k < S := (nI_ltI (by omega) (by omega)).mp (Int32.not_le.mp h40)
            refine fj_aload_n C 0 dX6_setBy_43 rfl rfl ?_
            refine fj_get (Cn := RX6) (T := TX6) (N := 44) (ci := 6) (v := .ref (bd 5)) C iX6 0 (fm_at0 _ _ _ _ _) rfl 9 (by decide) kX6_29 rfl dX6_setBy_44 ?_
            refine fj_bipush (v := 9) C dX6_setBy_47 (by decide) ?_
            refine fj_iload_n C 1 dX6_setBy_49 rfl rfl ?_
            refine fj_imul C dX6_setBy_50 ?_
            refine fj_at (y := nI (9 * j)) (pk_mul 9 j) ?_
            refine fj_iload_n C 2 dX6_setBy_51 rfl rfl ?_
            refine fj_iadd C dX6_setBy_52 ?_
            refine fj_at (y := nI (9 * j + q)) (nI_add (9 * j) q) ?_
            refine fj_iald (f := (a 5)) C 5 (fm_at5 _ _ _ _ _) (vp_in_nI (by omega) (by decide)) dX6_setBy_53 ?_
            refine fj_at (y := a 5 (9 * j + q)) (by rw [nI_clamp (by omega)]) ?_
            refine fj_if_ge (tgt := 105) C dX6_setBy_54 (by decide) (fun h54 => ?_) (fun h54 => ?_)
            · have hsb : sby a S j q = b := by first | (rw [← hb, sby, show k = S by omega]; done) | (rw [← hb, sby, if_pos h54, if_pos h54]; done)
              refine fj_iload_n C 3 dX6_setBy_105 rfl rfl ?_
              refine fj_if_ge (tgt := 118) C dX6_setBy_106 (by decide) (fun h106 => ?_) (fun h106 => ?_)
              · obtain ⟨j2, hj2, rfl⟩ := YL_neg hjb (by omega) h106
                refine fj_aload_n C 0 dX6_setBy_118 rfl rfl ?_
                refine fj_get (Cn := RX6) (T := TX6) (N := 44) (ci := 6) (v := .ref (bd 5)) C iX6 0 (fm_at0 _ _ _ _ _) rfl 9 (by decide) kX6_29 rfl dX6_setBy_119 ?_
                refine fj_bipush (v := 9) C dX6_setBy_122 (by decide) ?_
                refine fj_iload_n C 3 dX6_setBy_124 rfl rfl ?_
                refine fj_imul C dX6_setBy_125 ?_
                refine fj_at (y := nI (9 * j2)) (pk_mul 9 j2) ?_
                refine fj_iload_n C 2 dX6_setBy_126 rfl rfl ?_
                refine fj_iadd C dX6_setBy_127 ?_
                refine fj_at (y := nI (9 * j2 + q)) (nI_add (9 * j2) q) ?_
                refine fj_iald (f := (a 5)) C 5 (fm_at5 _ _ _ _ _) (vp_in_nI (by omega) (by decide)) dX6_setBy_128 ?_
                refine fj_at (y := a 5 (9 * j2 + q)) (by rw [nI_clamp (by omega)]) ?_
                exact fj_iret C E9 dX6_setBy_129 ⟨by rw [sbw, if_neg (nI_nneg (by omega)), nI_clamp (by omega), hsb]; first | (rw [if_pos (Int32.not_le.mp h106)]; done) | (rw [if_neg (nI_nneg (by omega)), nI_clamp (by omega)]; done), rfl⟩
              · refine fj_aload_n C 0 dX6_setBy_109 rfl rfl ?_
                refine fj_get (Cn := RX6) (T := TX6) (N := 44) (ci := 6) (v := .ref (bd 6)) C iX6 0 (fm_at0 _ _ _ _ _) rfl 10 (by decide) kX6_32 rfl dX6_setBy_110 ?_
                refine fj_iload_n C 2 dX6_setBy_113 rfl rfl ?_
                refine fj_iald (f := (a 6)) C 6 (fm_at6 _ _ _ _ _) (vp_in_nI (by omega) (by decide)) dX6_setBy_114 ?_
                refine fj_at (y := a 6 q) (by rw [nI_clamp (by omega)]) ?_
                refine fj_goto (tgt := 129) C dX6_setBy_115 (by decide) ?_
                exact fj_iret C E9 dX6_setBy_129 ⟨by rw [sbw, if_neg (nI_nneg (by omega)), nI_clamp (by omega), hsb]; first | (rw [if_pos (Int32.not_le.mp h106)]; done) | (rw [if_neg (nI_nneg (by omega)), nI_clamp (by omega)]; done), rfl⟩
            · refine fj_aload_n C 0 dX6_setBy_57 rfl rfl ?_
              refine fj_iload C 4 dX6_setBy_58 rfl ?_
              refine fj_iload_n C 1 dX6_setBy_60 rfl rfl ?_
              refine fj_callVw (As := [.int (nI k), .int (nI j)]) (rest := []) C (d_X6_isBefore l D ty t0 bd a g n (nI k) (nI j) k j rfl rfl (by omega) (by omega)) (cwV 2 C.2.2.2.2.1 gX6_setBy_X6_isBefore rfl rfl rfl (by decide +kernel) ⟨Nat.le_of_ble_eq_true rfl, Nat.le_of_ble_eq_true rfl⟩) ⟨0, 6, _, _, fm_at0 _ _ _ _ _, rfl, rfl⟩ rfl (Nat.le_of_ble_eq_true rfl) dX6_setBy_61 ⟨Nat.zero_le _, Nat.zero_le _⟩ (fun v9 w9 hp9 => ?_)
              obtain ⟨rfl, rfl⟩ := hp9
              refine fj_st (st' := .int (if IBF a k j then 1 else 0) :: []) rfl ?_
              refine fj_ifb_eq (tgt := 99) C dX6_setBy_64 (by decide) (fun h64 => ?_) (fun h64 => ?_)
              · refine fj_iinc (v := nI (k + 1)) (lv' := [(4, .int (nI (k + 1))), (0, .ref (bd 0)), (1, .int (nI j)), (2, .int (nI q)), (3, .int b)]) C 4 dX6_setBy_99 rfl (nI_1 k) (by decide) rfl ?_
                refine fj_goto (tgt := 34) C dX6_setBy_102 (by decide) ?_
                refine fj_lv (lv' := [(0, .ref (bd 0)), (1, .int (nI j)), (2, .int (nI q)), (3, .int b), (4, .int (nI (k + 1)))]) [1, 2, 3, 4, 0] rfl ?_
                exact ih ⟨k + 1, b⟩ (by show S - (k + 1) < S - k; omega) (by omega) (by first | exact sbo_a hb h54 h64 | exact sbo_b hb h54 h79 | exact sbo_c hb h54 h64 h79 h83 | exact sbo_d hb (by omega) h54 h64 h79 h93 | exact sbo_e hb (by omega) h54 h93) (by first | exact Or.inr ⟨k, by omega, rfl⟩ | exact Or.inr ⟨j2, by omega, rfl⟩ | exact hjb)
              · refine fj_aload_n C 0 dX6_setBy_67 rfl rfl ?_
                refine fj_get (Cn := RX6) (T := TX6) (N := 44) (ci := 6) (v := .ref (bd 5)) C iX6 0 (fm_at0 _ _ _ _ _) rfl 9 (by decide) kX6_29 rfl dX6_setBy_68 ?_
                refine fj_bipush (v := 9) C dX6_setBy_71 (by decide) ?_
                refine fj_iload C 4 dX6_setBy_73 rfl ?_
                refine fj_imul C dX6_setBy_75 ?_
                refine fj_at (y := nI (9 * k)) (pk_mul 9 k) ?_
                refine fj_iload_n C 2 dX6_setBy_76 rfl rfl ?_
                refine fj_iadd C dX6_setBy_77 ?_
                refine fj_at (y := nI (9 * k + q)) (nI_add (9 * k) q) ?_
                refine fj_iald (f := (a 5)) C 5 (fm_at5 _ _ _ _ _) (vp_in_nI (by omega) (by decide)) dX6_setBy_78 ?_
                refine fj_at (y := a 5 (9 * k + q)) (by rw [nI_clamp (by omega)]) ?_
                refine fj_if_lt (tgt := 99) C dX6_setBy_79 (by decide) (fun h79 => ?_) (fun h79 => ?_)
                · refine fj_iinc (v := nI (k + 1)) (lv' := [(4, .int (nI (k + 1))), (0, .ref (bd 0)), (1, .int (nI j)), (2, .int (nI q)), (3, .int b)]) C 4 dX6_setBy_99 rfl (nI_1 k) (by decide) rfl ?_
                  refine fj_goto (tgt := 34) C dX6_setBy_102 (by decide) ?_
                  refine fj_lv (lv' := [(0, .ref (bd 0)), (1, .int (nI j)), (2, .int (nI q)), (3, .int b), (4, .int (nI (k + 1)))]) [1, 2, 3, 4, 0] rfl ?_
                  exact ih ⟨k + 1, b⟩ (by show S - (k + 1) < S - k; omega) (by omega) (by first | exact sbo_a hb h54 h64 | exact sbo_b hb h54 h79 | exact sbo_c hb h54 h64 h79 h83 | exact sbo_d hb (by omega) h54 h64 h79 h93 | exact sbo_e hb (by omega) h54 h93) (by first | exact Or.inr ⟨k, by omega, rfl⟩ | exact Or.inr ⟨j2, by omega, rfl⟩ | exact hjb)
                · refine fj_iload_n C 3 dX6_setBy_82 rfl rfl ?_
                  refine fj_if_lt (tgt := 96) C dX6_setBy_83 (by decide) (fun h83 => ?_) (fun h83 => ?_)
                  · refine fj_iload C 4 dX6_setBy_96 rfl ?_
                    refine fj_istore_n (lv' := [(3, .int (nI k)), (0, .ref (bd 0)), (1, .int (nI j)), (2, .int (nI q)), (4, .int (nI k))]) C dX6_setBy_98 rfl (by decide) rfl ?_
                    refine fj_iinc (v := nI (k + 1)) (lv' := [(4, .int (nI (k + 1))), (3, .int (nI k)), (0, .ref (bd 0)), (1, .int (nI j)), (2, .int (nI q))]) C 4 dX6_setBy_99 rfl (nI_1 k) (by decide) rfl ?_
                    refine fj_goto (tgt := 34) C dX6_setBy_102 (by decide) ?_
                    refine fj_lv (lv' := [(0, .ref (bd 0)), (1, .int (nI j)), (2, .int (nI q)), (3, .int (nI k)), (4, .int (nI (k + 1)))]) [2, 3, 4, 1, 0] rfl ?_
                    exact ih ⟨k + 1, nI k⟩ (by show S - (k + 1) < S - k; omega) (by omega) (by first | exact sbo_a hb h54 h64 | exact sbo_b hb h54 h79 | exact sbo_c hb h54 h64 h79 h83 | exact sbo_d hb (by omega) h54 h64 h79 h93 | exact sbo_e hb (by omega) h54 h93) (by first | exact Or.inr ⟨k, by omega, rfl⟩ | exact Or.inr ⟨j2, by omega, rfl⟩ | exact hjb)
                  · obtain ⟨j2, hj2, rfl⟩ := hjb.resolve_left (fun e => h83 (by rw [e]; decide))
                    refine fj_aload_n C 0 dX6_setBy_86 rfl rfl ?_
                    refine fj_iload_n C 3 dX6_setBy_87 rfl rfl ?_
                    refine fj_iload C 4 dX6_setBy_88 rfl ?_
                    refine fj_callVw (As := [.int (nI j2), .int (nI k)]) (rest := []) C (d_X6_isBefore l D ty t0 bd a g n (nI j2) (nI k) j2 k rfl rfl (by omega) (by omega)) (cwV 2 C.2.2.2.2.1 gX6_setBy_X6_isBefore rfl rfl rfl (by decide +kernel) ⟨Nat.le_of_ble_eq_true rfl, Nat.le_of_ble_eq_true rfl⟩) ⟨0, 6, _, _, fm_at0 _ _ _ _ _, rfl, rfl⟩ rfl (Nat.le_of_ble_eq_true rfl) dX6_setBy_90 ⟨Nat.zero_le _, Nat.zero_le _⟩ (fun v9 w9 hp9 => ?_)
                    obtain ⟨rfl, rfl⟩ := hp9
                    refine fj_st (st' := .int (if IBF a j2 k then 1 else 0) :: []) rfl ?_
                    refine fj_ifb_eq (tgt := 99) C dX6_setBy_93 (by decide) (fun h93 => ?_) (fun h93 => ?_)
                    · refine fj_iinc (v := nI (k + 1)) (lv' := [(4, .int (nI (k + 1))), (0, .ref (bd 0)), (1, .int (nI j)), (2, .int (nI q)), (3, .int (nI j2))]) C 4 dX6_setBy_99 rfl (nI_1 k) (by decide) rfl ?_
                      refine fj_goto (tgt := 34) C dX6_setBy_102 (by decide) ?_
                      refine fj_lv (lv' := [(0, .ref (bd 0)), (1, .int (nI j)), (2, .int (nI q)), (3, .int (nI j2)), (4, .int (nI (k + 1)))]) [1, 2, 3, 4, 0] rfl ?_
                      exact ih ⟨k + 1, (nI j2)⟩ (by show S - (k + 1) < S - k; omega) (by omega) (by first | exact sbo_a hb h54 h64 | exact sbo_b hb h54 h79 | exact sbo_c hb h54 h64 h79 h83 | exact sbo_d hb (by omega) h54 h64 h79 h93 | exact sbo_e hb (by omega) h54 h93) (by first | exact Or.inr ⟨k, by omega, rfl⟩ | exact Or.inr ⟨j2, by omega, rfl⟩ | exact hjb)
                    · refine fj_iload C 4 dX6_setBy_96 rfl ?_
                      refine fj_istore_n (lv' := [(3, .int (nI k)), (0, .ref (bd 0)), (1, .int (nI j)), (2, .int (nI q)), (4, .int (nI k))]) C dX6_setBy_98 rfl (by decide) rfl ?_
                      refine fj_iinc (v := nI (k + 1)) (lv' := [(4, .int (nI (k + 1))), (3, .int (nI k)), (0, .ref (bd 0)), (1, .int (nI j)), (2, .int (nI q))]) C 4 dX6_setBy_99 rfl (nI_1 k) (by decide) rfl ?_
                      refine fj_goto (tgt := 34) C dX6_setBy_102 (by decide) ?_
                      refine fj_lv (lv' := [(0, .ref (bd 0)), (1, .int (nI j)), (2, .int (nI q)), (3, .int (nI k)), (4, .int (nI (k + 1)))]) [2, 3, 4, 1, 0] rfl ?_
                      exact ih ⟨k + 1, nI k⟩ (by show S - (k + 1) < S - k; omega) (by omega) (by first | exact sbo_a hb h54 h64 | exact sbo_b hb h54 h79 | exact sbo_c hb h54 h64 h79 h83 | exact sbo_d hb (by omega) h54 h64 h79 h93 | exact sbo_e hb (by omega) h54 h93) (by first | exact Or.inr ⟨k, by omega, rfl⟩ | exact Or.inr ⟨j2, by omega, rfl⟩ | exact hjb)
        intro k b
        exact key ⟨k, b⟩
      exact lp34 0 (nI j) (Nat.zero_le _) (by first | exact if_pos (Int32.not_lt.mp h22) | exact if_neg (fun z => absurd h22 (Int32.not_lt.mpr z))) (by first | exact Or.inl rfl | exact Or.inr ⟨j, hj, rfl⟩)
  · refine fj_aload_n C 0 dX6_setBy_4 rfl rfl ?_
    refine fj_get (Cn := RX6) (T := TX6) (N := 44) (ci := 6) (v := .ref (bd 6)) C iX6 0 (fm_at0 _ _ _ _ _) rfl 10 (by decide) kX6_32 rfl dX6_setBy_5 ?_
    refine fj_iload_n C 2 dX6_setBy_8 rfl rfl ?_
    refine fj_iald (f := (a 6)) C 6 (fm_at6 _ _ _ _ _) (vp_in_nI (by omega) (by decide)) dX6_setBy_9 ?_
    refine fj_at (y := a 6 q) (by rw [nI_clamp (by omega)]) ?_
    exact fj_iret C E9 dX6_setBy_10 ⟨by rw [sbw, if_pos (Int32.not_le.mp h1)], rfl⟩

set_option maxHeartbeats 4000000 in
set_option maxRecDepth 100000 in
theorem d_X6_sets (l : Launch) (D : va_G) (ty : Nat → ClassId) (t0 : Nat → Nat) (bd : Nat → Nat) (a : Nat → Nat → Int32) (g : Nat → Nat → Int64) (n : Nat → Int32) (P : Nat) (S : Nat) (T : Nat) (B : Nat) (I : YI P S T B a n) (x : Int32) (y : Int32)  : fc l yX6_sets wsX6_sets (fj_rm 2 46 0 0) D ty t0 [.ref (bd 0), .int x, .int y] (fm_w bd ty a g n) 0 0 (fun v w => v = some (.int (if x = -1 ∨ ib x S then (if 0 ≤ y ∧ y ≤ 9 then (if y = 9 then (if x = -1 then 0 else a 4 x.toNatClampNeg) else sbw a S x y.toNatClampNeg) else -1002) else -1001)) ∧ w = fm_w bd ty a g n) := by
  refine fc_start (own := RX6) (cc := cX6_sets) (maxL := 3) (ret := (some .int)) (by decide) rfl (Nat.le_of_ble_eq_true rfl) rfl ?_
  intro p e s m args below meth c Q A C hmn E9
  obtain ⟨hn0, hP, hn2, hT, hn4, hS, hn5, hB, yWho, ySort, yQ, yN, yD, yL⟩ := id I
  have kL176 : Cond.constantLong RX6 176 (9) ∈ wsX6_sets := ptX6_sets_woX6_sets _ (by decide +kernel)
  have iX6 : ∀ w ∈ u_ws RX6 TX6 44, w ∈ wsX6_sets := ptX6_sets_wsX60
  have kX6_26 : Cond.fieldLink RX6 26 "FreeLandModel" "lawDays" "[I" ∈ wsX6_sets := ptX6_sets_woX6_sets _ (by decide +kernel)
  have kX6_158 : Cond.fieldLink RX6 158 "FreeLandModel" "laws" "I" ∈ wsX6_sets := ptX6_sets_woX6_sets _ (by decide +kernel)
  refine fj_lv (lv' := [(0, .ref (bd 0)), (1, .int x), (2, .int y)]) [0, 1, 2] rfl ?_
  refine fj_iload_n C 1 dX6_sets_0 rfl rfl ?_
  refine fj_iconst (v := (-1)) C dX6_sets_1 (by decide) ?_
  refine fj_icmp_eq (tgt := 25) C dX6_sets_2 (by decide) (fun h2 => ?_) (fun h2 => ?_)
  · have hx : x = -1 ∨ ib x S := by first | exact Or.inl h2 | exact Or.inr ((ib_m1 (show S < 2 ^ 30 by omega)).mp h18)
    refine fj_iload_n C 2 dX6_sets_25 rfl rfl ?_
    refine fj_i2l C dX6_sets_26 ?_
    refine fj_lconst (v := 0) C dX6_sets_27 (by decide) ?_
    refine fj_ldc2 (v := 9) C dX6_sets_28 kL176 ?_
    refine fj_callSw (As := [.long y.toInt64, .long 0, .long 9]) (rest := []) C (d_X6_inI l D ty t0 (fm_w bd ty a g n) y 0 9 0 9 (by decide) (by decide)) (va_cwS 3 C.2.2.2.2.1 gX6_sets_X6_in rfl rfl rfl (by decide +kernel) ⟨Nat.le_of_ble_eq_true rfl, Nat.le_of_ble_eq_true rfl⟩)  rfl (Nat.le_of_ble_eq_true rfl) dX6_sets_31 ⟨Nat.zero_le _, Nat.zero_le _⟩ (fun v9 w9 hp9 => ?_)
    obtain ⟨rfl, rfl⟩ := hp9
    refine fj_st (st' := .int (if (0 ≤ y ∧ y ≤ 9) then 1 else 0) :: []) rfl ?_
    refine fj_ifb_ne (tgt := 41) C dX6_sets_34 (by decide) (fun h34 => ?_) (fun h34 => ?_)
    · obtain ⟨q, hq, rfl⟩ := fx_le8 h34 (N := 9) rfl (by decide)
      refine fj_iload_n C 2 dX6_sets_41 rfl rfl ?_
      refine fj_bipush (v := 9) C dX6_sets_42 (by decide) ?_
      refine fj_icmp_ge (tgt := 56) C dX6_sets_44 (by decide) (fun h44 => ?_) (fun h44 => ?_)
      · have hq9 : q = 9 := Nat.le_antisymm hq ((nI_leI (a := 9) (by decide) (by omega)).mp h44)
        subst hq9
        refine fj_iload_n C 1 dX6_sets_56 rfl rfl ?_
        refine fj_if_ge (tgt := 64) C dX6_sets_57 (by decide) (fun h57 => ?_) (fun h57 => ?_)
        · obtain ⟨j, hj, rfl⟩ := YL_neg (ib_YL hx (by omega)) (by omega) h57
          refine fj_aload_n C 0 dX6_sets_64 rfl rfl ?_
          refine fj_get (Cn := RX6) (T := TX6) (N := 44) (ci := 6) (v := .ref (bd 4)) C iX6 0 (fm_at0 _ _ _ _ _) rfl 8 (by decide) kX6_26 rfl dX6_sets_65 ?_
          refine fj_iload_n C 1 dX6_sets_68 rfl rfl ?_
          refine fj_iald (f := (a 4)) C 4 (fm_at4 _ _ _ _ _) (vp_in_nI (by omega) (by decide)) dX6_sets_69 ?_
          exact fj_iret C E9 dX6_sets_70 ⟨by first | (rw [if_pos hx, if_pos h34, if_neg hn9, nI_clamp (by omega)]; done) | (rw [if_pos hx, if_pos h34, if_pos (show nI 9 = 9 from rfl), if_pos hx1]; done) | (rw [if_pos hx, if_pos h34, if_pos (show nI 9 = 9 from rfl), if_neg (nI_m1 (by omega))]; done), rfl⟩
        · have hx1 : x = -1 := (ib_YL hx (by omega)).resolve_right (fun ⟨j, hj, e⟩ => h57 (by rw [e]; exact Int32.not_lt.mp (nI_nneg (by omega))))
          refine fj_iconst (v := 0) C dX6_sets_60 (by decide) ?_
          refine fj_goto (tgt := 70) C dX6_sets_61 (by decide) ?_
          exact fj_iret C E9 dX6_sets_70 ⟨by first | (rw [if_pos hx, if_pos h34, if_neg hn9, nI_clamp (by omega)]; done) | (rw [if_pos hx, if_pos h34, if_pos (show nI 9 = 9 from rfl), if_pos hx1]; done) | (rw [if_pos hx, if_pos h34, if_pos (show nI 9 = 9 from rfl), if_neg (nI_m1 (by omega))]; done), rfl⟩
      · have hq9 : q < 9 := Nat.lt_of_not_le fun z => h44 ((nI_leI (a := 9) (by decide) (by omega)).mpr z)
        have hn9 : ¬ nI q = 9 := fun e => absurd (fx_eqI (b := 9) e (by omega) (by decide)) (by omega)
        refine fj_aload_n C 0 dX6_sets_47 rfl rfl ?_
        refine fj_iload_n C 1 dX6_sets_48 rfl rfl ?_
        refine fj_iload_n C 2 dX6_sets_49 rfl rfl ?_
        refine fj_callVw (As := [.int x, .int (nI q)]) (rest := []) C (d_X6_setBy l D ty t0 bd a g n P S T B I x (nI q) (ib_YL hx (by omega)) q rfl hq9) (cwV 2 C.2.2.2.2.1 gX6_sets_X6_setBy rfl rfl rfl (by decide +kernel) ⟨Nat.le_of_ble_eq_true rfl, Nat.le_of_ble_eq_true rfl⟩) ⟨0, 6, _, _, fm_at0 _ _ _ _ _, rfl, rfl⟩ rfl (Nat.le_of_ble_eq_true rfl) dX6_sets_50 ⟨Nat.zero_le _, Nat.zero_le _⟩ (fun v9 w9 hp9 => ?_)
        obtain ⟨rfl, rfl⟩ := hp9
        refine fj_st (st' := .int (sbw a S x q) :: []) rfl ?_
        refine fj_goto (tgt := 70) C dX6_sets_53 (by decide) ?_
        exact fj_iret C E9 dX6_sets_70 ⟨by first | (rw [if_pos hx, if_pos h34, if_neg hn9, nI_clamp (by omega)]; done) | (rw [if_pos hx, if_pos h34, if_pos (show nI 9 = 9 from rfl), if_pos hx1]; done) | (rw [if_pos hx, if_pos h34, if_pos (show nI 9 = 9 from rfl), if_neg (nI_m1 (by omega))]; done), rfl⟩
    · refine fj_sipush (v := (-1002)) C dX6_sets_37 (by decide) ?_
      exact fj_iret C E9 dX6_sets_40 ⟨by rw [if_pos hx, if_neg h34], rfl⟩
  · refine fj_iload_n C 1 dX6_sets_5 rfl rfl ?_
    refine fj_i2l C dX6_sets_6 ?_
    refine fj_lconst (v := 0) C dX6_sets_7 (by decide) ?_
    refine fj_aload_n C 0 dX6_sets_8 rfl rfl ?_
    refine fj_get (Cn := RX6) (T := TX6) (N := 44) (ci := 6) (v := .int (n 4)) C iX6 0 (fm_at0 _ _ _ _ _) rfl 7 (by decide) kX6_158 rfl dX6_sets_9 ?_
    refine fj_at (y := nI S) hn4 ?_
    refine fj_iconst (v := 1) C dX6_sets_12 (by decide) ?_
    refine fj_isub C dX6_sets_13 ?_
    refine fj_i2l C dX6_sets_14 ?_
    refine fj_callSw (As := [.long x.toInt64, .long 0, .long (((nI S) - 1).toInt64)]) (rest := []) C (d_X6_inI l D ty t0 (fm_w bd ty a g n) x 0 ((nI S) - 1) 0 (((nI S) - 1).toInt64) (by decide) rfl) (va_cwS 3 C.2.2.2.2.1 gX6_sets_X6_in rfl rfl rfl (by decide +kernel) ⟨Nat.le_of_ble_eq_true rfl, Nat.le_of_ble_eq_true rfl⟩)  rfl (Nat.le_of_ble_eq_true rfl) dX6_sets_15 ⟨Nat.zero_le _, Nat.zero_le _⟩ (fun v9 w9 hp9 => ?_)
    obtain ⟨rfl, rfl⟩ := hp9
    refine fj_st (st' := .int (if (0 ≤ x ∧ x ≤ ((nI S) - 1)) then 1 else 0) :: []) rfl ?_
    refine fj_ifb_ne (tgt := 25) C dX6_sets_18 (by decide) (fun h18 => ?_) (fun h18 => ?_)
    · have hx : x = -1 ∨ ib x S := by first | exact Or.inl h2 | exact Or.inr ((ib_m1 (show S < 2 ^ 30 by omega)).mp h18)
      refine fj_iload_n C 2 dX6_sets_25 rfl rfl ?_
      refine fj_i2l C dX6_sets_26 ?_
      refine fj_lconst (v := 0) C dX6_sets_27 (by decide) ?_
      refine fj_ldc2 (v := 9) C dX6_sets_28 kL176 ?_
      refine fj_callSw (As := [.long y.toInt64, .long 0, .long 9]) (rest := []) C (d_X6_inI l D ty t0 (fm_w bd ty a g n) y 0 9 0 9 (by decide) (by decide)) (va_cwS 3 C.2.2.2.2.1 gX6_sets_X6_in rfl rfl rfl (by decide +kernel) ⟨Nat.le_of_ble_eq_true rfl, Nat.le_of_ble_eq_true rfl⟩)  rfl (Nat.le_of_ble_eq_true rfl) dX6_sets_31 ⟨Nat.zero_le _, Nat.zero_le _⟩ (fun v9 w9 hp9 => ?_)
      obtain ⟨rfl, rfl⟩ := hp9
      refine fj_st (st' := .int (if (0 ≤ y ∧ y ≤ 9) then 1 else 0) :: []) rfl ?_
      refine fj_ifb_ne (tgt := 41) C dX6_sets_34 (by decide) (fun h34 => ?_) (fun h34 => ?_)
      · obtain ⟨q, hq, rfl⟩ := fx_le8 h34 (N := 9) rfl (by decide)
        refine fj_iload_n C 2 dX6_sets_41 rfl rfl ?_
        refine fj_bipush (v := 9) C dX6_sets_42 (by decide) ?_
        refine fj_icmp_ge (tgt := 56) C dX6_sets_44 (by decide) (fun h44 => ?_) (fun h44 => ?_)
        · have hq9 : q = 9 := Nat.le_antisymm hq ((nI_leI (a := 9) (by decide) (by omega)).mp h44)
          subst hq9
          refine fj_iload_n C 1 dX6_sets_56 rfl rfl ?_
          refine fj_if_ge (tgt := 64) C dX6_sets_57 (by decide) (fun h57 => ?_) (fun h57 => ?_)
          · obtain ⟨j, hj, rfl⟩ := YL_neg (ib_YL hx (by omega)) (by omega) h57
            refine fj_aload_n C 0 dX6_sets_64 rfl rfl ?_
            refine fj_get (Cn := RX6) (T := TX6) (N := 44) (ci := 6) (v := .ref (bd 4)) C iX6 0 (fm_at0 _ _ _ _ _) rfl 8 (by decide) kX6_26 rfl dX6_sets_65 ?_
            refine fj_iload_n C 1 dX6_sets_68 rfl rfl ?_
            refine fj_iald (f := (a 4)) C 4 (fm_at4 _ _ _ _ _) (vp_in_nI (by omega) (by decide)) dX6_sets_69 ?_
            exact fj_iret C E9 dX6_sets_70 ⟨by first | (rw [if_pos hx, if_pos h34, if_neg hn9, nI_clamp (by omega)]; done) | (rw [if_pos hx, if_pos h34, if_pos (show nI 9 = 9 from rfl), if_pos hx1]; done) | (rw [if_pos hx, if_pos h34, if_pos (show nI 9 = 9 from rfl), if_neg (nI_m1 (by omega))]; done), rfl⟩
          · have hx1 : x = -1 := (ib_YL hx (by omega)).resolve_right (fun ⟨j, hj, e⟩ => h57 (by rw [e]; exact Int32.not_lt.mp (nI_nneg (by omega))))
            refine fj_iconst (v := 0) C dX6_sets_60 (by decide) ?_
            refine fj_goto (tgt := 70) C dX6_sets_61 (by decide) ?_
            exact fj_iret C E9 dX6_sets_70 ⟨by first | (rw [if_pos hx, if_pos h34, if_neg hn9, nI_clamp (by omega)]; done) | (rw [if_pos hx, if_pos h34, if_pos (show nI 9 = 9 from rfl), if_pos hx1]; done) | (rw [if_pos hx, if_pos h34, if_pos (show nI 9 = 9 from rfl), if_neg (nI_m1 (by omega))]; done), rfl⟩
        · have hq9 : q < 9 := Nat.lt_of_not_le fun z => h44 ((nI_leI (a := 9) (by decide) (by omega)).mpr z)
          have hn9 : ¬ nI q = 9 := fun e => absurd (fx_eqI (b := 9) e (by omega) (by decide)) (by omega)
          refine fj_aload_n C 0 dX6_sets_47 rfl rfl ?_
          refine fj_iload_n C 1 dX6_sets_48 rfl rfl ?_
          refine fj_iload_n C 2 dX6_sets_49 rfl rfl ?_
          refine fj_callVw (As := [.int x, .int (nI q)]) (rest := []) C (d_X6_setBy l D ty t0 bd a g n P S T B I x (nI q) (ib_YL hx (by omega)) q rfl hq9) (cwV 2 C.2.2.2.2.1 gX6_sets_X6_setBy rfl rfl rfl (by decide +kernel) ⟨Nat.le_of_ble_eq_true rfl, Nat.le_of_ble_eq_true rfl⟩) ⟨0, 6, _, _, fm_at0 _ _ _ _ _, rfl, rfl⟩ rfl (Nat.le_of_ble_eq_true rfl) dX6_sets_50 ⟨Nat.zero_le _, Nat.zero_le _⟩ (fun v9 w9 hp9 => ?_)
          obtain ⟨rfl, rfl⟩ := hp9
          refine fj_st (st' := .int (sbw a S x q) :: []) rfl ?_
          refine fj_goto (tgt := 70) C dX6_sets_53 (by decide) ?_
          exact fj_iret C E9 dX6_sets_70 ⟨by first | (rw [if_pos hx, if_pos h34, if_neg hn9, nI_clamp (by omega)]; done) | (rw [if_pos hx, if_pos h34, if_pos (show nI 9 = 9 from rfl), if_pos hx1]; done) | (rw [if_pos hx, if_pos h34, if_pos (show nI 9 = 9 from rfl), if_neg (nI_m1 (by omega))]; done), rfl⟩
      · refine fj_sipush (v := (-1002)) C dX6_sets_37 (by decide) ?_
        exact fj_iret C E9 dX6_sets_40 ⟨by rw [if_pos hx, if_neg h34], rfl⟩
    · refine fj_sipush (v := (-1001)) C dX6_sets_21 (by decide) ?_
      exact fj_iret C E9 dX6_sets_24 ⟨by rw [if_neg (fun z => z.elim h2 (fun z => h18 ((ib_m1 (show S < 2 ^ 30 by omega)).mpr z)))], rfl⟩

set_option maxHeartbeats 4000000 in
set_option maxRecDepth 100000 in
theorem d_X6_wordAt (l : Launch) (D : va_G) (ty : Nat → ClassId) (t0 : Nat → Nat) (bd : Nat → Nat) (a : Nat → Nat → Int32) (g : Nat → Nat → Int64) (n : Nat → Int32)  (x : Int32) (y : Int32) (T : Nat) (hT : T ≤ 120) (k : Nat) (z : Nat) (ek : x = nI k) (ez : y = nI z) (hkz : k ≤ z) (hz : z ≤ T) : fc l yX6_wordAt wsX6_wordAt (fj_rm 1 25 0 0) D ty t0 [.ref (bd 0), .int x, .int y] (fm_w bd ty a g n) 0 0 (fun v w => ∃ r, MDR (a 3) (g 7) k z r ∧ v = some (.int r) ∧ w = fm_w bd ty a g n) := by
  subst ek ez
  refine fc_start (own := RX6) (cc := cX6_wordAt) (maxL := 8) (ret := (some .int)) (by decide) rfl (Nat.le_of_ble_eq_true rfl) rfl ?_
  intro p e s m args below meth c Q A C hmn E9
  have iX6 : ∀ w ∈ u_ws RX6 TX6 44, w ∈ wsX6_wordAt := ptX6_wordAt_wsX60
  have kX6_35 : Cond.fieldLink RX6 35 "FreeLandModel" "words" "[J" ∈ wsX6_wordAt := ptX6_wordAt_woX6_wordAt _ (by decide +kernel)
  have kX6_20 : Cond.fieldLink RX6 20 "FreeLandModel" "text" "[I" ∈ wsX6_wordAt := ptX6_wordAt_woX6_wordAt _ (by decide +kernel)
  have kL150 : Cond.constantLong RX6 150 (97) ∈ wsX6_wordAt := ptX6_wordAt_woX6_wordAt _ (by decide +kernel)
  have kL152 : Cond.constantLong RX6 152 (122) ∈ wsX6_wordAt := ptX6_wordAt_woX6_wordAt _ (by decide +kernel)
  refine fj_lv (lv' := [(0, .ref (bd 0)), (1, .int (nI k)), (2, .int (nI z))]) [0, 1, 2] rfl ?_
  refine fj_lconst (v := 0) C dX6_wordAt_0 (by decide) ?_
  refine fj_lstore_n (lv' := [(3, .long 0), (0, .ref (bd 0)), (1, .int (nI k)), (2, .int (nI z))]) C dX6_wordAt_1 rfl (by decide) rfl ?_
  refine fj_iload_n C 3 dX6_wordAt_2 rfl rfl ?_
  refine fj_iload_n C 2 dX6_wordAt_3 rfl rfl ?_
  refine fj_isub C dX6_wordAt_4 ?_
  refine fj_at (y := nI (z - k)) (pk_sub hkz) ?_
  refine fj_bipush (v := 7) C dX6_wordAt_5 (by decide) ?_
  refine fj_icmp_ge (tgt := 14) C dX6_wordAt_7 (by decide) (fun h7 => ?_) (fun h7 => ?_)
  · have h7z : ¬ z - k < 7 := Nat.not_lt.mpr ((nI_leI (a := 7) (by decide) (by omega)).mp h7)
    refine fj_iconst (v := 0) C dX6_wordAt_14 (by decide) ?_
    refine fj_istore (lv' := [(5, .int 0), (3, .long 0), (0, .ref (bd 0)), (1, .int (nI k)), (2, .int (nI z))]) C dX6_wordAt_15 (by decide) rfl ?_
    refine fj_iload_n C 3 dX6_wordAt_17 rfl rfl ?_
    refine fj_istore (lv' := [(6, .int (nI k)), (5, .int 0), (3, .long 0), (0, .ref (bd 0)), (1, .int (nI k)), (2, .int (nI z))]) C dX6_wordAt_18 (by decide) rfl ?_
    refine fj_lv (lv' := [(0, .ref (bd 0)), (1, .int (nI k)), (2, .int (nI z)), (3, .long 0), (5, .int 0), (6, .int (nI k))]) [3, 4, 5, 2, 1, 0] rfl ?_
    have lp20 : ∀ (d : Nat) (u9 : Int64) (ltr : Int32), (k + d ≤ z) → (wdw (a 3) k d = u9) → ((ltr = 1 ∧ z - k < 7 ∧ ∀ j, j < d → 97 ≤ a 3 (k + j) ∧ a 3 (k + j) ≤ 122) ∨ (ltr = 0 ∧ ¬ LTR (a 3) k z)) → fj p l e (fj_rm 1 25 0 0) s m args below meth c Q A D 8 0 0 (fm_w bd ty a g n) [(0, .ref (bd 0)), (1, .int (nI k)), (2, .int (nI z)), (3, .long u9), (5, .int ltr), (6, .int (nI (k + d)))] 20 [] := by
      have key : ∀ zz : Nat × Int64 × Int32, (fun (zz : Nat × Int64 × Int32) => match zz with | (d, u9, ltr) => (k + d ≤ z) → (wdw (a 3) k d = u9) → ((ltr = 1 ∧ z - k < 7 ∧ ∀ j, j < d → 97 ≤ a 3 (k + j) ∧ a 3 (k + j) ≤ 122) ∨ (ltr = 0 ∧ ¬ LTR (a 3) k z)) → fj p l e (fj_rm 1 25 0 0) s m args below meth c Q A D 8 0 0 (fm_w bd ty a g n) [(0, .ref (bd 0)), (1, .int (nI k)), (2, .int (nI z)), (3, .long u9), (5, .int ltr), (6, .int (nI (k + d)))] 20 []) zz := by
        refine fx_ind (fun (zz : Nat × Int64 × Int32) => match zz with | (d, u9, ltr) => z - (k + d)) _ ?_
        rintro ⟨d, u9, ltr⟩ ih hd hu hl
        refine fj_iload C 5 dX6_wordAt_20 rfl ?_
        refine fj_iload_n C 2 dX6_wordAt_22 rfl rfl ?_
        refine fj_icmp_ge (tgt := 70) C dX6_wordAt_23 (by decide) (fun h23 => ?_) (fun h23 => ?_)
        · have hge : z ≤ k + d := Nat.le_of_not_lt fun q => absurd (Int32.not_lt.mpr h23) (not_not_intro ((nI_ltI (by omega) (by omega)).mpr q))
          have hfin : (ltr = 1 ∧ LTR (a 3) k z ∧ u9 = wdw (a 3) k (z - k)) ∨ (ltr = 0 ∧ ¬ LTR (a 3) k z) := by first | exact hl.imp (fun q => ⟨q.1, ⟨q.2.1, fun j h9 => q.2.2 j (by omega)⟩, by rw [← hu, show d = z - k by omega]⟩) id | exact hl.imp (fun q => absurd h28 (by rw [q.1]; decide)) id
          refine fj_iconst (v := (-1)) C dX6_wordAt_70 (by decide) ?_
          refine fj_istore (lv' := [(6, .int (-1)), (0, .ref (bd 0)), (1, .int (nI k)), (2, .int (nI z)), (3, .long u9), (5, .int ltr)]) C dX6_wordAt_71 (by decide) rfl ?_
          refine fj_iconst (v := 0) C dX6_wordAt_73 (by decide) ?_
          refine fj_istore (lv' := [(7, .int 0), (6, .int (-1)), (0, .ref (bd 0)), (1, .int (nI k)), (2, .int (nI z)), (3, .long u9), (5, .int ltr)]) C dX6_wordAt_74 (by decide) rfl ?_
          refine fj_lv (lv' := [(0, .ref (bd 0)), (1, .int (nI k)), (2, .int (nI z)), (3, .long u9), (5, .int ltr), (6, .int (-1)), (7, .int 0)]) [2, 3, 4, 5, 6, 1, 0] rfl ?_
          have lp76 : ∀ (i : Nat) (r9 : Int32), (i ≤ 9) → ((ltr = 1 → r9 = fo (g 7) u9 i) ∧ (ltr = 0 → r9 = -1)) → fj p l e (fj_rm 1 25 0 0) s m args below meth c Q A D 8 0 0 (fm_w bd ty a g n) [(0, .ref (bd 0)), (1, .int (nI k)), (2, .int (nI z)), (3, .long u9), (5, .int ltr), (6, .int r9), (7, .int (nI i))] 76 [] := by
            have key : ∀ zz : Nat × Int32, (fun (zz : Nat × Int32) => match zz with | (i, r9) => (i ≤ 9) → ((ltr = 1 → r9 = fo (g 7) u9 i) ∧ (ltr = 0 → r9 = -1)) → fj p l e (fj_rm 1 25 0 0) s m args below meth c Q A D 8 0 0 (fm_w bd ty a g n) [(0, .ref (bd 0)), (1, .int (nI k)), (2, .int (nI z)), (3, .long u9), (5, .int ltr), (6, .int r9), (7, .int (nI i))] 76 []) zz := by
              refine fx_ind (fun (zz : Nat × Int32) => match zz with | (i, r9) => 9 - i) _ ?_
              rintro ⟨i, r9⟩ ih hi9 hf
              refine fj_iload C 6 dX6_wordAt_76 rfl ?_
              refine fj_bipush (v := 9) C dX6_wordAt_78 (by decide) ?_
              refine fj_icmp_ge (tgt := 115) C dX6_wordAt_80 (by decide) (fun h80 => ?_) (fun h80 => ?_)
              · obtain rfl : i = 9 := by have := (nI_leI (a := 9) (by decide) (by omega)).mp h80; omega
                refine fj_iload C 5 dX6_wordAt_115 rfl ?_
                exact fj_iret C E9 dX6_wordAt_117 ⟨_, (by first | exact hfin.imp (fun q => ⟨q.2.1, by rw [← q.2.2]; exact hf.1 q.1⟩) (fun q => ⟨q.2, hf.2 q.1⟩) | exact hfin.imp (fun q => absurd h85 (by rw [q.1]; decide)) (fun q => ⟨q.2, hf.2 q.1⟩)), rfl, rfl⟩
              · have hlt9 : i < 9 := Nat.lt_of_not_le fun q => h80 ((nI_leI (a := 9) (by decide) (by omega)).mpr q)
                refine fj_iload C 4 dX6_wordAt_83 rfl ?_
                refine fj_if_eq (tgt := 115) C dX6_wordAt_85 (by decide) (fun h85 => ?_) (fun h85 => ?_)
                · refine fj_iload C 5 dX6_wordAt_115 rfl ?_
                  exact fj_iret C E9 dX6_wordAt_117 ⟨_, (by first | exact hfin.imp (fun q => ⟨q.2.1, by rw [← q.2.2]; exact hf.1 q.1⟩) (fun q => ⟨q.2, hf.2 q.1⟩) | exact hfin.imp (fun q => absurd h85 (by rw [q.1]; decide)) (fun q => ⟨q.2, hf.2 q.1⟩)), rfl, rfl⟩
                · refine fj_aload_n C 0 dX6_wordAt_88 rfl rfl ?_
                  refine fj_get (Cn := RX6) (T := TX6) (N := 44) (ci := 6) (v := .ref (bd 7)) C iX6 0 (fm_at0 _ _ _ _ _) rfl 11 (by decide) kX6_35 rfl dX6_wordAt_89 ?_
                  refine fj_iload C 6 dX6_wordAt_92 rfl ?_
                  refine fj_lald (f := (g 7)) C 7 (fm_at7 _ _ _ _ _) (vp_in_nI (by omega) (by decide)) dX6_wordAt_94 ?_
                  refine fj_st (st' := [.long (g 7 i)]) (by rw [nI_clamp (by omega)]) ?_
                  refine fj_lload_n C 3 dX6_wordAt_95 rfl rfl ?_
                  refine fj_lcmp C dX6_wordAt_96 ?_
                  refine fj_if_ne (tgt := 105) C dX6_wordAt_97 (by decide) (fun h97 => ?_) (fun h97 => ?_)
                  · have h97 := fun q => h97 ((lg_cmp_eq _ _).mpr q)
                    refine fj_iload C 5 dX6_wordAt_105 rfl ?_
                    refine fj_istore (lv' := [(6, .int r9), (0, .ref (bd 0)), (1, .int (nI k)), (2, .int (nI z)), (3, .long u9), (5, .int ltr), (7, .int (nI i))]) C dX6_wordAt_107 (by decide) rfl ?_
                    refine fj_iinc (v := nI (i + 1)) (lv' := [(7, .int (nI (i + 1))), (6, .int r9), (0, .ref (bd 0)), (1, .int (nI k)), (2, .int (nI z)), (3, .long u9), (5, .int ltr)]) C 6 dX6_wordAt_109 rfl (nI_1 i) (by decide) rfl ?_
                    refine fj_goto (tgt := 76) C dX6_wordAt_112 (by decide) ?_
                    refine fj_lv (lv' := [(0, .ref (bd 0)), (1, .int (nI k)), (2, .int (nI z)), (3, .long u9), (5, .int ltr), (6, .int r9), (7, .int (nI (i + 1)))]) [2, 3, 4, 5, 6, 1, 0] rfl ?_
                    exact ih ⟨i + 1, r9⟩ (by show 9 - (i + 1) < 9 - i; omega) (by omega) (by first | exact ⟨fun _ => by rw [fo, if_pos h97], fun e9 => absurd e9 h85⟩ | exact ⟨fun e9 => by rw [fo, if_neg h97]; exact hf.1 e9, fun e9 => absurd e9 h85⟩)
                  · have h97 := (lg_cmp_eq _ _).mp h97
                    refine fj_iload C 6 dX6_wordAt_100 rfl ?_
                    refine fj_goto (tgt := 107) C dX6_wordAt_102 (by decide) ?_
                    refine fj_istore (lv' := [(6, .int (nI i)), (0, .ref (bd 0)), (1, .int (nI k)), (2, .int (nI z)), (3, .long u9), (5, .int ltr), (7, .int (nI i))]) C dX6_wordAt_107 (by decide) rfl ?_
                    refine fj_iinc (v := nI (i + 1)) (lv' := [(7, .int (nI (i + 1))), (6, .int (nI i)), (0, .ref (bd 0)), (1, .int (nI k)), (2, .int (nI z)), (3, .long u9), (5, .int ltr)]) C 6 dX6_wordAt_109 rfl (nI_1 i) (by decide) rfl ?_
                    refine fj_goto (tgt := 76) C dX6_wordAt_112 (by decide) ?_
                    refine fj_lv (lv' := [(0, .ref (bd 0)), (1, .int (nI k)), (2, .int (nI z)), (3, .long u9), (5, .int ltr), (6, .int (nI i)), (7, .int (nI (i + 1)))]) [2, 3, 4, 5, 6, 1, 0] rfl ?_
                    exact ih ⟨i + 1, nI i⟩ (by show 9 - (i + 1) < 9 - i; omega) (by omega) (by first | exact ⟨fun _ => by rw [fo, if_pos h97], fun e9 => absurd e9 h85⟩ | exact ⟨fun e9 => by rw [fo, if_neg h97]; exact hf.1 e9, fun e9 => absurd e9 h85⟩)
            intro i r9
            exact key ⟨i, r9⟩
          exact lp76 0 (-1) (Nat.zero_le _) (⟨fun _ => rfl, fun _ => rfl⟩)
        · have hlt : k + d < z := (nI_ltI (by omega) (by omega)).mp (Int32.not_le.mp h23)
          refine fj_iload C 4 dX6_wordAt_26 rfl ?_
          refine fj_if_eq (tgt := 70) C dX6_wordAt_28 (by decide) (fun h28 => ?_) (fun h28 => ?_)
          · have hfin : (ltr = 1 ∧ LTR (a 3) k z ∧ u9 = wdw (a 3) k (z - k)) ∨ (ltr = 0 ∧ ¬ LTR (a 3) k z) := by first | exact hl.imp (fun q => ⟨q.1, ⟨q.2.1, fun j h9 => q.2.2 j (by omega)⟩, by rw [← hu, show d = z - k by omega]⟩) id | exact hl.imp (fun q => absurd h28 (by rw [q.1]; decide)) id
            refine fj_iconst (v := (-1)) C dX6_wordAt_70 (by decide) ?_
            refine fj_istore (lv' := [(6, .int (-1)), (0, .ref (bd 0)), (1, .int (nI k)), (2, .int (nI z)), (3, .long u9), (5, .int ltr)]) C dX6_wordAt_71 (by decide) rfl ?_
            refine fj_iconst (v := 0) C dX6_wordAt_73 (by decide) ?_
            refine fj_istore (lv' := [(7, .int 0), (6, .int (-1)), (0, .ref (bd 0)), (1, .int (nI k)), (2, .int (nI z)), (3, .long u9), (5, .int ltr)]) C dX6_wordAt_74 (by decide) rfl ?_
            refine fj_lv (lv' := [(0, .ref (bd 0)), (1, .int (nI k)), (2, .int (nI z)), (3, .long u9), (5, .int ltr), (6, .int (-1)), (7, .int 0)]) [2, 3, 4, 5, 6, 1, 0] rfl ?_
            have lp76 : ∀ (i : Nat) (r9 : Int32), (i ≤ 9) → ((ltr = 1 → r9 = fo (g 7) u9 i) ∧ (ltr = 0 → r9 = -1)) → fj p l e (fj_rm 1 25 0 0) s m args below meth c Q A D 8 0 0 (fm_w bd ty a g n) [(0, .ref (bd 0)), (1, .int (nI k)), (2, .int (nI z)), (3, .long u9), (5, .int ltr), (6, .int r9), (7, .int (nI i))] 76 [] := by
              have key : ∀ zz : Nat × Int32, (fun (zz : Nat × Int32) => match zz with | (i, r9) => (i ≤ 9) → ((ltr = 1 → r9 = fo (g 7) u9 i) ∧ (ltr = 0 → r9 = -1)) → fj p l e (fj_rm 1 25 0 0) s m args below meth c Q A D 8 0 0 (fm_w bd ty a g n) [(0, .ref (bd 0)), (1, .int (nI k)), (2, .int (nI z)), (3, .long u9), (5, .int ltr), (6, .int r9), (7, .int (nI i))] 76 []) zz := by
                refine fx_ind (fun (zz : Nat × Int32) => match zz with | (i, r9) => 9 - i) _ ?_
                rintro ⟨i, r9⟩ ih hi9 hf
                refine fj_iload C 6 dX6_wordAt_76 rfl ?_
                refine fj_bipush (v := 9) C dX6_wordAt_78 (by decide) ?_
                refine fj_icmp_ge (tgt := 115) C dX6_wordAt_80 (by decide) (fun h80 => ?_) (fun h80 => ?_)
                · obtain rfl : i = 9 := by have := (nI_leI (a := 9) (by decide) (by omega)).mp h80; omega
                  refine fj_iload C 5 dX6_wordAt_115 rfl ?_
                  exact fj_iret C E9 dX6_wordAt_117 ⟨_, (by first | exact hfin.imp (fun q => ⟨q.2.1, by rw [← q.2.2]; exact hf.1 q.1⟩) (fun q => ⟨q.2, hf.2 q.1⟩) | exact hfin.imp (fun q => absurd h85 (by rw [q.1]; decide)) (fun q => ⟨q.2, hf.2 q.1⟩)), rfl, rfl⟩
                · have hlt9 : i < 9 := Nat.lt_of_not_le fun q => h80 ((nI_leI (a := 9) (by decide) (by omega)).mpr q)
                  refine fj_iload C 4 dX6_wordAt_83 rfl ?_
                  refine fj_if_eq (tgt := 115) C dX6_wordAt_85 (by decide) (fun h85 => ?_) (fun h85 => ?_)
                  · refine fj_iload C 5 dX6_wordAt_115 rfl ?_
                    exact fj_iret C E9 dX6_wordAt_117 ⟨_, (by first | exact hfin.imp (fun q => ⟨q.2.1, by rw [← q.2.2]; exact hf.1 q.1⟩) (fun q => ⟨q.2, hf.2 q.1⟩) | exact hfin.imp (fun q => absurd h85 (by rw [q.1]; decide)) (fun q => ⟨q.2, hf.2 q.1⟩)), rfl, rfl⟩
                  · refine fj_aload_n C 0 dX6_wordAt_88 rfl rfl ?_
                    refine fj_get (Cn := RX6) (T := TX6) (N := 44) (ci := 6) (v := .ref (bd 7)) C iX6 0 (fm_at0 _ _ _ _ _) rfl 11 (by decide) kX6_35 rfl dX6_wordAt_89 ?_
                    refine fj_iload C 6 dX6_wordAt_92 rfl ?_
                    refine fj_lald (f := (g 7)) C 7 (fm_at7 _ _ _ _ _) (vp_in_nI (by omega) (by decide)) dX6_wordAt_94 ?_
                    refine fj_st (st' := [.long (g 7 i)]) (by rw [nI_clamp (by omega)]) ?_
                    refine fj_lload_n C 3 dX6_wordAt_95 rfl rfl ?_
                    refine fj_lcmp C dX6_wordAt_96 ?_
                    refine fj_if_ne (tgt := 105) C dX6_wordAt_97 (by decide) (fun h97 => ?_) (fun h97 => ?_)
                    · have h97 := fun q => h97 ((lg_cmp_eq _ _).mpr q)
                      refine fj_iload C 5 dX6_wordAt_105 rfl ?_
                      refine fj_istore (lv' := [(6, .int r9), (0, .ref (bd 0)), (1, .int (nI k)), (2, .int (nI z)), (3, .long u9), (5, .int ltr), (7, .int (nI i))]) C dX6_wordAt_107 (by decide) rfl ?_
                      refine fj_iinc (v := nI (i + 1)) (lv' := [(7, .int (nI (i + 1))), (6, .int r9), (0, .ref (bd 0)), (1, .int (nI k)), (2, .int (nI z)), (3, .long u9), (5, .int ltr)]) C 6 dX6_wordAt_109 rfl (nI_1 i) (by decide) rfl ?_
                      refine fj_goto (tgt := 76) C dX6_wordAt_112 (by decide) ?_
                      refine fj_lv (lv' := [(0, .ref (bd 0)), (1, .int (nI k)), (2, .int (nI z)), (3, .long u9), (5, .int ltr), (6, .int r9), (7, .int (nI (i + 1)))]) [2, 3, 4, 5, 6, 1, 0] rfl ?_
                      exact ih ⟨i + 1, r9⟩ (by show 9 - (i + 1) < 9 - i; omega) (by omega) (by first | exact ⟨fun _ => by rw [fo, if_pos h97], fun e9 => absurd e9 h85⟩ | exact ⟨fun e9 => by rw [fo, if_neg h97]; exact hf.1 e9, fun e9 => absurd e9 h85⟩)
                    · have h97 := (lg_cmp_eq _ _).mp h97
                      refine fj_iload C 6 dX6_wordAt_100 rfl ?_
                      refine fj_goto (tgt := 107) C dX6_wordAt_102 (by decide) ?_
                      refine fj_istore (lv' := [(6, .int (nI i)), (0, .ref (bd 0)), (1, .int (nI k)), (2, .int (nI z)), (3, .long u9), (5, .int ltr), (7, .int (nI i))]) C dX6_wordAt_107 (by decide) rfl ?_
                      refine fj_iinc (v := nI (i + 1)) (lv' := [(7, .int (nI (i + 1))), (6, .int (nI i)), (0, .ref (bd 0)), (1, .int (nI k)), (2, .int (nI z)), (3, .long u9), (5, .int ltr)]) C 6 dX6_wordAt_109 rfl (nI_1 i) (by decide) rfl ?_
                      refine fj_goto (tgt := 76) C dX6_wordAt_112 (by decide) ?_
                      refine fj_lv (lv' := [(0, .ref (bd 0)), (1, .int (nI k)), (2, .int (nI z)), (3, .long u9), (5, .int ltr), (6, .int (nI i)), (7, .int (nI (i + 1)))]) [2, 3, 4, 5, 6, 1, 0] rfl ?_
                      exact ih ⟨i + 1, nI i⟩ (by show 9 - (i + 1) < 9 - i; omega) (by omega) (by first | exact ⟨fun _ => by rw [fo, if_pos h97], fun e9 => absurd e9 h85⟩ | exact ⟨fun e9 => by rw [fo, if_neg h97]; exact hf.1 e9, fun e9 => absurd e9 h85⟩)
              intro i r9
              exact key ⟨i, r9⟩
            exact lp76 0 (-1) (Nat.zero_le _) (⟨fun _ => rfl, fun _ => rfl⟩)
          · refine fj_aload_n C 0 dX6_wordAt_31 rfl rfl ?_
            refine fj_get (Cn := RX6) (T := TX6) (N := 44) (ci := 6) (v := .ref (bd 3)) C iX6 0 (fm_at0 _ _ _ _ _) rfl 4 (by decide) kX6_20 rfl dX6_wordAt_32 ?_
            refine fj_iload C 5 dX6_wordAt_35 rfl ?_
            refine fj_iald (f := (a 3)) C 3 (fm_at3 _ _ _ _ _) (vp_in_nI (by omega) (by decide)) dX6_wordAt_37 ?_
            refine fj_at (y := a 3 (k + d)) (by rw [nI_clamp (by omega)]) ?_
            refine fj_i2l C dX6_wordAt_38 ?_
            refine fj_ldc2 (v := 97) C dX6_wordAt_39 kL150 ?_
            refine fj_ldc2 (v := 122) C dX6_wordAt_42 kL152 ?_
            refine fj_callSw (As := [.long ((a 3 (k + d)).toInt64), .long 97, .long 122]) (rest := []) C (d_X6_inI l D ty t0 (fm_w bd ty a g n) (a 3 (k + d)) 97 122 97 122 (by decide) (by decide)) (va_cwS 3 C.2.2.2.2.1 gX6_wordAt_X6_in rfl rfl rfl (by decide +kernel) ⟨Nat.le_of_ble_eq_true rfl, Nat.le_of_ble_eq_true rfl⟩)  rfl (Nat.le_of_ble_eq_true rfl) dX6_wordAt_45 ⟨Nat.zero_le _, Nat.zero_le _⟩ (fun v9 w9 hp9 => ?_)
            obtain ⟨rfl, rfl⟩ := hp9
            refine fj_st (st' := .int (if (97 ≤ (a 3 (k + d)) ∧ (a 3 (k + d)) ≤ 122) then 1 else 0) :: []) rfl ?_
            refine fj_istore (lv' := [(5, .int (if (97 ≤ (a 3 (k + d)) ∧ (a 3 (k + d)) ≤ 122) then 1 else 0)), (0, .ref (bd 0)), (1, .int (nI k)), (2, .int (nI z)), (3, .long u9), (6, .int (nI (k + d)))]) C dX6_wordAt_48 (by decide) rfl ?_
            refine fj_lload_n C 4 dX6_wordAt_50 rfl rfl ?_
            refine fj_bipush (v := 8) C dX6_wordAt_51 (by decide) ?_
            refine fj_lshl C dX6_wordAt_53 ?_
            refine fj_aload_n C 1 dX6_wordAt_54 rfl rfl ?_
            refine fj_get (Cn := RX6) (T := TX6) (N := 44) (ci := 6) (v := .ref (bd 3)) C iX6 0 (fm_at0 _ _ _ _ _) rfl 4 (by decide) kX6_20 rfl dX6_wordAt_55 ?_
            refine fj_iload C 5 dX6_wordAt_58 rfl ?_
            refine fj_iald (f := (a 3)) C 3 (fm_at3 _ _ _ _ _) (vp_in_nI (by omega) (by decide)) dX6_wordAt_60 ?_
            refine fj_at (y := a 3 (k + d)) (by rw [nI_clamp (by omega)]) ?_
            refine fj_i2l C dX6_wordAt_61 ?_
            refine fj_lor C dX6_wordAt_62 ?_
            refine fj_lstore_n (lv' := [(3, .long ((u9 <<< ((8 : Int32).toInt64 &&& 63)) ||| ((a 3 (k + d)).toInt64))), (5, .int (if (97 ≤ (a 3 (k + d)) ∧ (a 3 (k + d)) ≤ 122) then 1 else 0)), (0, .ref (bd 0)), (1, .int (nI k)), (2, .int (nI z)), (6, .int (nI (k + d)))]) C dX6_wordAt_63 rfl (by decide) rfl ?_
            refine fj_iinc (v := nI (k + (d + 1))) (lv' := [(6, .int (nI (k + (d + 1)))), (3, .long ((u9 <<< ((8 : Int32).toInt64 &&& 63)) ||| ((a 3 (k + d)).toInt64))), (5, .int (if (97 ≤ (a 3 (k + d)) ∧ (a 3 (k + d)) ≤ 122) then 1 else 0)), (0, .ref (bd 0)), (1, .int (nI k)), (2, .int (nI z))]) C 5 dX6_wordAt_64 rfl (nI_1 (k + d)) (by decide) rfl ?_
            refine fj_goto (tgt := 20) C dX6_wordAt_67 (by decide) ?_
            refine fj_lv (lv' := [(0, .ref (bd 0)), (1, .int (nI k)), (2, .int (nI z)), (3, .long ((u9 <<< ((8 : Int32).toInt64 &&& 63)) ||| ((a 3 (k + d)).toInt64))), (5, .int (if (97 ≤ (a 3 (k + d)) ∧ (a 3 (k + d)) ≤ 122) then 1 else 0)), (6, .int (nI (k + (d + 1))))]) [3, 4, 5, 1, 2, 0] rfl ?_
            exact ih ⟨d + 1, (u9 <<< ((8 : Int32).toInt64 &&& 63)) ||| ((a 3 (k + d)).toInt64), if (97 ≤ (a 3 (k + d)) ∧ (a 3 (k + d)) ≤ 122) then 1 else 0⟩ (by show z - (k + (d + 1)) < z - (k + d); omega) (by omega) (by rw [wdw, hu]) (ltr_s hl h28 hlt)
      intro d u9 ltr
      exact key ⟨d, u9, ltr⟩
    exact lp20 0 0 0 (by omega) rfl (by first | exact Or.inl ⟨rfl, h7z, fun _ h9 => absurd h9 (Nat.not_lt_zero _)⟩ | exact Or.inr ⟨rfl, fun q => h7z q.1⟩)
  · have h7z : z - k < 7 := Nat.lt_of_not_le fun q => h7 ((nI_leI (a := 7) (by decide) (by omega)).mpr q)
    refine fj_iconst (v := 1) C dX6_wordAt_10 (by decide) ?_
    refine fj_goto (tgt := 15) C dX6_wordAt_11 (by decide) ?_
    refine fj_istore (lv' := [(5, .int 1), (3, .long 0), (0, .ref (bd 0)), (1, .int (nI k)), (2, .int (nI z))]) C dX6_wordAt_15 (by decide) rfl ?_
    refine fj_iload_n C 3 dX6_wordAt_17 rfl rfl ?_
    refine fj_istore (lv' := [(6, .int (nI k)), (5, .int 1), (3, .long 0), (0, .ref (bd 0)), (1, .int (nI k)), (2, .int (nI z))]) C dX6_wordAt_18 (by decide) rfl ?_
    refine fj_lv (lv' := [(0, .ref (bd 0)), (1, .int (nI k)), (2, .int (nI z)), (3, .long 0), (5, .int 1), (6, .int (nI k))]) [3, 4, 5, 2, 1, 0] rfl ?_
    have lp20 : ∀ (d : Nat) (u9 : Int64) (ltr : Int32), (k + d ≤ z) → (wdw (a 3) k d = u9) → ((ltr = 1 ∧ z - k < 7 ∧ ∀ j, j < d → 97 ≤ a 3 (k + j) ∧ a 3 (k + j) ≤ 122) ∨ (ltr = 0 ∧ ¬ LTR (a 3) k z)) → fj p l e (fj_rm 1 25 0 0) s m args below meth c Q A D 8 0 0 (fm_w bd ty a g n) [(0, .ref (bd 0)), (1, .int (nI k)), (2, .int (nI z)), (3, .long u9), (5, .int ltr), (6, .int (nI (k + d)))] 20 [] := by
      have key : ∀ zz : Nat × Int64 × Int32, (fun (zz : Nat × Int64 × Int32) => match zz with | (d, u9, ltr) => (k + d ≤ z) → (wdw (a 3) k d = u9) → ((ltr = 1 ∧ z - k < 7 ∧ ∀ j, j < d → 97 ≤ a 3 (k + j) ∧ a 3 (k + j) ≤ 122) ∨ (ltr = 0 ∧ ¬ LTR (a 3) k z)) → fj p l e (fj_rm 1 25 0 0) s m args below meth c Q A D 8 0 0 (fm_w bd ty a g n) [(0, .ref (bd 0)), (1, .int (nI k)), (2, .int (nI z)), (3, .long u9), (5, .int ltr), (6, .int (nI (k + d)))] 20 []) zz := by
        refine fx_ind (fun (zz : Nat × Int64 × Int32) => match zz with | (d, u9, ltr) => z - (k + d)) _ ?_
        rintro ⟨d, u9, ltr⟩ ih hd hu hl
        refine fj_iload C 5 dX6_wordAt_20 rfl ?_
        refine fj_iload_n C 2 dX6_wordAt_22 rfl rfl ?_
        refine fj_icmp_ge (tgt := 70) C dX6_wordAt_23 (by decide) (fun h23 => ?_) (fun h23 => ?_)
        · have hge : z ≤ k + d := Nat.le_of_not_lt fun q => absurd (Int32.not_lt.mpr h23) (not_not_intro ((nI_ltI (by omega) (by omega)).mpr q))
          have hfin : (ltr = 1 ∧ LTR (a 3) k z ∧ u9 = wdw (a 3) k (z - k)) ∨ (ltr = 0 ∧ ¬ LTR (a 3) k z) := by first | exact hl.imp (fun q => ⟨q.1, ⟨q.2.1, fun j h9 => q.2.2 j (by omega)⟩, by rw [← hu, show d = z - k by omega]⟩) id | exact hl.imp (fun q => absurd h28 (by rw [q.1]; decide)) id
          refine fj_iconst (v := (-1)) C dX6_wordAt_70 (by decide) ?_
          refine fj_istore (lv' := [(6, .int (-1)), (0, .ref (bd 0)), (1, .int (nI k)), (2, .int (nI z)), (3, .long u9), (5, .int ltr)]) C dX6_wordAt_71 (by decide) rfl ?_
          refine fj_iconst (v := 0) C dX6_wordAt_73 (by decide) ?_
          refine fj_istore (lv' := [(7, .int 0), (6, .int (-1)), (0, .ref (bd 0)), (1, .int (nI k)), (2, .int (nI z)), (3, .long u9), (5, .int ltr)]) C dX6_wordAt_74 (by decide) rfl ?_
          refine fj_lv (lv' := [(0, .ref (bd 0)), (1, .int (nI k)), (2, .int (nI z)), (3, .long u9), (5, .int ltr), (6, .int (-1)), (7, .int 0)]) [2, 3, 4, 5, 6, 1, 0] rfl ?_
          have lp76 : ∀ (i : Nat) (r9 : Int32), (i ≤ 9) → ((ltr = 1 → r9 = fo (g 7) u9 i) ∧ (ltr = 0 → r9 = -1)) → fj p l e (fj_rm 1 25 0 0) s m args below meth c Q A D 8 0 0 (fm_w bd ty a g n) [(0, .ref (bd 0)), (1, .int (nI k)), (2, .int (nI z)), (3, .long u9), (5, .int ltr), (6, .int r9), (7, .int (nI i))] 76 [] := by
            have key : ∀ zz : Nat × Int32, (fun (zz : Nat × Int32) => match zz with | (i, r9) => (i ≤ 9) → ((ltr = 1 → r9 = fo (g 7) u9 i) ∧ (ltr = 0 → r9 = -1)) → fj p l e (fj_rm 1 25 0 0) s m args below meth c Q A D 8 0 0 (fm_w bd ty a g n) [(0, .ref (bd 0)), (1, .int (nI k)), (2, .int (nI z)), (3, .long u9), (5, .int ltr), (6, .int r9), (7, .int (nI i))] 76 []) zz := by
              refine fx_ind (fun (zz : Nat × Int32) => match zz with | (i, r9) => 9 - i) _ ?_
              rintro ⟨i, r9⟩ ih hi9 hf
              refine fj_iload C 6 dX6_wordAt_76 rfl ?_
              refine fj_bipush (v := 9) C dX6_wordAt_78 (by decide) ?_
              refine fj_icmp_ge (tgt := 115) C dX6_wordAt_80 (by decide) (fun h80 => ?_) (fun h80 => ?_)
              · obtain rfl : i = 9 := by have := (nI_leI (a := 9) (by decide) (by omega)).mp h80; omega
                refine fj_iload C 5 dX6_wordAt_115 rfl ?_
                exact fj_iret C E9 dX6_wordAt_117 ⟨_, (by first | exact hfin.imp (fun q => ⟨q.2.1, by rw [← q.2.2]; exact hf.1 q.1⟩) (fun q => ⟨q.2, hf.2 q.1⟩) | exact hfin.imp (fun q => absurd h85 (by rw [q.1]; decide)) (fun q => ⟨q.2, hf.2 q.1⟩)), rfl, rfl⟩
              · have hlt9 : i < 9 := Nat.lt_of_not_le fun q => h80 ((nI_leI (a := 9) (by decide) (by omega)).mpr q)
                refine fj_iload C 4 dX6_wordAt_83 rfl ?_
                refine fj_if_eq (tgt := 115) C dX6_wordAt_85 (by decide) (fun h85 => ?_) (fun h85 => ?_)
                · refine fj_iload C 5 dX6_wordAt_115 rfl ?_
                  exact fj_iret C E9 dX6_wordAt_117 ⟨_, (by first | exact hfin.imp (fun q => ⟨q.2.1, by rw [← q.2.2]; exact hf.1 q.1⟩) (fun q => ⟨q.2, hf.2 q.1⟩) | exact hfin.imp (fun q => absurd h85 (by rw [q.1]; decide)) (fun q => ⟨q.2, hf.2 q.1⟩)), rfl, rfl⟩
                · refine fj_aload_n C 0 dX6_wordAt_88 rfl rfl ?_
                  refine fj_get (Cn := RX6) (T := TX6) (N := 44) (ci := 6) (v := .ref (bd 7)) C iX6 0 (fm_at0 _ _ _ _ _) rfl 11 (by decide) kX6_35 rfl dX6_wordAt_89 ?_
                  refine fj_iload C 6 dX6_wordAt_92 rfl ?_
                  refine fj_lald (f := (g 7)) C 7 (fm_at7 _ _ _ _ _) (vp_in_nI (by omega) (by decide)) dX6_wordAt_94 ?_
                  refine fj_st (st' := [.long (g 7 i)]) (by rw [nI_clamp (by omega)]) ?_
                  refine fj_lload_n C 3 dX6_wordAt_95 rfl rfl ?_
                  refine fj_lcmp C dX6_wordAt_96 ?_
                  refine fj_if_ne (tgt := 105) C dX6_wordAt_97 (by decide) (fun h97 => ?_) (fun h97 => ?_)
                  · have h97 := fun q => h97 ((lg_cmp_eq _ _).mpr q)
                    refine fj_iload C 5 dX6_wordAt_105 rfl ?_
                    refine fj_istore (lv' := [(6, .int r9), (0, .ref (bd 0)), (1, .int (nI k)), (2, .int (nI z)), (3, .long u9), (5, .int ltr), (7, .int (nI i))]) C dX6_wordAt_107 (by decide) rfl ?_
                    refine fj_iinc (v := nI (i + 1)) (lv' := [(7, .int (nI (i + 1))), (6, .int r9), (0, .ref (bd 0)), (1, .int (nI k)), (2, .int (nI z)), (3, .long u9), (5, .int ltr)]) C 6 dX6_wordAt_109 rfl (nI_1 i) (by decide) rfl ?_
                    refine fj_goto (tgt := 76) C dX6_wordAt_112 (by decide) ?_
                    refine fj_lv (lv' := [(0, .ref (bd 0)), (1, .int (nI k)), (2, .int (nI z)), (3, .long u9), (5, .int ltr), (6, .int r9), (7, .int (nI (i + 1)))]) [2, 3, 4, 5, 6, 1, 0] rfl ?_
                    exact ih ⟨i + 1, r9⟩ (by show 9 - (i + 1) < 9 - i; omega) (by omega) (by first | exact ⟨fun _ => by rw [fo, if_pos h97], fun e9 => absurd e9 h85⟩ | exact ⟨fun e9 => by rw [fo, if_neg h97]; exact hf.1 e9, fun e9 => absurd e9 h85⟩)
                  · have h97 := (lg_cmp_eq _ _).mp h97
                    refine fj_iload C 6 dX6_wordAt_100 rfl ?_
                    refine fj_goto (tgt := 107) C dX6_wordAt_102 (by decide) ?_
                    refine fj_istore (lv' := [(6, .int (nI i)), (0, .ref (bd 0)), (1, .int (nI k)), (2, .int (nI z)), (3, .long u9), (5, .int ltr), (7, .int (nI i))]) C dX6_wordAt_107 (by decide) rfl ?_
                    refine fj_iinc (v := nI (i + 1)) (lv' := [(7, .int (nI (i + 1))), (6, .int (nI i)), (0, .ref (bd 0)), (1, .int (nI k)), (2, .int (nI z)), (3, .long u9), (5, .int ltr)]) C 6 dX6_wordAt_109 rfl (nI_1 i) (by decide) rfl ?_
                    refine fj_goto (tgt := 76) C dX6_wordAt_112 (by decide) ?_
                    refine fj_lv (lv' := [(0, .ref (bd 0)), (1, .int (nI k)), (2, .int (nI z)), (3, .long u9), (5, .int ltr), (6, .int (nI i)), (7, .int (nI (i + 1)))]) [2, 3, 4, 5, 6, 1, 0] rfl ?_
                    exact ih ⟨i + 1, nI i⟩ (by show 9 - (i + 1) < 9 - i; omega) (by omega) (by first | exact ⟨fun _ => by rw [fo, if_pos h97], fun e9 => absurd e9 h85⟩ | exact ⟨fun e9 => by rw [fo, if_neg h97]; exact hf.1 e9, fun e9 => absurd e9 h85⟩)
            intro i r9
            exact key ⟨i, r9⟩
          exact lp76 0 (-1) (Nat.zero_le _) (⟨fun _ => rfl, fun _ => rfl⟩)
        · have hlt : k + d < z := (nI_ltI (by omega) (by omega)).mp (Int32.not_le.mp h23)
          refine fj_iload C 4 dX6_wordAt_26 rfl ?_
          refine fj_if_eq (tgt := 70) C dX6_wordAt_28 (by decide) (fun h28 => ?_) (fun h28 => ?_)
          · have hfin : (ltr = 1 ∧ LTR (a 3) k z ∧ u9 = wdw (a 3) k (z - k)) ∨ (ltr = 0 ∧ ¬ LTR (a 3) k z) := by first | exact hl.imp (fun q => ⟨q.1, ⟨q.2.1, fun j h9 => q.2.2 j (by omega)⟩, by rw [← hu, show d = z - k by omega]⟩) id | exact hl.imp (fun q => absurd h28 (by rw [q.1]; decide)) id
            refine fj_iconst (v := (-1)) C dX6_wordAt_70 (by decide) ?_
            refine fj_istore (lv' := [(6, .int (-1)), (0, .ref (bd 0)), (1, .int (nI k)), (2, .int (nI z)), (3, .long u9), (5, .int ltr)]) C dX6_wordAt_71 (by decide) rfl ?_
            refine fj_iconst (v := 0) C dX6_wordAt_73 (by decide) ?_
            refine fj_istore (lv' := [(7, .int 0), (6, .int (-1)), (0, .ref (bd 0)), (1, .int (nI k)), (2, .int (nI z)), (3, .long u9), (5, .int ltr)]) C dX6_wordAt_74 (by decide) rfl ?_
            refine fj_lv (lv' := [(0, .ref (bd 0)), (1, .int (nI k)), (2, .int (nI z)), (3, .long u9), (5, .int ltr), (6, .int (-1)), (7, .int 0)]) [2, 3, 4, 5, 6, 1, 0] rfl ?_
            have lp76 : ∀ (i : Nat) (r9 : Int32), (i ≤ 9) → ((ltr = 1 → r9 = fo (g 7) u9 i) ∧ (ltr = 0 → r9 = -1)) → fj p l e (fj_rm 1 25 0 0) s m args below meth c Q A D 8 0 0 (fm_w bd ty a g n) [(0, .ref (bd 0)), (1, .int (nI k)), (2, .int (nI z)), (3, .long u9), (5, .int ltr), (6, .int r9), (7, .int (nI i))] 76 [] := by
              have key : ∀ zz : Nat × Int32, (fun (zz : Nat × Int32) => match zz with | (i, r9) => (i ≤ 9) → ((ltr = 1 → r9 = fo (g 7) u9 i) ∧ (ltr = 0 → r9 = -1)) → fj p l e (fj_rm 1 25 0 0) s m args below meth c Q A D 8 0 0 (fm_w bd ty a g n) [(0, .ref (bd 0)), (1, .int (nI k)), (2, .int (nI z)), (3, .long u9), (5, .int ltr), (6, .int r9), (7, .int (nI i))] 76 []) zz := by
                refine fx_ind (fun (zz : Nat × Int32) => match zz with | (i, r9) => 9 - i) _ ?_
                rintro ⟨i, r9⟩ ih hi9 hf
                refine fj_iload C 6 dX6_wordAt_76 rfl ?_
                refine fj_bipush (v := 9) C dX6_wordAt_78 (by decide) ?_
                refine fj_icmp_ge (tgt := 115) C dX6_wordAt_80 (by decide) (fun h80 => ?_) (fun h80 => ?_)
                · obtain rfl : i = 9 := by have := (nI_leI (a := 9) (by decide) (by omega)).mp h80; omega
                  refine fj_iload C 5 dX6_wordAt_115 rfl ?_
                  exact fj_iret C E9 dX6_wordAt_117 ⟨_, (by first | exact hfin.imp (fun q => ⟨q.2.1, by rw [← q.2.2]; exact hf.1 q.1⟩) (fun q => ⟨q.2, hf.2 q.1⟩) | exact hfin.imp (fun q => absurd h85 (by rw [q.1]; decide)) (fun q => ⟨q.2, hf.2 q.1⟩)), rfl, rfl⟩
                · have hlt9 : i < 9 := Nat.lt_of_not_le fun q => h80 ((nI_leI (a := 9) (by decide) (by omega)).mpr q)
                  refine fj_iload C 4 dX6_wordAt_83 rfl ?_
                  refine fj_if_eq (tgt := 115) C dX6_wordAt_85 (by decide) (fun h85 => ?_) (fun h85 => ?_)
                  · refine fj_iload C 5 dX6_wordAt_115 rfl ?_
                    exact fj_iret C E9 dX6_wordAt_117 ⟨_, (by first | exact hfin.imp (fun q => ⟨q.2.1, by rw [← q.2.2]; exact hf.1 q.1⟩) (fun q => ⟨q.2, hf.2 q.1⟩) | exact hfin.imp (fun q => absurd h85 (by rw [q.1]; decide)) (fun q => ⟨q.2, hf.2 q.1⟩)), rfl, rfl⟩
                  · refine fj_aload_n C 0 dX6_wordAt_88 rfl rfl ?_
                    refine fj_get (Cn := RX6) (T := TX6) (N := 44) (ci := 6) (v := .ref (bd 7)) C iX6 0 (fm_at0 _ _ _ _ _) rfl 11 (by decide) kX6_35 rfl dX6_wordAt_89 ?_
                    refine fj_iload C 6 dX6_wordAt_92 rfl ?_
                    refine fj_lald (f := (g 7)) C 7 (fm_at7 _ _ _ _ _) (vp_in_nI (by omega) (by decide)) dX6_wordAt_94 ?_
                    refine fj_st (st' := [.long (g 7 i)]) (by rw [nI_clamp (by omega)]) ?_
                    refine fj_lload_n C 3 dX6_wordAt_95 rfl rfl ?_
                    refine fj_lcmp C dX6_wordAt_96 ?_
                    refine fj_if_ne (tgt := 105) C dX6_wordAt_97 (by decide) (fun h97 => ?_) (fun h97 => ?_)
                    · have h97 := fun q => h97 ((lg_cmp_eq _ _).mpr q)
                      refine fj_iload C 5 dX6_wordAt_105 rfl ?_
                      refine fj_istore (lv' := [(6, .int r9), (0, .ref (bd 0)), (1, .int (nI k)), (2, .int (nI z)), (3, .long u9), (5, .int ltr), (7, .int (nI i))]) C dX6_wordAt_107 (by decide) rfl ?_
                      refine fj_iinc (v := nI (i + 1)) (lv' := [(7, .int (nI (i + 1))), (6, .int r9), (0, .ref (bd 0)), (1, .int (nI k)), (2, .int (nI z)), (3, .long u9), (5, .int ltr)]) C 6 dX6_wordAt_109 rfl (nI_1 i) (by decide) rfl ?_
                      refine fj_goto (tgt := 76) C dX6_wordAt_112 (by decide) ?_
                      refine fj_lv (lv' := [(0, .ref (bd 0)), (1, .int (nI k)), (2, .int (nI z)), (3, .long u9), (5, .int ltr), (6, .int r9), (7, .int (nI (i + 1)))]) [2, 3, 4, 5, 6, 1, 0] rfl ?_
                      exact ih ⟨i + 1, r9⟩ (by show 9 - (i + 1) < 9 - i; omega) (by omega) (by first | exact ⟨fun _ => by rw [fo, if_pos h97], fun e9 => absurd e9 h85⟩ | exact ⟨fun e9 => by rw [fo, if_neg h97]; exact hf.1 e9, fun e9 => absurd e9 h85⟩)
                    · have h97 := (lg_cmp_eq _ _).mp h97
                      refine fj_iload C 6 dX6_wordAt_100 rfl ?_
                      refine fj_goto (tgt := 107) C dX6_wordAt_102 (by decide) ?_
                      refine fj_istore (lv' := [(6, .int (nI i)), (0, .ref (bd 0)), (1, .int (nI k)), (2, .int (nI z)), (3, .long u9), (5, .int ltr), (7, .int (nI i))]) C dX6_wordAt_107 (by decide) rfl ?_
                      refine fj_iinc (v := nI (i + 1)) (lv' := [(7, .int (nI (i + 1))), (6, .int (nI i)), (0, .ref (bd 0)), (1, .int (nI k)), (2, .int (nI z)), (3, .long u9), (5, .int ltr)]) C 6 dX6_wordAt_109 rfl (nI_1 i) (by decide) rfl ?_
                      refine fj_goto (tgt := 76) C dX6_wordAt_112 (by decide) ?_
                      refine fj_lv (lv' := [(0, .ref (bd 0)), (1, .int (nI k)), (2, .int (nI z)), (3, .long u9), (5, .int ltr), (6, .int (nI i)), (7, .int (nI (i + 1)))]) [2, 3, 4, 5, 6, 1, 0] rfl ?_
                      exact ih ⟨i + 1, nI i⟩ (by show 9 - (i + 1) < 9 - i; omega) (by omega) (by first | exact ⟨fun _ => by rw [fo, if_pos h97], fun e9 => absurd e9 h85⟩ | exact ⟨fun e9 => by rw [fo, if_neg h97]; exact hf.1 e9, fun e9 => absurd e9 h85⟩)
              intro i r9
              exact key ⟨i, r9⟩
            exact lp76 0 (-1) (Nat.zero_le _) (⟨fun _ => rfl, fun _ => rfl⟩)
          · refine fj_aload_n C 0 dX6_wordAt_31 rfl rfl ?_
            refine fj_get (Cn := RX6) (T := TX6) (N := 44) (ci := 6) (v := .ref (bd 3)) C iX6 0 (fm_at0 _ _ _ _ _) rfl 4 (by decide) kX6_20 rfl dX6_wordAt_32 ?_
            refine fj_iload C 5 dX6_wordAt_35 rfl ?_
            refine fj_iald (f := (a 3)) C 3 (fm_at3 _ _ _ _ _) (vp_in_nI (by omega) (by decide)) dX6_wordAt_37 ?_
            refine fj_at (y := a 3 (k + d)) (by rw [nI_clamp (by omega)]) ?_
            refine fj_i2l C dX6_wordAt_38 ?_
            refine fj_ldc2 (v := 97) C dX6_wordAt_39 kL150 ?_
            refine fj_ldc2 (v := 122) C dX6_wordAt_42 kL152 ?_
            refine fj_callSw (As := [.long ((a 3 (k + d)).toInt64), .long 97, .long 122]) (rest := []) C (d_X6_inI l D ty t0 (fm_w bd ty a g n) (a 3 (k + d)) 97 122 97 122 (by decide) (by decide)) (va_cwS 3 C.2.2.2.2.1 gX6_wordAt_X6_in rfl rfl rfl (by decide +kernel) ⟨Nat.le_of_ble_eq_true rfl, Nat.le_of_ble_eq_true rfl⟩)  rfl (Nat.le_of_ble_eq_true rfl) dX6_wordAt_45 ⟨Nat.zero_le _, Nat.zero_le _⟩ (fun v9 w9 hp9 => ?_)
            obtain ⟨rfl, rfl⟩ := hp9
            refine fj_st (st' := .int (if (97 ≤ (a 3 (k + d)) ∧ (a 3 (k + d)) ≤ 122) then 1 else 0) :: []) rfl ?_
            refine fj_istore (lv' := [(5, .int (if (97 ≤ (a 3 (k + d)) ∧ (a 3 (k + d)) ≤ 122) then 1 else 0)), (0, .ref (bd 0)), (1, .int (nI k)), (2, .int (nI z)), (3, .long u9), (6, .int (nI (k + d)))]) C dX6_wordAt_48 (by decide) rfl ?_
            refine fj_lload_n C 4 dX6_wordAt_50 rfl rfl ?_
            refine fj_bipush (v := 8) C dX6_wordAt_51 (by decide) ?_
            refine fj_lshl C dX6_wordAt_53 ?_
            refine fj_aload_n C 1 dX6_wordAt_54 rfl rfl ?_
            refine fj_get (Cn := RX6) (T := TX6) (N := 44) (ci := 6) (v := .ref (bd 3)) C iX6 0 (fm_at0 _ _ _ _ _) rfl 4 (by decide) kX6_20 rfl dX6_wordAt_55 ?_
            refine fj_iload C 5 dX6_wordAt_58 rfl ?_
            refine fj_iald (f := (a 3)) C 3 (fm_at3 _ _ _ _ _) (vp_in_nI (by omega) (by decide)) dX6_wordAt_60 ?_
            refine fj_at (y := a 3 (k + d)) (by rw [nI_clamp (by omega)]) ?_
            refine fj_i2l C dX6_wordAt_61 ?_
            refine fj_lor C dX6_wordAt_62 ?_
            refine fj_lstore_n (lv' := [(3, .long ((u9 <<< ((8 : Int32).toInt64 &&& 63)) ||| ((a 3 (k + d)).toInt64))), (5, .int (if (97 ≤ (a 3 (k + d)) ∧ (a 3 (k + d)) ≤ 122) then 1 else 0)), (0, .ref (bd 0)), (1, .int (nI k)), (2, .int (nI z)), (6, .int (nI (k + d)))]) C dX6_wordAt_63 rfl (by decide) rfl ?_
            refine fj_iinc (v := nI (k + (d + 1))) (lv' := [(6, .int (nI (k + (d + 1)))), (3, .long ((u9 <<< ((8 : Int32).toInt64 &&& 63)) ||| ((a 3 (k + d)).toInt64))), (5, .int (if (97 ≤ (a 3 (k + d)) ∧ (a 3 (k + d)) ≤ 122) then 1 else 0)), (0, .ref (bd 0)), (1, .int (nI k)), (2, .int (nI z))]) C 5 dX6_wordAt_64 rfl (nI_1 (k + d)) (by decide) rfl ?_
            refine fj_goto (tgt := 20) C dX6_wordAt_67 (by decide) ?_
            refine fj_lv (lv' := [(0, .ref (bd 0)), (1, .int (nI k)), (2, .int (nI z)), (3, .long ((u9 <<< ((8 : Int32).toInt64 &&& 63)) ||| ((a 3 (k + d)).toInt64))), (5, .int (if (97 ≤ (a 3 (k + d)) ∧ (a 3 (k + d)) ≤ 122) then 1 else 0)), (6, .int (nI (k + (d + 1))))]) [3, 4, 5, 1, 2, 0] rfl ?_
            exact ih ⟨d + 1, (u9 <<< ((8 : Int32).toInt64 &&& 63)) ||| ((a 3 (k + d)).toInt64), if (97 ≤ (a 3 (k + d)) ∧ (a 3 (k + d)) ≤ 122) then 1 else 0⟩ (by show z - (k + (d + 1)) < z - (k + d); omega) (by omega) (by rw [wdw, hu]) (ltr_s hl h28 hlt)
      intro d u9 ltr
      exact key ⟨d, u9, ltr⟩
    exact lp20 0 0 1 (by omega) rfl (by first | exact Or.inl ⟨rfl, h7z, fun _ h9 => absurd h9 (Nat.not_lt_zero _)⟩ | exact Or.inr ⟨rfl, fun q => h7z q.1⟩)
