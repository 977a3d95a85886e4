/-- the law in force on a day: of the first r of the order the last that has begun -/
def iof (a : Nat → Nat → Int32) (x : Int32) : Nat → Int32
  | 0 => -1
  | r + 1 => if x < a 6 (a 8 r).toNatClampNeg then iof a x r else a 8 r
theorem iof_s {a : Nat → Nat → Int32} {x : Int32} {r j : Nat} (h : a 8 r = nI j) (hj : j < 2 ^ 31) : iof a x (r + 1) = if x < a 6 j then iof a x r else nI j := by simp only [iof, h, nI_clamp hj]
theorem iof_in {a : Nat → Nat → Int32} {S : Nat} (h : ∀ i, i < S → ∃ j, j < S ∧ a 8 i = nI j) (x : Int32) : iof a x S = -1 ∨ ∃ j, j < S ∧ iof a x S = nI j := by
  have key : ∀ r, r ≤ S → iof a x r = -1 ∨ ∃ j, j < S ∧ iof a x r = nI j := by
    intro r
    induction r with
    | zero => intro _; exact Or.inl rfl
    | succ r ih =>
      intro hr
      obtain ⟨j, hj, e⟩ := h r (by omega)
      simp only [iof]
      by_cases q : x < a 6 (a 8 r).toNatClampNeg
      · rw [if_pos q]; exact ih (by omega)
      · rw [if_neg q]; exact Or.inr ⟨j, hj, e⟩
  exact key S (Nat.le_refl S)
/-- the number a law sets, or the nearest before it in the order -/
def vof (a : Nat → Nat → Int32) (x : Int32) (q : Nat) : Nat → Int32 → Int32
  | 0, _ => fx_AF q
  | r + 1, on => if (if a 8 r = x then 1 else on) = 0 then vof a x q r (if a 8 r = x then 1 else on) else if a (9 + (a 8 r).toNatClampNeg) q = -1 then vof a x q r (if a 8 r = x then 1 else on) else a (9 + (a 8 r).toNatClampNeg) q
theorem vof_s {a : Nat → Nat → Int32} {x : Int32} {q r j : Nat} {on : Int32} (h : a 8 r = nI j) (hj : j < 2 ^ 31) : vof a x q (r + 1) on = if (if nI j = x then 1 else on) = 0 then vof a x q r (if nI j = x then 1 else on) else if a (9 + j) q = -1 then vof a x q r (if nI j = x then 1 else on) else a (9 + j) q := by simp only [vof, h, nI_clamp hj]
theorem fx_ibin {x : Int32} {S N : Nat} (h : 0 ≤ x ∧ x ≤ nI S - 1) (h1 : S < 2 ^ 30) (h2 : S ≤ N) : vp_in x N := by
  have := (ib_m1 h1).mp h
  exact vp_in_iff.mpr ⟨this.1, by have := this.2; omega⟩
set_option maxHeartbeats 4000000 in
set_option maxRecDepth 100000 in
theorem d_X2_inForce (l : Launch) (D : va_G) (ty : Nat → ClassId) (t0 : Nat → Nat) (ad : Nat → Nat) (a : Nat → Nat → Int32) (g : Nat → Nat → Int64) (n : Nat → Int32) (P : Nat) (S : Nat) (T : Nat) (B : Nat) (I : XI P S T B a n) (x : Int32)  : fc l yX2_inForce wsX2_inForce (fj_rm 0 0 0 0) D ty t0 [.ref (ad 4), .int x] (fx_w ad ty a g n) 0 0 (fun v w => v = some (.int (iof a x S)) ∧ w = fx_w ad ty a g n) := by
  refine fc_start (own := RX2) (cc := cX2_inForce) (maxL := 3) (ret := (some .int)) (by decide) rfl (Nat.le_of_ble_eq_true rfl) rfl ?_
  intro p e s m args below meth c Q A C hmn E9
  obtain ⟨hn0, hP, hn1, hT, hn3, hS, hn4, hB, iLO, iBO, iWho, iSort, iQ, iN⟩ := id I
  have iX2 : ∀ w ∈ u_ws RX2 TX2 7, w ∈ wsX2_inForce := ptX2_inForce_wsX20
  have kX2_34 : Cond.fieldLink RX2 34 "FreeLand$Laws" "size" "I" ∈ wsX2_inForce := ptX2_inForce_woX2_inForce _ (by decide +kernel)
  have kX2_19 : Cond.fieldLink RX2 19 "FreeLand$Laws" "from" "[I" ∈ wsX2_inForce := ptX2_inForce_woX2_inForce _ (by decide +kernel)
  have kX2_28 : Cond.fieldLink RX2 28 "FreeLand$Laws" "order" "[I" ∈ wsX2_inForce := ptX2_inForce_woX2_inForce _ (by decide +kernel)
  refine fj_lv (lv' := [(0, .ref (ad 4)), (1, .int x)]) [0, 1] rfl ?_
  refine fj_aload_n C 0 dX2_inForce_0 rfl rfl ?_
  refine fj_get (Cn := RX2) (T := TX2) (N := 7) (ci := 2) (v := .int (n 3)) C iX2 4 (fx_at4 _ _ _ _ _) rfl 6 (by decide) kX2_34 rfl dX2_inForce_1 ?_
  refine fj_at (y := nI S) hn3 ?_
  refine fj_iconst (v := 1) C dX2_inForce_4 (by decide) ?_
  refine fj_isub C dX2_inForce_5 ?_
  refine fj_istore_n (lv' := [(2, .int ((nI S) - 1)), (0, .ref (ad 4)), (1, .int x)]) C dX2_inForce_6 rfl (by decide) rfl ?_
  refine fj_lv (lv' := [(0, .ref (ad 4)), (1, .int x), (2, .int ((nI S) - 1))]) [1, 2, 0] rfl ?_
  have lp7 : ∀ (r : Nat), (r ≤ S) → (iof a x r = iof a x S) → fj p l e (fj_rm 0 0 0 0) s m args below meth c Q A D 3 0 0 (fx_w ad ty a g n) [(0, .ref (ad 4)), (1, .int x), (2, .int (nI r - 1))] 7 [] := by
    have key : ∀ zz : Nat, (fun (r : Nat) => (r ≤ S) → (iof a x r = iof a x S) → fj p l e (fj_rm 0 0 0 0) s m args below meth c Q A D 3 0 0 (fx_w ad ty a g n) [(0, .ref (ad 4)), (1, .int x), (2, .int (nI r - 1))] 7 []) zz := by
      refine fx_ind (fun (r : Nat) => r) _ ?_
      rintro r ih hr heq
      refine fj_iload_n C 2 dX2_inForce_7 rfl rfl ?_
      refine fj_if_lt (tgt := 39) C dX2_inForce_8 (by decide) (fun h8 => ?_) (fun h8 => ?_)
      · have e0 : r = 0 := fx_r0 h8 (by omega)
        subst e0
        refine fj_iconst (v := (-1)) C dX2_inForce_39 (by decide) ?_
        exact fj_iret C E9 dX2_inForce_40 ⟨by rw [← heq]; rfl, rfl⟩
      · obtain ⟨r, rfl⟩ : ∃ z, r = z + 1 := ⟨r - 1, by have : r ≠ 0 := fun e => h8 (by rw [e]; decide); omega⟩
        refine fj_aload_n C 0 dX2_inForce_11 rfl rfl ?_
        refine fj_get (Cn := RX2) (T := TX2) (N := 7) (ci := 2) (v := .ref (ad 6)) C iX2 4 (fx_at4 _ _ _ _ _) rfl 3 (by decide) kX2_19 rfl dX2_inForce_12 ?_
        refine fj_aload_n C 0 dX2_inForce_15 rfl rfl ?_
        refine fj_get (Cn := RX2) (T := TX2) (N := 7) (ci := 2) (v := .ref (ad 8)) C iX2 4 (fx_at4 _ _ _ _ _) rfl 5 (by decide) kX2_28 rfl dX2_inForce_16 ?_
        refine fj_iload_n C 2 dX2_inForce_19 rfl rfl ?_
        refine fj_at (y := nI r) (nI_pred r) ?_
        refine fj_iald (f := (a 8)) C 8 (fx_at8 _ _ _ _ _) (vp_in_nI (by omega) (by decide)) dX2_inForce_20 ?_
        obtain ⟨j, hj, ej⟩ := iLO r (by omega)
        refine fj_at (y := nI j) (by rw [nI_clamp (by omega), ej]) ?_
        refine fj_iald (f := (a 6)) C 6 (fx_at6 _ _ _ _ _) (vp_in_nI (by omega) (by decide)) dX2_inForce_21 ?_
        refine fj_at (y := a 6 j) (by rw [nI_clamp (by omega)]) ?_
        refine fj_iload_n C 1 dX2_inForce_22 rfl rfl ?_
        refine fj_icmp_gt (tgt := 33) C dX2_inForce_23 (by decide) (fun h23 => ?_) (fun h23 => ?_)
        · refine fj_iinc (v := nI r - 1) (lv' := [(2, .int (nI r - 1)), (0, .ref (ad 4)), (1, .int x)]) C 2 dX2_inForce_33 rfl (fx_im r) (by decide) rfl ?_
          refine fj_goto (tgt := 7) C dX2_inForce_36 (by decide) ?_
          refine fj_lv (lv' := [(0, .ref (ad 4)), (1, .int x), (2, .int (nI r - 1))]) [1, 2, 0] rfl ?_
          exact ih r (by show r < r + 1; omega) (by omega) (by rw [← heq, iof_s ej (by omega), if_pos h23])
        · refine fj_aload_n C 0 dX2_inForce_26 rfl rfl ?_
          refine fj_get (Cn := RX2) (T := TX2) (N := 7) (ci := 2) (v := .ref (ad 8)) C iX2 4 (fx_at4 _ _ _ _ _) rfl 5 (by decide) kX2_28 rfl dX2_inForce_27 ?_
          refine fj_iload_n C 2 dX2_inForce_30 rfl rfl ?_
          refine fj_at (y := nI r) (nI_pred r) ?_
          refine fj_iald (f := (a 8)) C 8 (fx_at8 _ _ _ _ _) (vp_in_nI (by omega) (by decide)) dX2_inForce_31 ?_
          refine fj_at (y := nI j) (by rw [nI_clamp (by omega), ej]) ?_
          exact fj_iret C E9 dX2_inForce_32 ⟨by rw [← heq, iof_s ej (by omega), if_neg h23], rfl⟩
    intro r
    exact key r
  exact lp7 S (Nat.le_refl S) rfl

set_option maxHeartbeats 4000000 in
set_option maxRecDepth 100000 in
theorem d_X2_valueOf (l : Launch) (D : va_G) (ty : Nat → ClassId) (t0 : Nat → Nat) (ad : Nat → Nat) (a : Nat → Nat → Int32) (g : Nat → Nat → Int64) (n : Nat → Int32) (P : Nat) (S : Nat) (T : Nat) (B : Nat) (I : XI P S T B a n) (x : Int32) (y : Int32) (q : Nat) (eq : y = nI q) (hq : q < 9) : fc l yX2_valueOf wsX2_valueOf (fj_rm 0 0 0 0) D ty t0 [.ref (ad 4), .int x, .int y] (fx_w ad ty a g n) 0 0 (fun v w => v = some (.int (vof a x q S 0)) ∧ w = fx_w ad ty a g n) := by
  subst eq
  refine fc_start (own := RX2) (cc := cX2_valueOf) (maxL := 6) (ret := (some .int)) (by decide) rfl (Nat.le_of_ble_eq_true rfl) rfl ?_
  intro p e s m args below meth c Q A C hmn E9
  obtain ⟨hn0, hP, hn1, hT, hn3, hS, hn4, hB, iLO, iBO, iWho, iSort, iQ, iN⟩ := id I
  have iX2 : ∀ w ∈ u_ws RX2 TX2 7, w ∈ wsX2_valueOf := ptX2_valueOf_wsX20
  have kX2_34 : Cond.fieldLink RX2 34 "FreeLand$Laws" "size" "I" ∈ wsX2_valueOf := ptX2_valueOf_woX2_valueOf _ (by decide +kernel)
  have kX2_94 : Cond.fieldLink RX2 94 "FreeLand$Laws" "AT_FIRST" "[I" ∈ wsX2_valueOf := ptX2_valueOf_woX2_valueOf _ (by decide +kernel)
  have kX2_28 : Cond.fieldLink RX2 28 "FreeLand$Laws" "order" "[I" ∈ wsX2_valueOf := ptX2_valueOf_woX2_valueOf _ (by decide +kernel)
  have kX2_25 : Cond.fieldLink RX2 25 "FreeLand$Laws" "value" "[[I" ∈ wsX2_valueOf := ptX2_valueOf_woX2_valueOf _ (by decide +kernel)
  refine fj_lv (lv' := [(0, .ref (ad 4)), (1, .int x), (2, .int (nI q))]) [0, 1, 2] rfl ?_
  refine fj_iconst (v := 0) C dX2_valueOf_0 (by decide) ?_
  refine fj_istore_n (lv' := [(3, .int 0), (0, .ref (ad 4)), (1, .int x), (2, .int (nI q))]) C dX2_valueOf_1 rfl (by decide) rfl ?_
  refine fj_aload_n C 1 dX2_valueOf_2 rfl rfl ?_
  refine fj_get (Cn := RX2) (T := TX2) (N := 7) (ci := 2) (v := .int (n 3)) C iX2 4 (fx_at4 _ _ _ _ _) rfl 6 (by decide) kX2_34 rfl dX2_valueOf_3 ?_
  refine fj_at (y := nI S) hn3 ?_
  refine fj_iconst (v := 1) C dX2_valueOf_6 (by decide) ?_
  refine fj_isub C dX2_valueOf_7 ?_
  refine fj_istore (lv' := [(4, .int ((nI S) - 1)), (3, .int 0), (0, .ref (ad 4)), (1, .int x), (2, .int (nI q))]) C dX2_valueOf_8 (by decide) rfl ?_
  refine fj_lv (lv' := [(0, .ref (ad 4)), (1, .int x), (2, .int (nI q)), (3, .int 0), (4, .int ((nI S) - 1))]) [2, 3, 4, 1, 0] rfl ?_
  have lp10 : ∀ (on : Int32) (r : Nat), (r ≤ S) → (vof a x q r on = vof a x q S 0) → fj p l e (fj_rm 0 0 0 0) s m args below meth c Q A D 6 0 0 (fx_w ad ty a g n) [(0, .ref (ad 4)), (1, .int x), (2, .int (nI q)), (3, .int on), (4, .int (nI r - 1))] 10 [] := by
    have key : ∀ zz : Int32 × Nat, (fun (zz : Int32 × Nat) => match zz with | (on, r) => (r ≤ S) → (vof a x q r on = vof a x q S 0) → fj p l e (fj_rm 0 0 0 0) s m args below meth c Q A D 6 0 0 (fx_w ad ty a g n) [(0, .ref (ad 4)), (1, .int x), (2, .int (nI q)), (3, .int on), (4, .int (nI r - 1))] 10 []) zz := by
      refine fx_ind (fun (zz : Int32 × Nat) => match zz with | (on, r) => r) _ ?_
      rintro ⟨on, r⟩ ih hr heq
      refine fj_iload C 4 dX2_valueOf_10 rfl ?_
      refine fj_if_lt (tgt := 65) C dX2_valueOf_12 (by decide) (fun h12 => ?_) (fun h12 => ?_)
      · have e0 : r = 0 := fx_r0 h12 (by omega)
        subst e0
        refine fj_getAF C kX2_94 dX2_valueOf_65 ?_
        refine fj_iload_n C 2 dX2_valueOf_68 rfl rfl ?_
        refine fj_ldAF C (vp_in_nI (by omega) (by decide)) dX2_valueOf_69 ?_
        refine fj_at (y := fx_AF q) (by rw [nI_clamp (by omega)]) ?_
        exact fj_iret C E9 dX2_valueOf_70 ⟨by rw [← heq]; rfl, rfl⟩
      · obtain ⟨r, rfl⟩ : ∃ z, r = z + 1 := ⟨r - 1, by have : r ≠ 0 := fun e => h12 (by rw [e]; decide); omega⟩
        refine fj_aload_n C 0 dX2_valueOf_15 rfl rfl ?_
        refine fj_get (Cn := RX2) (T := TX2) (N := 7) (ci := 2) (v := .ref (ad 8)) C iX2 4 (fx_at4 _ _ _ _ _) rfl 5 (by decide) kX2_28 rfl dX2_valueOf_16 ?_
        refine fj_iload C 4 dX2_valueOf_19 rfl ?_
        refine fj_at (y := nI r) (nI_pred r) ?_
        refine fj_iald (f := (a 8)) C 8 (fx_at8 _ _ _ _ _) (vp_in_nI (by omega) (by decide)) dX2_valueOf_21 ?_
        obtain ⟨j, hj, ej⟩ := iLO r (by omega)
        refine fj_at (y := nI j) (by rw [nI_clamp (by omega), ej]) ?_
        refine fj_istore (lv' := [(5, .int (nI j)), (0, .ref (ad 4)), (1, .int x), (2, .int (nI q)), (3, .int on), (4, .int (nI (r + 1) - 1))]) C dX2_valueOf_22 (by decide) rfl ?_
        refine fj_iload C 0 dX2_valueOf_24 rfl ?_
        refine fj_iload_n C 2 dX2_valueOf_26 rfl rfl ?_
        refine fj_icmp_ne (tgt := 32) C dX2_valueOf_27 (by decide) (fun h27 => ?_) (fun h27 => ?_)
        · refine fj_iload_n C 4 dX2_valueOf_32 rfl rfl ?_
          refine fj_if_eq (tgt := 59) C dX2_valueOf_33 (by decide) (fun h33 => ?_) (fun h33 => ?_)
          · refine fj_iinc (v := nI r - 1) (lv' := [(4, .int (nI r - 1)), (5, .int (nI j)), (0, .ref (ad 4)), (1, .int x), (2, .int (nI q)), (3, .int on)]) C 5 dX2_valueOf_59 rfl (fx_im r) (by decide) rfl ?_
            refine fj_goto (tgt := 10) C dX2_valueOf_62 (by decide) ?_
            refine fj_lv (lv' := [(0, .ref (ad 4)), (1, .int x), (2, .int (nI q)), (3, .int on), (4, .int (nI r - 1))]) [2, 3, 4, 5, 0] rfl ?_
            exact ih ⟨on, r⟩ (by show r < r + 1; omega) (by omega) (by rw [← heq, vof_s ej (by omega)]; first | (rw [if_neg h27, if_pos h33]; done) | (rw [if_neg h27, if_neg h33, if_pos h46]; done) | (rw [if_pos h27, if_neg (by decide : ¬ (1 : Int32) = 0), if_pos h46]; done))
          · refine fj_aload_n C 1 dX2_valueOf_36 rfl rfl ?_
            refine fj_get (Cn := RX2) (T := TX2) (N := 7) (ci := 2) (v := .ref (ad 7)) C iX2 4 (fx_at4 _ _ _ _ _) rfl 4 (by decide) kX2_25 rfl dX2_valueOf_37 ?_
            refine fj_iload C 0 dX2_valueOf_40 rfl ?_
            refine fj_aald (r := ad (9 + j)) C 7 (fx_at7 _ _ _ _ _) (vp_in_nI (by omega) (by decide)) (by rw [(nI_clamp (by omega))]; exact if_pos (by omega)) dX2_valueOf_42 ?_
            refine fj_iload_n C 3 dX2_valueOf_43 rfl rfl ?_
            refine fj_iald (f := (a (9 + j))) C (9 + j) (fx_atR _ _ _ _ _ (by omega)) (vp_in_nI (by omega) (by decide)) dX2_valueOf_44 ?_
            refine fj_at (y := a (9 + j) q) (by rw [nI_clamp (by omega)]) ?_
            refine fj_iconst (v := (-1)) C dX2_valueOf_45 (by decide) ?_
            refine fj_icmp_eq (tgt := 59) C dX2_valueOf_46 (by decide) (fun h46 => ?_) (fun h46 => ?_)
            · refine fj_iinc (v := nI r - 1) (lv' := [(4, .int (nI r - 1)), (5, .int (nI j)), (0, .ref (ad 4)), (1, .int x), (2, .int (nI q)), (3, .int on)]) C 5 dX2_valueOf_59 rfl (fx_im r) (by decide) rfl ?_
              refine fj_goto (tgt := 10) C dX2_valueOf_62 (by decide) ?_
              refine fj_lv (lv' := [(0, .ref (ad 4)), (1, .int x), (2, .int (nI q)), (3, .int on), (4, .int (nI r - 1))]) [2, 3, 4, 5, 0] rfl ?_
              exact ih ⟨on, r⟩ (by show r < r + 1; omega) (by omega) (by rw [← heq, vof_s ej (by omega)]; first | (rw [if_neg h27, if_pos h33]; done) | (rw [if_neg h27, if_neg h33, if_pos h46]; done) | (rw [if_pos h27, if_neg (by decide : ¬ (1 : Int32) = 0), if_pos h46]; done))
            · refine fj_aload_n C 1 dX2_valueOf_49 rfl rfl ?_
              refine fj_get (Cn := RX2) (T := TX2) (N := 7) (ci := 2) (v := .ref (ad 7)) C iX2 4 (fx_at4 _ _ _ _ _) rfl 4 (by decide) kX2_25 rfl dX2_valueOf_50 ?_
              refine fj_iload C 0 dX2_valueOf_53 rfl ?_
              refine fj_aald (r := ad (9 + j)) C 7 (fx_at7 _ _ _ _ _) (vp_in_nI (by omega) (by decide)) (by rw [(nI_clamp (by omega))]; exact if_pos (by omega)) dX2_valueOf_55 ?_
              refine fj_iload_n C 3 dX2_valueOf_56 rfl rfl ?_
              refine fj_iald (f := (a (9 + j))) C (9 + j) (fx_atR _ _ _ _ _ (by omega)) (vp_in_nI (by omega) (by decide)) dX2_valueOf_57 ?_
              refine fj_at (y := a (9 + j) q) (by rw [nI_clamp (by omega)]) ?_
              exact fj_iret C E9 dX2_valueOf_58 ⟨by rw [← heq, vof_s ej (by omega)]; first | (rw [if_neg h27, if_neg h33, if_neg h46]; done) | (rw [if_pos h27, if_neg (by decide : ¬ (1 : Int32) = 0), if_neg h46]; done), rfl⟩
        · refine fj_iconst (v := 1) C dX2_valueOf_30 (by decide) ?_
          refine fj_istore_n (lv' := [(3, .int 1), (5, .int (nI j)), (0, .ref (ad 4)), (1, .int x), (2, .int (nI q)), (4, .int (nI (r + 1) - 1))]) C dX2_valueOf_31 rfl (by decide) rfl ?_
          refine fj_iload_n C 0 dX2_valueOf_32 rfl rfl ?_
          refine fj_if_eq (tgt := 59) C dX2_valueOf_33 (by decide) (fun h => absurd h (by decide)) (fun _ => ?_)
          refine fj_aload_n C 2 dX2_valueOf_36 rfl rfl ?_
          refine fj_get (Cn := RX2) (T := TX2) (N := 7) (ci := 2) (v := .ref (ad 7)) C iX2 4 (fx_at4 _ _ _ _ _) rfl 4 (by decide) kX2_25 rfl dX2_valueOf_37 ?_
          refine fj_iload C 1 dX2_valueOf_40 rfl ?_
          refine fj_aald (r := ad (9 + j)) C 7 (fx_at7 _ _ _ _ _) (vp_in_nI (by omega) (by decide)) (by rw [(nI_clamp (by omega))]; exact if_pos (by omega)) dX2_valueOf_42 ?_
          refine fj_iload_n C 4 dX2_valueOf_43 rfl rfl ?_
          refine fj_iald (f := (a (9 + j))) C (9 + j) (fx_atR _ _ _ _ _ (by omega)) (vp_in_nI (by omega) (by decide)) dX2_valueOf_44 ?_
          refine fj_at (y := a (9 + j) q) (by rw [nI_clamp (by omega)]) ?_
          refine fj_iconst (v := (-1)) C dX2_valueOf_45 (by decide) ?_
          refine fj_icmp_eq (tgt := 59) C dX2_valueOf_46 (by decide) (fun h46 => ?_) (fun h46 => ?_)
          · refine fj_iinc (v := nI r - 1) (lv' := [(4, .int (nI r - 1)), (3, .int 1), (5, .int (nI j)), (0, .ref (ad 4)), (1, .int x), (2, .int (nI q))]) C 5 dX2_valueOf_59 rfl (fx_im r) (by decide) rfl ?_
            refine fj_goto (tgt := 10) C dX2_valueOf_62 (by decide) ?_
            refine fj_lv (lv' := [(0, .ref (ad 4)), (1, .int x), (2, .int (nI q)), (3, .int 1), (4, .int (nI r - 1))]) [3, 4, 5, 1, 0] rfl ?_
            exact ih ⟨1, r⟩ (by show r < r + 1; omega) (by omega) (by rw [← heq, vof_s ej (by omega)]; first | (rw [if_neg h27, if_pos h33]; done) | (rw [if_neg h27, if_neg h33, if_pos h46]; done) | (rw [if_pos h27, if_neg (by decide : ¬ (1 : Int32) = 0), if_pos h46]; done))
          · refine fj_aload_n C 2 dX2_valueOf_49 rfl rfl ?_
            refine fj_get (Cn := RX2) (T := TX2) (N := 7) (ci := 2) (v := .ref (ad 7)) C iX2 4 (fx_at4 _ _ _ _ _) rfl 4 (by decide) kX2_25 rfl dX2_valueOf_50 ?_
            refine fj_iload C 1 dX2_valueOf_53 rfl ?_
            refine fj_aald (r := ad (9 + j)) C 7 (fx_at7 _ _ _ _ _) (vp_in_nI (by omega) (by decide)) (by rw [(nI_clamp (by omega))]; exact if_pos (by omega)) dX2_valueOf_55 ?_
            refine fj_iload_n C 4 dX2_valueOf_56 rfl rfl ?_
            refine fj_iald (f := (a (9 + j))) C (9 + j) (fx_atR _ _ _ _ _ (by omega)) (vp_in_nI (by omega) (by decide)) dX2_valueOf_57 ?_
            refine fj_at (y := a (9 + j) q) (by rw [nI_clamp (by omega)]) ?_
            exact fj_iret C E9 dX2_valueOf_58 ⟨by rw [← heq, vof_s ej (by omega)]; first | (rw [if_neg h27, if_neg h33, if_neg h46]; done) | (rw [if_pos h27, if_neg (by decide : ¬ (1 : Int32) = 0), if_neg h46]; done), rfl⟩
    intro on r
    exact key ⟨on, r⟩
  exact lp10 0 S (Nat.le_refl S) rfl

set_option maxHeartbeats 4000000 in
set_option maxRecDepth 100000 in
theorem d_X5_sets (l : Launch) (D : va_G) (ty : Nat → ClassId) (t0 : Nat → Nat) (ad : Nat → Nat) (a : Nat → Nat → Int32) (g : Nat → Nat → Int64) (n : Nat → Int32) (P : Nat) (S : Nat) (T : Nat) (B : Nat) (I : XI P S T B a n) (x : Int32) (y : Int32)  : fc l yX5_sets wsX5_sets (fj_rm 1 25 0 0) D ty t0 [.ref (ad 0), .int x, .int y] (fx_w ad ty a g n) 0 0 (fun v w => v = some (.int (if x = -1 ∨ ib x S then (if 0 ≤ y ∧ y ≤ 9 then (if y = 9 then (if x = -1 then 0 else a 6 x.toNatClampNeg) else vof a x y.toNatClampNeg S 0) else -1002) else -1001)) ∧ w = fx_w ad ty a g n) := by
  refine fc_start (own := RX5) (cc := cX5_sets) (maxL := 3) (ret := (some .int)) (by decide) rfl (Nat.le_of_ble_eq_true rfl) rfl ?_
  intro p e s m args below meth c Q A C hmn E9
  obtain ⟨hn0, hP, hn1, hT, hn3, hS, hn4, hB, iLO, iBO, iWho, iSort, iQ, iN⟩ := id I
  have iX5 : ∀ w ∈ u_ws RX5 TX5 5, w ∈ wsX5_sets := ptX5_sets_wsX50
  have kX5_19 : Cond.fieldLink RX5 19 "FreeLand" "laws" "LFreeLand$Laws;" ∈ wsX5_sets := ptX5_sets_woX5_sets _ (by decide +kernel)
  have kN84 : (RX5, 84, yX2_valueOf) ∈ nw_M := (by decide +kernel)
  have kIX2 : Cond.initialized RX2 ∈ wsX5_sets := ptX5_sets_woX5_sets _ (by decide +kernel)
  have kVX2_valueOf : Cond.instanceMethod yX2_valueOf ∈ wsX5_sets := ptX5_sets_woX5_sets _ (by decide +kernel)
  have kSX2_valueOf : Cond.selects RX2 yX2_valueOf yX2_valueOf ∈ wsX5_sets := ptX5_sets_woX5_sets _ (by decide +kernel)
  have iX2 : ∀ w ∈ u_ws RX2 TX2 7, w ∈ wsX5_sets := ptX5_sets_wsX20
  have kX5_80 : (RX5, 80, "FreeLand$Laws", "from", "[I") ∈ nw_F := (by decide +kernel)
  have kX5_72 : (RX5, 72, "FreeLand$Laws", "size", "I") ∈ nw_F := (by decide +kernel)
  refine fj_lv (lv' := [(0, .ref (ad 0)), (1, .int x), (2, .int y)]) [0, 1, 2] rfl ?_
  refine fj_iload_n C 1 dX5_sets_0 rfl rfl ?_
  refine fj_iconst (v := (-1)) C dX5_sets_1 (by decide) ?_
  refine fj_icmp_eq (tgt := 26) C dX5_sets_2 (by decide) (fun h2 => ?_) (fun h2 => ?_)
  · have hx : x = -1 ∨ ib x S := by first | exact Or.inl h2 | exact Or.inr ((ib_m1 (show S < 2 ^ 30 by omega)).mp h19)
    refine fj_iload_n C 2 dX5_sets_26 rfl rfl ?_
    refine fj_iconst (v := 0) C dX5_sets_27 (by decide) ?_
    refine fj_bipush (v := 9) C dX5_sets_28 (by decide) ?_
    refine fj_callSw (As := [.int y, .int 0, .int 9]) (rest := []) C (d_X5_within l D ty t0 (fx_w ad ty a g n) y 0 9) (va_cwS 3 C.2.2.2.2.1 gX5_sets_X5_within rfl rfl rfl (by decide +kernel) ⟨Nat.le_of_ble_eq_true rfl, Nat.le_of_ble_eq_true rfl⟩)  rfl (Nat.le_of_ble_eq_true rfl) dX5_sets_30 ⟨Nat.zero_le _, Nat.zero_le _⟩ (fun v9 w9 hp9 => ?_)
    obtain ⟨rfl, rfl⟩ := hp9
    refine fj_st (st' := .int (if (0 ≤ y ∧ y ≤ 9) then 1 else 0) :: []) rfl ?_
    refine fj_ifb_ne (tgt := 40) C dX5_sets_33 (by decide) (fun h33 => ?_) (fun h33 => ?_)
    · obtain ⟨q, hq, rfl⟩ := fx_le8 h33 (N := 9) rfl (by decide)
      refine fj_iload_n C 2 dX5_sets_40 rfl rfl ?_
      refine fj_bipush (v := 9) C dX5_sets_41 (by decide) ?_
      refine fj_icmp_ne (tgt := 65) C dX5_sets_43 (by decide) (fun h43 => ?_) (fun h43 => ?_)
      · have hq9 : q < 9 := Nat.lt_of_le_of_ne hq fun e => h43 (by rw [e]; rfl)
        refine fj_aload_n C 0 dX5_sets_65 rfl rfl ?_
        refine fj_get (Cn := RX5) (T := TX5) (N := 5) (ci := 5) (v := .ref (ad 4)) C iX5 0 (fx_at0 _ _ _ _ _) rfl 1 (by decide) kX5_19 rfl dX5_sets_66 ?_
        refine fj_iload_n C 1 dX5_sets_69 rfl rfl ?_
        refine fj_iload_n C 2 dX5_sets_70 rfl rfl ?_
        refine fj_callVNw (As := [.int x, .int (nI q)]) (rest := []) C (d_X2_valueOf l D ty t0 ad a g n P S T B I x (nI q) q rfl hq9) ⟨va_cnB 2 C.2.2.2.2.1 gX5_sets_X2_valueOf_n84 rfl rfl rfl (nw_m C.2.2.2.2.2.2.2.1 kN84) (C.2.2.2.2.1 _ kIX2) (by decide +kernel) ⟨Nat.le_of_ble_eq_true rfl, Nat.le_of_ble_eq_true rfl⟩, C.2.2.2.2.1 _ kVX2_valueOf, C.2.2.2.2.1 _ kSX2_valueOf⟩ ⟨4, 2, _, _, fx_at4 _ _ _ _ _, rfl, rfl⟩ rfl (Nat.le_of_ble_eq_true rfl) dX5_sets_71 ⟨Nat.zero_le _, Nat.zero_le _⟩ (fun v9 w9 hp9 => ?_)
        obtain ⟨rfl, rfl⟩ := hp9
        refine fj_st (st' := .int (vof a x q S 0) :: []) rfl ?_
        exact fj_iret C E9 dX5_sets_74 ⟨by rw [if_pos hx, if_pos h33, if_neg h43, nI_clamp (by omega)], rfl⟩
      · refine fj_iload_n C 1 dX5_sets_46 rfl rfl ?_
        refine fj_iconst (v := (-1)) C dX5_sets_47 (by decide) ?_
        refine fj_icmp_ne (tgt := 55) C dX5_sets_48 (by decide) (fun h48 => ?_) (fun h48 => ?_)
        · refine fj_aload_n C 0 dX5_sets_55 rfl rfl ?_
          refine fj_get (Cn := RX5) (T := TX5) (N := 5) (ci := 5) (v := .ref (ad 4)) C iX5 0 (fx_at0 _ _ _ _ _) rfl 1 (by decide) kX5_19 rfl dX5_sets_56 ?_
          refine fj_getN (Cn := RX2) (T := TX2) (N := 7) (ci := 2) (v := .ref (ad 6)) C iX2 4 (fx_at4 _ _ _ _ _) rfl 3 (by decide) kX5_80 rfl dX5_sets_59 ?_
          refine fj_iload_n C 1 dX5_sets_62 rfl rfl ?_
          refine fj_iald (f := (a 6)) C 6 (fx_at6 _ _ _ _ _) (by first | exact absurd h2 h48 | exact fx_ibin h19 (by omega) (by omega)) dX5_sets_63 ?_
          exact fj_iret C E9 dX5_sets_64 ⟨by first | exact absurd h2 h48 | exact absurd h48 h2 | (rw [if_pos hx, if_pos h33, if_pos h43, if_pos h48]; done) | (rw [if_pos hx, if_pos h33, if_pos h43, if_neg h48]; done), rfl⟩
        · refine fj_iconst (v := 0) C dX5_sets_51 (by decide) ?_
          refine fj_goto (tgt := 64) C dX5_sets_52 (by decide) ?_
          exact fj_iret C E9 dX5_sets_64 ⟨by first | exact absurd h2 h48 | exact absurd h48 h2 | (rw [if_pos hx, if_pos h33, if_pos h43, if_pos h48]; done) | (rw [if_pos hx, if_pos h33, if_pos h43, if_neg h48]; done), rfl⟩
    · refine fj_sipush (v := (-1002)) C dX5_sets_36 (by decide) ?_
      exact fj_iret C E9 dX5_sets_39 ⟨by rw [if_pos hx, if_neg h33], rfl⟩
  · refine fj_iload_n C 1 dX5_sets_5 rfl rfl ?_
    refine fj_iconst (v := 0) C dX5_sets_6 (by decide) ?_
    refine fj_aload_n C 0 dX5_sets_7 rfl rfl ?_
    refine fj_get (Cn := RX5) (T := TX5) (N := 5) (ci := 5) (v := .ref (ad 4)) C iX5 0 (fx_at0 _ _ _ _ _) rfl 1 (by decide) kX5_19 rfl dX5_sets_8 ?_
    refine fj_getN (Cn := RX2) (T := TX2) (N := 7) (ci := 2) (v := .int (n 3)) C iX2 4 (fx_at4 _ _ _ _ _) rfl 6 (by decide) kX5_72 rfl dX5_sets_11 ?_
    refine fj_at (y := nI S) hn3 ?_
    refine fj_iconst (v := 1) C dX5_sets_14 (by decide) ?_
    refine fj_isub C dX5_sets_15 ?_
    refine fj_callSw (As := [.int x, .int 0, .int ((nI S) - 1)]) (rest := []) C (d_X5_within l D ty t0 (fx_w ad ty a g n) x 0 ((nI S) - 1)) (va_cwS 3 C.2.2.2.2.1 gX5_sets_X5_within rfl rfl rfl (by decide +kernel) ⟨Nat.le_of_ble_eq_true rfl, Nat.le_of_ble_eq_true rfl⟩)  rfl (Nat.le_of_ble_eq_true rfl) dX5_sets_16 ⟨Nat.zero_le _, Nat.zero_le _⟩ (fun v9 w9 hp9 => ?_)
    obtain ⟨rfl, rfl⟩ := hp9
    refine fj_st (st' := .int (if (0 ≤ x ∧ x ≤ ((nI S) - 1)) then 1 else 0) :: []) rfl ?_
    refine fj_ifb_ne (tgt := 26) C dX5_sets_19 (by decide) (fun h19 => ?_) (fun h19 => ?_)
    · have hx : x = -1 ∨ ib x S := by first | exact Or.inl h2 | exact Or.inr ((ib_m1 (show S < 2 ^ 30 by omega)).mp h19)
      refine fj_iload_n C 2 dX5_sets_26 rfl rfl ?_
      refine fj_iconst (v := 0) C dX5_sets_27 (by decide) ?_
      refine fj_bipush (v := 9) C dX5_sets_28 (by decide) ?_
      refine fj_callSw (As := [.int y, .int 0, .int 9]) (rest := []) C (d_X5_within l D ty t0 (fx_w ad ty a g n) y 0 9) (va_cwS 3 C.2.2.2.2.1 gX5_sets_X5_within rfl rfl rfl (by decide +kernel) ⟨Nat.le_of_ble_eq_true rfl, Nat.le_of_ble_eq_true rfl⟩)  rfl (Nat.le_of_ble_eq_true rfl) dX5_sets_30 ⟨Nat.zero_le _, Nat.zero_le _⟩ (fun v9 w9 hp9 => ?_)
      obtain ⟨rfl, rfl⟩ := hp9
      refine fj_st (st' := .int (if (0 ≤ y ∧ y ≤ 9) then 1 else 0) :: []) rfl ?_
      refine fj_ifb_ne (tgt := 40) C dX5_sets_33 (by decide) (fun h33 => ?_) (fun h33 => ?_)
      · obtain ⟨q, hq, rfl⟩ := fx_le8 h33 (N := 9) rfl (by decide)
        refine fj_iload_n C 2 dX5_sets_40 rfl rfl ?_
        refine fj_bipush (v := 9) C dX5_sets_41 (by decide) ?_
        refine fj_icmp_ne (tgt := 65) C dX5_sets_43 (by decide) (fun h43 => ?_) (fun h43 => ?_)
        · have hq9 : q < 9 := Nat.lt_of_le_of_ne hq fun e => h43 (by rw [e]; rfl)
          refine fj_aload_n C 0 dX5_sets_65 rfl rfl ?_
          refine fj_get (Cn := RX5) (T := TX5) (N := 5) (ci := 5) (v := .ref (ad 4)) C iX5 0 (fx_at0 _ _ _ _ _) rfl 1 (by decide) kX5_19 rfl dX5_sets_66 ?_
          refine fj_iload_n C 1 dX5_sets_69 rfl rfl ?_
          refine fj_iload_n C 2 dX5_sets_70 rfl rfl ?_
          refine fj_callVNw (As := [.int x, .int (nI q)]) (rest := []) C (d_X2_valueOf l D ty t0 ad a g n P S T B I x (nI q) q rfl hq9) ⟨va_cnB 2 C.2.2.2.2.1 gX5_sets_X2_valueOf_n84 rfl rfl rfl (nw_m C.2.2.2.2.2.2.2.1 kN84) (C.2.2.2.2.1 _ kIX2) (by decide +kernel) ⟨Nat.le_of_ble_eq_true rfl, Nat.le_of_ble_eq_true rfl⟩, C.2.2.2.2.1 _ kVX2_valueOf, C.2.2.2.2.1 _ kSX2_valueOf⟩ ⟨4, 2, _, _, fx_at4 _ _ _ _ _, rfl, rfl⟩ rfl (Nat.le_of_ble_eq_true rfl) dX5_sets_71 ⟨Nat.zero_le _, Nat.zero_le _⟩ (fun v9 w9 hp9 => ?_)
          obtain ⟨rfl, rfl⟩ := hp9
          refine fj_st (st' := .int (vof a x q S 0) :: []) rfl ?_
          exact fj_iret C E9 dX5_sets_74 ⟨by rw [if_pos hx, if_pos h33, if_neg h43, nI_clamp (by omega)], rfl⟩
        · refine fj_iload_n C 1 dX5_sets_46 rfl rfl ?_
          refine fj_iconst (v := (-1)) C dX5_sets_47 (by decide) ?_
          refine fj_icmp_ne (tgt := 55) C dX5_sets_48 (by decide) (fun h48 => ?_) (fun h48 => ?_)
          · refine fj_aload_n C 0 dX5_sets_55 rfl rfl ?_
            refine fj_get (Cn := RX5) (T := TX5) (N := 5) (ci := 5) (v := .ref (ad 4)) C iX5 0 (fx_at0 _ _ _ _ _) rfl 1 (by decide) kX5_19 rfl dX5_sets_56 ?_
            refine fj_getN (Cn := RX2) (T := TX2) (N := 7) (ci := 2) (v := .ref (ad 6)) C iX2 4 (fx_at4 _ _ _ _ _) rfl 3 (by decide) kX5_80 rfl dX5_sets_59 ?_
            refine fj_iload_n C 1 dX5_sets_62 rfl rfl ?_
            refine fj_iald (f := (a 6)) C 6 (fx_at6 _ _ _ _ _) (by first | exact absurd h2 h48 | exact fx_ibin h19 (by omega) (by omega)) dX5_sets_63 ?_
            exact fj_iret C E9 dX5_sets_64 ⟨by first | exact absurd h2 h48 | exact absurd h48 h2 | (rw [if_pos hx, if_pos h33, if_pos h43, if_pos h48]; done) | (rw [if_pos hx, if_pos h33, if_pos h43, if_neg h48]; done), rfl⟩
          · refine fj_iconst (v := 0) C dX5_sets_51 (by decide) ?_
            refine fj_goto (tgt := 64) C dX5_sets_52 (by decide) ?_
            exact fj_iret C E9 dX5_sets_64 ⟨by first | exact absurd h2 h48 | exact absurd h48 h2 | (rw [if_pos hx, if_pos h33, if_pos h43, if_pos h48]; done) | (rw [if_pos hx, if_pos h33, if_pos h43, if_neg h48]; done), rfl⟩
      · refine fj_sipush (v := (-1002)) C dX5_sets_36 (by decide) ?_
        exact fj_iret C E9 dX5_sets_39 ⟨by rw [if_pos hx, if_neg h33], rfl⟩
    · refine fj_sipush (v := (-1001)) C dX5_sets_22 (by decide) ?_
      exact fj_iret C E9 dX5_sets_25 ⟨by rw [if_neg (fun z => z.elim h2 (fun z => h19 ((ib_m1 (show S < 2 ^ 30 by omega)).mpr z)))], rfl⟩

set_option maxHeartbeats 4000000 in
set_option maxRecDepth 100000 in
theorem d_X5_lawOf (l : Launch) (D : va_G) (ty : Nat → ClassId) (t0 : Nat → Nat) (ad : Nat → Nat) (a : Nat → Nat → Int32) (g : Nat → Nat → Int64) (n : Nat → Int32) (P : Nat) (S : Nat) (T : Nat) (B : Nat) (I : XI P S T B a n) (x : Int32)  : fc l yX5_lawOf wsX5_lawOf (fj_rm 2 42 0 0) D ty t0 [.ref (ad 0), .int x] (fx_w ad ty a g n) 0 0 (fun v w => v = some (.int (if 0 ≤ x ∧ x ≤ 20000 then iof a x S else -1002)) ∧ w = fx_w ad ty a g n) := by
  refine fc_start (own := RX5) (cc := cX5_lawOf) (maxL := 2) (ret := (some .int)) (by decide) rfl (Nat.le_of_ble_eq_true rfl) rfl ?_
  intro p e s m args below meth c Q A C hmn E9
  obtain ⟨hn0, hP, hn1, hT, hn3, hS, hn4, hB, iLO, iBO, iWho, iSort, iQ, iN⟩ := id I
  have iX5 : ∀ w ∈ u_ws RX5 TX5 5, w ∈ wsX5_lawOf := ptX5_lawOf_wsX50
  have kX5_19 : Cond.fieldLink RX5 19 "FreeLand" "laws" "LFreeLand$Laws;" ∈ wsX5_lawOf := ptX5_lawOf_woX5_lawOf _ (by decide +kernel)
  have kN87 : (RX5, 87, yX2_inForce) ∈ nw_M := (by decide +kernel)
  have kIX2 : Cond.initialized RX2 ∈ wsX5_lawOf := ptX5_lawOf_woX5_lawOf _ (by decide +kernel)
  have kVX2_inForce : Cond.instanceMethod yX2_inForce ∈ wsX5_lawOf := ptX5_lawOf_woX5_lawOf _ (by decide +kernel)
  have kSX2_inForce : Cond.selects RX2 yX2_inForce yX2_inForce ∈ wsX5_lawOf := ptX5_lawOf_woX5_lawOf _ (by decide +kernel)
  refine fj_lv (lv' := [(0, .ref (ad 0)), (1, .int x)]) [0, 1] rfl ?_
  refine fj_iload_n C 1 dX5_lawOf_0 rfl rfl ?_
  refine fj_callSw (As := [.int x]) (rest := []) C (d_X5_isDay l D ty t0 (fx_w ad ty a g n) x) (va_cwS 1 C.2.2.2.2.1 gX5_lawOf_X5_isDay rfl rfl rfl (by decide +kernel) ⟨Nat.le_of_ble_eq_true rfl, Nat.le_of_ble_eq_true rfl⟩)  rfl (Nat.le_of_ble_eq_true rfl) dX5_lawOf_1 ⟨Nat.zero_le _, Nat.zero_le _⟩ (fun v9 w9 hp9 => ?_)
  obtain ⟨rfl, rfl⟩ := hp9
  refine fj_st (st' := .int (if (0 ≤ x ∧ x ≤ 20000) then 1 else 0) :: []) rfl ?_
  refine fj_ifb_ne (tgt := 11) C dX5_lawOf_4 (by decide) (fun h4 => ?_) (fun h4 => ?_)
  · refine fj_aload_n C 0 dX5_lawOf_11 rfl rfl ?_
    refine fj_get (Cn := RX5) (T := TX5) (N := 5) (ci := 5) (v := .ref (ad 4)) C iX5 0 (fx_at0 _ _ _ _ _) rfl 1 (by decide) kX5_19 rfl dX5_lawOf_12 ?_
    refine fj_iload_n C 1 dX5_lawOf_15 rfl rfl ?_
    refine fj_callVNw (As := [.int x]) (rest := []) C (d_X2_inForce l D ty t0 ad a g n P S T B I x) ⟨va_cnB 1 C.2.2.2.2.1 gX5_lawOf_X2_inForce_n87 rfl rfl rfl (nw_m C.2.2.2.2.2.2.2.1 kN87) (C.2.2.2.2.1 _ kIX2) (by decide +kernel) ⟨Nat.le_of_ble_eq_true rfl, Nat.le_of_ble_eq_true rfl⟩, C.2.2.2.2.1 _ kVX2_inForce, C.2.2.2.2.1 _ kSX2_inForce⟩ ⟨4, 2, _, _, fx_at4 _ _ _ _ _, rfl, rfl⟩ rfl (Nat.le_of_ble_eq_true rfl) dX5_lawOf_16 ⟨Nat.zero_le _, Nat.zero_le _⟩ (fun v9 w9 hp9 => ?_)
    obtain ⟨rfl, rfl⟩ := hp9
    refine fj_st (st' := .int (iof a x S) :: []) rfl ?_
    exact fj_iret C E9 dX5_lawOf_19 ⟨by first | (rw [if_pos h4]; done) | (rw [if_neg h4]; done), rfl⟩
  · refine fj_sipush (v := (-1002)) C dX5_lawOf_7 (by decide) ?_
    exact fj_iret C E9 dX5_lawOf_10 ⟨by first | (rw [if_pos h4]; done) | (rw [if_neg h4]; done), rfl⟩
