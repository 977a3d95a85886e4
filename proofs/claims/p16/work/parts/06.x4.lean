/-- how many of the first are struck -/
def cst (f : Nat → Int32) : Nat → Nat
  | 0 => 0
  | k + 1 => cst f k + if f k = 0 then 0 else 1
theorem cst_le (f : Nat → Int32) (k : Nat) : cst f k ≤ k := by
  induction k with
  | zero => exact Nat.le_refl 0
  | succ k ih => simp only [cst]; split <;> omega
theorem cst_p {f : Nat → Int32} {k : Nat} (h : ¬ f k = 0) : cst f (k + 1) = cst f k + 1 := by simp [cst, h]
theorem cst_z {f : Nat → Int32} {k : Nat} (h : f k = 0) : cst f (k + 1) = cst f k := by simp [cst, h]
/-- a byte of a long -/
def byt (u : Int64) (j : Nat) : Int32 := vp_nar .byte ((u >>> ((nI (8 * j)).toInt64 &&& 63)).toInt32.toInt8.toInt32)
def apT (f : Nat → Int32) (T : Nat) (u : Int64) (k : Nat) : Nat → Nat → Int32
  | 0 => f
  | d + 1 => upd (apT f T u k d) (T + d) (byt u (k - (d + 1)))
theorem apT_s {f : Nat → Int32} {T : Nat} {u : Int64} {k d r : Nat} (h : k - (d + 1) = r) : apT f T u k (d + 1) = upd (apT f T u k d) (T + d) (byt u r) := by rw [← h]; rfl
theorem fx_im (r : Nat) : nI (r + 1) - 1 + Int32.ofInt (-1) = nI r - 1 := by rw [nI_pred, Int32.sub_eq_add_neg]; rfl
theorem fx_r0 {r : Nat} (h : nI r - 1 < 0) (hr : r < 2 ^ 31) : r = 0 := by
  cases r with
  | zero => rfl
  | succ z =>
    rw [nI_pred] at h
    have := Int32.lt_iff_toInt_lt.mp h
    rw [nI_toInt (by omega)] at this
    have c : (0 : Int32).toInt = 0 := by decide
    omega
/-- a thing of a law's text begins here -/
def bgT (f : Nat → Int32) (k : Nat) : Prop := ¬ f k = 32 ∧ (k = 0 ∨ f (k - 1) = 32)
def enT (f : Nat → Int32) (T k e : Nat) : Prop := k ≤ e ∧ e ≤ T ∧ (∀ j, k ≤ j → j < e → ¬ f j = 32) ∧ (e = T ∨ f e = 32)
def dgs (f : Nat → Int32) (i e : Nat) : Prop := ∀ j, i ≤ j → j < e → ¬ f j < 48 ∧ f j ≤ 57
def num (f : Nat → Int32) (i : Nat) : Nat → Int32
  | 0 => 0
  | d + 1 => 10 * num f i d + f (i + d) - 48
theorem fx_eqI {a b : Nat} (h : nI a = nI b) (ha : a < 2 ^ 31) (hb : b < 2 ^ 31) : a = b := by
  have := congrArg Int32.toInt h
  rw [nI_toInt ha, nI_toInt hb] at this
  omega
set_option maxHeartbeats 4000000 in
set_option maxRecDepth 100000 in
theorem d_X0_countStruck (l : Launch) (D : va_G) (ty : Nat → ClassId) (t0 : Nat → Nat) (ad : Nat → Nat) (a : Nat → Nat → Int32) (g : Nat → Nat → Int64) (n : Nat → Int32) (P : Nat) (S : Nat) (T : Nat) (B : Nat) (I : XI P S T B a n)   : fc l yX0_countStruck wsX0_countStruck (fj_rm 0 0 0 0) D ty t0 [.ref (ad 17)] (fx_w ad ty a g n) 0 0 (fun v w => v = some (.int (nI (cst (a 23) B))) ∧ w = fx_w ad ty a g n) := by
  refine fc_start (own := RX0) (cc := cX0_countStruck) (maxL := 3) (ret := (some .int)) (by decide) rfl (Nat.le_of_ble_eq_true rfl) rfl ?_
  intro p e s m args below meth c Q A C hmn E9
  obtain ⟨hn0, hP, hn1, hT, hn3, hS, hn4, hB, iLO, iBO, iWho, iSort, iQ, iN⟩ := id I
  have iX0 : ∀ w ∈ u_ws RX0 TX0 8, w ∈ wsX0_countStruck := ptX0_countStruck_wsX00
  have kX0_34 : Cond.fieldLink RX0 34 "FreeLand$Book" "size" "I" ∈ wsX0_countStruck := ptX0_countStruck_woX0_countStruck _ (by decide +kernel)
  have kX0_27 : Cond.fieldLink RX0 27 "FreeLand$Book" "struck" "[Z" ∈ wsX0_countStruck := ptX0_countStruck_woX0_countStruck _ (by decide +kernel)
  refine fj_lv (lv' := [(0, .ref (ad 17))]) [0] rfl ?_
  refine fj_iconst (v := 0) C dX0_countStruck_0 (by decide) ?_
  refine fj_istore_n (lv' := [(1, .int 0), (0, .ref (ad 17))]) C dX0_countStruck_1 rfl (by decide) rfl ?_
  refine fj_iconst (v := 0) C dX0_countStruck_2 (by decide) ?_
  refine fj_istore_n (lv' := [(2, .int 0), (1, .int 0), (0, .ref (ad 17))]) C dX0_countStruck_3 rfl (by decide) rfl ?_
  refine fj_lv (lv' := [(0, .ref (ad 17)), (1, .int 0), (2, .int 0)]) [2, 1, 0] rfl ?_
  have lp4 : ∀ (k : Nat), (k ≤ B) → fj p l e (fj_rm 0 0 0 0) s m args below meth c Q A D 3 0 0 (fx_w ad ty a g n) [(0, .ref (ad 17)), (1, .int (nI (cst (a 23) k))), (2, .int (nI k))] 4 [] := by
    have key : ∀ zz : Nat, (fun (k : Nat) => (k ≤ B) → fj p l e (fj_rm 0 0 0 0) s m args below meth c Q A D 3 0 0 (fx_w ad ty a g n) [(0, .ref (ad 17)), (1, .int (nI (cst (a 23) k))), (2, .int (nI k))] 4 []) zz := by
      refine fx_ind (fun (k : Nat) => B - k) _ ?_
      rintro k ih hk
      refine fj_iload_n C 2 dX0_countStruck_4 rfl rfl ?_
      refine fj_aload_n C 0 dX0_countStruck_5 rfl rfl ?_
      refine fj_get (Cn := RX0) (T := TX0) (N := 8) (ci := 0) (v := .int (n 4)) C iX0 17 (fx_at17 _ _ _ _ _) rfl 7 (by decide) kX0_34 rfl dX0_countStruck_6 ?_
      refine fj_at (y := nI B) hn4 ?_
      refine fj_icmp_ge (tgt := 30) C dX0_countStruck_9 (by decide) (fun h9 => ?_) (fun h9 => ?_)
      · have hkB : B ≤ k := Nat.le_of_not_lt fun q => absurd (Int32.not_lt.mpr h9) (not_not_intro ((nI_ltI (by omega) (by omega)).mpr q))
        refine fj_iload_n C 1 dX0_countStruck_30 rfl rfl ?_
        exact fj_iret C E9 dX0_countStruck_31 ⟨by rw [show k = B by omega], rfl⟩
      · have hkB : k < B := (nI_ltI (by omega) (by omega)).mp (Int32.not_le.mp h9)
        refine fj_aload_n C 0 dX0_countStruck_12 rfl rfl ?_
        refine fj_get (Cn := RX0) (T := TX0) (N := 8) (ci := 0) (v := .ref (ad 23)) C iX0 17 (fx_at17 _ _ _ _ _) rfl 5 (by decide) kX0_27 rfl dX0_countStruck_13 ?_
        refine fj_iload_n C 2 dX0_countStruck_16 rfl rfl ?_
        refine fj_zald (f := (a 23)) C 23 (fx_at23 _ _ _ _ _) (vp_in_nI (by omega) (by decide)) dX0_countStruck_17 ?_
        refine fj_at (y := a 23 k) (by rw [nI_clamp (by omega)]) ?_
        refine fj_if_eq (tgt := 24) C dX0_countStruck_18 (by decide) (fun h18 => ?_) (fun h18 => ?_)
        · refine fj_iinc (v := nI (k + 1)) (lv' := [(2, .int (nI (k + 1))), (0, .ref (ad 17)), (1, .int (nI (cst (a 23) k)))]) C 2 dX0_countStruck_24 rfl (nI_1 k) (by decide) rfl ?_
          refine fj_goto (tgt := 4) C dX0_countStruck_27 (by decide) ?_
          refine fj_lv (lv' := [(0, .ref (ad 17)), (1, .int (nI (cst (a 23) k))), (2, .int (nI (k + 1)))]) [1, 2, 0] rfl ?_
          refine fj_lv (lv' := [(0, .ref (ad 17)), (1, .int (nI (cst (a 23) (k + 1)))), (2, .int (nI (k + 1)))]) [0, 1, 2] (by rw [cst_z h18]; rfl) ?_
          exact ih (k + 1) (by show B - (k + 1) < B - k; omega) (by omega)
        · refine fj_iinc (v := nI (cst (a 23) (k + 1))) (lv' := [(1, .int (nI (cst (a 23) (k + 1)))), (0, .ref (ad 17)), (2, .int (nI k))]) C 1 dX0_countStruck_21 rfl (by rw [cst_p h18]; exact nI_1 _) (by decide) rfl ?_
          refine fj_iinc (v := nI (k + 1)) (lv' := [(2, .int (nI (k + 1))), (1, .int (nI (cst (a 23) (k + 1)))), (0, .ref (ad 17))]) C 2 dX0_countStruck_24 rfl (nI_1 k) (by decide) rfl ?_
          refine fj_goto (tgt := 4) C dX0_countStruck_27 (by decide) ?_
          refine fj_lv (lv' := [(0, .ref (ad 17)), (1, .int (nI (cst (a 23) (k + 1)))), (2, .int (nI (k + 1)))]) [2, 1, 0] rfl ?_
          exact ih (k + 1) (by show B - (k + 1) < B - k; omega) (by omega)
    intro k
    exact key k
  exact lp4 0 (Nat.zero_le B)

set_option maxHeartbeats 4000000 in
set_option maxRecDepth 100000 in
theorem d_X2_append (l : Launch) (D : va_G) (ty : Nat → ClassId) (t0 : Nat → Nat) (ad : Nat → Nat) (a : Nat → Nat → Int32) (g : Nat → Nat → Int64) (n : Nat → Int32) (P : Nat) (S : Nat) (T : Nat) (B : Nat) (I : XI P S T B a n) (x : Int32) (u : Int64) (k : Nat) (ek : x = nI k) (hk : T + k ≤ 120) : fc l yX2_append wsX2_append (fj_rm 0 0 0 0) D ty t0 [.ref (ad 4), .int x, .long u] (fx_w ad ty a g n) 0 0 (fun v w => v = some (.int (nI (T + k))) ∧ w = fx_w ad ty (va_up a 5 (apT (a 5) T u k k)) g (va_up n 1 (nI (T + k)))) := by
  subst ek
  refine fc_start (own := RX2) (cc := cX2_append) (maxL := 5) (ret := (some .int)) (by decide) rfl (Nat.le_of_ble_eq_true rfl) rfl ?_
  intro p e s m args below meth c Q A C hmn E9
  obtain ⟨hn0, hP, hn1, hT, hn3, hS, hn4, hB, iLO, iBO, iWho, iSort, iQ, iN⟩ := id I
  have iX2 : ∀ w ∈ u_ws RX2 TX2 7, w ∈ wsX2_append := ptX2_append_wsX20
  have kX2_31 : Cond.fieldLink RX2 31 "FreeLand$Laws" "length" "I" ∈ wsX2_append := ptX2_append_woX2_append _ (by decide +kernel)
  have kX2_9 : Cond.fieldLink RX2 9 "FreeLand$Laws" "text" "[B" ∈ wsX2_append := ptX2_append_woX2_append _ (by decide +kernel)
  refine fj_lv (lv' := [(0, .ref (ad 4)), (1, .int (nI k)), (2, .long u)]) [0, 1, 2] rfl ?_
  refine fj_iload_n C 1 dX2_append_0 rfl rfl ?_
  refine fj_iconst (v := 1) C dX2_append_1 (by decide) ?_
  refine fj_isub C dX2_append_2 ?_
  refine fj_istore (lv' := [(4, .int ((nI k) - 1)), (0, .ref (ad 4)), (1, .int (nI k)), (2, .long u)]) C dX2_append_3 (by decide) rfl ?_
  refine fj_lv (lv' := [(0, .ref (ad 4)), (1, .int (nI k)), (2, .long u), (4, .int ((nI k) - 1))]) [1, 2, 3, 0] rfl ?_
  have lp5 : ∀ (d : Nat) (r : Nat), (d + r = k) → fj p l e (fj_rm 0 0 0 0) s m args below meth c Q A D 5 0 0 (fx_w ad ty (va_up a 5 (apT (a 5) T u k d)) g (va_up n 1 (nI (T + d)))) [(0, .ref (ad 4)), (1, .int (nI k)), (2, .long u), (4, .int (nI r - 1))] 5 [] := by
    have key : ∀ zz : Nat × Nat, (fun (zz : Nat × Nat) => match zz with | (d, r) => (d + r = k) → fj p l e (fj_rm 0 0 0 0) s m args below meth c Q A D 5 0 0 (fx_w ad ty (va_up a 5 (apT (a 5) T u k d)) g (va_up n 1 (nI (T + d)))) [(0, .ref (ad 4)), (1, .int (nI k)), (2, .long u), (4, .int (nI r - 1))] 5 []) zz := by
      refine fx_ind (fun (zz : Nat × Nat) => match zz with | (d, r) => r) _ ?_
      rintro ⟨d, r⟩ ih hd
      refine fj_iload C 3 dX2_append_5 rfl ?_
      refine fj_if_lt (tgt := 44) C dX2_append_7 (by decide) (fun h7 => ?_) (fun h7 => ?_)
      · have e0 : r = 0 := fx_r0 h7 (by omega)
        refine fj_aload_n C 0 dX2_append_44 rfl rfl ?_
        refine fj_get (Cn := RX2) (T := TX2) (N := 7) (ci := 2) (v := .int (nI (T + d))) C iX2 4 (fx_at4 _ _ _ _ _) rfl 1 (by decide) kX2_31 rfl dX2_append_45 ?_
        exact fj_iret C E9 dX2_append_48 ⟨by rw [show d = k by omega], by rw [show d = k by omega]⟩
      · obtain ⟨r, rfl⟩ : ∃ z, r = z + 1 := ⟨r - 1, by have : r ≠ 0 := fun e => h7 (by rw [e]; decide); omega⟩
        refine fj_aload_n C 0 dX2_append_10 rfl rfl ?_
        refine fj_get (Cn := RX2) (T := TX2) (N := 7) (ci := 2) (v := .ref (ad 5)) C iX2 4 (fx_at4 _ _ _ _ _) rfl 0 (by decide) kX2_9 rfl dX2_append_11 ?_
        refine fj_aload_n C 0 dX2_append_14 rfl rfl ?_
        refine fj_get (Cn := RX2) (T := TX2) (N := 7) (ci := 2) (v := .int (nI (T + d))) C iX2 4 (fx_at4 _ _ _ _ _) rfl 1 (by decide) kX2_31 rfl dX2_append_15 ?_
        refine fj_lload_n C 2 dX2_append_18 rfl rfl ?_
        refine fj_bipush (v := 8) C dX2_append_19 (by decide) ?_
        refine fj_iload C 3 dX2_append_21 rfl ?_
        refine fj_at (y := nI r) (nI_pred r) ?_
        refine fj_imul C dX2_append_23 ?_
        refine fj_at (y := nI (8 * r)) (pk_mul 8 r) ?_
        refine fj_lshr C dX2_append_24 ?_
        refine fj_l2i C dX2_append_25 ?_
        refine fj_i2b C dX2_append_26 ?_
        refine fj_bast (f := (apT (a 5) T u k d)) C 5 (fx_at5 _ _ _ _ _) (vp_in_nI (by omega) (by decide)) dX2_append_27 (fx_st5 _ _ _ _ _ _) ?_
        refine fj_ws (ws' := (fx_w ad ty (va_up a 5 (upd (apT (a 5) T u k d) (nI (T + d)).toNatClampNeg (vp_nar .byte (((u >>> ((nI (8 * r)).toInt64 &&& 63)).toInt32).toInt8.toInt32)))) g (va_up n 1 (nI (T + d))))) rfl ?_
        refine fj_ws (ws' := (fx_w ad ty (va_up a 5 (apT (a 5) T u k (d + 1))) g (va_up n 1 (nI (T + d))))) (by rw [apT_s (show k - (d + 1) = r by omega), nI_clamp (by omega)]; rfl) ?_
        refine fj_aload_n C 0 dX2_append_28 rfl rfl ?_
        refine fj_dup C dX2_append_29 rfl ?_
        refine fj_get (Cn := RX2) (T := TX2) (N := 7) (ci := 2) (v := .int (nI (T + d))) C iX2 4 (fx_at4 _ _ _ _ _) rfl 1 (by decide) kX2_31 rfl dX2_append_30 ?_
        refine fj_iconst (v := 1) C dX2_append_33 (by decide) ?_
        refine fj_iadd C dX2_append_34 ?_
        refine fj_at (y := nI (T + (d + 1))) (nI_1 (T + d)) ?_
        refine fj_put (Cn := RX2) (T := TX2) (N := 7) (ci := 2) C iX2 tyX2 tyX2_ok nmX2 4 (fx_at4 _ _ _ _ _) rfl 1 (by decide) kX2_31 rfl rfl rfl (Nat.le_of_ble_eq_true rfl) dX2_append_35 (fx_si4_1 _ _ _ _ _ _) ?_
        refine fj_ws (ws' := (fx_w ad ty (va_up a 5 (apT (a 5) T u k (d + 1))) g (va_up n 1 (nI (T + (d + 1)))))) rfl ?_
        refine fj_iinc (v := nI r - 1) (lv' := [(4, .int (nI r - 1)), (0, .ref (ad 4)), (1, .int (nI k)), (2, .long u)]) C 3 dX2_append_38 rfl (fx_im r) (by decide) rfl ?_
        refine fj_goto (tgt := 5) C dX2_append_41 (by decide) ?_
        refine fj_lv (lv' := [(0, .ref (ad 4)), (1, .int (nI k)), (2, .long u), (4, .int (nI r - 1))]) [1, 2, 3, 0] rfl ?_
        exact ih ⟨d + 1, r⟩ (by show r < r + 1; omega) (by omega)
    intro d r
    exact key ⟨d, r⟩
  refine fj_ws (ws' := (fx_w ad ty (va_up a 5 (apT (a 5) T u k 0)) g (va_up n 1 (nI (T + 0))))) (by rw [Nat.add_zero, ← hn1]; rfl) ?_
  exact lp5 0 k (Nat.zero_add k)

set_option maxHeartbeats 4000000 in
set_option maxRecDepth 100000 in
theorem d_X5_feed (l : Launch) (D : va_G) (ty : Nat → ClassId) (t0 : Nat → Nat) (ad : Nat → Nat) (a : Nat → Nat → Int32) (g : Nat → Nat → Int64) (n : Nat → Int32) (P : Nat) (S : Nat) (T : Nat) (B : Nat) (I : XI P S T B a n) (x : Int32) (u : Int64)  : fc l yX5_feed wsX5_feed (fj_rm 1 24 0 0) D ty t0 [.ref (ad 0), .int x, .long u] (fx_w ad ty a g n) 0 0 (fun v w => (¬ (1 ≤ x ∧ x ≤ 8) ∧ v = some (.int (-1002)) ∧ w = fx_w ad ty a g n) ∨ (∃ k, k ≤ 8 ∧ x = nI k ∧ 1 ≤ x ∧ ((¬ T + k ≤ 120 ∧ v = some (.int (-1004)) ∧ w = fx_w ad ty a g n) ∨ (T + k ≤ 120 ∧ v = some (.int (nI (T + k))) ∧ w = fx_w ad ty (va_up a 5 (apT (a 5) T u k k)) g (va_up n 1 (nI (T + k))))))) := by
  refine fc_start (own := RX5) (cc := cX5_feed) (maxL := 4) (ret := (some .int)) (by decide) rfl (Nat.le_of_ble_eq_true rfl) rfl ?_
  intro p e s m args below meth c Q A C hmn E9
  obtain ⟨hn0, hP, hn1, hT, hn3, hS, hn4, hB, iLO, iBO, iWho, iSort, iQ, iN⟩ := id I
  have iX5 : ∀ w ∈ u_ws RX5 TX5 5, w ∈ wsX5_feed := ptX5_feed_wsX50
  have kX5_19 : Cond.fieldLink RX5 19 "FreeLand" "laws" "LFreeLand$Laws;" ∈ wsX5_feed := ptX5_feed_woX5_feed _ (by decide +kernel)
  have iX2 : ∀ w ∈ u_ws RX2 TX2 7, w ∈ wsX5_feed := ptX5_feed_wsX20
  have kX5_61 : (RX5, 61, "FreeLand$Laws", "length", "I") ∈ nw_F := (by decide +kernel)
  have kN64 : (RX5, 64, yX2_append) ∈ nw_M := (by decide +kernel)
  have kIX2 : Cond.initialized RX2 ∈ wsX5_feed := ptX5_feed_woX5_feed _ (by decide +kernel)
  have kVX2_append : Cond.instanceMethod yX2_append ∈ wsX5_feed := ptX5_feed_woX5_feed _ (by decide +kernel)
  have kSX2_append : Cond.selects RX2 yX2_append yX2_append ∈ wsX5_feed := ptX5_feed_woX5_feed _ (by decide +kernel)
  refine fj_lv (lv' := [(0, .ref (ad 0)), (1, .int x), (2, .long u)]) [0, 1, 2] rfl ?_
  refine fj_iload_n C 1 dX5_feed_0 rfl rfl ?_
  refine fj_iconst (v := 1) C dX5_feed_1 (by decide) ?_
  refine fj_bipush (v := 8) C dX5_feed_2 (by decide) ?_
  refine fj_callSw (As := [.int x, .int 1, .int 8]) (rest := []) C (d_X5_within l D ty t0 (fx_w ad ty a g n) x 1 8) (va_cwS 3 C.2.2.2.2.1 gX5_feed_X5_within rfl rfl rfl (by decide +kernel) ⟨Nat.le_of_ble_eq_true rfl, Nat.le_of_ble_eq_true rfl⟩)  rfl (Nat.le_of_ble_eq_true rfl) dX5_feed_4 ⟨Nat.zero_le _, Nat.zero_le _⟩ (fun v9 w9 hp9 => ?_)
  obtain ⟨rfl, rfl⟩ := hp9
  refine fj_st (st' := .int (if (1 ≤ x ∧ x ≤ 8) then 1 else 0) :: []) rfl ?_
  refine fj_ifb_ne (tgt := 14) C dX5_feed_7 (by decide) (fun h7 => ?_) (fun h7 => ?_)
  · obtain ⟨k, hk8, rfl⟩ := fx_le8 ⟨Int32.le_trans (by decide : (0 : Int32) ≤ 1) h7.1, h7.2⟩ (N := 8) rfl (by decide)
    refine fj_aload_n C 0 dX5_feed_14 rfl rfl ?_
    refine fj_get (Cn := RX5) (T := TX5) (N := 5) (ci := 5) (v := .ref (ad 4)) C iX5 0 (fx_at0 _ _ _ _ _) rfl 1 (by decide) kX5_19 rfl dX5_feed_15 ?_
    refine fj_getN (Cn := RX2) (T := TX2) (N := 7) (ci := 2) (v := .int (n 1)) C iX2 4 (fx_at4 _ _ _ _ _) rfl 1 (by decide) kX5_61 rfl dX5_feed_18 ?_
    refine fj_at (y := nI T) hn1 ?_
    refine fj_iload_n C 1 dX5_feed_21 rfl rfl ?_
    refine fj_iadd C dX5_feed_22 ?_
    refine fj_at (y := nI (T + k)) (nI_add T k) ?_
    refine fj_bipush (v := 120) C dX5_feed_23 (by decide) ?_
    refine fj_icmp_le (tgt := 32) C dX5_feed_25 (by decide) (fun h25 => ?_) (fun h25 => ?_)
    · have hTk : T + k ≤ 120 := (nI_leI (b := 120) (by omega) (by decide)).mp h25
      refine fj_aload_n C 0 dX5_feed_32 rfl rfl ?_
      refine fj_get (Cn := RX5) (T := TX5) (N := 5) (ci := 5) (v := .ref (ad 4)) C iX5 0 (fx_at0 _ _ _ _ _) rfl 1 (by decide) kX5_19 rfl dX5_feed_33 ?_
      refine fj_iload_n C 1 dX5_feed_36 rfl rfl ?_
      refine fj_lload_n C 2 dX5_feed_37 rfl rfl ?_
      refine fj_callVNw (As := [.int (nI k), .long u]) (rest := []) C (d_X2_append l D ty t0 ad a g n P S T B I (nI k) u k rfl hTk) ⟨va_cnB 2 C.2.2.2.2.1 gX5_feed_X2_append_n64 rfl rfl rfl (nw_m C.2.2.2.2.2.2.2.1 kN64) (C.2.2.2.2.1 _ kIX2) (by decide +kernel) ⟨Nat.le_of_ble_eq_true rfl, Nat.le_of_ble_eq_true rfl⟩, C.2.2.2.2.1 _ kVX2_append, C.2.2.2.2.1 _ kSX2_append⟩ ⟨4, 2, _, _, fx_at4 _ _ _ _ _, rfl, rfl⟩ rfl (Nat.le_of_ble_eq_true rfl) dX5_feed_38 ⟨Nat.zero_le _, Nat.zero_le _⟩ (fun v9 w9 hp9 => ?_)
      obtain ⟨rfl, rfl⟩ := hp9
      refine fj_st (st' := .int (nI (T + k)) :: []) rfl ?_
      exact fj_iret C E9 dX5_feed_41 (Or.inr ⟨k, hk8, rfl, h7.1, Or.inr ⟨hTk, rfl, rfl⟩⟩)
    · have hTk : ¬ T + k ≤ 120 := fun q => h25 ((nI_leI (b := 120) (by omega) (by decide)).mpr q)
      refine fj_sipush (v := (-1004)) C dX5_feed_28 (by decide) ?_
      exact fj_iret C E9 dX5_feed_31 (Or.inr ⟨k, hk8, rfl, h7.1, Or.inl ⟨hTk, rfl, rfl⟩⟩)
  · refine fj_sipush (v := (-1002)) C dX5_feed_10 (by decide) ?_
    exact fj_iret C E9 dX5_feed_13 (Or.inl ⟨by assumption, rfl, rfl⟩)

set_option maxHeartbeats 4000000 in
set_option maxRecDepth 100000 in
theorem d_X2_beginsThing (l : Launch) (D : va_G) (ty : Nat → ClassId) (t0 : Nat → Nat) (ad : Nat → Nat) (a : Nat → Nat → Int32) (g : Nat → Nat → Int64) (n : Nat → Int32) (P : Nat) (S : Nat) (T : Nat) (B : Nat) (I : XI P S T B a n) (x : Int32) (k : Nat) (ek : x = nI k) (hk : k < T) : fc l yX2_beginsThing wsX2_beginsThing (fj_rm 0 0 0 0) D ty t0 [.ref (ad 4), .int x] (fx_w ad ty a g n) 0 0 (fun v w => (bgT (a 5) k ∧ v = some (.int 1) ∧ w = fx_w ad ty a g n) ∨ (¬ bgT (a 5) k ∧ v = some (.int 0) ∧ w = fx_w ad ty a g n)) := by
  subst ek
  refine fc_start (own := RX2) (cc := cX2_beginsThing) (maxL := 2) (ret := (some .boolean)) (by decide) rfl (Nat.le_of_ble_eq_true rfl) rfl ?_
  intro p e s m args below meth c Q A C hmn E9
  obtain ⟨hn0, hP, hn1, hT, hn3, hS, hn4, hB, iLO, iBO, iWho, iSort, iQ, iN⟩ := id I
  have iX2 : ∀ w ∈ u_ws RX2 TX2 7, w ∈ wsX2_beginsThing := ptX2_beginsThing_wsX20
  have kX2_9 : Cond.fieldLink RX2 9 "FreeLand$Laws" "text" "[B" ∈ wsX2_beginsThing := ptX2_beginsThing_woX2_beginsThing _ (by decide +kernel)
  refine fj_lv (lv' := [(0, .ref (ad 4)), (1, .int (nI k))]) [0, 1] rfl ?_
  refine fj_aload_n C 0 dX2_beginsThing_0 rfl rfl ?_
  refine fj_get (Cn := RX2) (T := TX2) (N := 7) (ci := 2) (v := .ref (ad 5)) C iX2 4 (fx_at4 _ _ _ _ _) rfl 0 (by decide) kX2_9 rfl dX2_beginsThing_1 ?_
  refine fj_iload_n C 1 dX2_beginsThing_4 rfl rfl ?_
  refine fj_bald (f := (a 5)) C 5 (fx_at5 _ _ _ _ _) (vp_in_nI (by omega) (by decide)) dX2_beginsThing_5 ?_
  refine fj_at (y := a 5 k) (by rw [nI_clamp (by omega)]) ?_
  refine fj_bipush (v := 32) C dX2_beginsThing_6 (by decide) ?_
  refine fj_icmp_eq (tgt := 32) C dX2_beginsThing_8 (by decide) (fun h8 => ?_) (fun h8 => ?_)
  · refine fj_iconst (v := 0) C dX2_beginsThing_32 (by decide) ?_
    exact fj_zret C E9 rfl dX2_beginsThing_33 (by first | exact Or.inl ⟨⟨by assumption, by first | exact Or.inl e0 | exact Or.inr (by assumption)⟩, rfl, rfl⟩ | exact Or.inr ⟨fun q => q.1 (by assumption), rfl, rfl⟩ | exact Or.inr ⟨fun q => q.2.elim e0 (by assumption), rfl, rfl⟩)
  · refine fj_iload_n C 1 dX2_beginsThing_11 rfl rfl ?_
    refine fj_if_eq (tgt := 28) C dX2_beginsThing_12 (by decide) (fun h12 => ?_) (fun h12 => ?_)
    · have e0 : k = 0 := fx_eqI (b := 0) h12 (by omega) (by decide)
      refine fj_iconst (v := 1) C dX2_beginsThing_28 (by decide) ?_
      refine fj_goto (tgt := 33) C dX2_beginsThing_29 (by decide) ?_
      exact fj_zret C E9 rfl dX2_beginsThing_33 (by first | exact Or.inl ⟨⟨by assumption, by first | exact Or.inl e0 | exact Or.inr (by assumption)⟩, rfl, rfl⟩ | exact Or.inr ⟨fun q => q.1 (by assumption), rfl, rfl⟩ | exact Or.inr ⟨fun q => q.2.elim e0 (by assumption), rfl, rfl⟩)
    · have e0 : ¬ k = 0 := fun q => h12 (by rw [q]; rfl)
      refine fj_aload_n C 0 dX2_beginsThing_15 rfl rfl ?_
      refine fj_get (Cn := RX2) (T := TX2) (N := 7) (ci := 2) (v := .ref (ad 5)) C iX2 4 (fx_at4 _ _ _ _ _) rfl 0 (by decide) kX2_9 rfl dX2_beginsThing_16 ?_
      refine fj_iload_n C 1 dX2_beginsThing_19 rfl rfl ?_
      refine fj_iconst (v := 1) C dX2_beginsThing_20 (by decide) ?_
      refine fj_isub C dX2_beginsThing_21 ?_
      refine fj_at (y := nI (k - 1)) (pk_sub (b := 1) (by omega)) ?_
      refine fj_bald (f := (a 5)) C 5 (fx_at5 _ _ _ _ _) (vp_in_nI (by omega) (by decide)) dX2_beginsThing_22 ?_
      refine fj_at (y := a 5 (k - 1)) (by rw [nI_clamp (by omega)]) ?_
      refine fj_bipush (v := 32) C dX2_beginsThing_23 (by decide) ?_
      refine fj_icmp_ne (tgt := 32) C dX2_beginsThing_25 (by decide) (fun h25 => ?_) (fun h25 => ?_)
      · refine fj_iconst (v := 0) C dX2_beginsThing_32 (by decide) ?_
        exact fj_zret C E9 rfl dX2_beginsThing_33 (by first | exact Or.inl ⟨⟨by assumption, by first | exact Or.inl e0 | exact Or.inr (by assumption)⟩, rfl, rfl⟩ | exact Or.inr ⟨fun q => q.1 (by assumption), rfl, rfl⟩ | exact Or.inr ⟨fun q => q.2.elim e0 (by assumption), rfl, rfl⟩)
      · refine fj_iconst (v := 1) C dX2_beginsThing_28 (by decide) ?_
        refine fj_goto (tgt := 33) C dX2_beginsThing_29 (by decide) ?_
        exact fj_zret C E9 rfl dX2_beginsThing_33 (by first | exact Or.inl ⟨⟨by assumption, by first | exact Or.inl e0 | exact Or.inr (by assumption)⟩, rfl, rfl⟩ | exact Or.inr ⟨fun q => q.1 (by assumption), rfl, rfl⟩ | exact Or.inr ⟨fun q => q.2.elim e0 (by assumption), rfl, rfl⟩)

set_option maxHeartbeats 4000000 in
set_option maxRecDepth 100000 in
theorem d_X2_endOfThing (l : Launch) (D : va_G) (ty : Nat → ClassId) (t0 : Nat → Nat) (ad : Nat → Nat) (a : Nat → Nat → Int32) (g : Nat → Nat → Int64) (n : Nat → Int32) (P : Nat) (S : Nat) (T : Nat) (B : Nat) (I : XI P S T B a n) (x : Int32) (k : Nat) (ek : x = nI k) (hk : k < T) : fc l yX2_endOfThing wsX2_endOfThing (fj_rm 0 0 0 0) D ty t0 [.ref (ad 4), .int x] (fx_w ad ty a g n) 0 0 (fun v w => ∃ z, enT (a 5) T k z ∧ v = some (.int (nI z)) ∧ w = fx_w ad ty a g n) := by
  subst ek
  refine fc_start (own := RX2) (cc := cX2_endOfThing) (maxL := 3) (ret := (some .int)) (by decide) rfl (Nat.le_of_ble_eq_true rfl) rfl ?_
  intro p e s m args below meth c Q A C hmn E9
  obtain ⟨hn0, hP, hn1, hT, hn3, hS, hn4, hB, iLO, iBO, iWho, iSort, iQ, iN⟩ := id I
  have iX2 : ∀ w ∈ u_ws RX2 TX2 7, w ∈ wsX2_endOfThing := ptX2_endOfThing_wsX20
  have kX2_31 : Cond.fieldLink RX2 31 "FreeLand$Laws" "length" "I" ∈ wsX2_endOfThing := ptX2_endOfThing_woX2_endOfThing _ (by decide +kernel)
  have kX2_9 : Cond.fieldLink RX2 9 "FreeLand$Laws" "text" "[B" ∈ wsX2_endOfThing := ptX2_endOfThing_woX2_endOfThing _ (by decide +kernel)
  refine fj_lv (lv' := [(0, .ref (ad 4)), (1, .int (nI k))]) [0, 1] rfl ?_
  refine fj_iload_n C 1 dX2_endOfThing_0 rfl rfl ?_
  refine fj_istore_n (lv' := [(2, .int (nI k)), (0, .ref (ad 4)), (1, .int (nI k))]) C dX2_endOfThing_1 rfl (by decide) rfl ?_
  refine fj_lv (lv' := [(0, .ref (ad 4)), (1, .int (nI k)), (2, .int (nI k))]) [1, 2, 0] rfl ?_
  have lp2 : ∀ (d : Nat), (k ≤ d) → (d ≤ T) → (∀ j, k ≤ j → j < d → ¬ a 5 j = 32) → fj p l e (fj_rm 0 0 0 0) s m args below meth c Q A D 3 0 0 (fx_w ad ty a g n) [(0, .ref (ad 4)), (1, .int (nI k)), (2, .int (nI d))] 2 [] := by
    have key : ∀ zz : Nat, (fun (d : Nat) => (k ≤ d) → (d ≤ T) → (∀ j, k ≤ j → j < d → ¬ a 5 j = 32) → fj p l e (fj_rm 0 0 0 0) s m args below meth c Q A D 3 0 0 (fx_w ad ty a g n) [(0, .ref (ad 4)), (1, .int (nI k)), (2, .int (nI d))] 2 []) zz := by
      refine fx_ind (fun (d : Nat) => T - d) _ ?_
      rintro d ih hkd hd hno
      refine fj_iload_n C 2 dX2_endOfThing_2 rfl rfl ?_
      refine fj_aload_n C 0 dX2_endOfThing_3 rfl rfl ?_
      refine fj_get (Cn := RX2) (T := TX2) (N := 7) (ci := 2) (v := .int (n 1)) C iX2 4 (fx_at4 _ _ _ _ _) rfl 1 (by decide) kX2_31 rfl dX2_endOfThing_4 ?_
      refine fj_at (y := nI T) hn1 ?_
      refine fj_icmp_ge (tgt := 27) C dX2_endOfThing_7 (by decide) (fun h7 => ?_) (fun h7 => ?_)
      · have hTe : T ≤ d := Nat.le_of_not_lt fun q => absurd (Int32.not_lt.mpr h7) (not_not_intro ((nI_ltI (by omega) (by omega)).mpr q))
        refine fj_iload_n C 2 dX2_endOfThing_27 rfl rfl ?_
        exact fj_iret C E9 dX2_endOfThing_28 (by first | exact ⟨d, ⟨hkd, hd, hno, Or.inr (by assumption)⟩, rfl, rfl⟩ | exact ⟨d, ⟨hkd, hd, hno, Or.inl (by omega)⟩, rfl, rfl⟩)
      · have hTe : d < T := (nI_ltI (by omega) (by omega)).mp (Int32.not_le.mp h7)
        refine fj_aload_n C 0 dX2_endOfThing_10 rfl rfl ?_
        refine fj_get (Cn := RX2) (T := TX2) (N := 7) (ci := 2) (v := .ref (ad 5)) C iX2 4 (fx_at4 _ _ _ _ _) rfl 0 (by decide) kX2_9 rfl dX2_endOfThing_11 ?_
        refine fj_iload_n C 2 dX2_endOfThing_14 rfl rfl ?_
        refine fj_bald (f := (a 5)) C 5 (fx_at5 _ _ _ _ _) (vp_in_nI (by omega) (by decide)) dX2_endOfThing_15 ?_
        refine fj_at (y := a 5 d) (by rw [nI_clamp (by omega)]) ?_
        refine fj_bipush (v := 32) C dX2_endOfThing_16 (by decide) ?_
        refine fj_icmp_eq (tgt := 27) C dX2_endOfThing_18 (by decide) (fun h18 => ?_) (fun h18 => ?_)
        · refine fj_iload_n C 2 dX2_endOfThing_27 rfl rfl ?_
          exact fj_iret C E9 dX2_endOfThing_28 (by first | exact ⟨d, ⟨hkd, hd, hno, Or.inr (by assumption)⟩, rfl, rfl⟩ | exact ⟨d, ⟨hkd, hd, hno, Or.inl (by omega)⟩, rfl, rfl⟩)
        · refine fj_iinc (v := nI (d + 1)) (lv' := [(2, .int (nI (d + 1))), (0, .ref (ad 4)), (1, .int (nI k))]) C 2 dX2_endOfThing_21 rfl (nI_1 d) (by decide) rfl ?_
          refine fj_goto (tgt := 2) C dX2_endOfThing_24 (by decide) ?_
          refine fj_lv (lv' := [(0, .ref (ad 4)), (1, .int (nI k)), (2, .int (nI (d + 1)))]) [1, 2, 0] rfl ?_
          exact ih (d + 1) (by show T - (d + 1) < T - d; omega) (by omega) (by omega) (fun j h8 h9 => (Nat.eq_or_lt_of_le (Nat.le_of_lt_succ h9)).elim (fun e => e ▸ h18) (fun q => hno j h8 q))
    intro d
    exact key d
  exact lp2 k (Nat.le_refl k) (by omega) (fun j h8 h9 => absurd h9 (by omega))

set_option maxHeartbeats 4000000 in
set_option maxRecDepth 100000 in
theorem d_X2_faultOfNumber (l : Launch) (D : va_G) (ty : Nat → ClassId) (t0 : Nat → Nat) (ad : Nat → Nat) (a : Nat → Nat → Int32) (g : Nat → Nat → Int64) (n : Nat → Int32) (P : Nat) (S : Nat) (T : Nat) (B : Nat) (I : XI P S T B a n) (x : Int32) (y : Int32) (k : Nat) (z : Nat) (ek : x = nI k) (ez : y = nI z) (hkz : k ≤ z) (hz : z ≤ T) : fc l yX2_faultOfNumber wsX2_faultOfNumber (fj_rm 0 0 0 0) D ty t0 [.ref (ad 4), .int x, .int y] (fx_w ad ty a g n) 0 0 (fun v w => (¬ dgs (a 5) k z ∧ v = some (.int 1) ∧ w = fx_w ad ty a g n) ∨ (dgs (a 5) k z ∧ ¬ z - k ≤ 5 ∧ v = some (.int 2) ∧ w = fx_w ad ty a g n) ∨ (dgs (a 5) k z ∧ z - k ≤ 5 ∧ v = some (.int 0) ∧ w = fx_w ad ty a g n)) := by
  subst ek ez
  refine fc_start (own := RX2) (cc := cX2_faultOfNumber) (maxL := 4) (ret := (some .int)) (by decide) rfl (Nat.le_of_ble_eq_true rfl) rfl ?_
  intro p e s m args below meth c Q A C hmn E9
  obtain ⟨hn0, hP, hn1, hT, hn3, hS, hn4, hB, iLO, iBO, iWho, iSort, iQ, iN⟩ := id I
  have iX2 : ∀ w ∈ u_ws RX2 TX2 7, w ∈ wsX2_faultOfNumber := ptX2_faultOfNumber_wsX20
  have kX2_9 : Cond.fieldLink RX2 9 "FreeLand$Laws" "text" "[B" ∈ wsX2_faultOfNumber := ptX2_faultOfNumber_woX2_faultOfNumber _ (by decide +kernel)
  refine fj_lv (lv' := [(0, .ref (ad 4)), (1, .int (nI k)), (2, .int (nI z))]) [0, 1, 2] rfl ?_
  refine fj_iload_n C 1 dX2_faultOfNumber_0 rfl rfl ?_
  refine fj_istore_n (lv' := [(3, .int (nI k)), (0, .ref (ad 4)), (1, .int (nI k)), (2, .int (nI z))]) C dX2_faultOfNumber_1 rfl (by decide) rfl ?_
  refine fj_lv (lv' := [(0, .ref (ad 4)), (1, .int (nI k)), (2, .int (nI z)), (3, .int (nI k))]) [1, 2, 3, 0] rfl ?_
  have lp2 : ∀ (d : Nat), (k ≤ d) → (d ≤ z) → (∀ j, k ≤ j → j < d → ¬ a 5 j < 48 ∧ a 5 j ≤ 57) → fj p l e (fj_rm 0 0 0 0) s m args below meth c Q A D 4 0 0 (fx_w ad ty a g n) [(0, .ref (ad 4)), (1, .int (nI k)), (2, .int (nI z)), (3, .int (nI d))] 2 [] := by
    have key : ∀ zz : Nat, (fun (d : Nat) => (k ≤ d) → (d ≤ z) → (∀ j, k ≤ j → j < d → ¬ a 5 j < 48 ∧ a 5 j ≤ 57) → fj p l e (fj_rm 0 0 0 0) s m args below meth c Q A D 4 0 0 (fx_w ad ty a g n) [(0, .ref (ad 4)), (1, .int (nI k)), (2, .int (nI z)), (3, .int (nI d))] 2 []) zz := by
      refine fx_ind (fun (d : Nat) => z - d) _ ?_
      rintro d ih hkd hd hno
      refine fj_iload_n C 3 dX2_faultOfNumber_2 rfl rfl ?_
      refine fj_iload_n C 2 dX2_faultOfNumber_3 rfl rfl ?_
      refine fj_icmp_ge (tgt := 37) C dX2_faultOfNumber_4 (by decide) (fun h4 => ?_) (fun h4 => ?_)
      · have hge : z ≤ d := Nat.le_of_not_lt fun q => absurd (Int32.not_lt.mpr h4) (not_not_intro ((nI_ltI (by omega) (by omega)).mpr q))
        refine fj_iload_n C 2 dX2_faultOfNumber_37 rfl rfl ?_
        refine fj_iload_n C 1 dX2_faultOfNumber_38 rfl rfl ?_
        refine fj_isub C dX2_faultOfNumber_39 ?_
        refine fj_at (y := nI (z - k)) (pk_sub hkz) ?_
        refine fj_iconst (v := 5) C dX2_faultOfNumber_40 (by decide) ?_
        refine fj_icmp_le (tgt := 48) C dX2_faultOfNumber_41 (by decide) (fun h41 => ?_) (fun h41 => ?_)
        · have h5 : z - k ≤ 5 := (nI_leI (b := 5) (by omega) (by decide)).mp h41
          refine fj_iconst (v := 0) C dX2_faultOfNumber_48 (by decide) ?_
          exact fj_iret C E9 dX2_faultOfNumber_49 (by first | exact Or.inr (Or.inl ⟨fun j h8 h9 => hno j h8 (by omega), h5, rfl, rfl⟩) | exact Or.inr (Or.inr ⟨fun j h8 h9 => hno j h8 (by omega), h5, rfl, rfl⟩))
        · have h5 : ¬ z - k ≤ 5 := fun q => h41 ((nI_leI (b := 5) (by omega) (by decide)).mpr q)
          refine fj_iconst (v := 2) C dX2_faultOfNumber_44 (by decide) ?_
          refine fj_goto (tgt := 49) C dX2_faultOfNumber_45 (by decide) ?_
          exact fj_iret C E9 dX2_faultOfNumber_49 (by first | exact Or.inr (Or.inl ⟨fun j h8 h9 => hno j h8 (by omega), h5, rfl, rfl⟩) | exact Or.inr (Or.inr ⟨fun j h8 h9 => hno j h8 (by omega), h5, rfl, rfl⟩))
      · have hlt : d < z := (nI_ltI (by omega) (by omega)).mp (Int32.not_le.mp h4)
        refine fj_aload_n C 0 dX2_faultOfNumber_7 rfl rfl ?_
        refine fj_get (Cn := RX2) (T := TX2) (N := 7) (ci := 2) (v := .ref (ad 5)) C iX2 4 (fx_at4 _ _ _ _ _) rfl 0 (by decide) kX2_9 rfl dX2_faultOfNumber_8 ?_
        refine fj_iload_n C 3 dX2_faultOfNumber_11 rfl rfl ?_
        refine fj_bald (f := (a 5)) C 5 (fx_at5 _ _ _ _ _) (vp_in_nI (by omega) (by decide)) dX2_faultOfNumber_12 ?_
        refine fj_at (y := a 5 d) (by rw [nI_clamp (by omega)]) ?_
        refine fj_bipush (v := 48) C dX2_faultOfNumber_13 (by decide) ?_
        refine fj_icmp_lt (tgt := 29) C dX2_faultOfNumber_15 (by decide) (fun h15 => ?_) (fun h15 => ?_)
        · refine fj_iconst (v := 1) C dX2_faultOfNumber_29 (by decide) ?_
          exact fj_iret C E9 dX2_faultOfNumber_30 (Or.inl ⟨fun q => by have := q d hkd hlt; grind, rfl, rfl⟩)
        · refine fj_aload_n C 0 dX2_faultOfNumber_18 rfl rfl ?_
          refine fj_get (Cn := RX2) (T := TX2) (N := 7) (ci := 2) (v := .ref (ad 5)) C iX2 4 (fx_at4 _ _ _ _ _) rfl 0 (by decide) kX2_9 rfl dX2_faultOfNumber_19 ?_
          refine fj_iload_n C 3 dX2_faultOfNumber_22 rfl rfl ?_
          refine fj_bald (f := (a 5)) C 5 (fx_at5 _ _ _ _ _) (vp_in_nI (by omega) (by decide)) dX2_faultOfNumber_23 ?_
          refine fj_at (y := a 5 d) (by rw [nI_clamp (by omega)]) ?_
          refine fj_bipush (v := 57) C dX2_faultOfNumber_24 (by decide) ?_
          refine fj_icmp_le (tgt := 31) C dX2_faultOfNumber_26 (by decide) (fun h26 => ?_) (fun h26 => ?_)
          · refine fj_iinc (v := nI (d + 1)) (lv' := [(3, .int (nI (d + 1))), (0, .ref (ad 4)), (1, .int (nI k)), (2, .int (nI z))]) C 3 dX2_faultOfNumber_31 rfl (nI_1 d) (by decide) rfl ?_
            refine fj_goto (tgt := 2) C dX2_faultOfNumber_34 (by decide) ?_
            refine fj_lv (lv' := [(0, .ref (ad 4)), (1, .int (nI k)), (2, .int (nI z)), (3, .int (nI (d + 1)))]) [1, 2, 3, 0] rfl ?_
            exact ih (d + 1) (by show z - (d + 1) < z - d; omega) (by omega) (by omega) (fun j h8 h9 => (Nat.eq_or_lt_of_le (Nat.le_of_lt_succ h9)).elim (fun e => e ▸ ⟨h15, h26⟩) (fun q => hno j h8 q))
          · refine fj_iconst (v := 1) C dX2_faultOfNumber_29 (by decide) ?_
            exact fj_iret C E9 dX2_faultOfNumber_30 (Or.inl ⟨fun q => by have := q d hkd hlt; grind, rfl, rfl⟩)
    intro d
    exact key d
  exact lp2 k (Nat.le_refl k) (by omega) (fun j h8 h9 => absurd h9 (by omega))

set_option maxHeartbeats 4000000 in
set_option maxRecDepth 100000 in
theorem d_X2_numberAt (l : Launch) (D : va_G) (ty : Nat → ClassId) (t0 : Nat → Nat) (ad : Nat → Nat) (a : Nat → Nat → Int32) (g : Nat → Nat → Int64) (n : Nat → Int32) (P : Nat) (S : Nat) (T : Nat) (B : Nat) (I : XI P S T B a n) (x : Int32) (y : Int32) (k : Nat) (z : Nat) (ek : x = nI k) (ez : y = nI z) (hkz : k ≤ z) (hz : z ≤ T) : fc l yX2_numberAt wsX2_numberAt (fj_rm 0 0 0 0) D ty t0 [.ref (ad 4), .int x, .int y] (fx_w ad ty a g n) 0 0 (fun v w => v = some (.int (num (a 5) k (z - k))) ∧ w = fx_w ad ty a g n) := by
  subst ek ez
  refine fc_start (own := RX2) (cc := cX2_numberAt) (maxL := 5) (ret := (some .int)) (by decide) rfl (Nat.le_of_ble_eq_true rfl) rfl ?_
  intro p e s m args below meth c Q A C hmn E9
  obtain ⟨hn0, hP, hn1, hT, hn3, hS, hn4, hB, iLO, iBO, iWho, iSort, iQ, iN⟩ := id I
  have iX2 : ∀ w ∈ u_ws RX2 TX2 7, w ∈ wsX2_numberAt := ptX2_numberAt_wsX20
  have kX2_9 : Cond.fieldLink RX2 9 "FreeLand$Laws" "text" "[B" ∈ wsX2_numberAt := ptX2_numberAt_woX2_numberAt _ (by decide +kernel)
  refine fj_lv (lv' := [(0, .ref (ad 4)), (1, .int (nI k)), (2, .int (nI z))]) [0, 1, 2] rfl ?_
  refine fj_iconst (v := 0) C dX2_numberAt_0 (by decide) ?_
  refine fj_istore_n (lv' := [(3, .int 0), (0, .ref (ad 4)), (1, .int (nI k)), (2, .int (nI z))]) C dX2_numberAt_1 rfl (by decide) rfl ?_
  refine fj_iload_n C 2 dX2_numberAt_2 rfl rfl ?_
  refine fj_istore (lv' := [(4, .int (nI k)), (3, .int 0), (0, .ref (ad 4)), (1, .int (nI k)), (2, .int (nI z))]) C dX2_numberAt_3 (by decide) rfl ?_
  refine fj_lv (lv' := [(0, .ref (ad 4)), (1, .int (nI k)), (2, .int (nI z)), (3, .int 0), (4, .int (nI k))]) [2, 3, 4, 1, 0] rfl ?_
  have lp5 : ∀ (d : Nat), (k + d ≤ z) → fj p l e (fj_rm 0 0 0 0) s m args below meth c Q A D 5 0 0 (fx_w ad ty a g n) [(0, .ref (ad 4)), (1, .int (nI k)), (2, .int (nI z)), (3, .int (num (a 5) k d)), (4, .int (nI (k + d)))] 5 [] := by
    have key : ∀ zz : Nat, (fun (d : Nat) => (k + d ≤ z) → fj p l e (fj_rm 0 0 0 0) s m args below meth c Q A D 5 0 0 (fx_w ad ty a g n) [(0, .ref (ad 4)), (1, .int (nI k)), (2, .int (nI z)), (3, .int (num (a 5) k d)), (4, .int (nI (k + d)))] 5 []) zz := by
      refine fx_ind (fun (d : Nat) => z - (k + d)) _ ?_
      rintro d ih hd
      refine fj_iload C 4 dX2_numberAt_5 rfl ?_
      refine fj_iload_n C 2 dX2_numberAt_7 rfl rfl ?_
      refine fj_icmp_ge (tgt := 33) C dX2_numberAt_8 (by decide) (fun h8 => ?_) (fun h8 => ?_)
      · have hge : z ≤ k + d := Nat.le_of_not_lt fun q => absurd (Int32.not_lt.mpr h8) (not_not_intro ((nI_ltI (by omega) (by omega)).mpr q))
        refine fj_iload_n C 3 dX2_numberAt_33 rfl rfl ?_
        exact fj_iret C E9 dX2_numberAt_34 ⟨by rw [show d = z - k by omega], rfl⟩
      · have hlt : k + d < z := (nI_ltI (by omega) (by omega)).mp (Int32.not_le.mp h8)
        refine fj_bipush (v := 10) C dX2_numberAt_11 (by decide) ?_
        refine fj_iload_n C 3 dX2_numberAt_13 rfl rfl ?_
        refine fj_imul C dX2_numberAt_14 ?_
        refine fj_aload_n C 0 dX2_numberAt_15 rfl rfl ?_
        refine fj_get (Cn := RX2) (T := TX2) (N := 7) (ci := 2) (v := .ref (ad 5)) C iX2 4 (fx_at4 _ _ _ _ _) rfl 0 (by decide) kX2_9 rfl dX2_numberAt_16 ?_
        refine fj_iload C 4 dX2_numberAt_19 rfl ?_
        refine fj_bald (f := (a 5)) C 5 (fx_at5 _ _ _ _ _) (vp_in_nI (by omega) (by decide)) dX2_numberAt_21 ?_
        refine fj_at (y := a 5 (k + d)) (by rw [nI_clamp (by omega)]) ?_
        refine fj_iadd C dX2_numberAt_22 ?_
        refine fj_bipush (v := 48) C dX2_numberAt_23 (by decide) ?_
        refine fj_isub C dX2_numberAt_25 ?_
        refine fj_at (y := num (a 5) k (d + 1)) rfl ?_
        refine fj_istore_n (lv' := [(3, .int (num (a 5) k (d + 1))), (0, .ref (ad 4)), (1, .int (nI k)), (2, .int (nI z)), (4, .int (nI (k + d)))]) C dX2_numberAt_26 rfl (by decide) rfl ?_
        refine fj_iinc (v := nI (k + (d + 1))) (lv' := [(4, .int (nI (k + (d + 1)))), (3, .int (num (a 5) k (d + 1))), (0, .ref (ad 4)), (1, .int (nI k)), (2, .int (nI z))]) C 4 dX2_numberAt_27 rfl (nI_1 (k + d)) (by decide) rfl ?_
        refine fj_goto (tgt := 5) C dX2_numberAt_30 (by decide) ?_
        refine fj_lv (lv' := [(0, .ref (ad 4)), (1, .int (nI k)), (2, .int (nI z)), (3, .int (num (a 5) k (d + 1))), (4, .int (nI (k + (d + 1))))]) [2, 3, 4, 1, 0] rfl ?_
        exact ih (d + 1) (by show z - (k + (d + 1)) < z - (k + d); omega) (by omega)
    intro d
    exact key d
  exact lp5 0 (by omega)
