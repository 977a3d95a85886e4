/-- how many of the first are struck -/
def cst (f : Nat → Int32) : Nat → Nat
  | 0 => 0
  | k + 1 => cst f k + if f k = 0 then 0 else 1
theorem cst_p {f : Nat → Int32} {k : Nat} (h : ¬ f k = 0) : cst f (k + 1) = cst f k + 1 := by simp [cst, h]
theorem cst_z {f : Nat → Int32} {k : Nat} (h : f k = 0) : cst f (k + 1) = cst f k := by simp [cst, h]
theorem fx_im (r : Nat) : nI (r + 1) - 1 + Int32.ofInt (-1) = nI r - 1 := by rw [nI_pred, Int32.sub_eq_add_neg]; rfl
theorem fx_r0 {r : Nat} (h : nI r - 1 < 0) (hr : r < 2 ^ 31) : r = 0 := by
  cases r with
  | zero => rfl
  | succ z =>
    rw [nI_pred] at h
    have := Int32.lt_iff_toInt_lt.mp h
    rw [nI_toInt (by omega)] at this
    have c : (0 : Int32).toInt = 0 := by decide
    omega
theorem fx_eqI {a b : Nat} (h : nI a = nI b) (ha : a < 2 ^ 31) (hb : b < 2 ^ 31) : a = b := by
  have := congrArg Int32.toInt h
  rw [nI_toInt ha, nI_toInt hb] at this
  omega
set_option maxHeartbeats 4000000 in
set_option maxRecDepth 100000 in
theorem d_X0_countStruck (l : Launch) (D : va_G) (ty : Nat → ClassId) (t0 : Nat → Nat) (ad : Nat → Nat) (a : Nat → Nat → Int32) (g : Nat → Nat → Int64) (n : Nat → Int32) (P : Nat) (S : Nat) (T : Nat) (B : Nat) (I : XI P S T B a n)   : fc l yX0_countStruck wsX0_countStruck (fj_rm 0 0 0 0) D ty t0 [.ref (ad 17)] (fx_w ad ty a g n) 0 0 (fun v w => v = some (.int (nI (cst (a 23) B))) ∧ w = fx_w ad ty a g n) := by
  refine fc_start (own := RX0) (cc := cX0_countStruck) (maxL := 3) (ret := (some .int)) (by decide) rfl (Nat.le_of_ble_eq_true rfl) rfl ?_
  intro p e s m args below meth c Q A C hmn E9
  obtain ⟨hn0, hP, hn1, hT, hn3, hS, hn4, hB, iLO, iBO, iWho, iSort, iQ, iN⟩ := id I
  have iX0 : ∀ w ∈ u_ws RX0 TX0 8, w ∈ wsX0_countStruck := ptX0_countStruck_wsX00
  have kX0_34 : Cond.fieldLink RX0 34 "FreeLand$Book" "size" "I" ∈ wsX0_countStruck := ptX0_countStruck_woX0_countStruck _ (by decide +kernel)
  have kX0_27 : Cond.fieldLink RX0 27 "FreeLand$Book" "struck" "[Z" ∈ wsX0_countStruck := ptX0_countStruck_woX0_countStruck _ (by decide +kernel)
  refine fj_lv (lv' := [(0, .ref (ad 17))]) [0] rfl ?_
  refine fj_iconst (v := 0) C dX0_countStruck_0 (by decide) ?_
  refine fj_istore_n (lv' := [(1, .int 0), (0, .ref (ad 17))]) C dX0_countStruck_1 rfl (by decide) rfl ?_
  refine fj_iconst (v := 0) C dX0_countStruck_2 (by decide) ?_
  refine fj_istore_n (lv' := [(2, .int 0), (1, .int 0), (0, .ref (ad 17))]) C dX0_countStruck_3 rfl (by decide) rfl ?_
  refine fj_lv (lv' := [(0, .ref (ad 17)), (1, .int 0), (2, .int 0)]) [2, 1, 0] rfl ?_
  have lp4 : ∀ (k : Nat), (k ≤ B) → fj p l e (fj_rm 0 0 0 0) s m args below meth c Q A D 3 0 0 (fx_w ad ty a g n) [(0, .ref (ad 17)), (1, .int (nI (cst (a 23) k))), (2, .int (nI k))] 4 [] := by
    have key : ∀ zz : Nat, (fun (k : Nat) => (k ≤ B) → fj p l e (fj_rm 0 0 0 0) s m args below meth c Q A D 3 0 0 (fx_w ad ty a g n) [(0, .ref (ad 17)), (1, .int (nI (cst (a 23) k))), (2, .int (nI k))] 4 []) zz := by
      refine fx_ind (fun (k : Nat) => B - k) _ ?_
      rintro k ih hk
      refine fj_iload_n C 2 dX0_countStruck_4 rfl rfl ?_
      refine fj_aload_n C 0 dX0_countStruck_5 rfl rfl ?_
      refine fj_get (Cn := RX0) (T := TX0) (N := 8) (ci := 0) (v := .int (n 4)) C iX0 17 (fx_at17 _ _ _ _ _) rfl 7 (by decide) kX0_34 rfl dX0_countStruck_6 ?_
      refine fj_at (y := nI B) hn4 ?_
      refine fj_icmp_ge (tgt := 30) C dX0_countStruck_9 (by decide) (fun h9 => ?_) (fun h9 => ?_)
      · have hkB : B ≤ k := Nat.le_of_not_lt fun q => absurd (Int32.not_lt.mpr h9) (not_not_intro ((nI_ltI (by omega) (by omega)).mpr q))
        refine fj_iload_n C 1 dX0_countStruck_30 rfl rfl ?_
        exact fj_iret C E9 dX0_countStruck_31 ⟨by rw [show k = B by omega], rfl⟩
      · have hkB : k < B := (nI_ltI (by omega) (by omega)).mp (Int32.not_le.mp h9)
        refine fj_aload_n C 0 dX0_countStruck_12 rfl rfl ?_
        refine fj_get (Cn := RX0) (T := TX0) (N := 8) (ci := 0) (v := .ref (ad 23)) C iX0 17 (fx_at17 _ _ _ _ _) rfl 5 (by decide) kX0_27 rfl dX0_countStruck_13 ?_
        refine fj_iload_n C 2 dX0_countStruck_16 rfl rfl ?_
        refine fj_zald (f := (a 23)) C 23 (fx_at23 _ _ _ _ _) (vp_in_nI (by omega) (by decide)) dX0_countStruck_17 ?_
        refine fj_at (y := a 23 k) (by rw [nI_clamp (by omega)]) ?_
        refine fj_if_eq (tgt := 24) C dX0_countStruck_18 (by decide) (fun h18 => ?_) (fun h18 => ?_)
        · refine fj_iinc (v := nI (k + 1)) (lv' := [(2, .int (nI (k + 1))), (0, .ref (ad 17)), (1, .int (nI (cst (a 23) k)))]) C 2 dX0_countStruck_24 rfl (nI_1 k) (by decide) rfl ?_
          refine fj_goto (tgt := 4) C dX0_countStruck_27 (by decide) ?_
          refine fj_lv (lv' := [(0, .ref (ad 17)), (1, .int (nI (cst (a 23) k))), (2, .int (nI (k + 1)))]) [1, 2, 0] rfl ?_
          refine fj_lv (lv' := [(0, .ref (ad 17)), (1, .int (nI (cst (a 23) (k + 1)))), (2, .int (nI (k + 1)))]) [0, 1, 2] (by rw [cst_z h18]; rfl) ?_
          exact ih (k + 1) (by show B - (k + 1) < B - k; omega) (by omega)
        · refine fj_iinc (v := nI (cst (a 23) (k + 1))) (lv' := [(1, .int (nI (cst (a 23) (k + 1)))), (0, .ref (ad 17)), (2, .int (nI k))]) C 1 dX0_countStruck_21 rfl (by rw [cst_p h18]; exact nI_1 _) (by decide) rfl ?_
          refine fj_iinc (v := nI (k + 1)) (lv' := [(2, .int (nI (k + 1))), (1, .int (nI (cst (a 23) (k + 1)))), (0, .ref (ad 17))]) C 2 dX0_countStruck_24 rfl (nI_1 k) (by decide) rfl ?_
          refine fj_goto (tgt := 4) C dX0_countStruck_27 (by decide) ?_
          refine fj_lv (lv' := [(0, .ref (ad 17)), (1, .int (nI (cst (a 23) (k + 1)))), (2, .int (nI (k + 1)))]) [2, 1, 0] rfl ?_
          exact ih (k + 1) (by show B - (k + 1) < B - k; omega) (by omega)
    intro k
    exact key k
  exact lp4 0 (Nat.zero_le B)
