theorem up_again {a : Nat → Nat → Int32} {k : Nat} {f h : Nat → Int32} : va_up (va_up a k f) k h = va_up a k h := by
  funext i
  by_cases e : i = k
  · rw [e, va_up_self, va_up_self]
  · rw [va_up_ne _ _ e, va_up_ne _ _ e, va_up_ne _ _ e]
theorem va_up_id {a : Nat → Nat → Int32} {k : Nat} : va_up a k (a k) = a := by
  funext i
  by_cases e : i = k
  · rw [e, va_up_self]
  · rw [va_up_ne _ _ e]
theorem XI_row {P S T B r : Nat} {a : Nat → Nat → Int32} {n : Nat → Int32} {R : Nat → Int32} {x : Int32} (hr : r < 8) (I : XI P S T B a n) : XI P S T B (va_up a (9 + r) R) (va_up n 2 x) := by
  rw [XI, va_up_ne a _ (show 8 ≠ 9 + r by omega), va_up_ne a _ (show 24 ≠ 9 + r by omega), va_up_ne a _ (show 20 ≠ 9 + r by omega), va_up_ne a _ (show 19 ≠ 9 + r by omega), va_up_ne a _ (show 21 ≠ 9 + r by omega), va_up_ne a _ (show 22 ≠ 9 + r by omega), va_up_ne n _ (by decide), va_up_ne n _ (by decide), va_up_ne n _ (by decide), va_up_ne n _ (by decide)]
  exact I
/-- the word i stands from k up to z -/
def WRT (f : Nat → Int32) (i k z : Nat) : Prop := sx_len.getD i 0 = z - k ∧ ∀ j, j < sx_len.getD i 0 → f (k + j) = sx_c i j
/-- which word stands there -/
def WDR (f : Nat → Int32) (k z : Nat) (r : Int32) : Prop := (∃ i, i < 9 ∧ WRT f i k z ∧ (∀ j, j < i → ¬ WRT f j k z) ∧ r = nI i) ∨ ((∀ i, i < 9 → ¬ WRT f i k z) ∧ r = -1)
/-- a text read up to k without a fault: what it has set, and the word that awaits its number -/
def RDS (f : Nat → Int32) (T : Nat) : Nat → (Nat → Int32) → Int32 → Prop
  | 0, R, aw => (∀ i, i < 9 → R i = -1) ∧ aw = -1
  | k + 1, R, aw => ∃ R0 aw0, RDS f T k R0 aw0 ∧ ((¬ bgT f k ∧ R = R0 ∧ aw = aw0) ∨ (bgT f k ∧ ∃ z, enT f T k z ∧ ((aw0 = -1 ∧ WDR f k z aw ∧ ¬ aw = -1 ∧ R0 aw.toNatClampNeg = -1 ∧ R = R0) ∨ (¬ aw0 = -1 ∧ dgs f k z ∧ z - k ≤ 5 ∧ R = upd R0 aw0.toNatClampNeg (num f k (z - k)) ∧ aw = -1))))
/-- the thing at k has a fault -/
def RDE (f : Nat → Int32) (T k : Nat) (c : Int32) : Prop := ∃ R aw, RDS f T k R aw ∧ bgT f k ∧ ∃ z, enT f T k z ∧ ((aw = -1 ∧ (((∀ i, i < 9 → ¬ WRT f i k z) ∧ c = 1) ∨ ∃ r, WDR f k z r ∧ ¬ r = -1 ∧ ¬ R r.toNatClampNeg = -1 ∧ c = 3)) ∨ (¬ aw = -1 ∧ ((¬ dgs f k z ∧ c = 1) ∨ (dgs f k z ∧ ¬ z - k ≤ 5 ∧ c = 2))))
def RDP (f : Nat → Int32) (T : Nat) (R : Nat → Int32) (fa c : Int32) : Prop := (RDS f T T R (-1) ∧ c = 0 ∧ fa = -1) ∨ ((∃ aw, RDS f T T R aw ∧ ¬ aw = -1) ∧ c = 1 ∧ fa = nI T) ∨ (∃ k, k < T ∧ RDE f T k c ∧ ¬ c = 0 ∧ fa = nI k)
set_option maxHeartbeats 4000000 in
set_option maxRecDepth 100000 in
theorem d_X2_nameOf (l : Launch) (D : va_G) (ty : Nat → ClassId) (t0 : Nat → Nat) (W9 : va_W)  (x : Int32) (k : Nat) (ek : x = nI k) (hk9 : k < 9) : fc l yX2_nameOf wsX2_nameOf (fj_rm 0 0 0 0) D ty t0 [.int x] W9 0 0 (fun v w => v = some (.ref (t0 (1 + k))) ∧ w = W9) := by
  subst ek
  refine fc_start (own := RX2) (cc := cX2_nameOf) (maxL := 1) (ret := (some (.object "java/lang/String"))) (by decide) rfl (Nat.le_of_ble_eq_true rfl) rfl ?_
  intro p e s m args below meth c Q A C hmn E9
  refine fj_lv (lv' := [(0, .int (nI k))]) [0] rfl ?_
  refine fj_iload_n C 0 dX2_nameOf_0 rfl rfl ?_
  rcases fx_sw (nI k) 0 7 with hsw | hsw
  · refine fj_tableOut (tgt := 72) C dX2_nameOf_1 hsw (by decide) ?_
    obtain rfl : k = 8 := by rw [nI_toInt (by omega)] at hsw; omega
    refine fj_ldcS C 8 (by decide) rfl dX2_nameOf_72 ?_
    exact fj_aret C E9 dX2_nameOf_74 ⟨rfl, rfl⟩
  · obtain ⟨hs1, hs2⟩ := hsw
    rcases (show (nI k).toInt = 0 ∨ (nI k).toInt = 1 ∨ (nI k).toInt = 2 ∨ (nI k).toInt = 3 ∨ (nI k).toInt = 4 ∨ (nI k).toInt = 5 ∨ (nI k).toInt = 6 ∨ (nI k).toInt = 7 by omega) with hsw | hsw | hsw | hsw | hsw | hsw | hsw | hsw
    · refine fj_tableIn (off := 47) (tgt := 48) C dX2_nameOf_1 (by omega) (by omega) (by rw [hsw]; rfl) (by decide) ?_
      obtain rfl : k = 0 := by rw [nI_toInt (by omega)] at hsw; omega
      refine fj_ldcS C 0 (by decide) rfl dX2_nameOf_48 ?_
      exact fj_aret C E9 dX2_nameOf_50 ⟨rfl, rfl⟩
    · refine fj_tableIn (off := 50) (tgt := 51) C dX2_nameOf_1 (by omega) (by omega) (by rw [hsw]; rfl) (by decide) ?_
      obtain rfl : k = 1 := by rw [nI_toInt (by omega)] at hsw; omega
      refine fj_ldcS C 1 (by decide) rfl dX2_nameOf_51 ?_
      exact fj_aret C E9 dX2_nameOf_53 ⟨rfl, rfl⟩
    · refine fj_tableIn (off := 53) (tgt := 54) C dX2_nameOf_1 (by omega) (by omega) (by rw [hsw]; rfl) (by decide) ?_
      obtain rfl : k = 2 := by rw [nI_toInt (by omega)] at hsw; omega
      refine fj_ldcS C 2 (by decide) rfl dX2_nameOf_54 ?_
      exact fj_aret C E9 dX2_nameOf_56 ⟨rfl, rfl⟩
    · refine fj_tableIn (off := 56) (tgt := 57) C dX2_nameOf_1 (by omega) (by omega) (by rw [hsw]; rfl) (by decide) ?_
      obtain rfl : k = 3 := by rw [nI_toInt (by omega)] at hsw; omega
      refine fj_ldcS C 3 (by decide) rfl dX2_nameOf_57 ?_
      exact fj_aret C E9 dX2_nameOf_59 ⟨rfl, rfl⟩
    · refine fj_tableIn (off := 59) (tgt := 60) C dX2_nameOf_1 (by omega) (by omega) (by rw [hsw]; rfl) (by decide) ?_
      obtain rfl : k = 4 := by rw [nI_toInt (by omega)] at hsw; omega
      refine fj_ldcS C 4 (by decide) rfl dX2_nameOf_60 ?_
      exact fj_aret C E9 dX2_nameOf_62 ⟨rfl, rfl⟩
    · refine fj_tableIn (off := 62) (tgt := 63) C dX2_nameOf_1 (by omega) (by omega) (by rw [hsw]; rfl) (by decide) ?_
      obtain rfl : k = 5 := by rw [nI_toInt (by omega)] at hsw; omega
      refine fj_ldcS C 5 (by decide) rfl dX2_nameOf_63 ?_
      exact fj_aret C E9 dX2_nameOf_65 ⟨rfl, rfl⟩
    · refine fj_tableIn (off := 65) (tgt := 66) C dX2_nameOf_1 (by omega) (by omega) (by rw [hsw]; rfl) (by decide) ?_
      obtain rfl : k = 6 := by rw [nI_toInt (by omega)] at hsw; omega
      refine fj_ldcS C 6 (by decide) rfl dX2_nameOf_66 ?_
      exact fj_aret C E9 dX2_nameOf_68 ⟨rfl, rfl⟩
    · refine fj_tableIn (off := 68) (tgt := 69) C dX2_nameOf_1 (by omega) (by omega) (by rw [hsw]; rfl) (by decide) ?_
      obtain rfl : k = 7 := by rw [nI_toInt (by omega)] at hsw; omega
      refine fj_ldcS C 7 (by decide) rfl dX2_nameOf_69 ?_
      exact fj_aret C E9 dX2_nameOf_71 ⟨rfl, rfl⟩

set_option maxHeartbeats 4000000 in
set_option maxRecDepth 100000 in
theorem d_X2_isWritten (l : Launch) (D : va_G) (ty : Nat → ClassId) (t0 : Nat → Nat) (ad : Nat → Nat) (a : Nat → Nat → Int32) (g : Nat → Nat → Int64) (n : Nat → Int32) (P : Nat) (S : Nat) (T : Nat) (B : Nat) (I : XI P S T B a n) (x : Int32) (y : Int32) (i : Nat) (hi : i < 9) (k : Nat) (z : Nat) (ek : x = nI k) (ez : y = nI z) (hkz : k ≤ z) (hz : z ≤ T) : fc l yX2_isWritten wsX2_isWritten (fj_rm 4 85 0 0) D ty t0 [.ref (ad 4), .ref (t0 (1 + i)), .int x, .int y] (fx_w ad ty a g n) 0 0 (fun v w => (WRT (a 5) i k z ∧ v = some (.int 1) ∧ w = fx_w ad ty a g n) ∨ (¬ WRT (a 5) i k z ∧ v = some (.int 0) ∧ w = fx_w ad ty a g n)) := by
  subst ek ez
  have hl6 := sx_le i hi
  refine fc_start (own := RX2) (cc := cX2_isWritten) (maxL := 5) (ret := (some .boolean)) (by decide) rfl (Nat.le_of_ble_eq_true rfl) rfl ?_
  intro p e s m args below meth c Q A C hmn E9
  obtain ⟨hn0, hP, hn1, hT, hn3, hS, hn4, hB, iLO, iBO, iWho, iSort, iQ, iN⟩ := id I
  have iX2 : ∀ w ∈ u_ws RX2 TX2 7, w ∈ wsX2_isWritten := ptX2_isWritten_wsX20
  have kX2_9 : Cond.fieldLink RX2 9 "FreeLand$Laws" "text" "[B" ∈ wsX2_isWritten := ptX2_isWritten_woX2_isWritten _ (by decide +kernel)
  refine fj_lv (lv' := [(0, .ref (ad 4)), (1, .ref (t0 (1 + i))), (2, .int (nI k)), (3, .int (nI z))]) [0, 1, 2, 3] rfl ?_
  refine fj_aload_n C 1 dX2_isWritten_0 rfl rfl ?_
  refine fj_callVsw (As := []) (rest := []) C (d_J0_length l D ty t0 (fx_w ad ty a g n) i hi) (cwV 0 C.2.2.2.2.1 gX2_isWritten_J0_length_8abf5 rfl rfl rfl (by decide +kernel) ⟨Nat.le_of_ble_eq_true rfl, Nat.le_of_ble_eq_true rfl⟩) i hi rfl rfl rfl (Nat.le_of_ble_eq_true rfl) dX2_isWritten_1 ⟨Nat.zero_le _, Nat.zero_le _⟩ (fun v9 w9 hp9 => ?_)
  obtain ⟨rfl, rfl⟩ := hp9
  refine fj_st (st' := .int (nI (sx_len.getD i 0)) :: []) rfl ?_
  refine fj_iload_n C 3 dX2_isWritten_4 rfl rfl ?_
  refine fj_iload_n C 2 dX2_isWritten_5 rfl rfl ?_
  refine fj_isub C dX2_isWritten_6 ?_
  refine fj_at (y := nI (z - k)) (pk_sub hkz) ?_
  refine fj_icmp_eq (tgt := 12) C dX2_isWritten_7 (by decide) (fun h7 => ?_) (fun h7 => ?_)
  · have hzk : sx_len.getD i 0 = z - k := fx_eqI h7 (by omega) (by omega)
    refine fj_iconst (v := 0) C dX2_isWritten_12 (by decide) ?_
    refine fj_istore (lv' := [(4, .int 0), (0, .ref (ad 4)), (1, .ref (t0 (1 + i))), (2, .int (nI k)), (3, .int (nI z))]) C dX2_isWritten_13 (by decide) rfl ?_
    refine fj_lv (lv' := [(0, .ref (ad 4)), (1, .ref (t0 (1 + i))), (2, .int (nI k)), (3, .int (nI z)), (4, .int 0)]) [1, 2, 3, 4, 0] rfl ?_
    have lp15 : ∀ (d : Nat), (d ≤ sx_len.getD i 0) → (∀ j, j < d → a 5 (k + j) = sx_c i j) → fj p l e (fj_rm 4 85 0 0) s m args below meth c Q A D 5 0 0 (fx_w ad ty a g n) [(0, .ref (ad 4)), (1, .ref (t0 (1 + i))), (2, .int (nI k)), (3, .int (nI z)), (4, .int (nI d))] 15 [] := by
      have key : ∀ zz : Nat, (fun (d : Nat) => (d ≤ sx_len.getD i 0) → (∀ j, j < d → a 5 (k + j) = sx_c i j) → fj p l e (fj_rm 4 85 0 0) s m args below meth c Q A D 5 0 0 (fx_w ad ty a g n) [(0, .ref (ad 4)), (1, .ref (t0 (1 + i))), (2, .int (nI k)), (3, .int (nI z)), (4, .int (nI d))] 15 []) zz := by
        refine fx_ind (fun (d : Nat) => sx_len.getD i 0 - d) _ ?_
        rintro d ih hd hno
        refine fj_iload C 4 dX2_isWritten_15 rfl ?_
        refine fj_aload_n C 1 dX2_isWritten_17 rfl rfl ?_
        refine fj_callVsw (As := []) (rest := [.int (nI d)]) C (d_J0_length l D ty t0 (fx_w ad ty a g n) i hi) (cwV 0 C.2.2.2.2.1 gX2_isWritten_J0_length_8abf5 rfl rfl rfl (by decide +kernel) ⟨Nat.le_of_ble_eq_true rfl, Nat.le_of_ble_eq_true rfl⟩) i hi rfl rfl rfl (Nat.le_of_ble_eq_true rfl) dX2_isWritten_18 ⟨Nat.zero_le _, Nat.zero_le _⟩ (fun v9 w9 hp9 => ?_)
        obtain ⟨rfl, rfl⟩ := hp9
        refine fj_st (st' := .int (nI (sx_len.getD i 0)) :: [.int (nI d)]) rfl ?_
        refine fj_icmp_ge (tgt := 50) C dX2_isWritten_21 (by decide) (fun h21 => ?_) (fun h21 => ?_)
        · have hge : sx_len.getD i 0 ≤ d := Nat.le_of_not_lt fun q => absurd (Int32.not_lt.mpr h21) (not_not_intro ((nI_ltI (by omega) (by omega)).mpr q))
          refine fj_iconst (v := 1) C dX2_isWritten_50 (by decide) ?_
          exact fj_zret C E9 rfl dX2_isWritten_51 (Or.inl ⟨⟨hzk, fun j h9 => hno j (by omega)⟩, rfl, rfl⟩)
        · have hlt : d < sx_len.getD i 0 := (nI_ltI (by omega) (by omega)).mp (Int32.not_le.mp h21)
          refine fj_aload_n C 0 dX2_isWritten_24 rfl rfl ?_
          refine fj_get (Cn := RX2) (T := TX2) (N := 7) (ci := 2) (v := .ref (ad 5)) C iX2 4 (fx_at4 _ _ _ _ _) rfl 0 (by decide) kX2_9 rfl dX2_isWritten_25 ?_
          refine fj_iload_n C 2 dX2_isWritten_28 rfl rfl ?_
          refine fj_iload C 4 dX2_isWritten_29 rfl ?_
          refine fj_iadd C dX2_isWritten_31 ?_
          refine fj_at (y := nI (k + d)) (nI_add k d) ?_
          refine fj_bald (f := (a 5)) C 5 (fx_at5 _ _ _ _ _) (vp_in_nI (by omega) (by decide)) dX2_isWritten_32 ?_
          refine fj_at (y := a 5 (k + d)) (by rw [nI_clamp (by omega)]) ?_
          refine fj_aload_n C 1 dX2_isWritten_33 rfl rfl ?_
          refine fj_iload C 4 dX2_isWritten_34 rfl ?_
          refine fj_callVsw (As := [.int (nI d)]) (rest := [.int (a 5 (k + d))]) C (d_J0_charAt l D ty t0 (fx_w ad ty a g n) i d hi hlt) (cwV 1 C.2.2.2.2.1 gX2_isWritten_J0_charAt_5068e rfl rfl rfl (by decide +kernel) ⟨Nat.le_of_ble_eq_true rfl, Nat.le_of_ble_eq_true rfl⟩) i hi rfl rfl rfl (Nat.le_of_ble_eq_true rfl) dX2_isWritten_36 ⟨Nat.zero_le _, Nat.zero_le _⟩ (fun v9 w9 hp9 => ?_)
          obtain ⟨rfl, rfl⟩ := hp9
          refine fj_st (st' := .int (sx_c i d) :: [.int (a 5 (k + d))]) rfl ?_
          refine fj_icmp_eq (tgt := 44) C dX2_isWritten_39 (by decide) (fun h39 => ?_) (fun h39 => ?_)
          · refine fj_iinc (v := nI (d + 1)) (lv' := [(4, .int (nI (d + 1))), (0, .ref (ad 4)), (1, .ref (t0 (1 + i))), (2, .int (nI k)), (3, .int (nI z))]) C 4 dX2_isWritten_44 rfl (nI_1 d) (by decide) rfl ?_
            refine fj_goto (tgt := 15) C dX2_isWritten_47 (by decide) ?_
            refine fj_lv (lv' := [(0, .ref (ad 4)), (1, .ref (t0 (1 + i))), (2, .int (nI k)), (3, .int (nI z)), (4, .int (nI (d + 1)))]) [1, 2, 3, 4, 0] rfl ?_
            exact ih (d + 1) (by show sx_len.getD i 0 - (d + 1) < sx_len.getD i 0 - d; omega) (by omega) (fun j h9 => (Nat.eq_or_lt_of_le (Nat.le_of_lt_succ h9)).elim (fun e9 => e9 ▸ h39) (fun q9 => hno j q9))
          · refine fj_iconst (v := 0) C dX2_isWritten_42 (by decide) ?_
            exact fj_zret C E9 rfl dX2_isWritten_43 (Or.inr ⟨fun w9 => h39 (w9.2 d hlt), rfl, rfl⟩)
      intro d
      exact key d
    exact lp15 0 (Nat.zero_le _) (fun _ h9 => absurd h9 (Nat.not_lt_zero _))
  · have hzk : ¬ sx_len.getD i 0 = z - k := fun e9 => h7 (by rw [e9])
    refine fj_iconst (v := 0) C dX2_isWritten_10 (by decide) ?_
    exact fj_zret C E9 rfl dX2_isWritten_11 (Or.inr ⟨fun w9 => hzk w9.1, rfl, rfl⟩)

set_option maxHeartbeats 4000000 in
set_option maxRecDepth 100000 in
theorem d_X2_wordAt (l : Launch) (D : va_G) (ty : Nat → ClassId) (t0 : Nat → Nat) (ad : Nat → Nat) (a : Nat → Nat → Int32) (g : Nat → Nat → Int64) (n : Nat → Int32) (P : Nat) (S : Nat) (T : Nat) (B : Nat) (I : XI P S T B a n) (x : Int32) (y : Int32) (k : Nat) (z : Nat) (ek : x = nI k) (ez : y = nI z) (hkz : k ≤ z) (hz : z ≤ T) : fc l yX2_wordAt wsX2_wordAt (fj_rm 5 109 0 0) D ty t0 [.ref (ad 4), .int x, .int y] (fx_w ad ty a g n) 0 0 (fun v w => (∃ i, i < 9 ∧ WRT (a 5) i k z ∧ (∀ j, j < i → ¬ WRT (a 5) j k z) ∧ v = some (.int (nI i)) ∧ w = fx_w ad ty a g n) ∨ ((∀ i, i < 9 → ¬ WRT (a 5) i k z) ∧ v = some (.int (-1)) ∧ w = fx_w ad ty a g n)) := by
  subst ek ez
  refine fc_start (own := RX2) (cc := cX2_wordAt) (maxL := 4) (ret := (some .int)) (by decide) rfl (Nat.le_of_ble_eq_true rfl) rfl ?_
  intro p e s m args below meth c Q A C hmn E9
  obtain ⟨hn0, hP, hn1, hT, hn3, hS, hn4, hB, iLO, iBO, iWho, iSort, iQ, iN⟩ := id I
  refine fj_lv (lv' := [(0, .ref (ad 4)), (1, .int (nI k)), (2, .int (nI z))]) [0, 1, 2] rfl ?_
  refine fj_iconst (v := 0) C dX2_wordAt_0 (by decide) ?_
  refine fj_istore_n (lv' := [(3, .int 0), (0, .ref (ad 4)), (1, .int (nI k)), (2, .int (nI z))]) C dX2_wordAt_1 rfl (by decide) rfl ?_
  refine fj_lv (lv' := [(0, .ref (ad 4)), (1, .int (nI k)), (2, .int (nI z)), (3, .int 0)]) [1, 2, 3, 0] rfl ?_
  have lp2 : ∀ (i : Nat), (i ≤ 9) → (∀ j, j < i → ¬ WRT (a 5) j k z) → fj p l e (fj_rm 5 109 0 0) s m args below meth c Q A D 4 0 0 (fx_w ad ty a g n) [(0, .ref (ad 4)), (1, .int (nI k)), (2, .int (nI z)), (3, .int (nI i))] 2 [] := by
    have key : ∀ zz : Nat, (fun (i : Nat) => (i ≤ 9) → (∀ j, j < i → ¬ WRT (a 5) j k z) → fj p l e (fj_rm 5 109 0 0) s m args below meth c Q A D 4 0 0 (fx_w ad ty a g n) [(0, .ref (ad 4)), (1, .int (nI k)), (2, .int (nI z)), (3, .int (nI i))] 2 []) zz := by
      refine fx_ind (fun (i : Nat) => 9 - i) _ ?_
      rintro i ih hi9 hno
      refine fj_iload_n C 3 dX2_wordAt_2 rfl rfl ?_
      refine fj_bipush (v := 9) C dX2_wordAt_3 (by decide) ?_
      refine fj_icmp_ge (tgt := 29) C dX2_wordAt_5 (by decide) (fun h5 => ?_) (fun h5 => ?_)
      · obtain rfl : i = 9 := by have := (nI_leI (a := 9) (by decide) (by omega)).mp h5; omega
        refine fj_iconst (v := (-1)) C dX2_wordAt_29 (by decide) ?_
        exact fj_iret C E9 dX2_wordAt_30 (Or.inr ⟨fun j h9 => hno j (by omega), rfl, rfl⟩)
      · have hlt : i < 9 := Nat.lt_of_not_le fun q => h5 ((nI_leI (a := 9) (by decide) (by omega)).mpr q)
        refine fj_aload_n C 0 dX2_wordAt_8 rfl rfl ?_
        refine fj_iload_n C 3 dX2_wordAt_9 rfl rfl ?_
        refine fj_callSw (As := [.int (nI i)]) (rest := [.ref (ad 4)]) C (d_X2_nameOf l D ty t0 (fx_w ad ty a g n) (nI i) i rfl hlt) (va_cwS 1 C.2.2.2.2.1 gX2_wordAt_X2_nameOf rfl rfl rfl (by decide +kernel) ⟨Nat.le_of_ble_eq_true rfl, Nat.le_of_ble_eq_true rfl⟩)  rfl (Nat.le_of_ble_eq_true rfl) dX2_wordAt_10 ⟨Nat.zero_le _, Nat.zero_le _⟩ (fun v9 w9 hp9 => ?_)
        obtain ⟨rfl, rfl⟩ := hp9
        refine fj_st (st' := .ref (t0 (1 + i)) :: [.ref (ad 4)]) rfl ?_
        refine fj_iload_n C 1 dX2_wordAt_13 rfl rfl ?_
        refine fj_iload_n C 2 dX2_wordAt_14 rfl rfl ?_
        refine fj_callVw (As := [.ref (t0 (1 + i)), .int (nI k), .int (nI z)]) (rest := []) C (d_X2_isWritten l D ty t0 ad a g n P S T B I (nI k) (nI z) i hlt k z rfl rfl hkz hz) (cwV 3 C.2.2.2.2.1 gX2_wordAt_X2_isWritten rfl rfl rfl (by decide +kernel) ⟨Nat.le_of_ble_eq_true rfl, Nat.le_of_ble_eq_true rfl⟩) ⟨4, 2, _, _, fx_at4 _ _ _ _ _, rfl, rfl⟩ rfl (Nat.le_of_ble_eq_true rfl) dX2_wordAt_15 ⟨Nat.zero_le _, Nat.zero_le _⟩ (fun v9 w9 hp9 => ?_)
        rcases hp9 with ⟨hW9, rfl, rfl⟩ | ⟨hW9, rfl, rfl⟩
        · refine fj_st (st' := .int 1 :: []) rfl ?_
          refine fj_if_eq (tgt := 23) C dX2_wordAt_18 (by decide) (fun h => absurd h (by decide)) (fun _ => ?_)
          refine fj_iload_n C 3 dX2_wordAt_21 rfl rfl ?_
          exact fj_iret C E9 dX2_wordAt_22 (Or.inl ⟨i, hlt, hW9, hno, rfl, rfl⟩)
        · refine fj_st (st' := .int 0 :: []) rfl ?_
          refine fj_if_eq (tgt := 23) C dX2_wordAt_18 (by decide) (fun _ => ?_) (fun h => absurd (by decide) h)
          refine fj_iinc (v := nI (i + 1)) (lv' := [(3, .int (nI (i + 1))), (0, .ref (ad 4)), (1, .int (nI k)), (2, .int (nI z))]) C 3 dX2_wordAt_23 rfl (nI_1 i) (by decide) rfl ?_
          refine fj_goto (tgt := 2) C dX2_wordAt_26 (by decide) ?_
          refine fj_lv (lv' := [(0, .ref (ad 4)), (1, .int (nI k)), (2, .int (nI z)), (3, .int (nI (i + 1)))]) [1, 2, 3, 0] rfl ?_
          exact ih (i + 1) (by show 9 - (i + 1) < 9 - i; omega) (by omega) (fun j h9 => (Nat.eq_or_lt_of_le (Nat.le_of_lt_succ h9)).elim (fun e9 => e9 ▸ hW9) (fun q9 => hno j q9))
    intro i
    exact key i
  exact lp2 0 (Nat.zero_le _) (fun _ h9 => absurd h9 (Nat.not_lt_zero _))

set_option maxHeartbeats 4000000 in
set_option maxRecDepth 100000 in
theorem d_X2_read (l : Launch) (D : va_G) (ty : Nat → ClassId) (t0 : Nat → Nat) (ad : Nat → Nat) (a : Nat → Nat → Int32) (g : Nat → Nat → Int64) (n : Nat → Int32) (P : Nat) (S : Nat) (T : Nat) (B : Nat) (I : XI P S T B a n)  (r : Nat) (hr8 : r < 8) : fc l yX2_read wsX2_read (fj_rm 6 132 0 0) D ty t0 [.ref (ad 4), .ref (ad (9 + r))] (fx_w ad ty a g n) 0 0 (fun v w => ∃ (R : Nat → Int32) (fa c : Int32), RDP (a 5) T R fa c ∧ v = some (.int c) ∧ w = fx_w ad ty (va_up a (9 + r) R) g (va_up n 2 fa)) := by
  refine fc_start (own := RX2) (cc := cX2_read) (maxL := 6) (ret := (some .int)) (by decide) rfl (Nat.le_of_ble_eq_true rfl) rfl ?_
  intro p e s m args below meth c Q A C hmn E9
  obtain ⟨hn0, hP, hn1, hT, hn3, hS, hn4, hB, iLO, iBO, iWho, iSort, iQ, iN⟩ := id I
  have iX2 : ∀ w ∈ u_ws RX2 TX2 7, w ∈ wsX2_read := ptX2_read_wsX20
  have kX2_15 : Cond.fieldLink RX2 15 "FreeLand$Laws" "faultAt" "I" ∈ wsX2_read := ptX2_read_woX2_read _ (by decide +kernel)
  have kX2_31 : Cond.fieldLink RX2 31 "FreeLand$Laws" "length" "I" ∈ wsX2_read := ptX2_read_woX2_read _ (by decide +kernel)
  refine fj_lv (lv' := [(0, .ref (ad 4)), (1, .ref (ad (9 + r)))]) [0, 1] rfl ?_
  refine fj_iconst (v := 0) C dX2_read_0 (by decide) ?_
  refine fj_istore_n (lv' := [(2, .int 0), (0, .ref (ad 4)), (1, .ref (ad (9 + r)))]) C dX2_read_1 rfl (by decide) rfl ?_
  refine fj_lv (lv' := [(0, .ref (ad 4)), (1, .ref (ad (9 + r))), (2, .int 0)]) [1, 2, 0] rfl ?_
  have lp2 : ∀ (k : Nat), (k ≤ 9) → fj p l e (fj_rm 6 132 0 0) s m args below meth c Q A D 6 0 0 (fx_w ad ty (va_up a (9 + r) (fil (a (9 + r)) (-1) k)) g n) [(0, .ref (ad 4)), (1, .ref (ad (9 + r))), (2, .int (nI k))] 2 [] := by
    have key : ∀ zz : Nat, (fun (k : Nat) => (k ≤ 9) → fj p l e (fj_rm 6 132 0 0) s m args below meth c Q A D 6 0 0 (fx_w ad ty (va_up a (9 + r) (fil (a (9 + r)) (-1) k)) g n) [(0, .ref (ad 4)), (1, .ref (ad (9 + r))), (2, .int (nI k))] 2 []) zz := by
      refine fx_ind (fun (k : Nat) => 9 - k) _ ?_
      rintro k ih hk9
      refine fj_iload_n C 2 dX2_read_2 rfl rfl ?_
      refine fj_bipush (v := 9) C dX2_read_3 (by decide) ?_
      refine fj_icmp_ge (tgt := 18) C dX2_read_5 (by decide) (fun h5 => ?_) (fun h5 => ?_)
      · obtain rfl : k = 9 := by have := (nI_leI (a := 9) (by decide) (by omega)).mp h5; omega
        refine fj_aload_n C 0 dX2_read_18 rfl rfl ?_
        refine fj_iconst (v := (-1)) C dX2_read_19 (by decide) ?_
        refine fj_put (Cn := RX2) (T := TX2) (N := 7) (ci := 2) C iX2 tyX2 tyX2_ok nmX2 4 (fx_at4 _ _ _ _ _) rfl 2 (by decide) kX2_15 rfl rfl rfl (Nat.le_of_ble_eq_true rfl) dX2_read_20 (fx_si4_2 _ _ _ _ _ _) ?_
        refine fj_iconst (v := (-1)) C dX2_read_23 (by decide) ?_
        refine fj_istore_n (lv' := [(2, .int (-1)), (0, .ref (ad 4)), (1, .ref (ad (9 + r)))]) C dX2_read_24 rfl (by decide) rfl ?_
        refine fj_iconst (v := 0) C dX2_read_25 (by decide) ?_
        refine fj_istore_n (lv' := [(3, .int 0), (2, .int (-1)), (0, .ref (ad 4)), (1, .ref (ad (9 + r)))]) C dX2_read_26 rfl (by decide) rfl ?_
        refine fj_lv (lv' := [(0, .ref (ad 4)), (1, .ref (ad (9 + r))), (2, .int (-1)), (3, .int 0)]) [2, 3, 1, 0] rfl ?_
        have lp27 : ∀ (i : Nat) (R : Nat → Int32) (aw : Int32), (i ≤ T) → (RDS (a 5) T i R aw) → (aw = -1 ∨ ∃ w8, w8 < 9 ∧ aw = nI w8) → fj p l e (fj_rm 6 132 0 0) s m args below meth c Q A D 6 0 0 (fx_w ad ty (va_up a (9 + r) R) g (va_up n 2 (-1))) [(0, .ref (ad 4)), (1, .ref (ad (9 + r))), (2, .int aw), (3, .int (nI i))] 27 [] := by
          have key : ∀ zz : Nat × (Nat → Int32) × Int32, (fun (zz : Nat × (Nat → Int32) × Int32) => match zz with | (i, R, aw) => (i ≤ T) → (RDS (a 5) T i R aw) → (aw = -1 ∨ ∃ w8, w8 < 9 ∧ aw = nI w8) → fj p l e (fj_rm 6 132 0 0) s m args below meth c Q A D 6 0 0 (fx_w ad ty (va_up a (9 + r) R) g (va_up n 2 (-1))) [(0, .ref (ad 4)), (1, .ref (ad (9 + r))), (2, .int aw), (3, .int (nI i))] 27 []) zz := by
            refine fx_ind (fun (zz : Nat × (Nat → Int32) × Int32) => match zz with | (i, R, aw) => T - i) _ ?_
            rintro ⟨i, R, aw⟩ ih hi hRD haw
            have e5 : va_up a (9 + r) R 5 = a 5 := va_up_ne _ _ (by omega)
            refine fj_iload_n C 3 dX2_read_27 rfl rfl ?_
            refine fj_aload_n C 0 dX2_read_28 rfl rfl ?_
            refine fj_get (Cn := RX2) (T := TX2) (N := 7) (ci := 2) (v := .int (n 1)) C iX2 4 (fx_at4 _ _ _ _ _) rfl 1 (by decide) kX2_31 rfl dX2_read_29 ?_
            refine fj_at (y := nI T) hn1 ?_
            refine fj_icmp_ge (tgt := 137) C dX2_read_32 (by decide) (fun h32 => ?_) (fun h32 => ?_)
            · have hge : T ≤ i := Nat.le_of_not_lt fun q => absurd (Int32.not_lt.mpr h32) (not_not_intro ((nI_ltI (by omega) (by omega)).mpr q))
              obtain rfl : T = i := by omega
              refine fj_iload_n C 2 dX2_read_137 rfl rfl ?_
              refine fj_iconst (v := (-1)) C dX2_read_138 (by decide) ?_
              refine fj_icmp_ne (tgt := 144) C dX2_read_139 (by decide) (fun h139 => ?_) (fun h139 => ?_)
              · have hne : ¬ aw = -1 := h139
                refine fj_aload_n C 0 dX2_read_144 rfl rfl ?_
                refine fj_aload_n C 0 dX2_read_145 rfl rfl ?_
                refine fj_get (Cn := RX2) (T := TX2) (N := 7) (ci := 2) (v := .int (n 1)) C iX2 4 (fx_at4 _ _ _ _ _) rfl 1 (by decide) kX2_31 rfl dX2_read_146 ?_
                refine fj_at (y := nI T) hn1 ?_
                refine fj_put (Cn := RX2) (T := TX2) (N := 7) (ci := 2) C iX2 tyX2 tyX2_ok nmX2 4 (fx_at4 _ _ _ _ _) rfl 2 (by decide) kX2_15 rfl rfl rfl (Nat.le_of_ble_eq_true rfl) dX2_read_149 (fx_si4_2 _ _ _ _ _ _) ?_
                refine fj_ws (ws' := (fx_w ad ty (va_up a (9 + r) R) g (va_up n 2 (nI T)))) rfl ?_
                refine fj_iconst (v := 1) C dX2_read_152 (by decide) ?_
                exact fj_iret C E9 dX2_read_153 ⟨R, nI T, 1, Or.inr (Or.inl ⟨⟨aw, hRD, h139⟩, rfl, rfl⟩), rfl, rfl⟩
              · refine fj_iconst (v := 0) C dX2_read_142 (by decide) ?_
                exact fj_iret C E9 dX2_read_143 ⟨R, -1, 0, Or.inl ⟨by rw [← h139]; exact hRD, rfl, rfl⟩, rfl, rfl⟩
            · have hlt : i < T := (nI_ltI (by omega) (by omega)).mp (Int32.not_le.mp h32)
              refine fj_aload_n C 0 dX2_read_35 rfl rfl ?_
              refine fj_iload_n C 3 dX2_read_36 rfl rfl ?_
              refine fj_callVw (As := [.int (nI i)]) (rest := []) C (d_X2_beginsThing l D ty t0 ad (va_up a (9 + r) R) g (va_up n 2 (-1)) P S T B (XI_row hr8 I) (nI i) i rfl hlt) (cwV 1 C.2.2.2.2.1 gX2_read_X2_beginsThing rfl rfl rfl (by decide +kernel) ⟨Nat.le_of_ble_eq_true rfl, Nat.le_of_ble_eq_true rfl⟩) ⟨4, 2, _, _, fx_at4 _ _ _ _ _, rfl, rfl⟩ rfl (Nat.le_of_ble_eq_true rfl) dX2_read_37 ⟨Nat.zero_le _, Nat.zero_le _⟩ (fun v9 w9 hp9 => ?_)
              rcases hp9 with ⟨hb9, rfl, rfl⟩ | ⟨hb9, rfl, rfl⟩
              · refine fj_st (st' := .int 1 :: []) rfl ?_
                rw [e5] at hb9
                refine fj_if_ne (tgt := 46) C dX2_read_40 (by decide) (fun _ => ?_) (fun h => absurd h (by decide))
                refine fj_aload_n C 0 dX2_read_46 rfl rfl ?_
                refine fj_iload_n C 3 dX2_read_47 rfl rfl ?_
                refine fj_callVw (As := [.int (nI i)]) (rest := []) C (d_X2_endOfThing l D ty t0 ad (va_up a (9 + r) R) g (va_up n 2 (-1)) P S T B (XI_row hr8 I) (nI i) i rfl hlt) (cwV 1 C.2.2.2.2.1 gX2_read_X2_endOfThing rfl rfl rfl (by decide +kernel) ⟨Nat.le_of_ble_eq_true rfl, Nat.le_of_ble_eq_true rfl⟩) ⟨4, 2, _, _, fx_at4 _ _ _ _ _, rfl, rfl⟩ rfl (Nat.le_of_ble_eq_true rfl) dX2_read_48 ⟨Nat.zero_le _, Nat.zero_le _⟩ (fun v9 w9 hp9 => ?_)
                obtain ⟨z9, hz9, rfl, rfl⟩ := hp9
                refine fj_st (st' := .int (nI z9) :: []) rfl ?_
                rw [e5] at hz9
                have hzz := hz9
                refine fj_istore (lv' := [(4, .int (nI z9)), (0, .ref (ad 4)), (1, .ref (ad (9 + r))), (2, .int aw), (3, .int (nI i))]) C dX2_read_51 (by decide) rfl ?_
                refine fj_iload_n C 3 dX2_read_53 rfl rfl ?_
                refine fj_iconst (v := (-1)) C dX2_read_54 (by decide) ?_
                refine fj_icmp_ne (tgt := 92) C dX2_read_55 (by decide) (fun h55 => ?_) (fun h55 => ?_)
                · obtain ⟨w8, hw8, rfl⟩ := haw.resolve_left h55
                  refine fj_aload_n C 1 dX2_read_92 rfl rfl ?_
                  refine fj_iload_n C 4 dX2_read_93 rfl rfl ?_
                  refine fj_iload C 0 dX2_read_94 rfl ?_
                  refine fj_callVw (As := [.int (nI i), .int (nI z9)]) (rest := []) C (d_X2_faultOfNumber l D ty t0 ad (va_up a (9 + r) R) g (va_up n 2 (-1)) P S T B (XI_row hr8 I) (nI i) (nI z9) i z9 rfl rfl hzz.1 hzz.2.1) (cwV 2 C.2.2.2.2.1 gX2_read_X2_faultOfNumber rfl rfl rfl (by decide +kernel) ⟨Nat.le_of_ble_eq_true rfl, Nat.le_of_ble_eq_true rfl⟩) ⟨4, 2, _, _, fx_at4 _ _ _ _ _, rfl, rfl⟩ rfl (Nat.le_of_ble_eq_true rfl) dX2_read_96 ⟨Nat.zero_le _, Nat.zero_le _⟩ (fun v9 w9 hp9 => ?_)
                  rcases hp9 with ⟨hF8, rfl, rfl⟩ | ⟨hF8, hG8, rfl, rfl⟩ | ⟨hF8, hG8, rfl, rfl⟩
                  · refine fj_st (st' := .int 1 :: []) rfl ?_
                    rw [e5] at hF8
                    refine fj_istore (lv' := [(5, .int 1), (4, .int (nI z9)), (0, .ref (ad 4)), (1, .ref (ad (9 + r))), (2, .int (nI w8)), (3, .int (nI i))]) C dX2_read_99 (by decide) rfl ?_
                    refine fj_iload C 0 dX2_read_101 rfl ?_
                    refine fj_if_ne (tgt := 116) C dX2_read_103 (by decide) (fun _ => ?_) (fun h => absurd h (by decide))
                    refine fj_iconst (v := (-1)) C dX2_read_116 (by decide) ?_
                    refine fj_istore_n (lv' := [(2, .int (-1)), (5, .int 1), (4, .int (nI z9)), (0, .ref (ad 4)), (1, .ref (ad (9 + r))), (3, .int (nI i))]) C dX2_read_117 rfl (by decide) rfl ?_
                    refine fj_iload C 1 dX2_read_118 rfl ?_
                    refine fj_if_eq (tgt := 131) C dX2_read_120 (by decide) (fun h => absurd h (by decide)) (fun _ => ?_)
                    refine fj_aload_n C 3 dX2_read_123 rfl rfl ?_
                    refine fj_iload_n C 5 dX2_read_124 rfl rfl ?_
                    refine fj_put (Cn := RX2) (T := TX2) (N := 7) (ci := 2) C iX2 tyX2 tyX2_ok nmX2 4 (fx_at4 _ _ _ _ _) rfl 2 (by decide) kX2_15 rfl rfl rfl (Nat.le_of_ble_eq_true rfl) dX2_read_125 (fx_si4_2 _ _ _ _ _ _) ?_
                    refine fj_ws (ws' := (fx_w ad ty (va_up a (9 + r) R) g (va_up n 2 (nI i)))) rfl ?_
                    refine fj_iload C 1 dX2_read_128 rfl ?_
                    exact fj_iret C E9 dX2_read_130 ⟨R, nI i, 1, Or.inr (Or.inr ⟨i, hlt, ⟨R, _, hRD, hb9, z9, hz9, (by first | exact Or.inl ⟨rfl, Or.inl ⟨hM8, rfl⟩⟩ | exact Or.inl ⟨rfl, Or.inr ⟨nI i8, Or.inl ⟨i8, hi8, hW8, hM8, rfl⟩, nI_m1 (by omega), (by rw [nI_clamp (by omega)]; exact h79), rfl⟩⟩ | exact Or.inr ⟨h55, Or.inl ⟨hF8, rfl⟩⟩ | exact Or.inr ⟨h55, Or.inr ⟨hF8, hG8, rfl⟩⟩)⟩, by decide, rfl⟩), rfl, rfl⟩
                  · refine fj_st (st' := .int 2 :: []) rfl ?_
                    rw [e5] at hF8
                    refine fj_istore (lv' := [(5, .int 2), (4, .int (nI z9)), (0, .ref (ad 4)), (1, .ref (ad (9 + r))), (2, .int (nI w8)), (3, .int (nI i))]) C dX2_read_99 (by decide) rfl ?_
                    refine fj_iload C 0 dX2_read_101 rfl ?_
                    refine fj_if_ne (tgt := 116) C dX2_read_103 (by decide) (fun _ => ?_) (fun h => absurd h (by decide))
                    refine fj_iconst (v := (-1)) C dX2_read_116 (by decide) ?_
                    refine fj_istore_n (lv' := [(2, .int (-1)), (5, .int 2), (4, .int (nI z9)), (0, .ref (ad 4)), (1, .ref (ad (9 + r))), (3, .int (nI i))]) C dX2_read_117 rfl (by decide) rfl ?_
                    refine fj_iload C 1 dX2_read_118 rfl ?_
                    refine fj_if_eq (tgt := 131) C dX2_read_120 (by decide) (fun h => absurd h (by decide)) (fun _ => ?_)
                    refine fj_aload_n C 3 dX2_read_123 rfl rfl ?_
                    refine fj_iload_n C 5 dX2_read_124 rfl rfl ?_
                    refine fj_put (Cn := RX2) (T := TX2) (N := 7) (ci := 2) C iX2 tyX2 tyX2_ok nmX2 4 (fx_at4 _ _ _ _ _) rfl 2 (by decide) kX2_15 rfl rfl rfl (Nat.le_of_ble_eq_true rfl) dX2_read_125 (fx_si4_2 _ _ _ _ _ _) ?_
                    refine fj_ws (ws' := (fx_w ad ty (va_up a (9 + r) R) g (va_up n 2 (nI i)))) rfl ?_
                    refine fj_iload C 1 dX2_read_128 rfl ?_
                    exact fj_iret C E9 dX2_read_130 ⟨R, nI i, 2, Or.inr (Or.inr ⟨i, hlt, ⟨R, _, hRD, hb9, z9, hz9, (by first | exact Or.inl ⟨rfl, Or.inl ⟨hM8, rfl⟩⟩ | exact Or.inl ⟨rfl, Or.inr ⟨nI i8, Or.inl ⟨i8, hi8, hW8, hM8, rfl⟩, nI_m1 (by omega), (by rw [nI_clamp (by omega)]; exact h79), rfl⟩⟩ | exact Or.inr ⟨h55, Or.inl ⟨hF8, rfl⟩⟩ | exact Or.inr ⟨h55, Or.inr ⟨hF8, hG8, rfl⟩⟩)⟩, by decide, rfl⟩), rfl, rfl⟩
                  · refine fj_st (st' := .int 0 :: []) rfl ?_
                    rw [e5] at hF8
                    refine fj_istore (lv' := [(5, .int 0), (4, .int (nI z9)), (0, .ref (ad 4)), (1, .ref (ad (9 + r))), (2, .int (nI w8)), (3, .int (nI i))]) C dX2_read_99 (by decide) rfl ?_
                    refine fj_iload C 0 dX2_read_101 rfl ?_
                    refine fj_if_ne (tgt := 116) C dX2_read_103 (by decide) (fun h => absurd (by decide) h) (fun _ => ?_)
                    refine fj_aload_n C 3 dX2_read_106 rfl rfl ?_
                    refine fj_iload_n C 4 dX2_read_107 rfl rfl ?_
                    refine fj_aload_n C 2 dX2_read_108 rfl rfl ?_
                    refine fj_iload_n C 5 dX2_read_109 rfl rfl ?_
                    refine fj_iload C 1 dX2_read_110 rfl ?_
                    refine fj_callVw (As := [.int (nI i), .int (nI z9)]) (rest := [.int (nI w8), .ref (ad (9 + r))]) C (d_X2_numberAt l D ty t0 ad (va_up a (9 + r) R) g (va_up n 2 (-1)) P S T B (XI_row hr8 I) (nI i) (nI z9) i z9 rfl rfl hzz.1 hzz.2.1) (cwV 2 C.2.2.2.2.1 gX2_read_X2_numberAt rfl rfl rfl (by decide +kernel) ⟨Nat.le_of_ble_eq_true rfl, Nat.le_of_ble_eq_true rfl⟩) ⟨4, 2, _, _, fx_at4 _ _ _ _ _, rfl, rfl⟩ rfl (Nat.le_of_ble_eq_true rfl) dX2_read_112 ⟨Nat.zero_le _, Nat.zero_le _⟩ (fun v9 w9 hp9 => ?_)
                    obtain ⟨rfl, rfl⟩ := hp9
                    refine fj_st (st' := .int (num ((va_up a (9 + r) R) 5) i (z9 - i)) :: [.int (nI w8), .ref (ad (9 + r))]) rfl ?_
                    refine fj_at (y := num (a 5) i (z9 - i)) (by rw [e5]) ?_
                    refine fj_iast (f := ((va_up a (9 + r) R) (9 + r))) C (9 + r) (fx_atR _ _ _ _ _ hr8) (vp_in_nI (by omega) (by decide)) dX2_read_115 (fx_stR _ _ _ _ _ hr8 _) ?_
                    refine fj_ws (ws' := (fx_w ad ty (va_up a (9 + r) (upd R w8 (num (a 5) i (z9 - i)))) g (va_up n 2 (-1)))) (by rw [up_again, va_up_self, nI_clamp (by omega)]) ?_
                    refine fj_iconst (v := (-1)) C dX2_read_116 (by decide) ?_
                    refine fj_istore_n (lv' := [(2, .int (-1)), (5, .int 0), (4, .int (nI z9)), (0, .ref (ad 4)), (1, .ref (ad (9 + r))), (3, .int (nI i))]) C dX2_read_117 rfl (by decide) rfl ?_
                    refine fj_iload C 1 dX2_read_118 rfl ?_
                    refine fj_if_eq (tgt := 131) C dX2_read_120 (by decide) (fun _ => ?_) (fun h => absurd (by decide) h)
                    refine fj_iinc (v := nI (i + 1)) (lv' := [(3, .int (nI (i + 1))), (2, .int (-1)), (5, .int 0), (4, .int (nI z9)), (0, .ref (ad 4)), (1, .ref (ad (9 + r)))]) C 5 dX2_read_131 rfl (nI_1 i) (by decide) rfl ?_
                    refine fj_goto (tgt := 27) C dX2_read_134 (by decide) ?_
                    refine fj_lv (lv' := [(0, .ref (ad 4)), (1, .ref (ad (9 + r))), (2, .int (-1)), (3, .int (nI (i + 1)))]) [4, 5, 1, 0] rfl ?_
                    exact ih ⟨i + 1, upd R w8 (num (a 5) i (z9 - i)), (-1)⟩ (by show T - (i + 1) < T - i; omega) (by omega) (⟨R, _, hRD, Or.inr ⟨hb9, z9, hz9, Or.inr ⟨h55, hF8, hG8, (by rw [nI_clamp (by omega)]), rfl⟩⟩⟩) (by first | exact Or.inl rfl | exact Or.inr ⟨i8, hi8, rfl⟩ | exact haw)
                · subst h55
                  refine fj_aload_n C 1 dX2_read_58 rfl rfl ?_
                  refine fj_iload_n C 4 dX2_read_59 rfl rfl ?_
                  refine fj_iload C 0 dX2_read_60 rfl ?_
                  refine fj_callVw (As := [.int (nI i), .int (nI z9)]) (rest := []) C (d_X2_wordAt l D ty t0 ad (va_up a (9 + r) R) g (va_up n 2 (-1)) P S T B (XI_row hr8 I) (nI i) (nI z9) i z9 rfl rfl hzz.1 hzz.2.1) (cwV 2 C.2.2.2.2.1 gX2_read_X2_wordAt rfl rfl rfl (by decide +kernel) ⟨Nat.le_of_ble_eq_true rfl, Nat.le_of_ble_eq_true rfl⟩) ⟨4, 2, _, _, fx_at4 _ _ _ _ _, rfl, rfl⟩ rfl (Nat.le_of_ble_eq_true rfl) dX2_read_62 ⟨Nat.zero_le _, Nat.zero_le _⟩ (fun v9 w9 hp9 => ?_)
                  rcases hp9 with ⟨i8, hi8, hW8, hM8, rfl, rfl⟩ | ⟨hM8, rfl, rfl⟩
                  · refine fj_st (st' := .int (nI i8) :: []) rfl ?_
                    rw [e5] at hW8
                    simp only [e5] at hM8
                    refine fj_istore_n (lv' := [(2, .int (nI i8)), (4, .int (nI z9)), (0, .ref (ad 4)), (1, .ref (ad (9 + r))), (3, .int (nI i))]) C dX2_read_65 rfl (by decide) rfl ?_
                    refine fj_iload_n C 0 dX2_read_66 rfl rfl ?_
                    refine fj_iconst (v := (-1)) C dX2_read_67 (by decide) ?_
                    refine fj_icmp_ne (tgt := 75) C dX2_read_68 (by decide) (fun h68 => ?_) (fun h68 => absurd h68 (nI_m1 (by omega)))
                    refine fj_aload_n C 3 dX2_read_75 rfl rfl ?_
                    refine fj_iload_n C 0 dX2_read_76 rfl rfl ?_
                    refine fj_iald (f := ((va_up a (9 + r) R) (9 + r))) C (9 + r) (fx_atR _ _ _ _ _ hr8) (vp_in_nI (by omega) (by decide)) dX2_read_77 ?_
                    refine fj_at (y := R i8) (by rw [va_up_self, nI_clamp (by omega)]) ?_
                    refine fj_iconst (v := (-1)) C dX2_read_78 (by decide) ?_
                    refine fj_icmp_eq (tgt := 86) C dX2_read_79 (by decide) (fun h79 => ?_) (fun h79 => ?_)
                    · refine fj_iconst (v := 0) C dX2_read_86 (by decide) ?_
                      refine fj_istore (lv' := [(5, .int 0), (2, .int (nI i8)), (4, .int (nI z9)), (0, .ref (ad 4)), (1, .ref (ad (9 + r))), (3, .int (nI i))]) C dX2_read_87 (by decide) rfl ?_
                      refine fj_goto (tgt := 118) C dX2_read_89 (by decide) ?_
                      refine fj_iload C 0 dX2_read_118 rfl ?_
                      refine fj_if_eq (tgt := 131) C dX2_read_120 (by decide) (fun _ => ?_) (fun h => absurd (by decide) h)
                      refine fj_iinc (v := nI (i + 1)) (lv' := [(3, .int (nI (i + 1))), (5, .int 0), (2, .int (nI i8)), (4, .int (nI z9)), (0, .ref (ad 4)), (1, .ref (ad (9 + r)))]) C 5 dX2_read_131 rfl (nI_1 i) (by decide) rfl ?_
                      refine fj_goto (tgt := 27) C dX2_read_134 (by decide) ?_
                      refine fj_lv (lv' := [(0, .ref (ad 4)), (1, .ref (ad (9 + r))), (2, .int (nI i8)), (3, .int (nI (i + 1)))]) [4, 5, 2, 0] rfl ?_
                      exact ih ⟨i + 1, R, nI i8⟩ (by show T - (i + 1) < T - i; omega) (by omega) (⟨R, _, hRD, Or.inr ⟨hb9, z9, hz9, Or.inl ⟨rfl, Or.inl ⟨i8, hi8, hW8, hM8, rfl⟩, nI_m1 (by omega), (by rw [nI_clamp (by omega)]; exact h79), rfl⟩⟩⟩) (by first | exact Or.inl rfl | exact Or.inr ⟨i8, hi8, rfl⟩ | exact haw)
                    · refine fj_iconst (v := 3) C dX2_read_82 (by decide) ?_
                      refine fj_goto (tgt := 87) C dX2_read_83 (by decide) ?_
                      refine fj_istore (lv' := [(5, .int 3), (2, .int (nI i8)), (4, .int (nI z9)), (0, .ref (ad 4)), (1, .ref (ad (9 + r))), (3, .int (nI i))]) C dX2_read_87 (by decide) rfl ?_
                      refine fj_goto (tgt := 118) C dX2_read_89 (by decide) ?_
                      refine fj_iload C 0 dX2_read_118 rfl ?_
                      refine fj_if_eq (tgt := 131) C dX2_read_120 (by decide) (fun h => absurd h (by decide)) (fun _ => ?_)
                      refine fj_aload_n C 3 dX2_read_123 rfl rfl ?_
                      refine fj_iload_n C 5 dX2_read_124 rfl rfl ?_
                      refine fj_put (Cn := RX2) (T := TX2) (N := 7) (ci := 2) C iX2 tyX2 tyX2_ok nmX2 4 (fx_at4 _ _ _ _ _) rfl 2 (by decide) kX2_15 rfl rfl rfl (Nat.le_of_ble_eq_true rfl) dX2_read_125 (fx_si4_2 _ _ _ _ _ _) ?_
                      refine fj_ws (ws' := (fx_w ad ty (va_up a (9 + r) R) g (va_up n 2 (nI i)))) rfl ?_
                      refine fj_iload C 0 dX2_read_128 rfl ?_
                      exact fj_iret C E9 dX2_read_130 ⟨R, nI i, 3, Or.inr (Or.inr ⟨i, hlt, ⟨R, _, hRD, hb9, z9, hz9, (by first | exact Or.inl ⟨rfl, Or.inl ⟨hM8, rfl⟩⟩ | exact Or.inl ⟨rfl, Or.inr ⟨nI i8, Or.inl ⟨i8, hi8, hW8, hM8, rfl⟩, nI_m1 (by omega), (by rw [nI_clamp (by omega)]; exact h79), rfl⟩⟩ | exact Or.inr ⟨h55, Or.inl ⟨hF8, rfl⟩⟩ | exact Or.inr ⟨h55, Or.inr ⟨hF8, hG8, rfl⟩⟩)⟩, by decide, rfl⟩), rfl, rfl⟩
                  · refine fj_st (st' := .int (-1) :: []) rfl ?_
                    simp only [e5] at hM8
                    refine fj_istore_n (lv' := [(2, .int (-1)), (4, .int (nI z9)), (0, .ref (ad 4)), (1, .ref (ad (9 + r))), (3, .int (nI i))]) C dX2_read_65 rfl (by decide) rfl ?_
                    refine fj_iload_n C 0 dX2_read_66 rfl rfl ?_
                    refine fj_iconst (v := (-1)) C dX2_read_67 (by decide) ?_
                    refine fj_icmp_ne (tgt := 75) C dX2_read_68 (by decide) (fun h => absurd (by decide) h) (fun _ => ?_)
                    refine fj_iconst (v := 1) C dX2_read_71 (by decide) ?_
                    refine fj_goto (tgt := 87) C dX2_read_72 (by decide) ?_
                    refine fj_istore (lv' := [(5, .int 1), (2, .int (-1)), (4, .int (nI z9)), (0, .ref (ad 4)), (1, .ref (ad (9 + r))), (3, .int (nI i))]) C dX2_read_87 (by decide) rfl ?_
                    refine fj_goto (tgt := 118) C dX2_read_89 (by decide) ?_
                    refine fj_iload C 0 dX2_read_118 rfl ?_
                    refine fj_if_eq (tgt := 131) C dX2_read_120 (by decide) (fun h => absurd h (by decide)) (fun _ => ?_)
                    refine fj_aload_n C 3 dX2_read_123 rfl rfl ?_
                    refine fj_iload_n C 5 dX2_read_124 rfl rfl ?_
                    refine fj_put (Cn := RX2) (T := TX2) (N := 7) (ci := 2) C iX2 tyX2 tyX2_ok nmX2 4 (fx_at4 _ _ _ _ _) rfl 2 (by decide) kX2_15 rfl rfl rfl (Nat.le_of_ble_eq_true rfl) dX2_read_125 (fx_si4_2 _ _ _ _ _ _) ?_
                    refine fj_ws (ws' := (fx_w ad ty (va_up a (9 + r) R) g (va_up n 2 (nI i)))) rfl ?_
                    refine fj_iload C 0 dX2_read_128 rfl ?_
                    exact fj_iret C E9 dX2_read_130 ⟨R, nI i, 1, Or.inr (Or.inr ⟨i, hlt, ⟨R, _, hRD, hb9, z9, hz9, (by first | exact Or.inl ⟨rfl, Or.inl ⟨hM8, rfl⟩⟩ | exact Or.inl ⟨rfl, Or.inr ⟨nI i8, Or.inl ⟨i8, hi8, hW8, hM8, rfl⟩, nI_m1 (by omega), (by rw [nI_clamp (by omega)]; exact h79), rfl⟩⟩ | exact Or.inr ⟨h55, Or.inl ⟨hF8, rfl⟩⟩ | exact Or.inr ⟨h55, Or.inr ⟨hF8, hG8, rfl⟩⟩)⟩, by decide, rfl⟩), rfl, rfl⟩
              · refine fj_st (st' := .int 0 :: []) rfl ?_
                rw [e5] at hb9
                refine fj_if_ne (tgt := 46) C dX2_read_40 (by decide) (fun h => absurd (by decide) h) (fun _ => ?_)
                refine fj_goto (tgt := 131) C dX2_read_43 (by decide) ?_
                refine fj_iinc (v := nI (i + 1)) (lv' := [(3, .int (nI (i + 1))), (0, .ref (ad 4)), (1, .ref (ad (9 + r))), (2, .int aw)]) C 3 dX2_read_131 rfl (nI_1 i) (by decide) rfl ?_
                refine fj_goto (tgt := 27) C dX2_read_134 (by decide) ?_
                refine fj_lv (lv' := [(0, .ref (ad 4)), (1, .ref (ad (9 + r))), (2, .int aw), (3, .int (nI (i + 1)))]) [1, 2, 3, 0] rfl ?_
                exact ih ⟨i + 1, R, aw⟩ (by show T - (i + 1) < T - i; omega) (by omega) (⟨R, _, hRD, Or.inl ⟨hb9, rfl, rfl⟩⟩) (by first | exact Or.inl rfl | exact Or.inr ⟨i8, hi8, rfl⟩ | exact haw)
          intro i R aw
          exact key ⟨i, R, aw⟩
        exact lp27 0 (fil (a (9 + r)) (-1) 9) (-1) (Nat.zero_le _) (⟨fun i9 h9 => if_pos h9, rfl⟩) (Or.inl rfl)
      · have hlt : k < 9 := Nat.lt_of_not_le fun q => h5 ((nI_leI (a := 9) (by decide) (by omega)).mpr q)
        refine fj_aload_n C 1 dX2_read_8 rfl rfl ?_
        refine fj_iload_n C 2 dX2_read_9 rfl rfl ?_
        refine fj_iconst (v := (-1)) C dX2_read_10 (by decide) ?_
        refine fj_iast (f := ((va_up a (9 + r) (fil (a (9 + r)) (-1) k)) (9 + r))) C (9 + r) (fx_atR _ _ _ _ _ hr8) (vp_in_nI (by omega) (by decide)) dX2_read_11 (fx_stR _ _ _ _ _ hr8 _) ?_
        refine fj_ws (ws' := (fx_w ad ty (va_up a (9 + r) (fil (a (9 + r)) (-1) (k + 1))) g n)) (by rw [up_again, va_up_self, nI_clamp (by omega), fil_s]) ?_
        refine fj_iinc (v := nI (k + 1)) (lv' := [(2, .int (nI (k + 1))), (0, .ref (ad 4)), (1, .ref (ad (9 + r)))]) C 2 dX2_read_12 rfl (nI_1 k) (by decide) rfl ?_
        refine fj_goto (tgt := 2) C dX2_read_15 (by decide) ?_
        refine fj_lv (lv' := [(0, .ref (ad 4)), (1, .ref (ad (9 + r))), (2, .int (nI (k + 1)))]) [1, 2, 0] rfl ?_
        exact ih (k + 1) (by show 9 - (k + 1) < 9 - k; omega) (by omega)
    intro k
    exact key k
  refine fj_ws (ws' := (fx_w ad ty (va_up a (9 + r) (fil (a (9 + r)) (-1) 0)) g n)) (by rw [fil_0, va_up_id]) ?_
  exact lp2 0 (Nat.zero_le _)
