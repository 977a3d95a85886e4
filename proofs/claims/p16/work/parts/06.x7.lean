/-- a line of a sort, done, by one who has been the entry's holder -/
abbrev DBH (a : Nat → Nat → Int32) (k : Nat) (z : Int32) (i : Nat) : Prop := a 26 k = 0 ∧ a 19 k = z ∧ a 21 k = a 21 i ∧ (a 29 i >>> (a 20 k &&& 31)) &&& 1 = 1
def acF (a : Nat → Nat → Int32) (i t : Nat) : Nat → Int32
  | 0 => 0
  | d + 1 => if DBH a (a 24 (t + d)).toNatClampNeg 2 i then acF a i t d + a 22 (a 24 (t + d)).toNatClampNeg else acF a i t d
theorem acF_p {a : Nat → Nat → Int32} {i t d j : Nat} (h : a 24 (t + d) = nI j) (hj : j < 2 ^ 31) (q : DBH a j 2 i) : acF a i t (d + 1) = acF a i t d + a 22 j := by
  rw [acF, h, nI_clamp hj, if_pos q]
theorem acF_z {a : Nat → Nat → Int32} {i t d j : Nat} (h : a 24 (t + d) = nI j) (hj : j < 2 ^ 31) (q : ¬ DBH a j 2 i) : acF a i t (d + 1) = acF a i t d := by
  rw [acF, h, nI_clamp hj, if_neg q]
set_option maxHeartbeats 4000000 in
set_option maxRecDepth 100000 in
theorem d_X4_isDoneByHolder (l : Launch) (D : va_G) (ty : Nat → ClassId) (t0 : Nat → Nat) (ad : Nat → Nat) (a : Nat → Nat → Int32) (g : Nat → Nat → Int64) (n : Nat → Int32)  (x : Int32) (y : Int32) (s9 : Int32) (k : Nat) (i : Nat) (ek : x = nI k) (ei : s9 = nI i) (hk : k < 120) (hi : i < 120) : fc l yX4_isDoneByHolder wsX4_isDoneByHolder (fj_rm 0 0 0 0) D ty t0 [.ref (ad 25), .int x, .int y, .int s9] (fx_w ad ty a g n) 0 0 (fun v w => v = some (.int (if DBH a k y i then 1 else 0)) ∧ w = fx_w ad ty a g n) := by
  subst ek ei
  refine fc_start (own := RX4) (cc := cX4_isDoneByHolder) (maxL := 4) (ret := (some .boolean)) (by decide) rfl (Nat.le_of_ble_eq_true rfl) rfl ?_
  intro p e s m args below meth c Q A C hmn E9
  have iX4 : ∀ w ∈ u_ws RX4 TX4 18, w ∈ wsX4_isDoneByHolder := ptX4_isDoneByHolder_wsX40
  have kX4_15 : Cond.fieldLink RX4 15 "FreeLand$Work" "result" "[I" ∈ wsX4_isDoneByHolder := ptX4_isDoneByHolder_woX4_isDoneByHolder _ (by decide +kernel)
  have kX4_61 : Cond.fieldLink RX4 61 "FreeLand$Work" "book" "LFreeLand$Book;" ∈ wsX4_isDoneByHolder := ptX4_isDoneByHolder_woX4_isDoneByHolder _ (by decide +kernel)
  have iX0 : ∀ w ∈ u_ws RX0 TX0 8, w ∈ wsX4_isDoneByHolder := ptX4_isDoneByHolder_wsX00
  have kX4_89 : (RX4, 89, "FreeLand$Book", "sort", "[I") ∈ nw_F := (by decide +kernel)
  have kX4_108 : (RX4, 108, "FreeLand$Book", "where", "[I") ∈ nw_F := (by decide +kernel)
  have kX4_25 : Cond.fieldLink RX4 25 "FreeLand$Work" "holders" "[I" ∈ wsX4_isDoneByHolder := ptX4_isDoneByHolder_woX4_isDoneByHolder _ (by decide +kernel)
  have kX4_86 : (RX4, 86, "FreeLand$Book", "who", "[I") ∈ nw_F := (by decide +kernel)
  refine fj_lv (lv' := [(0, .ref (ad 25)), (1, .int (nI k)), (2, .int y), (3, .int (nI i))]) [0, 1, 2, 3] rfl ?_
  refine fj_aload_n C 0 dX4_isDoneByHolder_0 rfl rfl ?_
  refine fj_get (Cn := RX4) (T := TX4) (N := 18) (ci := 4) (v := .ref (ad 26)) C iX4 25 (fx_at25 _ _ _ _ _) rfl 4 (by decide) kX4_15 rfl dX4_isDoneByHolder_1 ?_
  refine fj_iload_n C 1 dX4_isDoneByHolder_4 rfl rfl ?_
  refine fj_iald (f := (a 26)) C 26 (fx_at26 _ _ _ _ _) (vp_in_nI (by omega) (by decide)) dX4_isDoneByHolder_5 ?_
  refine fj_at (y := a 26 k) (by rw [nI_clamp (by omega)]) ?_
  refine fj_if_ne (tgt := 69) C dX4_isDoneByHolder_6 (by decide) (fun h6 => ?_) (fun h6 => ?_)
  · refine fj_iconst (v := 0) C dX4_isDoneByHolder_69 (by decide) ?_
    exact fj_zret C E9 rfl dX4_isDoneByHolder_70 ⟨by first | (rw [if_neg (fun z => h6 z.1)]; done) | (rw [if_neg (fun z => h19 z.2.1)]; done) | (rw [if_neg (fun z => h40 z.2.2.1)]; done) | (rw [if_neg (fun z => h62 z.2.2.2)]; done) | (rw [if_pos ⟨h6, h19, h40, h62⟩]; done), rfl⟩
  · refine fj_aload_n C 0 dX4_isDoneByHolder_9 rfl rfl ?_
    refine fj_get (Cn := RX4) (T := TX4) (N := 18) (ci := 4) (v := .ref (ad 17)) C iX4 25 (fx_at25 _ _ _ _ _) rfl 2 (by decide) kX4_61 rfl dX4_isDoneByHolder_10 ?_
    refine fj_getN (Cn := RX0) (T := TX0) (N := 8) (ci := 0) (v := .ref (ad 19)) C iX0 17 (fx_at17 _ _ _ _ _) rfl 1 (by decide) kX4_89 rfl dX4_isDoneByHolder_13 ?_
    refine fj_iload_n C 1 dX4_isDoneByHolder_16 rfl rfl ?_
    refine fj_iald (f := (a 19)) C 19 (fx_at19 _ _ _ _ _) (vp_in_nI (by omega) (by decide)) dX4_isDoneByHolder_17 ?_
    refine fj_at (y := a 19 k) (by rw [nI_clamp (by omega)]) ?_
    refine fj_iload_n C 2 dX4_isDoneByHolder_18 rfl rfl ?_
    refine fj_icmp_ne (tgt := 69) C dX4_isDoneByHolder_19 (by decide) (fun h19 => ?_) (fun h19 => ?_)
    · refine fj_iconst (v := 0) C dX4_isDoneByHolder_69 (by decide) ?_
      exact fj_zret C E9 rfl dX4_isDoneByHolder_70 ⟨by first | (rw [if_neg (fun z => h6 z.1)]; done) | (rw [if_neg (fun z => h19 z.2.1)]; done) | (rw [if_neg (fun z => h40 z.2.2.1)]; done) | (rw [if_neg (fun z => h62 z.2.2.2)]; done) | (rw [if_pos ⟨h6, h19, h40, h62⟩]; done), rfl⟩
    · refine fj_aload_n C 0 dX4_isDoneByHolder_22 rfl rfl ?_
      refine fj_get (Cn := RX4) (T := TX4) (N := 18) (ci := 4) (v := .ref (ad 17)) C iX4 25 (fx_at25 _ _ _ _ _) rfl 2 (by decide) kX4_61 rfl dX4_isDoneByHolder_23 ?_
      refine fj_getN (Cn := RX0) (T := TX0) (N := 8) (ci := 0) (v := .ref (ad 21)) C iX0 17 (fx_at17 _ _ _ _ _) rfl 3 (by decide) kX4_108 rfl dX4_isDoneByHolder_26 ?_
      refine fj_iload_n C 1 dX4_isDoneByHolder_29 rfl rfl ?_
      refine fj_iald (f := (a 21)) C 21 (fx_at21 _ _ _ _ _) (vp_in_nI (by omega) (by decide)) dX4_isDoneByHolder_30 ?_
      refine fj_at (y := a 21 k) (by rw [nI_clamp (by omega)]) ?_
      refine fj_aload_n C 0 dX4_isDoneByHolder_31 rfl rfl ?_
      refine fj_get (Cn := RX4) (T := TX4) (N := 18) (ci := 4) (v := .ref (ad 17)) C iX4 25 (fx_at25 _ _ _ _ _) rfl 2 (by decide) kX4_61 rfl dX4_isDoneByHolder_32 ?_
      refine fj_getN (Cn := RX0) (T := TX0) (N := 8) (ci := 0) (v := .ref (ad 21)) C iX0 17 (fx_at17 _ _ _ _ _) rfl 3 (by decide) kX4_108 rfl dX4_isDoneByHolder_35 ?_
      refine fj_iload_n C 3 dX4_isDoneByHolder_38 rfl rfl ?_
      refine fj_iald (f := (a 21)) C 21 (fx_at21 _ _ _ _ _) (vp_in_nI (by omega) (by decide)) dX4_isDoneByHolder_39 ?_
      refine fj_at (y := a 21 i) (by rw [nI_clamp (by omega)]) ?_
      refine fj_icmp_ne (tgt := 69) C dX4_isDoneByHolder_40 (by decide) (fun h40 => ?_) (fun h40 => ?_)
      · refine fj_iconst (v := 0) C dX4_isDoneByHolder_69 (by decide) ?_
        exact fj_zret C E9 rfl dX4_isDoneByHolder_70 ⟨by first | (rw [if_neg (fun z => h6 z.1)]; done) | (rw [if_neg (fun z => h19 z.2.1)]; done) | (rw [if_neg (fun z => h40 z.2.2.1)]; done) | (rw [if_neg (fun z => h62 z.2.2.2)]; done) | (rw [if_pos ⟨h6, h19, h40, h62⟩]; done), rfl⟩
      · refine fj_aload_n C 0 dX4_isDoneByHolder_43 rfl rfl ?_
        refine fj_get (Cn := RX4) (T := TX4) (N := 18) (ci := 4) (v := .ref (ad 29)) C iX4 25 (fx_at25 _ _ _ _ _) rfl 7 (by decide) kX4_25 rfl dX4_isDoneByHolder_44 ?_
        refine fj_iload_n C 3 dX4_isDoneByHolder_47 rfl rfl ?_
        refine fj_iald (f := (a 29)) C 29 (fx_at29 _ _ _ _ _) (vp_in_nI (by omega) (by decide)) dX4_isDoneByHolder_48 ?_
        refine fj_at (y := a 29 i) (by rw [nI_clamp (by omega)]) ?_
        refine fj_aload_n C 0 dX4_isDoneByHolder_49 rfl rfl ?_
        refine fj_get (Cn := RX4) (T := TX4) (N := 18) (ci := 4) (v := .ref (ad 17)) C iX4 25 (fx_at25 _ _ _ _ _) rfl 2 (by decide) kX4_61 rfl dX4_isDoneByHolder_50 ?_
        refine fj_getN (Cn := RX0) (T := TX0) (N := 8) (ci := 0) (v := .ref (ad 20)) C iX0 17 (fx_at17 _ _ _ _ _) rfl 2 (by decide) kX4_86 rfl dX4_isDoneByHolder_53 ?_
        refine fj_iload_n C 1 dX4_isDoneByHolder_56 rfl rfl ?_
        refine fj_iald (f := (a 20)) C 20 (fx_at20 _ _ _ _ _) (vp_in_nI (by omega) (by decide)) dX4_isDoneByHolder_57 ?_
        refine fj_at (y := a 20 k) (by rw [nI_clamp (by omega)]) ?_
        refine fj_ishr C dX4_isDoneByHolder_58 ?_
        refine fj_iconst (v := 1) C dX4_isDoneByHolder_59 (by decide) ?_
        refine fj_iand C dX4_isDoneByHolder_60 ?_
        refine fj_iconst (v := 1) C dX4_isDoneByHolder_61 (by decide) ?_
        refine fj_icmp_ne (tgt := 69) C dX4_isDoneByHolder_62 (by decide) (fun h62 => ?_) (fun h62 => ?_)
        · refine fj_iconst (v := 0) C dX4_isDoneByHolder_69 (by decide) ?_
          exact fj_zret C E9 rfl dX4_isDoneByHolder_70 ⟨by first | (rw [if_neg (fun z => h6 z.1)]; done) | (rw [if_neg (fun z => h19 z.2.1)]; done) | (rw [if_neg (fun z => h40 z.2.2.1)]; done) | (rw [if_neg (fun z => h62 z.2.2.2)]; done) | (rw [if_pos ⟨h6, h19, h40, h62⟩]; done), rfl⟩
        · refine fj_iconst (v := 1) C dX4_isDoneByHolder_65 (by decide) ?_
          refine fj_goto (tgt := 70) C dX4_isDoneByHolder_66 (by decide) ?_
          exact fj_zret C E9 rfl dX4_isDoneByHolder_70 ⟨by first | (rw [if_neg (fun z => h6 z.1)]; done) | (rw [if_neg (fun z => h19 z.2.1)]; done) | (rw [if_neg (fun z => h40 z.2.2.1)]; done) | (rw [if_neg (fun z => h62 z.2.2.2)]; done) | (rw [if_pos ⟨h6, h19, h40, h62⟩]; done), rfl⟩

set_option maxHeartbeats 4000000 in
set_option maxRecDepth 100000 in
theorem d_X4_acres (l : Launch) (D : va_G) (ty : Nat → ClassId) (t0 : Nat → Nat) (ad : Nat → Nat) (a : Nat → Nat → Int32) (g : Nat → Nat → Int64) (n : Nat → Int32) (P : Nat) (S : Nat) (T : Nat) (B : Nat) (I : XI P S T B a n) (x : Int32) (k : Nat) (ek : x = nI k) (hk : k < 64) (hw : WI B a) : fc l yX4_acres wsX4_acres (fj_rm 1 23 0 0) D ty t0 [.ref (ad 25), .int x] (fx_w ad ty a g n) 0 0 (fun v w => v = some (.int (if a 33 k = -1 then 0 else acF a (a 33 k).toNatClampNeg (a 32 (a 33 k).toNatClampNeg).toNatClampNeg (B - (a 32 (a 33 k).toNatClampNeg).toNatClampNeg))) ∧ w = fx_w ad ty a g n) := by
  subst ek
  refine fc_start (own := RX4) (cc := cX4_acres) (maxL := 6) (ret := (some .int)) (by decide) rfl (Nat.le_of_ble_eq_true rfl) rfl ?_
  intro p e s m args below meth c Q A C hmn E9
  obtain ⟨hn0, hP, hn1, hT, hn3, hS, hn4, hB, iLO, iBO, iWho, iSort, iQ, iN⟩ := id I
  have iX4 : ∀ w ∈ u_ws RX4 TX4 18, w ∈ wsX4_acres := ptX4_acres_wsX40
  have kX4_37 : Cond.fieldLink RX4 37 "FreeLand$Work" "held" "[I" ∈ wsX4_acres := ptX4_acres_woX4_acres _ (by decide +kernel)
  have kX4_34 : Cond.fieldLink RX4 34 "FreeLand$Work" "spot" "[I" ∈ wsX4_acres := ptX4_acres_woX4_acres _ (by decide +kernel)
  have kX4_61 : Cond.fieldLink RX4 61 "FreeLand$Work" "book" "LFreeLand$Book;" ∈ wsX4_acres := ptX4_acres_woX4_acres _ (by decide +kernel)
  have iX0 : ∀ w ∈ u_ws RX0 TX0 8, w ∈ wsX4_acres := ptX4_acres_wsX00
  have kX4_68 : (RX4, 68, "FreeLand$Book", "size", "I") ∈ nw_F := (by decide +kernel)
  have kX4_73 : (RX4, 73, "FreeLand$Book", "order", "[I") ∈ nw_F := (by decide +kernel)
  have kX4_158 : (RX4, 158, "FreeLand$Book", "number", "[I") ∈ nw_F := (by decide +kernel)
  refine fj_lv (lv' := [(0, .ref (ad 25)), (1, .int (nI k))]) [0, 1] rfl ?_
  refine fj_aload_n C 0 dX4_acres_0 rfl rfl ?_
  refine fj_get (Cn := RX4) (T := TX4) (N := 18) (ci := 4) (v := .ref (ad 33)) C iX4 25 (fx_at25 _ _ _ _ _) rfl 11 (by decide) kX4_37 rfl dX4_acres_1 ?_
  refine fj_iload_n C 1 dX4_acres_4 rfl rfl ?_
  refine fj_iald (f := (a 33)) C 33 (fx_at33 _ _ _ _ _) (vp_in_nI (by omega) (by decide)) dX4_acres_5 ?_
  refine fj_at (y := a 33 k) (by rw [nI_clamp (by omega)]) ?_
  refine fj_istore_n (lv' := [(2, .int (a 33 k)), (0, .ref (ad 25)), (1, .int (nI k))]) C dX4_acres_6 rfl (by decide) rfl ?_
  refine fj_iload_n C 0 dX4_acres_7 rfl rfl ?_
  refine fj_iconst (v := (-1)) C dX4_acres_8 (by decide) ?_
  refine fj_icmp_ne (tgt := 14) C dX4_acres_9 (by decide) (fun h9 => ?_) (fun h9 => ?_)
  · obtain ⟨e9, t9, he9, ee9, ht9, et9⟩ := (hw k hk).resolve_left h9
    refine fj_lv (lv' := [(2, .int (nI e9)), (0, .ref (ad 25)), (1, .int (nI k))]) [0, 1, 2] (by rw [← ee9]; rfl) ?_
    refine fj_iconst (v := 0) C dX4_acres_14 (by decide) ?_
    refine fj_istore_n (lv' := [(3, .int 0), (2, .int (nI e9)), (0, .ref (ad 25)), (1, .int (nI k))]) C dX4_acres_15 rfl (by decide) rfl ?_
    refine fj_aload_n C 2 dX4_acres_16 rfl rfl ?_
    refine fj_get (Cn := RX4) (T := TX4) (N := 18) (ci := 4) (v := .ref (ad 32)) C iX4 25 (fx_at25 _ _ _ _ _) rfl 10 (by decide) kX4_34 rfl dX4_acres_17 ?_
    refine fj_iload_n C 1 dX4_acres_20 rfl rfl ?_
    refine fj_iald (f := (a 32)) C 32 (fx_at32 _ _ _ _ _) (vp_in_nI (by omega) (by decide)) dX4_acres_21 ?_
    refine fj_at (y := nI t9) (by rw [nI_clamp (by omega), et9]) ?_
    refine fj_istore (lv' := [(4, .int (nI t9)), (3, .int 0), (2, .int (nI e9)), (0, .ref (ad 25)), (1, .int (nI k))]) C dX4_acres_22 (by decide) rfl ?_
    refine fj_lv (lv' := [(0, .ref (ad 25)), (1, .int (nI k)), (2, .int (nI e9)), (3, .int 0), (4, .int (nI t9))]) [3, 4, 2, 1, 0] rfl ?_
    have lp24 : ∀ (d : Nat), (t9 + d ≤ B) → fj p l e (fj_rm 1 23 0 0) s m args below meth c Q A D 6 0 0 (fx_w ad ty a g n) [(0, .ref (ad 25)), (1, .int (nI k)), (2, .int (nI e9)), (3, .int (acF a e9 t9 d)), (4, .int (nI (t9 + d)))] 24 [] := by
      have key : ∀ zz : Nat, (fun (d : Nat) => (t9 + d ≤ B) → fj p l e (fj_rm 1 23 0 0) s m args below meth c Q A D 6 0 0 (fx_w ad ty a g n) [(0, .ref (ad 25)), (1, .int (nI k)), (2, .int (nI e9)), (3, .int (acF a e9 t9 d)), (4, .int (nI (t9 + d)))] 24 []) zz := by
        refine fx_ind (fun (d : Nat) => B - (t9 + d)) _ ?_
        rintro d ih hd
        refine fj_iload C 4 dX4_acres_24 rfl ?_
        refine fj_aload_n C 0 dX4_acres_26 rfl rfl ?_
        refine fj_get (Cn := RX4) (T := TX4) (N := 18) (ci := 4) (v := .ref (ad 17)) C iX4 25 (fx_at25 _ _ _ _ _) rfl 2 (by decide) kX4_61 rfl dX4_acres_27 ?_
        refine fj_getN (Cn := RX0) (T := TX0) (N := 8) (ci := 0) (v := .int (n 4)) C iX0 17 (fx_at17 _ _ _ _ _) rfl 7 (by decide) kX4_68 rfl dX4_acres_30 ?_
        refine fj_at (y := nI B) hn4 ?_
        refine fj_icmp_ge (tgt := 78) C dX4_acres_33 (by decide) (fun h33 => ?_) (fun h33 => ?_)
        · have hge : B ≤ t9 + d := Nat.le_of_not_lt fun q => absurd (Int32.not_lt.mpr h33) (not_not_intro ((nI_ltI (by omega) (by omega)).mpr q))
          refine fj_iload_n C 3 dX4_acres_78 rfl rfl ?_
          exact fj_iret C E9 dX4_acres_79 ⟨by rw [if_neg h9, ee9, nI_clamp (by omega : e9 < 2 ^ 31), et9, nI_clamp (by omega : t9 < 2 ^ 31), show d = B - t9 by omega], rfl⟩
        · have hlt : t9 + d < B := (nI_ltI (by omega) (by omega)).mp (Int32.not_le.mp h33)
          refine fj_aload_n C 0 dX4_acres_36 rfl rfl ?_
          refine fj_get (Cn := RX4) (T := TX4) (N := 18) (ci := 4) (v := .ref (ad 17)) C iX4 25 (fx_at25 _ _ _ _ _) rfl 2 (by decide) kX4_61 rfl dX4_acres_37 ?_
          refine fj_getN (Cn := RX0) (T := TX0) (N := 8) (ci := 0) (v := .ref (ad 24)) C iX0 17 (fx_at17 _ _ _ _ _) rfl 6 (by decide) kX4_73 rfl dX4_acres_40 ?_
          refine fj_iload C 4 dX4_acres_43 rfl ?_
          refine fj_iald (f := (a 24)) C 24 (fx_at24 _ _ _ _ _) (vp_in_nI (by omega) (by decide)) dX4_acres_45 ?_
          obtain ⟨j, hj, ej⟩ := iBO (t9 + d) (by omega)
          refine fj_at (y := nI j) (by rw [nI_clamp (by omega), ej]) ?_
          refine fj_istore (lv' := [(5, .int (nI j)), (0, .ref (ad 25)), (1, .int (nI k)), (2, .int (nI e9)), (3, .int (acF a e9 t9 d)), (4, .int (nI (t9 + d)))]) C dX4_acres_46 (by decide) rfl ?_
          refine fj_aload_n C 1 dX4_acres_48 rfl rfl ?_
          refine fj_iload C 0 dX4_acres_49 rfl ?_
          refine fj_iconst (v := 2) C dX4_acres_51 (by decide) ?_
          refine fj_iload_n C 3 dX4_acres_52 rfl rfl ?_
          refine fj_callVw (As := [.int (nI j), .int 2, .int (nI e9)]) (rest := []) C (d_X4_isDoneByHolder l D ty t0 ad a g n (nI j) 2 (nI e9) j e9 rfl rfl (by omega) (by omega)) (cwV 3 C.2.2.2.2.1 gX4_acres_X4_isDoneByHolder rfl rfl rfl (by decide +kernel) ⟨Nat.le_of_ble_eq_true rfl, Nat.le_of_ble_eq_true rfl⟩) ⟨25, 4, _, _, fx_at25 _ _ _ _ _, rfl, rfl⟩ rfl (Nat.le_of_ble_eq_true rfl) dX4_acres_53 ⟨Nat.zero_le _, Nat.zero_le _⟩ (fun v9 w9 hp9 => ?_)
          obtain ⟨rfl, rfl⟩ := hp9
          refine fj_st (st' := .int (if DBH a j 2 e9 then 1 else 0) :: []) rfl ?_
          refine fj_ifb_eq (tgt := 72) C dX4_acres_56 (by decide) (fun h56 => ?_) (fun h56 => ?_)
          · refine fj_iinc (v := nI (t9 + (d + 1))) (lv' := [(4, .int (nI (t9 + (d + 1)))), (5, .int (nI j)), (0, .ref (ad 25)), (1, .int (nI k)), (2, .int (nI e9)), (3, .int (acF a e9 t9 d))]) C 5 dX4_acres_72 rfl (nI_1 (t9 + d)) (by decide) rfl ?_
            refine fj_goto (tgt := 24) C dX4_acres_75 (by decide) ?_
            refine fj_lv (lv' := [(0, .ref (ad 25)), (1, .int (nI k)), (2, .int (nI e9)), (3, .int (acF a e9 t9 d)), (4, .int (nI (t9 + (d + 1))))]) [2, 3, 4, 5, 0] rfl ?_
            refine fj_lv (lv' := [(0, .ref (ad 25)), (1, .int (nI k)), (2, .int (nI e9)), (3, .int (acF a e9 t9 (d + 1))), (4, .int (nI (t9 + (d + 1))))]) [0, 1, 2, 3, 4] (by rw [acF_z ej (by omega) h56]; rfl) ?_
            exact ih (d + 1) (by show B - (t9 + (d + 1)) < B - (t9 + d); omega) (by omega)
          · refine fj_iload_n C 4 dX4_acres_59 rfl rfl ?_
            refine fj_aload_n C 1 dX4_acres_60 rfl rfl ?_
            refine fj_get (Cn := RX4) (T := TX4) (N := 18) (ci := 4) (v := .ref (ad 17)) C iX4 25 (fx_at25 _ _ _ _ _) rfl 2 (by decide) kX4_61 rfl dX4_acres_61 ?_
            refine fj_getN (Cn := RX0) (T := TX0) (N := 8) (ci := 0) (v := .ref (ad 22)) C iX0 17 (fx_at17 _ _ _ _ _) rfl 4 (by decide) kX4_158 rfl dX4_acres_64 ?_
            refine fj_iload C 0 dX4_acres_67 rfl ?_
            refine fj_iald (f := (a 22)) C 22 (fx_at22 _ _ _ _ _) (vp_in_nI (by omega) (by decide)) dX4_acres_69 ?_
            refine fj_at (y := a 22 j) (by rw [nI_clamp (by omega)]) ?_
            refine fj_iadd C dX4_acres_70 ?_
            refine fj_at (y := acF a e9 t9 (d + 1)) (acF_p ej (by omega) h56).symm ?_
            refine fj_istore_n (lv' := [(3, .int (acF a e9 t9 (d + 1))), (5, .int (nI j)), (0, .ref (ad 25)), (1, .int (nI k)), (2, .int (nI e9)), (4, .int (nI (t9 + d)))]) C dX4_acres_71 rfl (by decide) rfl ?_
            refine fj_iinc (v := nI (t9 + (d + 1))) (lv' := [(4, .int (nI (t9 + (d + 1)))), (3, .int (acF a e9 t9 (d + 1))), (5, .int (nI j)), (0, .ref (ad 25)), (1, .int (nI k)), (2, .int (nI e9))]) C 5 dX4_acres_72 rfl (nI_1 (t9 + d)) (by decide) rfl ?_
            refine fj_goto (tgt := 24) C dX4_acres_75 (by decide) ?_
            refine fj_lv (lv' := [(0, .ref (ad 25)), (1, .int (nI k)), (2, .int (nI e9)), (3, .int (acF a e9 t9 (d + 1))), (4, .int (nI (t9 + (d + 1))))]) [3, 4, 5, 1, 0] rfl ?_
            exact ih (d + 1) (by show B - (t9 + (d + 1)) < B - (t9 + d); omega) (by omega)
      intro d
      exact key d
    exact lp24 0 (by omega)
  · refine fj_iconst (v := 0) C dX4_acres_12 (by decide) ?_
    exact fj_iret C E9 dX4_acres_13 ⟨by rw [if_pos h9], rfl⟩

set_option maxHeartbeats 4000000 in
set_option maxRecDepth 100000 in
theorem d_X4_end (l : Launch) (D : va_G) (ty : Nat → ClassId) (t0 : Nat → Nat) (ad : Nat → Nat) (a : Nat → Nat → Int32) (g : Nat → Nat → Int64) (n : Nat → Int32)  (x : Int32) (k : Nat) (ek : x = nI k) (hk : k < 64) (e9 : Nat) (he9 : e9 < 120) (ee9 : a 33 k = nI e9) : fc l yX4_end wsX4_end (fj_rm 0 0 0 0) D ty t0 [.ref (ad 25), .int x] (fx_w ad ty a g n) 0 0 (fun v w => v = none ∧ w = fx_w ad ty (va_up (va_up a 27 (upd (a 27) e9 3)) 33 (upd (a 33) k (-1))) g n) := by
  subst ek
  refine fc_start (own := RX4) (cc := cX4_end) (maxL := 2) (ret := none) (by decide) rfl (Nat.le_of_ble_eq_true rfl) rfl ?_
  intro p e s m args below meth c Q A C hmn E9
  have iX4 : ∀ w ∈ u_ws RX4 TX4 18, w ∈ wsX4_end := ptX4_end_wsX40
  have kX4_19 : Cond.fieldLink RX4 19 "FreeLand$Work" "state" "[I" ∈ wsX4_end := ptX4_end_woX4_end _ (by decide +kernel)
  have kX4_37 : Cond.fieldLink RX4 37 "FreeLand$Work" "held" "[I" ∈ wsX4_end := ptX4_end_woX4_end _ (by decide +kernel)
  refine fj_lv (lv' := [(0, .ref (ad 25)), (1, .int (nI k))]) [0, 1] rfl ?_
  refine fj_aload_n C 0 dX4_end_0 rfl rfl ?_
  refine fj_get (Cn := RX4) (T := TX4) (N := 18) (ci := 4) (v := .ref (ad 27)) C iX4 25 (fx_at25 _ _ _ _ _) rfl 5 (by decide) kX4_19 rfl dX4_end_1 ?_
  refine fj_aload_n C 0 dX4_end_4 rfl rfl ?_
  refine fj_get (Cn := RX4) (T := TX4) (N := 18) (ci := 4) (v := .ref (ad 33)) C iX4 25 (fx_at25 _ _ _ _ _) rfl 11 (by decide) kX4_37 rfl dX4_end_5 ?_
  refine fj_iload_n C 1 dX4_end_8 rfl rfl ?_
  refine fj_iald (f := (a 33)) C 33 (fx_at33 _ _ _ _ _) (vp_in_nI (by omega) (by decide)) dX4_end_9 ?_
  refine fj_at (y := nI e9) (by rw [nI_clamp (by omega), ee9]) ?_
  refine fj_iconst (v := 3) C dX4_end_10 (by decide) ?_
  refine fj_iast (f := (a 27)) C 27 (fx_at27 _ _ _ _ _) (vp_in_nI (by omega) (by decide)) dX4_end_11 (fx_st27 _ _ _ _ _ _) ?_
  refine fj_aload_n C 0 dX4_end_12 rfl rfl ?_
  refine fj_get (Cn := RX4) (T := TX4) (N := 18) (ci := 4) (v := .ref (ad 33)) C iX4 25 (fx_at25 _ _ _ _ _) rfl 11 (by decide) kX4_37 rfl dX4_end_13 ?_
  refine fj_iload_n C 1 dX4_end_16 rfl rfl ?_
  refine fj_iconst (v := (-1)) C dX4_end_17 (by decide) ?_
  refine fj_iast (f := (a 33)) C 33 (fx_at33 _ _ _ _ _) (vp_in_nI (by omega) (by decide)) dX4_end_18 (fx_st33 _ _ _ _ _ _) ?_
  exact fj_vret C E9 dX4_end_19 ⟨rfl, by rw [nI_clamp (by omega), nI_clamp (by omega)]⟩

set_option maxHeartbeats 4000000 in
set_option maxRecDepth 100000 in
theorem d_X4_countEntries (l : Launch) (D : va_G) (ty : Nat → ClassId) (t0 : Nat → Nat) (ad : Nat → Nat) (a : Nat → Nat → Int32) (g : Nat → Nat → Int64) (n : Nat → Int32) (P : Nat) (S : Nat) (T : Nat) (B : Nat) (I : XI P S T B a n) (x : Int32)  : fc l yX4_countEntries wsX4_countEntries (fj_rm 0 0 0 0) D ty t0 [.ref (ad 25), .int x] (fx_w ad ty a g n) 0 0 (fun v w => v = some (.int (nI (cnE (a 27) x B))) ∧ w = fx_w ad ty a g n) := by
  refine fc_start (own := RX4) (cc := cX4_countEntries) (maxL := 4) (ret := (some .int)) (by decide) rfl (Nat.le_of_ble_eq_true rfl) rfl ?_
  intro p e s m args below meth c Q A C hmn E9
  obtain ⟨hn0, hP, hn1, hT, hn3, hS, hn4, hB, iLO, iBO, iWho, iSort, iQ, iN⟩ := id I
  have iX4 : ∀ w ∈ u_ws RX4 TX4 18, w ∈ wsX4_countEntries := ptX4_countEntries_wsX40
  have kX4_61 : Cond.fieldLink RX4 61 "FreeLand$Work" "book" "LFreeLand$Book;" ∈ wsX4_countEntries := ptX4_countEntries_woX4_countEntries _ (by decide +kernel)
  have iX0 : ∀ w ∈ u_ws RX0 TX0 8, w ∈ wsX4_countEntries := ptX4_countEntries_wsX00
  have kX4_68 : (RX4, 68, "FreeLand$Book", "size", "I") ∈ nw_F := (by decide +kernel)
  have kX4_19 : Cond.fieldLink RX4 19 "FreeLand$Work" "state" "[I" ∈ wsX4_countEntries := ptX4_countEntries_woX4_countEntries _ (by decide +kernel)
  refine fj_lv (lv' := [(0, .ref (ad 25)), (1, .int x)]) [0, 1] rfl ?_
  refine fj_iconst (v := 0) C dX4_countEntries_0 (by decide) ?_
  refine fj_istore_n (lv' := [(2, .int 0), (0, .ref (ad 25)), (1, .int x)]) C dX4_countEntries_1 rfl (by decide) rfl ?_
  refine fj_iconst (v := 0) C dX4_countEntries_2 (by decide) ?_
  refine fj_istore_n (lv' := [(3, .int 0), (2, .int 0), (0, .ref (ad 25)), (1, .int x)]) C dX4_countEntries_3 rfl (by decide) rfl ?_
  refine fj_lv (lv' := [(0, .ref (ad 25)), (1, .int x), (2, .int 0), (3, .int 0)]) [2, 3, 1, 0] rfl ?_
  have lp4 : ∀ (k : Nat), (k ≤ B) → fj p l e (fj_rm 0 0 0 0) s m args below meth c Q A D 4 0 0 (fx_w ad ty a g n) [(0, .ref (ad 25)), (1, .int x), (2, .int (nI (cnE (a 27) x k))), (3, .int (nI k))] 4 [] := by
    have key : ∀ zz : Nat, (fun (k : Nat) => (k ≤ B) → fj p l e (fj_rm 0 0 0 0) s m args below meth c Q A D 4 0 0 (fx_w ad ty a g n) [(0, .ref (ad 25)), (1, .int x), (2, .int (nI (cnE (a 27) x k))), (3, .int (nI k))] 4 []) zz := by
      refine fx_ind (fun (k : Nat) => B - k) _ ?_
      rintro k ih hk
      refine fj_iload_n C 3 dX4_countEntries_4 rfl rfl ?_
      refine fj_aload_n C 0 dX4_countEntries_5 rfl rfl ?_
      refine fj_get (Cn := RX4) (T := TX4) (N := 18) (ci := 4) (v := .ref (ad 17)) C iX4 25 (fx_at25 _ _ _ _ _) rfl 2 (by decide) kX4_61 rfl dX4_countEntries_6 ?_
      refine fj_getN (Cn := RX0) (T := TX0) (N := 8) (ci := 0) (v := .int (n 4)) C iX0 17 (fx_at17 _ _ _ _ _) rfl 7 (by decide) kX4_68 rfl dX4_countEntries_9 ?_
      refine fj_at (y := nI B) hn4 ?_
      refine fj_icmp_ge (tgt := 34) C dX4_countEntries_12 (by decide) (fun h12 => ?_) (fun h12 => ?_)
      · have hge : B ≤ k := Nat.le_of_not_lt fun q => absurd (Int32.not_lt.mpr h12) (not_not_intro ((nI_ltI (by omega) (by omega)).mpr q))
        refine fj_iload_n C 2 dX4_countEntries_34 rfl rfl ?_
        exact fj_iret C E9 dX4_countEntries_35 ⟨by rw [show k = B by omega], rfl⟩
      · have hlt : k < B := (nI_ltI (by omega) (by omega)).mp (Int32.not_le.mp h12)
        refine fj_aload_n C 0 dX4_countEntries_15 rfl rfl ?_
        refine fj_get (Cn := RX4) (T := TX4) (N := 18) (ci := 4) (v := .ref (ad 27)) C iX4 25 (fx_at25 _ _ _ _ _) rfl 5 (by decide) kX4_19 rfl dX4_countEntries_16 ?_
        refine fj_iload_n C 3 dX4_countEntries_19 rfl rfl ?_
        refine fj_iald (f := (a 27)) C 27 (fx_at27 _ _ _ _ _) (vp_in_nI (by omega) (by decide)) dX4_countEntries_20 ?_
        refine fj_at (y := a 27 k) (by rw [nI_clamp (by omega)]) ?_
        refine fj_iload_n C 1 dX4_countEntries_21 rfl rfl ?_
        refine fj_icmp_ne (tgt := 28) C dX4_countEntries_22 (by decide) (fun h22 => ?_) (fun h22 => ?_)
        · refine fj_iinc (v := nI (k + 1)) (lv' := [(3, .int (nI (k + 1))), (0, .ref (ad 25)), (1, .int x), (2, .int (nI (cnE (a 27) x k)))]) C 3 dX4_countEntries_28 rfl (nI_1 k) (by decide) rfl ?_
          refine fj_goto (tgt := 4) C dX4_countEntries_31 (by decide) ?_
          refine fj_lv (lv' := [(0, .ref (ad 25)), (1, .int x), (2, .int (nI (cnE (a 27) x k))), (3, .int (nI (k + 1)))]) [1, 2, 3, 0] rfl ?_
          refine fj_lv (lv' := [(0, .ref (ad 25)), (1, .int x), (2, .int (nI (cnE (a 27) x (k + 1)))), (3, .int (nI (k + 1)))]) [0, 1, 2, 3] (by rw [cnE_z h22]; rfl) ?_
          exact ih (k + 1) (by show B - (k + 1) < B - k; omega) (by omega)
        · refine fj_iinc (v := nI (cnE (a 27) x (k + 1))) (lv' := [(2, .int (nI (cnE (a 27) x (k + 1)))), (0, .ref (ad 25)), (1, .int x), (3, .int (nI k))]) C 2 dX4_countEntries_25 rfl (by rw [cnE_p h22]; exact nI_1 _) (by decide) rfl ?_
          refine fj_iinc (v := nI (k + 1)) (lv' := [(3, .int (nI (k + 1))), (2, .int (nI (cnE (a 27) x (k + 1)))), (0, .ref (ad 25)), (1, .int x)]) C 3 dX4_countEntries_28 rfl (nI_1 k) (by decide) rfl ?_
          refine fj_goto (tgt := 4) C dX4_countEntries_31 (by decide) ?_
          refine fj_lv (lv' := [(0, .ref (ad 25)), (1, .int x), (2, .int (nI (cnE (a 27) x (k + 1)))), (3, .int (nI (k + 1)))]) [2, 3, 1, 0] rfl ?_
          exact ih (k + 1) (by show B - (k + 1) < B - k; omega) (by omega)
    intro k
    exact key k
  exact lp4 0 (Nat.zero_le B)

set_option maxHeartbeats 4000000 in
set_option maxRecDepth 100000 in
theorem d_X4_countDead (l : Launch) (D : va_G) (ty : Nat → ClassId) (t0 : Nat → Nat) (ad : Nat → Nat) (a : Nat → Nat → Int32) (g : Nat → Nat → Int64) (n : Nat → Int32)    : fc l yX4_countDead wsX4_countDead (fj_rm 0 0 0 0) D ty t0 [.ref (ad 25)] (fx_w ad ty a g n) 0 0 (fun v w => v = some (.int (nI (cst (a 36) 12))) ∧ w = fx_w ad ty a g n) := by
  refine fc_start (own := RX4) (cc := cX4_countDead) (maxL := 3) (ret := (some .int)) (by decide) rfl (Nat.le_of_ble_eq_true rfl) rfl ?_
  intro p e s m args below meth c Q A C hmn E9
  have iX4 : ∀ w ∈ u_ws RX4 TX4 18, w ∈ wsX4_countDead := ptX4_countDead_wsX40
  have kX4_46 : Cond.fieldLink RX4 46 "FreeLand$Work" "dead" "[Z" ∈ wsX4_countDead := ptX4_countDead_woX4_countDead _ (by decide +kernel)
  refine fj_lv (lv' := [(0, .ref (ad 25))]) [0] rfl ?_
  refine fj_iconst (v := 0) C dX4_countDead_0 (by decide) ?_
  refine fj_istore_n (lv' := [(1, .int 0), (0, .ref (ad 25))]) C dX4_countDead_1 rfl (by decide) rfl ?_
  refine fj_iconst (v := 0) C dX4_countDead_2 (by decide) ?_
  refine fj_istore_n (lv' := [(2, .int 0), (1, .int 0), (0, .ref (ad 25))]) C dX4_countDead_3 rfl (by decide) rfl ?_
  refine fj_lv (lv' := [(0, .ref (ad 25)), (1, .int 0), (2, .int 0)]) [2, 1, 0] rfl ?_
  have lp4 : ∀ (k : Nat), (k ≤ 12) → fj p l e (fj_rm 0 0 0 0) s m args below meth c Q A D 3 0 0 (fx_w ad ty a g n) [(0, .ref (ad 25)), (1, .int (nI (cst (a 36) k))), (2, .int (nI k))] 4 [] := by
    have key : ∀ zz : Nat, (fun (k : Nat) => (k ≤ 12) → fj p l e (fj_rm 0 0 0 0) s m args below meth c Q A D 3 0 0 (fx_w ad ty a g n) [(0, .ref (ad 25)), (1, .int (nI (cst (a 36) k))), (2, .int (nI k))] 4 []) zz := by
      refine fx_ind (fun (k : Nat) => 12 - k) _ ?_
      rintro k ih hk
      refine fj_iload_n C 2 dX4_countDead_4 rfl rfl ?_
      refine fj_bipush (v := 12) C dX4_countDead_5 (by decide) ?_
      refine fj_icmp_ge (tgt := 28) C dX4_countDead_7 (by decide) (fun h7 => ?_) (fun h7 => ?_)
      · have hge : 12 ≤ k := (nI_leI (a := 12) (by decide) (by omega)).mp h7
        refine fj_iload_n C 1 dX4_countDead_28 rfl rfl ?_
        exact fj_iret C E9 dX4_countDead_29 ⟨by rw [show k = 12 by omega], rfl⟩
      · have hlt : k < 12 := Nat.lt_of_not_le fun q => h7 ((nI_leI (a := 12) (by decide) (by omega)).mpr q)
        refine fj_aload_n C 0 dX4_countDead_10 rfl rfl ?_
        refine fj_get (Cn := RX4) (T := TX4) (N := 18) (ci := 4) (v := .ref (ad 36)) C iX4 25 (fx_at25 _ _ _ _ _) rfl 14 (by decide) kX4_46 rfl dX4_countDead_11 ?_
        refine fj_iload_n C 2 dX4_countDead_14 rfl rfl ?_
        refine fj_zald (f := (a 36)) C 36 (fx_at36 _ _ _ _ _) (vp_in_nI (by omega) (by decide)) dX4_countDead_15 ?_
        refine fj_at (y := a 36 k) (by rw [nI_clamp (by omega)]) ?_
        refine fj_if_eq (tgt := 22) C dX4_countDead_16 (by decide) (fun h16 => ?_) (fun h16 => ?_)
        · refine fj_iinc (v := nI (k + 1)) (lv' := [(2, .int (nI (k + 1))), (0, .ref (ad 25)), (1, .int (nI (cst (a 36) k)))]) C 2 dX4_countDead_22 rfl (nI_1 k) (by decide) rfl ?_
          refine fj_goto (tgt := 4) C dX4_countDead_25 (by decide) ?_
          refine fj_lv (lv' := [(0, .ref (ad 25)), (1, .int (nI (cst (a 36) k))), (2, .int (nI (k + 1)))]) [1, 2, 0] rfl ?_
          refine fj_lv (lv' := [(0, .ref (ad 25)), (1, .int (nI (cst (a 36) (k + 1)))), (2, .int (nI (k + 1)))]) [0, 1, 2] (by rw [cst_z h16]; rfl) ?_
          exact ih (k + 1) (by show 12 - (k + 1) < 12 - k; omega) (by omega)
        · refine fj_iinc (v := nI (cst (a 36) (k + 1))) (lv' := [(1, .int (nI (cst (a 36) (k + 1)))), (0, .ref (ad 25)), (2, .int (nI k))]) C 1 dX4_countDead_19 rfl (by rw [cst_p h16]; exact nI_1 _) (by decide) rfl ?_
          refine fj_iinc (v := nI (k + 1)) (lv' := [(2, .int (nI (k + 1))), (1, .int (nI (cst (a 36) (k + 1)))), (0, .ref (ad 25))]) C 2 dX4_countDead_22 rfl (nI_1 k) (by decide) rfl ?_
          refine fj_goto (tgt := 4) C dX4_countDead_25 (by decide) ?_
          refine fj_lv (lv' := [(0, .ref (ad 25)), (1, .int (nI (cst (a 36) (k + 1)))), (2, .int (nI (k + 1)))]) [2, 1, 0] rfl ?_
          exact ih (k + 1) (by show 12 - (k + 1) < 12 - k; omega) (by omega)
    intro k
    exact key k
  exact lp4 0 (Nat.zero_le _)

set_option maxHeartbeats 4000000 in
set_option maxRecDepth 100000 in
theorem d_X4_countNotDone (l : Launch) (D : va_G) (ty : Nat → ClassId) (t0 : Nat → Nat) (ad : Nat → Nat) (a : Nat → Nat → Int32) (g : Nat → Nat → Int64) (n : Nat → Int32) (P : Nat) (S : Nat) (T : Nat) (B : Nat) (I : XI P S T B a n)   : fc l yX4_countNotDone wsX4_countNotDone (fj_rm 0 0 0 0) D ty t0 [.ref (ad 25)] (fx_w ad ty a g n) 0 0 (fun v w => v = some (.int (nI (cnG (a 26) B))) ∧ w = fx_w ad ty a g n) := by
  refine fc_start (own := RX4) (cc := cX4_countNotDone) (maxL := 3) (ret := (some .int)) (by decide) rfl (Nat.le_of_ble_eq_true rfl) rfl ?_
  intro p e s m args below meth c Q A C hmn E9
  obtain ⟨hn0, hP, hn1, hT, hn3, hS, hn4, hB, iLO, iBO, iWho, iSort, iQ, iN⟩ := id I
  have iX4 : ∀ w ∈ u_ws RX4 TX4 18, w ∈ wsX4_countNotDone := ptX4_countNotDone_wsX40
  have kX4_61 : Cond.fieldLink RX4 61 "FreeLand$Work" "book" "LFreeLand$Book;" ∈ wsX4_countNotDone := ptX4_countNotDone_woX4_countNotDone _ (by decide +kernel)
  have iX0 : ∀ w ∈ u_ws RX0 TX0 8, w ∈ wsX4_countNotDone := ptX4_countNotDone_wsX00
  have kX4_68 : (RX4, 68, "FreeLand$Book", "size", "I") ∈ nw_F := (by decide +kernel)
  have kX4_15 : Cond.fieldLink RX4 15 "FreeLand$Work" "result" "[I" ∈ wsX4_countNotDone := ptX4_countNotDone_woX4_countNotDone _ (by decide +kernel)
  refine fj_lv (lv' := [(0, .ref (ad 25))]) [0] rfl ?_
  refine fj_iconst (v := 0) C dX4_countNotDone_0 (by decide) ?_
  refine fj_istore_n (lv' := [(1, .int 0), (0, .ref (ad 25))]) C dX4_countNotDone_1 rfl (by decide) rfl ?_
  refine fj_iconst (v := 0) C dX4_countNotDone_2 (by decide) ?_
  refine fj_istore_n (lv' := [(2, .int 0), (1, .int 0), (0, .ref (ad 25))]) C dX4_countNotDone_3 rfl (by decide) rfl ?_
  refine fj_lv (lv' := [(0, .ref (ad 25)), (1, .int 0), (2, .int 0)]) [2, 1, 0] rfl ?_
  have lp4 : ∀ (k : Nat), (k ≤ B) → fj p l e (fj_rm 0 0 0 0) s m args below meth c Q A D 3 0 0 (fx_w ad ty a g n) [(0, .ref (ad 25)), (1, .int (nI (cnG (a 26) k))), (2, .int (nI k))] 4 [] := by
    have key : ∀ zz : Nat, (fun (k : Nat) => (k ≤ B) → fj p l e (fj_rm 0 0 0 0) s m args below meth c Q A D 3 0 0 (fx_w ad ty a g n) [(0, .ref (ad 25)), (1, .int (nI (cnG (a 26) k))), (2, .int (nI k))] 4 []) zz := by
      refine fx_ind (fun (k : Nat) => B - k) _ ?_
      rintro k ih hk
      refine fj_iload_n C 2 dX4_countNotDone_4 rfl rfl ?_
      refine fj_aload_n C 0 dX4_countNotDone_5 rfl rfl ?_
      refine fj_get (Cn := RX4) (T := TX4) (N := 18) (ci := 4) (v := .ref (ad 17)) C iX4 25 (fx_at25 _ _ _ _ _) rfl 2 (by decide) kX4_61 rfl dX4_countNotDone_6 ?_
      refine fj_getN (Cn := RX0) (T := TX0) (N := 8) (ci := 0) (v := .int (n 4)) C iX0 17 (fx_at17 _ _ _ _ _) rfl 7 (by decide) kX4_68 rfl dX4_countNotDone_9 ?_
      refine fj_at (y := nI B) hn4 ?_
      refine fj_icmp_ge (tgt := 33) C dX4_countNotDone_12 (by decide) (fun h12 => ?_) (fun h12 => ?_)
      · have hge : B ≤ k := Nat.le_of_not_lt fun q => absurd (Int32.not_lt.mpr h12) (not_not_intro ((nI_ltI (by omega) (by omega)).mpr q))
        refine fj_iload_n C 1 dX4_countNotDone_33 rfl rfl ?_
        exact fj_iret C E9 dX4_countNotDone_34 ⟨by rw [show k = B by omega], rfl⟩
      · have hlt : k < B := (nI_ltI (by omega) (by omega)).mp (Int32.not_le.mp h12)
        refine fj_aload_n C 0 dX4_countNotDone_15 rfl rfl ?_
        refine fj_get (Cn := RX4) (T := TX4) (N := 18) (ci := 4) (v := .ref (ad 26)) C iX4 25 (fx_at25 _ _ _ _ _) rfl 4 (by decide) kX4_15 rfl dX4_countNotDone_16 ?_
        refine fj_iload_n C 2 dX4_countNotDone_19 rfl rfl ?_
        refine fj_iald (f := (a 26)) C 26 (fx_at26 _ _ _ _ _) (vp_in_nI (by omega) (by decide)) dX4_countNotDone_20 ?_
        refine fj_at (y := a 26 k) (by rw [nI_clamp (by omega)]) ?_
        refine fj_if_le (tgt := 27) C dX4_countNotDone_21 (by decide) (fun h21 => ?_) (fun h21 => ?_)
        · refine fj_iinc (v := nI (k + 1)) (lv' := [(2, .int (nI (k + 1))), (0, .ref (ad 25)), (1, .int (nI (cnG (a 26) k)))]) C 2 dX4_countNotDone_27 rfl (nI_1 k) (by decide) rfl ?_
          refine fj_goto (tgt := 4) C dX4_countNotDone_30 (by decide) ?_
          refine fj_lv (lv' := [(0, .ref (ad 25)), (1, .int (nI (cnG (a 26) k))), (2, .int (nI (k + 1)))]) [1, 2, 0] rfl ?_
          refine fj_lv (lv' := [(0, .ref (ad 25)), (1, .int (nI (cnG (a 26) (k + 1)))), (2, .int (nI (k + 1)))]) [0, 1, 2] (by rw [cnG_z (fun z => absurd h21 (Int32.not_le.mpr z))]; rfl) ?_
          exact ih (k + 1) (by show B - (k + 1) < B - k; omega) (by omega)
        · refine fj_iinc (v := nI (cnG (a 26) (k + 1))) (lv' := [(1, .int (nI (cnG (a 26) (k + 1)))), (0, .ref (ad 25)), (2, .int (nI k))]) C 1 dX4_countNotDone_24 rfl (by rw [cnG_p (Int32.not_le.mp h21)]; exact nI_1 _) (by decide) rfl ?_
          refine fj_iinc (v := nI (k + 1)) (lv' := [(2, .int (nI (k + 1))), (1, .int (nI (cnG (a 26) (k + 1)))), (0, .ref (ad 25))]) C 2 dX4_countNotDone_27 rfl (nI_1 k) (by decide) rfl ?_
          refine fj_goto (tgt := 4) C dX4_countNotDone_30 (by decide) ?_
          refine fj_lv (lv' := [(0, .ref (ad 25)), (1, .int (nI (cnG (a 26) (k + 1)))), (2, .int (nI (k + 1)))]) [2, 1, 0] rfl ?_
          exact ih (k + 1) (by show B - (k + 1) < B - k; omega) (by omega)
    intro k
    exact key k
  exact lp4 0 (Nat.zero_le B)
