/-- what a filing comes to -/
def WFc (a : Nat → Nat → Int32) (n : Nat → Int32) (S k q p : Nat) (lw pf : Int32) : Int32 :=
  if a 18 k - a 2 p < vof a lw 0 S 0 then 2 else if a 18 k < a 3 p then 3 else if RLR (n 5) (a 18 k) q then 4 else if ¬ a 33 q = -1 then 5 else if ¬ pf = -1 ∧ ¬ pf = nI p then 6 else if vof a lw 7 S 0 ≤ a 37 p then 7 else 0
abbrev PFO (a : Nat → Nat → Int32) (q : Nat) (x : Int32) : Int32 := if ¬ a 34 q = -1 ∧ x ≤ a 35 q then a 34 q else -1
def WFu (a : Nat → Nat → Int32) (k q p t : Nat) (lw : Int32) : Nat → Nat → Int32 :=
  va_up (va_up (va_up (va_up (va_up (va_up (va_up a 37 (upd (a 37) p (a 37 p + 1))) 33 (upd (a 33) q (nI k))) 27 (upd (a 27) k 1)) 28 (upd (a 28) k (nI p))) 29 (upd (a 29) k (1 <<< (nI p &&& 31)))) 30 (upd (a 30) k lw)) 32 (upd (a 32) k (nI t))
def WEu (a : Nat → Nat → Int32) (q : Nat) : Nat → Nat → Int32 := va_up (va_up a 27 (upd (a 27) (a 33 q).toNatClampNeg 3)) 33 (upd (a 33) q (-1))
theorem WEu_e {a : Nat → Nat → Int32} {q e : Nat} (h : a 33 q = nI e) (he : e < 2 ^ 31) : WEu a q = va_up (va_up a 27 (upd (a 27) e 3)) 33 (upd (a 33) q (-1)) := by rw [WEu, h, nI_clamp he]
set_option maxHeartbeats 4000000 in
set_option maxRecDepth 100000 in
theorem d_X4_workGiveUp (l : Launch) (D : va_G) (ty : Nat → ClassId) (t0 : Nat → Nat) (ad : Nat → Nat) (a : Nat → Nat → Int32) (g : Nat → Nat → Int64) (n : Nat → Int32) (P : Nat) (S : Nat) (T : Nat) (B : Nat) (I : XI P S T B a n) (x : Int32) (k : Nat) (ek : x = nI k) (hk : k < B) (q5 : Nat) (eq5 : a 21 k = nI q5) (hq5 : q5 < 64) (hw : WI B a) : fc l yX4_workGiveUp wsX4_workGiveUp (fj_rm 2 43 0 0) D ty t0 [.ref (ad 25), .int x] (fx_w ad ty a g n) 0 0 (fun v w => v = some (.int (if HLV a q5 ∧ a 28 (a 33 q5).toNatClampNeg = a 20 k then 0 else 8)) ∧ w = fx_w ad ty (if HLV a q5 ∧ a 28 (a 33 q5).toNatClampNeg = a 20 k then WEu a q5 else a) g n) := by
  subst ek
  refine fc_start (own := RX4) (cc := cX4_workGiveUp) (maxL := 3) (ret := (some .int)) (by decide) rfl (Nat.le_of_ble_eq_true rfl) rfl ?_
  intro p e s m args below meth c Q A C hmn E9
  obtain ⟨hn0, hP, hn1, hT, hn3, hS, hn4, hB, iLO, iBO, iWho, iSort, iQ, iN⟩ := id I
  have iX4 : ∀ w ∈ u_ws RX4 TX4 18, w ∈ wsX4_workGiveUp := ptX4_workGiveUp_wsX40
  have kX4_61 : Cond.fieldLink RX4 61 "FreeLand$Work" "book" "LFreeLand$Book;" ∈ wsX4_workGiveUp := ptX4_workGiveUp_woX4_workGiveUp _ (by decide +kernel)
  have iX0 : ∀ w ∈ u_ws RX0 TX0 8, w ∈ wsX4_workGiveUp := ptX4_workGiveUp_wsX00
  have kX4_108 : (RX4, 108, "FreeLand$Book", "where", "[I") ∈ nw_F := (by decide +kernel)
  have kX4_86 : (RX4, 86, "FreeLand$Book", "who", "[I") ∈ nw_F := (by decide +kernel)
  refine fj_lv (lv' := [(0, .ref (ad 25)), (1, .int (nI k))]) [0, 1] rfl ?_
  refine fj_aload_n C 0 dX4_workGiveUp_0 rfl rfl ?_
  refine fj_get (Cn := RX4) (T := TX4) (N := 18) (ci := 4) (v := .ref (ad 17)) C iX4 25 (fx_at25 _ _ _ _ _) rfl 2 (by decide) kX4_61 rfl dX4_workGiveUp_1 ?_
  refine fj_getN (Cn := RX0) (T := TX0) (N := 8) (ci := 0) (v := .ref (ad 21)) C iX0 17 (fx_at17 _ _ _ _ _) rfl 3 (by decide) kX4_108 rfl dX4_workGiveUp_4 ?_
  refine fj_iload_n C 1 dX4_workGiveUp_7 rfl rfl ?_
  refine fj_iald (f := (a 21)) C 21 (fx_at21 _ _ _ _ _) (vp_in_nI (by omega) (by decide)) dX4_workGiveUp_8 ?_
  refine fj_at (y := nI q5) (by rw [nI_clamp (by omega), eq5]) ?_
  refine fj_istore_n (lv' := [(2, .int (nI q5)), (0, .ref (ad 25)), (1, .int (nI k))]) C dX4_workGiveUp_9 rfl (by decide) rfl ?_
  refine fj_aload_n C 1 dX4_workGiveUp_10 rfl rfl ?_
  refine fj_iload_n C 0 dX4_workGiveUp_11 rfl rfl ?_
  refine fj_aload_n C 1 dX4_workGiveUp_12 rfl rfl ?_
  refine fj_get (Cn := RX4) (T := TX4) (N := 18) (ci := 4) (v := .ref (ad 17)) C iX4 25 (fx_at25 _ _ _ _ _) rfl 2 (by decide) kX4_61 rfl dX4_workGiveUp_13 ?_
  refine fj_getN (Cn := RX0) (T := TX0) (N := 8) (ci := 0) (v := .ref (ad 20)) C iX0 17 (fx_at17 _ _ _ _ _) rfl 2 (by decide) kX4_86 rfl dX4_workGiveUp_16 ?_
  refine fj_iload_n C 2 dX4_workGiveUp_19 rfl rfl ?_
  refine fj_iald (f := (a 20)) C 20 (fx_at20 _ _ _ _ _) (vp_in_nI (by omega) (by decide)) dX4_workGiveUp_20 ?_
  refine fj_at (y := a 20 k) (by rw [nI_clamp (by omega)]) ?_
  refine fj_callVw (As := [.int (nI q5), .int (a 20 k)]) (rest := []) C (d_X4_isHeldLiveBy l D ty t0 ad a g n P S T B I (nI q5) (a 20 k) q5 rfl hq5 hw) (cwV 2 C.2.2.2.2.1 gX4_workGiveUp_X4_isHeldLiveBy rfl rfl rfl (by decide +kernel) ⟨Nat.le_of_ble_eq_true rfl, Nat.le_of_ble_eq_true rfl⟩) ⟨25, 4, _, _, fx_at25 _ _ _ _ _, rfl, rfl⟩ rfl (Nat.le_of_ble_eq_true rfl) dX4_workGiveUp_21 ⟨Nat.zero_le _, Nat.zero_le _⟩ (fun v9 w9 hp9 => ?_)
  obtain ⟨rfl, rfl⟩ := hp9
  refine fj_st (st' := .int (if HLV a q5 ∧ (a 28) ((a 33) q5).toNatClampNeg = (a 20 k) then 1 else 0) :: []) rfl ?_
  refine fj_ifb_ne (tgt := 30) C dX4_workGiveUp_24 (by decide) (fun h24 => ?_) (fun h24 => ?_)
  · obtain ⟨e9, t9, he9, ee9, ht9, et9⟩ := (hw q5 hq5).resolve_left h24.1.1
    refine fj_aload_n C 1 dX4_workGiveUp_30 rfl rfl ?_
    refine fj_iload_n C 0 dX4_workGiveUp_31 rfl rfl ?_
    refine fj_callVw (As := [.int (nI q5)]) (rest := []) C (d_X4_end l D ty t0 ad a g n (nI q5) q5 rfl hq5 e9 (by omega) ee9) (cwV 1 C.2.2.2.2.1 gX4_workGiveUp_X4_end rfl rfl rfl (by decide +kernel) ⟨Nat.le_of_ble_eq_true rfl, Nat.le_of_ble_eq_true rfl⟩) ⟨25, 4, _, _, fx_at25 _ _ _ _ _, rfl, rfl⟩ rfl (Nat.le_of_ble_eq_true rfl) dX4_workGiveUp_32 ⟨Nat.zero_le _, Nat.zero_le _⟩ (fun v9 w9 hp9 => ?_)
    obtain ⟨rfl, rfl⟩ := hp9
    refine fj_st (st' := []) rfl ?_
    refine fj_iconst (v := 0) C dX4_workGiveUp_35 (by decide) ?_
    exact fj_iret C E9 dX4_workGiveUp_36 ⟨by rw [if_pos h24], by rw [if_pos h24, WEu_e ee9 (by omega)]⟩
  · refine fj_bipush (v := 8) C dX4_workGiveUp_27 (by decide) ?_
    exact fj_iret C E9 dX4_workGiveUp_29 ⟨by rw [if_neg h24], by rw [if_neg h24]⟩

set_option maxHeartbeats 4000000 in
set_option maxRecDepth 100000 in
theorem d_X4_workFile (l : Launch) (D : va_G) (ty : Nat → ClassId) (t0 : Nat → Nat) (ad : Nat → Nat) (a : Nat → Nat → Int32) (g : Nat → Nat → Int64) (n : Nat → Int32) (P : Nat) (S : Nat) (T : Nat) (B : Nat) (I : XI P S T B a n) (x : Int32) (y : Int32) (k : Nat) (ek : x = nI k) (hk : k < B) (t5 : Nat) (et5 : y = nI t5) (q5 : Nat) (eq5 : a 21 k = nI q5) (hq5 : q5 < 64) (p5 : Nat) (ep5 : a 20 k = nI p5) (hp5 : p5 < 12) (hw : WI B a) : fc l yX4_workFile wsX4_workFile (fj_rm 1 25 0 0) D ty t0 [.ref (ad 25), .int x, .int y] (fx_w ad ty a g n) 0 0 (fun v w => v = some (.int (WFc a n S k q5 p5 (iof a (a 18 k) S) (PFO a q5 (a 18 k)))) ∧ w = fx_w ad ty (if WFc a n S k q5 p5 (iof a (a 18 k) S) (PFO a q5 (a 18 k)) = 0 then WFu a k q5 p5 t5 (iof a (a 18 k) S) else a) g n) := by
  subst ek et5
  refine fc_start (own := RX4) (cc := cX4_workFile) (maxL := 8) (ret := (some .int)) (by decide) rfl (Nat.le_of_ble_eq_true rfl) rfl ?_
  intro p e s m args below meth c Q A C hmn E9
  obtain ⟨hn0, hP, hn1, hT, hn3, hS, hn4, hB, iLO, iBO, iWho, iSort, iQ, iN⟩ := id I
  have iX4 : ∀ w ∈ u_ws RX4 TX4 18, w ∈ wsX4_workFile := ptX4_workFile_wsX40
  have kX4_61 : Cond.fieldLink RX4 61 "FreeLand$Work" "book" "LFreeLand$Book;" ∈ wsX4_workFile := ptX4_workFile_woX4_workFile _ (by decide +kernel)
  have iX0 : ∀ w ∈ u_ws RX0 TX0 8, w ∈ wsX4_workFile := ptX4_workFile_wsX00
  have kX4_76 : (RX4, 76, "FreeLand$Book", "day", "[I") ∈ nw_F := (by decide +kernel)
  have kX4_86 : (RX4, 86, "FreeLand$Book", "who", "[I") ∈ nw_F := (by decide +kernel)
  have kX4_108 : (RX4, 108, "FreeLand$Book", "where", "[I") ∈ nw_F := (by decide +kernel)
  have kX4_57 : Cond.fieldLink RX4 57 "FreeLand$Work" "laws" "LFreeLand$Laws;" ∈ wsX4_workFile := ptX4_workFile_woX4_workFile _ (by decide +kernel)
  have kN111 : (RX4, 111, yX2_inForce) ∈ nw_M := (by decide +kernel)
  have kIX2 : Cond.initialized RX2 ∈ wsX4_workFile := ptX4_workFile_woX4_workFile _ (by decide +kernel)
  have kVX2_inForce : Cond.instanceMethod yX2_inForce ∈ wsX4_workFile := ptX4_workFile_woX4_workFile _ (by decide +kernel)
  have kSX2_inForce : Cond.selects RX2 yX2_inForce yX2_inForce ∈ wsX4_workFile := ptX4_workFile_woX4_workFile _ (by decide +kernel)
  have kX4_53 : Cond.fieldLink RX4 53 "FreeLand$Work" "persons" "LFreeLand$Persons;" ∈ wsX4_workFile := ptX4_workFile_woX4_workFile _ (by decide +kernel)
  have iX3 : ∀ w ∈ u_ws RX3 TX3 3, w ∈ wsX4_workFile := ptX4_workFile_wsX30
  have kX4_116 : (RX4, 116, "FreeLand$Persons", "birth", "[I") ∈ nw_F := (by decide +kernel)
  have kN121 : (RX4, 121, yX2_valueOf) ∈ nw_M := (by decide +kernel)
  have kVX2_valueOf : Cond.instanceMethod yX2_valueOf ∈ wsX4_workFile := ptX4_workFile_woX4_workFile _ (by decide +kernel)
  have kSX2_valueOf : Cond.selects RX2 yX2_valueOf yX2_valueOf ∈ wsX4_workFile := ptX4_workFile_woX4_workFile _ (by decide +kernel)
  have kX4_124 : (RX4, 124, "FreeLand$Persons", "citizen", "[I") ∈ nw_F := (by decide +kernel)
  have kX4_37 : Cond.fieldLink RX4 37 "FreeLand$Work" "held" "[I" ∈ wsX4_workFile := ptX4_workFile_woX4_workFile _ (by decide +kernel)
  have kX4_50 : Cond.fieldLink RX4 50 "FreeLand$Work" "filed" "[I" ∈ wsX4_workFile := ptX4_workFile_woX4_workFile _ (by decide +kernel)
  have kX4_19 : Cond.fieldLink RX4 19 "FreeLand$Work" "state" "[I" ∈ wsX4_workFile := ptX4_workFile_woX4_workFile _ (by decide +kernel)
  have kX4_22 : Cond.fieldLink RX4 22 "FreeLand$Work" "holder" "[I" ∈ wsX4_workFile := ptX4_workFile_woX4_workFile _ (by decide +kernel)
  have kX4_25 : Cond.fieldLink RX4 25 "FreeLand$Work" "holders" "[I" ∈ wsX4_workFile := ptX4_workFile_woX4_workFile _ (by decide +kernel)
  have kX4_28 : Cond.fieldLink RX4 28 "FreeLand$Work" "ruling" "[I" ∈ wsX4_workFile := ptX4_workFile_woX4_workFile _ (by decide +kernel)
  have kX4_34 : Cond.fieldLink RX4 34 "FreeLand$Work" "spot" "[I" ∈ wsX4_workFile := ptX4_workFile_woX4_workFile _ (by decide +kernel)
  refine fj_lv (lv' := [(0, .ref (ad 25)), (1, .int (nI k)), (2, .int (nI t5))]) [0, 1, 2] rfl ?_
  refine fj_aload_n C 0 dX4_workFile_0 rfl rfl ?_
  refine fj_get (Cn := RX4) (T := TX4) (N := 18) (ci := 4) (v := .ref (ad 17)) C iX4 25 (fx_at25 _ _ _ _ _) rfl 2 (by decide) kX4_61 rfl dX4_workFile_1 ?_
  refine fj_getN (Cn := RX0) (T := TX0) (N := 8) (ci := 0) (v := .ref (ad 18)) C iX0 17 (fx_at17 _ _ _ _ _) rfl 0 (by decide) kX4_76 rfl dX4_workFile_4 ?_
  refine fj_iload_n C 1 dX4_workFile_7 rfl rfl ?_
  refine fj_iald (f := (a 18)) C 18 (fx_at18 _ _ _ _ _) (vp_in_nI (by omega) (by decide)) dX4_workFile_8 ?_
  refine fj_at (y := a 18 k) (by rw [nI_clamp (by omega)]) ?_
  refine fj_istore_n (lv' := [(3, .int (a 18 k)), (0, .ref (ad 25)), (1, .int (nI k)), (2, .int (nI t5))]) C dX4_workFile_9 rfl (by decide) rfl ?_
  refine fj_aload_n C 1 dX4_workFile_10 rfl rfl ?_
  refine fj_get (Cn := RX4) (T := TX4) (N := 18) (ci := 4) (v := .ref (ad 17)) C iX4 25 (fx_at25 _ _ _ _ _) rfl 2 (by decide) kX4_61 rfl dX4_workFile_11 ?_
  refine fj_getN (Cn := RX0) (T := TX0) (N := 8) (ci := 0) (v := .ref (ad 20)) C iX0 17 (fx_at17 _ _ _ _ _) rfl 2 (by decide) kX4_86 rfl dX4_workFile_14 ?_
  refine fj_iload_n C 2 dX4_workFile_17 rfl rfl ?_
  refine fj_iald (f := (a 20)) C 20 (fx_at20 _ _ _ _ _) (vp_in_nI (by omega) (by decide)) dX4_workFile_18 ?_
  refine fj_at (y := nI p5) (by rw [nI_clamp (by omega), ep5]) ?_
  refine fj_istore (lv' := [(4, .int (nI p5)), (3, .int (a 18 k)), (0, .ref (ad 25)), (1, .int (nI k)), (2, .int (nI t5))]) C dX4_workFile_19 (by decide) rfl ?_
  refine fj_aload_n C 2 dX4_workFile_21 rfl rfl ?_
  refine fj_get (Cn := RX4) (T := TX4) (N := 18) (ci := 4) (v := .ref (ad 17)) C iX4 25 (fx_at25 _ _ _ _ _) rfl 2 (by decide) kX4_61 rfl dX4_workFile_22 ?_
  refine fj_getN (Cn := RX0) (T := TX0) (N := 8) (ci := 0) (v := .ref (ad 21)) C iX0 17 (fx_at17 _ _ _ _ _) rfl 3 (by decide) kX4_108 rfl dX4_workFile_25 ?_
  refine fj_iload_n C 3 dX4_workFile_28 rfl rfl ?_
  refine fj_iald (f := (a 21)) C 21 (fx_at21 _ _ _ _ _) (vp_in_nI (by omega) (by decide)) dX4_workFile_29 ?_
  refine fj_at (y := nI q5) (by rw [nI_clamp (by omega), eq5]) ?_
  refine fj_istore (lv' := [(5, .int (nI q5)), (4, .int (nI p5)), (3, .int (a 18 k)), (0, .ref (ad 25)), (1, .int (nI k)), (2, .int (nI t5))]) C dX4_workFile_30 (by decide) rfl ?_
  refine fj_aload_n C 3 dX4_workFile_32 rfl rfl ?_
  refine fj_get (Cn := RX4) (T := TX4) (N := 18) (ci := 4) (v := .ref (ad 4)) C iX4 25 (fx_at25 _ _ _ _ _) rfl 1 (by decide) kX4_57 rfl dX4_workFile_33 ?_
  refine fj_iload_n C 2 dX4_workFile_36 rfl rfl ?_
  refine fj_callVNw (As := [.int (a 18 k)]) (rest := []) C (d_X2_inForce l D ty t0 ad a g n P S T B I (a 18 k)) ⟨va_cnB 1 C.2.2.2.2.1 gX4_workFile_X2_inForce_n111 rfl rfl rfl (nw_m C.2.2.2.2.2.2.2.1 kN111) (C.2.2.2.2.1 _ kIX2) (by decide +kernel) ⟨Nat.le_of_ble_eq_true rfl, Nat.le_of_ble_eq_true rfl⟩, C.2.2.2.2.1 _ kVX2_inForce, C.2.2.2.2.1 _ kSX2_inForce⟩ ⟨4, 2, _, _, fx_at4 _ _ _ _ _, rfl, rfl⟩ rfl (Nat.le_of_ble_eq_true rfl) dX4_workFile_37 ⟨Nat.zero_le _, Nat.zero_le _⟩ (fun v9 w9 hp9 => ?_)
  obtain ⟨rfl, rfl⟩ := hp9
  refine fj_st (st' := .int (iof a (a 18 k) S) :: []) rfl ?_
  refine fj_topi (fun lw9 e_lw9 => ?_)
  refine fj_istore (lv' := [(6, .int lw9), (5, .int (nI q5)), (4, .int (nI p5)), (3, .int (a 18 k)), (0, .ref (ad 25)), (1, .int (nI k)), (2, .int (nI t5))]) C dX4_workFile_40 (by decide) rfl ?_
  refine fj_iload_n C 3 dX4_workFile_42 rfl rfl ?_
  refine fj_aload_n C 4 dX4_workFile_43 rfl rfl ?_
  refine fj_get (Cn := RX4) (T := TX4) (N := 18) (ci := 4) (v := .ref (ad 1)) C iX4 25 (fx_at25 _ _ _ _ _) rfl 0 (by decide) kX4_53 rfl dX4_workFile_44 ?_
  refine fj_getN (Cn := RX3) (T := TX3) (N := 3) (ci := 3) (v := .ref (ad 2)) C iX3 1 (fx_at1 _ _ _ _ _) rfl 0 (by decide) kX4_116 rfl dX4_workFile_47 ?_
  refine fj_iload C 2 dX4_workFile_50 rfl ?_
  refine fj_iald (f := (a 2)) C 2 (fx_at2 _ _ _ _ _) (vp_in_nI (by omega) (by decide)) dX4_workFile_52 ?_
  refine fj_at (y := a 2 p5) (by rw [nI_clamp (by omega)]) ?_
  refine fj_isub C dX4_workFile_53 ?_
  refine fj_aload_n C 4 dX4_workFile_54 rfl rfl ?_
  refine fj_get (Cn := RX4) (T := TX4) (N := 18) (ci := 4) (v := .ref (ad 4)) C iX4 25 (fx_at25 _ _ _ _ _) rfl 1 (by decide) kX4_57 rfl dX4_workFile_55 ?_
  refine fj_iload C 0 dX4_workFile_58 rfl ?_
  refine fj_iconst (v := 0) C dX4_workFile_60 (by decide) ?_
  refine fj_callVNw (As := [.int lw9, .int 0]) (rest := [.int ((a 18 k) - (a 2 p5))]) C (d_X2_valueOf l D ty t0 ad a g n P S T B I lw9 0 0 rfl (by decide)) ⟨va_cnB 2 C.2.2.2.2.1 gX4_workFile_X2_valueOf_n121 rfl rfl rfl (nw_m C.2.2.2.2.2.2.2.1 kN121) (C.2.2.2.2.1 _ kIX2) (by decide +kernel) ⟨Nat.le_of_ble_eq_true rfl, Nat.le_of_ble_eq_true rfl⟩, C.2.2.2.2.1 _ kVX2_valueOf, C.2.2.2.2.1 _ kSX2_valueOf⟩ ⟨4, 2, _, _, fx_at4 _ _ _ _ _, rfl, rfl⟩ rfl (Nat.le_of_ble_eq_true rfl) dX4_workFile_61 ⟨Nat.zero_le _, Nat.zero_le _⟩ (fun v9 w9 hp9 => ?_)
  obtain ⟨rfl, rfl⟩ := hp9
  refine fj_st (st' := .int (vof a lw9 0 S 0) :: [.int ((a 18 k) - (a 2 p5))]) rfl ?_
  refine fj_icmp_ge (tgt := 69) C dX4_workFile_64 (by decide) (fun h64 => ?_) (fun h64 => ?_)
  · refine fj_aload_n C 4 dX4_workFile_69 rfl rfl ?_
    refine fj_get (Cn := RX4) (T := TX4) (N := 18) (ci := 4) (v := .ref (ad 1)) C iX4 25 (fx_at25 _ _ _ _ _) rfl 0 (by decide) kX4_53 rfl dX4_workFile_70 ?_
    refine fj_getN (Cn := RX3) (T := TX3) (N := 3) (ci := 3) (v := .ref (ad 3)) C iX3 1 (fx_at1 _ _ _ _ _) rfl 1 (by decide) kX4_124 rfl dX4_workFile_73 ?_
    refine fj_iload C 2 dX4_workFile_76 rfl ?_
    refine fj_iald (f := (a 3)) C 3 (fx_at3 _ _ _ _ _) (vp_in_nI (by omega) (by decide)) dX4_workFile_78 ?_
    refine fj_at (y := a 3 p5) (by rw [nI_clamp (by omega)]) ?_
    refine fj_iload_n C 3 dX4_workFile_79 rfl rfl ?_
    refine fj_icmp_le (tgt := 85) C dX4_workFile_80 (by decide) (fun h80 => ?_) (fun h80 => ?_)
    · refine fj_aload_n C 4 dX4_workFile_85 rfl rfl ?_
      refine fj_iload C 1 dX4_workFile_86 rfl ?_
      refine fj_iload_n C 3 dX4_workFile_88 rfl rfl ?_
      refine fj_callVw (As := [.int (nI q5), .int (a 18 k)]) (rest := []) C (d_X4_isRailroads l D ty t0 ad a g n (nI q5) (a 18 k) q5 rfl hq5) (cwV 2 C.2.2.2.2.1 gX4_workFile_X4_isRailroads rfl rfl rfl (by decide +kernel) ⟨Nat.le_of_ble_eq_true rfl, Nat.le_of_ble_eq_true rfl⟩) ⟨25, 4, _, _, fx_at25 _ _ _ _ _, rfl, rfl⟩ rfl (Nat.le_of_ble_eq_true rfl) dX4_workFile_89 ⟨Nat.zero_le _, Nat.zero_le _⟩ (fun v9 w9 hp9 => ?_)
      obtain ⟨rfl, rfl⟩ := hp9
      refine fj_st (st' := .int (if RLR (n 5) (a 18 k) q5 then 1 else 0) :: []) rfl ?_
      refine fj_ifb_eq (tgt := 97) C dX4_workFile_92 (by decide) (fun h92 => ?_) (fun h92 => ?_)
      · refine fj_aload_n C 4 dX4_workFile_97 rfl rfl ?_
        refine fj_get (Cn := RX4) (T := TX4) (N := 18) (ci := 4) (v := .ref (ad 33)) C iX4 25 (fx_at25 _ _ _ _ _) rfl 11 (by decide) kX4_37 rfl dX4_workFile_98 ?_
        refine fj_iload C 1 dX4_workFile_101 rfl ?_
        refine fj_iald (f := (a 33)) C 33 (fx_at33 _ _ _ _ _) (vp_in_nI (by omega) (by decide)) dX4_workFile_103 ?_
        refine fj_at (y := a 33 q5) (by rw [nI_clamp (by omega)]) ?_
        refine fj_iconst (v := (-1)) C dX4_workFile_104 (by decide) ?_
        refine fj_icmp_eq (tgt := 110) C dX4_workFile_105 (by decide) (fun h105 => ?_) (fun h105 => ?_)
        · refine fj_aload_n C 4 dX4_workFile_110 rfl rfl ?_
          refine fj_iload C 1 dX4_workFile_111 rfl ?_
          refine fj_iload_n C 3 dX4_workFile_113 rfl rfl ?_
          refine fj_callVw (As := [.int (nI q5), .int (a 18 k)]) (rest := []) C (d_X4_preferredOn l D ty t0 ad a g n (nI q5) (a 18 k) q5 rfl hq5) (cwV 2 C.2.2.2.2.1 gX4_workFile_X4_preferredOn rfl rfl rfl (by decide +kernel) ⟨Nat.le_of_ble_eq_true rfl, Nat.le_of_ble_eq_true rfl⟩) ⟨25, 4, _, _, fx_at25 _ _ _ _ _, rfl, rfl⟩ rfl (Nat.le_of_ble_eq_true rfl) dX4_workFile_114 ⟨Nat.zero_le _, Nat.zero_le _⟩ (fun v9 w9 hp9 => ?_)
          obtain ⟨rfl, rfl⟩ := hp9
          refine fj_st (st' := .int (if ¬ (a 34) q5 = -1 ∧ (a 18 k) ≤ (a 35) q5 then (a 34) q5 else -1) :: []) rfl ?_
          refine fj_topi (fun pf9 e_pf9 => ?_)
          refine fj_istore (lv' := [(7, .int pf9), (6, .int lw9), (5, .int (nI q5)), (4, .int (nI p5)), (3, .int (a 18 k)), (0, .ref (ad 25)), (1, .int (nI k)), (2, .int (nI t5))]) C dX4_workFile_117 (by decide) rfl ?_
          refine fj_iload C 0 dX4_workFile_119 rfl ?_
          refine fj_iconst (v := (-1)) C dX4_workFile_121 (by decide) ?_
          refine fj_icmp_eq (tgt := 135) C dX4_workFile_122 (by decide) (fun h122 => ?_) (fun h122 => ?_)
          · have hpf : ¬ (¬ pf9 = -1 ∧ ¬ pf9 = nI p5) := by first | exact fun z => z.1 h122 | exact fun z => z.2 h129
            refine fj_aload_n C 5 dX4_workFile_135 rfl rfl ?_
            refine fj_get (Cn := RX4) (T := TX4) (N := 18) (ci := 4) (v := .ref (ad 37)) C iX4 25 (fx_at25 _ _ _ _ _) rfl 15 (by decide) kX4_50 rfl dX4_workFile_136 ?_
            refine fj_iload C 3 dX4_workFile_139 rfl ?_
            refine fj_iald (f := (a 37)) C 37 (fx_at37 _ _ _ _ _) (vp_in_nI (by omega) (by decide)) dX4_workFile_141 ?_
            refine fj_at (y := a 37 p5) (by rw [nI_clamp (by omega)]) ?_
            refine fj_aload_n C 5 dX4_workFile_142 rfl rfl ?_
            refine fj_get (Cn := RX4) (T := TX4) (N := 18) (ci := 4) (v := .ref (ad 4)) C iX4 25 (fx_at25 _ _ _ _ _) rfl 1 (by decide) kX4_57 rfl dX4_workFile_143 ?_
            refine fj_iload C 1 dX4_workFile_146 rfl ?_
            refine fj_bipush (v := 7) C dX4_workFile_148 (by decide) ?_
            refine fj_callVNw (As := [.int lw9, .int 7]) (rest := [.int (a 37 p5)]) C (d_X2_valueOf l D ty t0 ad a g n P S T B I lw9 7 7 rfl (by decide)) ⟨va_cnB 2 C.2.2.2.2.1 gX4_workFile_X2_valueOf_n121 rfl rfl rfl (nw_m C.2.2.2.2.2.2.2.1 kN121) (C.2.2.2.2.1 _ kIX2) (by decide +kernel) ⟨Nat.le_of_ble_eq_true rfl, Nat.le_of_ble_eq_true rfl⟩, C.2.2.2.2.1 _ kVX2_valueOf, C.2.2.2.2.1 _ kSX2_valueOf⟩ ⟨4, 2, _, _, fx_at4 _ _ _ _ _, rfl, rfl⟩ rfl (Nat.le_of_ble_eq_true rfl) dX4_workFile_150 ⟨Nat.zero_le _, Nat.zero_le _⟩ (fun v9 w9 hp9 => ?_)
            obtain ⟨rfl, rfl⟩ := hp9
            refine fj_st (st' := .int (vof a lw9 7 S 0) :: [.int (a 37 p5)]) rfl ?_
            refine fj_icmp_lt (tgt := 159) C dX4_workFile_153 (by decide) (fun h153 => ?_) (fun h153 => ?_)
            · refine fj_aload_n C 5 dX4_workFile_159 rfl rfl ?_
              refine fj_get (Cn := RX4) (T := TX4) (N := 18) (ci := 4) (v := .ref (ad 37)) C iX4 25 (fx_at25 _ _ _ _ _) rfl 15 (by decide) kX4_50 rfl dX4_workFile_160 ?_
              refine fj_iload C 3 dX4_workFile_163 rfl ?_
              refine fj_dup2 C dX4_workFile_165 rfl rfl ?_
              refine fj_iald (f := (a 37)) C 37 (fx_at37 _ _ _ _ _) (vp_in_nI (by omega) (by decide)) dX4_workFile_166 ?_
              refine fj_at (y := a 37 p5) (by rw [nI_clamp (by omega)]) ?_
              refine fj_iconst (v := 1) C dX4_workFile_167 (by decide) ?_
              refine fj_iadd C dX4_workFile_168 ?_
              refine fj_iast (f := (a 37)) C 37 (fx_at37 _ _ _ _ _) (vp_in_nI (by omega) (by decide)) dX4_workFile_169 (fx_st37 _ _ _ _ _ _) ?_
              refine fj_ws (ws' := (fx_w ad ty (va_up a 37 (upd (a 37) p5 (a 37 p5 + 1))) g n)) (by rw [nI_clamp (by omega)]) ?_
              refine fj_aload_n C 5 dX4_workFile_170 rfl rfl ?_
              refine fj_get (Cn := RX4) (T := TX4) (N := 18) (ci := 4) (v := .ref (ad 33)) C iX4 25 (fx_at25 _ _ _ _ _) rfl 11 (by decide) kX4_37 rfl dX4_workFile_171 ?_
              refine fj_iload C 2 dX4_workFile_174 rfl ?_
              refine fj_iload_n C 6 dX4_workFile_176 rfl rfl ?_
              refine fj_iast (f := (a 33)) C 33 (fx_at33 _ _ _ _ _) (vp_in_nI (by omega) (by decide)) dX4_workFile_177 (fx_st33 _ _ _ _ _ _) ?_
              refine fj_ws (ws' := (fx_w ad ty (va_up (va_up a 37 (upd (a 37) p5 (a 37 p5 + 1))) 33 (upd (a 33) q5 (nI k))) g n)) (by rw [nI_clamp (by omega)]) ?_
              refine fj_aload_n C 5 dX4_workFile_178 rfl rfl ?_
              refine fj_get (Cn := RX4) (T := TX4) (N := 18) (ci := 4) (v := .ref (ad 27)) C iX4 25 (fx_at25 _ _ _ _ _) rfl 5 (by decide) kX4_19 rfl dX4_workFile_179 ?_
              refine fj_iload_n C 6 dX4_workFile_182 rfl rfl ?_
              refine fj_iconst (v := 1) C dX4_workFile_183 (by decide) ?_
              refine fj_iast (f := (a 27)) C 27 (fx_at27 _ _ _ _ _) (vp_in_nI (by omega) (by decide)) dX4_workFile_184 (fx_st27 _ _ _ _ _ _) ?_
              refine fj_ws (ws' := (fx_w ad ty (va_up (va_up (va_up a 37 (upd (a 37) p5 (a 37 p5 + 1))) 33 (upd (a 33) q5 (nI k))) 27 (upd (a 27) k 1)) g n)) (by rw [nI_clamp (by omega)]) ?_
              refine fj_aload_n C 5 dX4_workFile_185 rfl rfl ?_
              refine fj_get (Cn := RX4) (T := TX4) (N := 18) (ci := 4) (v := .ref (ad 28)) C iX4 25 (fx_at25 _ _ _ _ _) rfl 6 (by decide) kX4_22 rfl dX4_workFile_186 ?_
              refine fj_iload_n C 6 dX4_workFile_189 rfl rfl ?_
              refine fj_iload C 3 dX4_workFile_190 rfl ?_
              refine fj_iast (f := (a 28)) C 28 (fx_at28 _ _ _ _ _) (vp_in_nI (by omega) (by decide)) dX4_workFile_192 (fx_st28 _ _ _ _ _ _) ?_
              refine fj_ws (ws' := (fx_w ad ty (va_up (va_up (va_up (va_up a 37 (upd (a 37) p5 (a 37 p5 + 1))) 33 (upd (a 33) q5 (nI k))) 27 (upd (a 27) k 1)) 28 (upd (a 28) k (nI p5))) g n)) (by rw [nI_clamp (by omega)]) ?_
              refine fj_aload_n C 5 dX4_workFile_193 rfl rfl ?_
              refine fj_get (Cn := RX4) (T := TX4) (N := 18) (ci := 4) (v := .ref (ad 29)) C iX4 25 (fx_at25 _ _ _ _ _) rfl 7 (by decide) kX4_25 rfl dX4_workFile_194 ?_
              refine fj_iload_n C 6 dX4_workFile_197 rfl rfl ?_
              refine fj_iconst (v := 1) C dX4_workFile_198 (by decide) ?_
              refine fj_iload C 3 dX4_workFile_199 rfl ?_
              refine fj_ishl C dX4_workFile_201 ?_
              refine fj_iast (f := (a 29)) C 29 (fx_at29 _ _ _ _ _) (vp_in_nI (by omega) (by decide)) dX4_workFile_202 (fx_st29 _ _ _ _ _ _) ?_
              refine fj_ws (ws' := (fx_w ad ty (va_up (va_up (va_up (va_up (va_up a 37 (upd (a 37) p5 (a 37 p5 + 1))) 33 (upd (a 33) q5 (nI k))) 27 (upd (a 27) k 1)) 28 (upd (a 28) k (nI p5))) 29 (upd (a 29) k (1 <<< (nI p5 &&& 31)))) g n)) (by rw [nI_clamp (by omega)]) ?_
              refine fj_aload_n C 5 dX4_workFile_203 rfl rfl ?_
              refine fj_get (Cn := RX4) (T := TX4) (N := 18) (ci := 4) (v := .ref (ad 30)) C iX4 25 (fx_at25 _ _ _ _ _) rfl 8 (by decide) kX4_28 rfl dX4_workFile_204 ?_
              refine fj_iload_n C 6 dX4_workFile_207 rfl rfl ?_
              refine fj_iload C 1 dX4_workFile_208 rfl ?_
              refine fj_iast (f := (a 30)) C 30 (fx_at30 _ _ _ _ _) (vp_in_nI (by omega) (by decide)) dX4_workFile_210 (fx_st30 _ _ _ _ _ _) ?_
              refine fj_ws (ws' := (fx_w ad ty (va_up (va_up (va_up (va_up (va_up (va_up a 37 (upd (a 37) p5 (a 37 p5 + 1))) 33 (upd (a 33) q5 (nI k))) 27 (upd (a 27) k 1)) 28 (upd (a 28) k (nI p5))) 29 (upd (a 29) k (1 <<< (nI p5 &&& 31)))) 30 (upd (a 30) k lw9)) g n)) (by rw [nI_clamp (by omega)]) ?_
              refine fj_aload_n C 5 dX4_workFile_211 rfl rfl ?_
              refine fj_get (Cn := RX4) (T := TX4) (N := 18) (ci := 4) (v := .ref (ad 32)) C iX4 25 (fx_at25 _ _ _ _ _) rfl 10 (by decide) kX4_34 rfl dX4_workFile_212 ?_
              refine fj_iload_n C 6 dX4_workFile_215 rfl rfl ?_
              refine fj_iload_n C 7 dX4_workFile_216 rfl rfl ?_
              refine fj_iast (f := (a 32)) C 32 (fx_at32 _ _ _ _ _) (vp_in_nI (by omega) (by decide)) dX4_workFile_217 (fx_st32 _ _ _ _ _ _) ?_
              refine fj_ws (ws' := (fx_w ad ty (va_up (va_up (va_up (va_up (va_up (va_up (va_up a 37 (upd (a 37) p5 (a 37 p5 + 1))) 33 (upd (a 33) q5 (nI k))) 27 (upd (a 27) k 1)) 28 (upd (a 28) k (nI p5))) 29 (upd (a 29) k (1 <<< (nI p5 &&& 31)))) 30 (upd (a 30) k lw9)) 32 (upd (a 32) k (nI t5))) g n)) (by rw [nI_clamp (by omega)]) ?_
              refine fj_iconst (v := 0) C dX4_workFile_218 (by decide) ?_
              exact fj_iret C E9 dX4_workFile_219 (have hc : WFc a n S k q5 p5 lw9 pf9 = 0 := by rw [WFc, if_neg (Int32.not_lt.mpr h64), if_neg (Int32.not_lt.mpr h80), if_neg h92, if_neg (not_not_intro h105), if_neg hpf, if_neg (Int32.not_le.mpr h153)]
      ⟨by rw [← e_lw9, show PFO a q5 (a 18 k) = pf9 from e_pf9.symm, hc], by rw [← e_lw9, show PFO a q5 (a 18 k) = pf9 from e_pf9.symm, hc, if_pos rfl]; rfl⟩)
            · refine fj_bipush (v := 7) C dX4_workFile_156 (by decide) ?_
              exact fj_iret C E9 dX4_workFile_158 (have hc : WFc a n S k q5 p5 lw9 pf9 = 7 := by rw [WFc, if_neg (Int32.not_lt.mpr h64), if_neg (Int32.not_lt.mpr h80), if_neg h92, if_neg (not_not_intro h105), if_neg hpf, if_pos (Int32.not_lt.mp h153)]
      ⟨by rw [← e_lw9, show PFO a q5 (a 18 k) = pf9 from e_pf9.symm, hc], by rw [← e_lw9, show PFO a q5 (a 18 k) = pf9 from e_pf9.symm, hc, if_neg (by decide : ¬ (7 : Int32) = 0)]⟩)
          · refine fj_iload C 0 dX4_workFile_125 rfl ?_
            refine fj_iload C 3 dX4_workFile_127 rfl ?_
            refine fj_icmp_eq (tgt := 135) C dX4_workFile_129 (by decide) (fun h129 => ?_) (fun h129 => ?_)
            · have hpf : ¬ (¬ pf9 = -1 ∧ ¬ pf9 = nI p5) := by first | exact fun z => z.1 h122 | exact fun z => z.2 h129
              refine fj_aload_n C 5 dX4_workFile_135 rfl rfl ?_
              refine fj_get (Cn := RX4) (T := TX4) (N := 18) (ci := 4) (v := .ref (ad 37)) C iX4 25 (fx_at25 _ _ _ _ _) rfl 15 (by decide) kX4_50 rfl dX4_workFile_136 ?_
              refine fj_iload C 3 dX4_workFile_139 rfl ?_
              refine fj_iald (f := (a 37)) C 37 (fx_at37 _ _ _ _ _) (vp_in_nI (by omega) (by decide)) dX4_workFile_141 ?_
              refine fj_at (y := a 37 p5) (by rw [nI_clamp (by omega)]) ?_
              refine fj_aload_n C 5 dX4_workFile_142 rfl rfl ?_
              refine fj_get (Cn := RX4) (T := TX4) (N := 18) (ci := 4) (v := .ref (ad 4)) C iX4 25 (fx_at25 _ _ _ _ _) rfl 1 (by decide) kX4_57 rfl dX4_workFile_143 ?_
              refine fj_iload C 1 dX4_workFile_146 rfl ?_
              refine fj_bipush (v := 7) C dX4_workFile_148 (by decide) ?_
              refine fj_callVNw (As := [.int lw9, .int 7]) (rest := [.int (a 37 p5)]) C (d_X2_valueOf l D ty t0 ad a g n P S T B I lw9 7 7 rfl (by decide)) ⟨va_cnB 2 C.2.2.2.2.1 gX4_workFile_X2_valueOf_n121 rfl rfl rfl (nw_m C.2.2.2.2.2.2.2.1 kN121) (C.2.2.2.2.1 _ kIX2) (by decide +kernel) ⟨Nat.le_of_ble_eq_true rfl, Nat.le_of_ble_eq_true rfl⟩, C.2.2.2.2.1 _ kVX2_valueOf, C.2.2.2.2.1 _ kSX2_valueOf⟩ ⟨4, 2, _, _, fx_at4 _ _ _ _ _, rfl, rfl⟩ rfl (Nat.le_of_ble_eq_true rfl) dX4_workFile_150 ⟨Nat.zero_le _, Nat.zero_le _⟩ (fun v9 w9 hp9 => ?_)
              obtain ⟨rfl, rfl⟩ := hp9
              refine fj_st (st' := .int (vof a lw9 7 S 0) :: [.int (a 37 p5)]) rfl ?_
              refine fj_icmp_lt (tgt := 159) C dX4_workFile_153 (by decide) (fun h153 => ?_) (fun h153 => ?_)
              · refine fj_aload_n C 5 dX4_workFile_159 rfl rfl ?_
                refine fj_get (Cn := RX4) (T := TX4) (N := 18) (ci := 4) (v := .ref (ad 37)) C iX4 25 (fx_at25 _ _ _ _ _) rfl 15 (by decide) kX4_50 rfl dX4_workFile_160 ?_
                refine fj_iload C 3 dX4_workFile_163 rfl ?_
                refine fj_dup2 C dX4_workFile_165 rfl rfl ?_
                refine fj_iald (f := (a 37)) C 37 (fx_at37 _ _ _ _ _) (vp_in_nI (by omega) (by decide)) dX4_workFile_166 ?_
                refine fj_at (y := a 37 p5) (by rw [nI_clamp (by omega)]) ?_
                refine fj_iconst (v := 1) C dX4_workFile_167 (by decide) ?_
                refine fj_iadd C dX4_workFile_168 ?_
                refine fj_iast (f := (a 37)) C 37 (fx_at37 _ _ _ _ _) (vp_in_nI (by omega) (by decide)) dX4_workFile_169 (fx_st37 _ _ _ _ _ _) ?_
                refine fj_ws (ws' := (fx_w ad ty (va_up a 37 (upd (a 37) p5 (a 37 p5 + 1))) g n)) (by rw [nI_clamp (by omega)]) ?_
                refine fj_aload_n C 5 dX4_workFile_170 rfl rfl ?_
                refine fj_get (Cn := RX4) (T := TX4) (N := 18) (ci := 4) (v := .ref (ad 33)) C iX4 25 (fx_at25 _ _ _ _ _) rfl 11 (by decide) kX4_37 rfl dX4_workFile_171 ?_
                refine fj_iload C 2 dX4_workFile_174 rfl ?_
                refine fj_iload_n C 6 dX4_workFile_176 rfl rfl ?_
                refine fj_iast (f := (a 33)) C 33 (fx_at33 _ _ _ _ _) (vp_in_nI (by omega) (by decide)) dX4_workFile_177 (fx_st33 _ _ _ _ _ _) ?_
                refine fj_ws (ws' := (fx_w ad ty (va_up (va_up a 37 (upd (a 37) p5 (a 37 p5 + 1))) 33 (upd (a 33) q5 (nI k))) g n)) (by rw [nI_clamp (by omega)]) ?_
                refine fj_aload_n C 5 dX4_workFile_178 rfl rfl ?_
                refine fj_get (Cn := RX4) (T := TX4) (N := 18) (ci := 4) (v := .ref (ad 27)) C iX4 25 (fx_at25 _ _ _ _ _) rfl 5 (by decide) kX4_19 rfl dX4_workFile_179 ?_
                refine fj_iload_n C 6 dX4_workFile_182 rfl rfl ?_
                refine fj_iconst (v := 1) C dX4_workFile_183 (by decide) ?_
                refine fj_iast (f := (a 27)) C 27 (fx_at27 _ _ _ _ _) (vp_in_nI (by omega) (by decide)) dX4_workFile_184 (fx_st27 _ _ _ _ _ _) ?_
                refine fj_ws (ws' := (fx_w ad ty (va_up (va_up (va_up a 37 (upd (a 37) p5 (a 37 p5 + 1))) 33 (upd (a 33) q5 (nI k))) 27 (upd (a 27) k 1)) g n)) (by rw [nI_clamp (by omega)]) ?_
                refine fj_aload_n C 5 dX4_workFile_185 rfl rfl ?_
                refine fj_get (Cn := RX4) (T := TX4) (N := 18) (ci := 4) (v := .ref (ad 28)) C iX4 25 (fx_at25 _ _ _ _ _) rfl 6 (by decide) kX4_22 rfl dX4_workFile_186 ?_
                refine fj_iload_n C 6 dX4_workFile_189 rfl rfl ?_
                refine fj_iload C 3 dX4_workFile_190 rfl ?_
                refine fj_iast (f := (a 28)) C 28 (fx_at28 _ _ _ _ _) (vp_in_nI (by omega) (by decide)) dX4_workFile_192 (fx_st28 _ _ _ _ _ _) ?_
                refine fj_ws (ws' := (fx_w ad ty (va_up (va_up (va_up (va_up a 37 (upd (a 37) p5 (a 37 p5 + 1))) 33 (upd (a 33) q5 (nI k))) 27 (upd (a 27) k 1)) 28 (upd (a 28) k (nI p5))) g n)) (by rw [nI_clamp (by omega)]) ?_
                refine fj_aload_n C 5 dX4_workFile_193 rfl rfl ?_
                refine fj_get (Cn := RX4) (T := TX4) (N := 18) (ci := 4) (v := .ref (ad 29)) C iX4 25 (fx_at25 _ _ _ _ _) rfl 7 (by decide) kX4_25 rfl dX4_workFile_194 ?_
                refine fj_iload_n C 6 dX4_workFile_197 rfl rfl ?_
                refine fj_iconst (v := 1) C dX4_workFile_198 (by decide) ?_
                refine fj_iload C 3 dX4_workFile_199 rfl ?_
                refine fj_ishl C dX4_workFile_201 ?_
                refine fj_iast (f := (a 29)) C 29 (fx_at29 _ _ _ _ _) (vp_in_nI (by omega) (by decide)) dX4_workFile_202 (fx_st29 _ _ _ _ _ _) ?_
                refine fj_ws (ws' := (fx_w ad ty (va_up (va_up (va_up (va_up (va_up a 37 (upd (a 37) p5 (a 37 p5 + 1))) 33 (upd (a 33) q5 (nI k))) 27 (upd (a 27) k 1)) 28 (upd (a 28) k (nI p5))) 29 (upd (a 29) k (1 <<< (nI p5 &&& 31)))) g n)) (by rw [nI_clamp (by omega)]) ?_
                refine fj_aload_n C 5 dX4_workFile_203 rfl rfl ?_
                refine fj_get (Cn := RX4) (T := TX4) (N := 18) (ci := 4) (v := .ref (ad 30)) C iX4 25 (fx_at25 _ _ _ _ _) rfl 8 (by decide) kX4_28 rfl dX4_workFile_204 ?_
                refine fj_iload_n C 6 dX4_workFile_207 rfl rfl ?_
                refine fj_iload C 1 dX4_workFile_208 rfl ?_
                refine fj_iast (f := (a 30)) C 30 (fx_at30 _ _ _ _ _) (vp_in_nI (by omega) (by decide)) dX4_workFile_210 (fx_st30 _ _ _ _ _ _) ?_
                refine fj_ws (ws' := (fx_w ad ty (va_up (va_up (va_up (va_up (va_up (va_up a 37 (upd (a 37) p5 (a 37 p5 + 1))) 33 (upd (a 33) q5 (nI k))) 27 (upd (a 27) k 1)) 28 (upd (a 28) k (nI p5))) 29 (upd (a 29) k (1 <<< (nI p5 &&& 31)))) 30 (upd (a 30) k lw9)) g n)) (by rw [nI_clamp (by omega)]) ?_
                refine fj_aload_n C 5 dX4_workFile_211 rfl rfl ?_
                refine fj_get (Cn := RX4) (T := TX4) (N := 18) (ci := 4) (v := .ref (ad 32)) C iX4 25 (fx_at25 _ _ _ _ _) rfl 10 (by decide) kX4_34 rfl dX4_workFile_212 ?_
                refine fj_iload_n C 6 dX4_workFile_215 rfl rfl ?_
                refine fj_iload_n C 7 dX4_workFile_216 rfl rfl ?_
                refine fj_iast (f := (a 32)) C 32 (fx_at32 _ _ _ _ _) (vp_in_nI (by omega) (by decide)) dX4_workFile_217 (fx_st32 _ _ _ _ _ _) ?_
                refine fj_ws (ws' := (fx_w ad ty (va_up (va_up (va_up (va_up (va_up (va_up (va_up a 37 (upd (a 37) p5 (a 37 p5 + 1))) 33 (upd (a 33) q5 (nI k))) 27 (upd (a 27) k 1)) 28 (upd (a 28) k (nI p5))) 29 (upd (a 29) k (1 <<< (nI p5 &&& 31)))) 30 (upd (a 30) k lw9)) 32 (upd (a 32) k (nI t5))) g n)) (by rw [nI_clamp (by omega)]) ?_
                refine fj_iconst (v := 0) C dX4_workFile_218 (by decide) ?_
                exact fj_iret C E9 dX4_workFile_219 (have hc : WFc a n S k q5 p5 lw9 pf9 = 0 := by rw [WFc, if_neg (Int32.not_lt.mpr h64), if_neg (Int32.not_lt.mpr h80), if_neg h92, if_neg (not_not_intro h105), if_neg hpf, if_neg (Int32.not_le.mpr h153)]
      ⟨by rw [← e_lw9, show PFO a q5 (a 18 k) = pf9 from e_pf9.symm, hc], by rw [← e_lw9, show PFO a q5 (a 18 k) = pf9 from e_pf9.symm, hc, if_pos rfl]; rfl⟩)
              · refine fj_bipush (v := 7) C dX4_workFile_156 (by decide) ?_
                exact fj_iret C E9 dX4_workFile_158 (have hc : WFc a n S k q5 p5 lw9 pf9 = 7 := by rw [WFc, if_neg (Int32.not_lt.mpr h64), if_neg (Int32.not_lt.mpr h80), if_neg h92, if_neg (not_not_intro h105), if_neg hpf, if_pos (Int32.not_lt.mp h153)]
      ⟨by rw [← e_lw9, show PFO a q5 (a 18 k) = pf9 from e_pf9.symm, hc], by rw [← e_lw9, show PFO a q5 (a 18 k) = pf9 from e_pf9.symm, hc, if_neg (by decide : ¬ (7 : Int32) = 0)]⟩)
            · refine fj_bipush (v := 6) C dX4_workFile_132 (by decide) ?_
              exact fj_iret C E9 dX4_workFile_134 (have hc : WFc a n S k q5 p5 lw9 pf9 = 6 := by rw [WFc, if_neg (Int32.not_lt.mpr h64), if_neg (Int32.not_lt.mpr h80), if_neg h92, if_neg (not_not_intro h105), if_pos ⟨h122, h129⟩]
      ⟨by rw [← e_lw9, show PFO a q5 (a 18 k) = pf9 from e_pf9.symm, hc], by rw [← e_lw9, show PFO a q5 (a 18 k) = pf9 from e_pf9.symm, hc, if_neg (by decide : ¬ (6 : Int32) = 0)]⟩)
        · refine fj_iconst (v := 5) C dX4_workFile_108 (by decide) ?_
          exact fj_iret C E9 dX4_workFile_109 (have hc : ∀ pf, WFc a n S k q5 p5 lw9 pf = 5 := fun pf => by rw [WFc, if_neg (Int32.not_lt.mpr h64), if_neg (Int32.not_lt.mpr h80), if_neg h92, if_pos h105]
      ⟨by rw [← e_lw9, hc], by rw [← e_lw9, hc, if_neg (by decide : ¬ (5 : Int32) = 0)]⟩)
      · refine fj_iconst (v := 4) C dX4_workFile_95 (by decide) ?_
        exact fj_iret C E9 dX4_workFile_96 (have hc : ∀ pf, WFc a n S k q5 p5 lw9 pf = 4 := fun pf => by rw [WFc, if_neg (Int32.not_lt.mpr h64), if_neg (Int32.not_lt.mpr h80), if_pos h92]
      ⟨by rw [← e_lw9, hc], by rw [← e_lw9, hc, if_neg (by decide : ¬ (4 : Int32) = 0)]⟩)
    · refine fj_iconst (v := 3) C dX4_workFile_83 (by decide) ?_
      exact fj_iret C E9 dX4_workFile_84 (have hc : ∀ pf, WFc a n S k q5 p5 lw9 pf = 3 := fun pf => by rw [WFc, if_neg (Int32.not_lt.mpr h64), if_pos (Int32.not_le.mp h80)]
      ⟨by rw [← e_lw9, hc], by rw [← e_lw9, hc, if_neg (by decide : ¬ (3 : Int32) = 0)]⟩)
  · refine fj_iconst (v := 2) C dX4_workFile_67 (by decide) ?_
    exact fj_iret C E9 dX4_workFile_68 (have hc : ∀ pf, WFc a n S k q5 p5 lw9 pf = 2 := fun pf => by rw [WFc, if_pos (Int32.not_le.mp h64)]
      ⟨by rw [← e_lw9, hc], by rw [← e_lw9, hc, if_neg (by decide : ¬ (2 : Int32) = 0)]⟩)
