theorem nI_m1 {k : Nat} (h : k < 2 ^ 31) : ¬ nI k = -1 := fun e => by
  have h1 := congrArg Int32.toInt e
  rw [nI_toInt h] at h1
  have c : (-1 : Int32).toInt = -1 := by decide
  omega
theorem up_id2 {b : Nat → Nat → Int32} {k l : Nat} {x y : Nat → Int32} (h1 : b k = x) (h2 : b l = y) : va_up (va_up b k x) l y = b := by
  subst h1 h2
  funext i
  by_cases e : i = l
  · rw [e, va_up_self]
  · rw [va_up_ne _ _ e]
    by_cases e2 : i = k
    · rw [e2, va_up_self]
    · rw [va_up_ne _ _ e2]
theorem fx_67 (n : Nat → Int32) (x y : Int32) : ∀ j, j ≠ 6 → j ≠ 7 → va_up (va_up n 6 x) 7 y j = n j := fun j h6 h7 => by rw [va_up_ne _ _ h7, va_up_ne _ _ h6]
/-- what a contest comes to -/
def WCd (a : Nat → Nat → Int32) (S B k q e : Nat) : Int32 := if ¬ HLV a q then 9 else if a 28 e = a 20 k then 10 else if a 18 k - vof a (a 30 e) 5 S 0 ≤ a 18 e then 11 else if 0 < (lkF a e (a 18 k - vof a (a 30 e) 5 S 0) (a 18 k - 1) B).2.1 then 11 else 0
def WCc (a : Nat → Nat → Int32) (S B k q : Nat) : Int32 := WCd a S B k q (a 33 q).toNatClampNeg
def WCv (a b : Nat → Nat → Int32) (S k q e : Nat) : Nat → Nat → Int32 := va_up (va_up b 34 (upd (a 34) q (a 20 k))) 35 (upd (a 35) q (a 18 k + vof (va_up b 34 (upd (a 34) q (a 20 k))) (a 30 e) 6 S 0))
def WCu (a : Nat → Nat → Int32) (S k q : Nat) : Nat → Nat → Int32 := WCv a (WEu a q) S k q (a 33 q).toNatClampNeg
/-- what a proof comes to -/
def WPd (a : Nat → Nat → Int32) (S B k q e : Nat) : Int32 := if ¬ (HLV a q ∧ a 28 e = a 20 k) then 8 else if vof a (a 30 e) 4 S 0 < a 18 k - a 18 e then 12 else if (lkF a e (a 18 e) (a 18 k - 1) B).2.1 < vof a (a 30 e) 1 S 0 then 13 else if vof a (a 30 e) 2 S 0 < lkG (a 18 k - 1) (lkF a e (a 18 e) (a 18 k - 1) B) then 14 else if (if a 33 q = -1 then 0 else acF a (a 33 q).toNatClampNeg (a 32 (a 33 q).toNatClampNeg).toNatClampNeg (B - (a 32 (a 33 q).toNatClampNeg).toNatClampNeg)) < vof a (a 30 e) 3 S 0 then 15 else 0
def WPc (a : Nat → Nat → Int32) (S B k q : Nat) : Int32 := WPd a S B k q (a 33 q).toNatClampNeg
def WPv (a : Nat → Nat → Int32) (S k e : Nat) : Nat → Nat → Int32 := va_up (va_up a 27 (upd (a 27) e 2)) 31 (upd (a 31) e (a 18 k + vof (va_up a 27 (upd (a 27) e 2)) (a 30 e) 8 S 0))
def WPu (a : Nat → Nat → Int32) (S k q : Nat) : Nat → Nat → Int32 := WPv a S k (a 33 q).toNatClampNeg
/-- a death: who holds for whom, quarter by quarter -/
def dth (a : Nat → Nat → Int32) (p h : Int32) : Nat → (Nat → Int32) × (Nat → Int32)
  | 0 => (a 28, a 29)
  | i + 1 => if ¬ a 33 i = -1 ∧ (dth a p h i).1 (a 33 i).toNatClampNeg = p then (upd (dth a p h i).1 (a 33 i).toNatClampNeg h, upd (dth a p h i).2 (a 33 i).toNatClampNeg ((dth a p h i).2 (a 33 i).toNatClampNeg ||| 1 <<< (h &&& 31))) else dth a p h i
theorem dth_s {a : Nat → Nat → Int32} {p h : Int32} {i e : Nat} {f f2 : Nat → Int32} (hst : dth a p h i = (f, f2)) (he : a 33 i = nI e) (h31 : e < 2 ^ 31) (q : f e = p) : dth a p h (i + 1) = (upd f e h, upd f2 e (f2 e ||| 1 <<< (h &&& 31))) := by
  rw [dth, hst, he, nI_clamp h31]
  exact if_pos ⟨nI_m1 h31, q⟩
theorem dth_z {a : Nat → Nat → Int32} {p h : Int32} {i : Nat} {f f2 : Nat → Int32} (hst : dth a p h i = (f, f2)) (q : ¬ (if a 33 i = -1 then -1 else f (a 33 i).toNatClampNeg) = p) : dth a p h (i + 1) = (f, f2) := by
  rw [dth, hst]
  refine if_neg (fun z => q ?_)
  rw [if_neg z.1]
  exact z.2
def WDc (a : Nat → Nat → Int32) (p h : Nat) : Int32 := if nI h = nI p ∨ ¬ a 36 h = 0 then 16 else 0
def WDu (a : Nat → Nat → Int32) (p h : Nat) : Nat → Nat → Int32 := va_up (va_up (va_up a 36 (upd (a 36) p 1)) 28 (dth a (nI p) (nI h) 64).1) 29 (dth a (nI p) (nI h) 64).2
set_option maxHeartbeats 4000000 in
set_option maxRecDepth 100000 in
theorem d_X4_workContest (l : Launch) (D : va_G) (ty : Nat → ClassId) (t0 : Nat → Nat) (ad : Nat → Nat) (a : Nat → Nat → Int32) (g : Nat → Nat → Int64) (n : Nat → Int32) (P : Nat) (S : Nat) (T : Nat) (B : Nat) (I : XI P S T B a n) (x : Int32) (k : Nat) (ek : x = nI k) (hk : k < B) (q5 : Nat) (eq5 : a 21 k = nI q5) (hq5 : q5 < 64) (hw : WI B a) : fc l yX4_workContest wsX4_workContest (fj_rm 2 51 0 0) D ty t0 [.ref (ad 25), .int x] (fx_w ad ty a g n) 0 0 (fun v w => ∃ n9 : Nat → Int32, (∀ j, j ≠ 6 → j ≠ 7 → n9 j = n j) ∧ v = some (.int (WCc a S B k q5)) ∧ w = fx_w ad ty (if WCc a S B k q5 = 0 then WCu a S k q5 else a) g n9) := by
  subst ek
  refine fc_start (own := RX4) (cc := cX4_workContest) (maxL := 6) (ret := (some .int)) (by decide) rfl (Nat.le_of_ble_eq_true rfl) rfl ?_
  intro p e s m args below meth c Q A C hmn E9
  obtain ⟨hn0, hP, hn1, hT, hn3, hS, hn4, hB, iLO, iBO, iWho, iSort, iQ, iN⟩ := id I
  have iX4 : ∀ w ∈ u_ws RX4 TX4 18, w ∈ wsX4_workContest := ptX4_workContest_wsX40
  have kX4_61 : Cond.fieldLink RX4 61 "FreeLand$Work" "book" "LFreeLand$Book;" ∈ wsX4_workContest := ptX4_workContest_woX4_workContest _ (by decide +kernel)
  have iX0 : ∀ w ∈ u_ws RX0 TX0 8, w ∈ wsX4_workContest := ptX4_workContest_wsX00
  have kX4_108 : (RX4, 108, "FreeLand$Book", "where", "[I") ∈ nw_F := (by decide +kernel)
  have kX4_76 : (RX4, 76, "FreeLand$Book", "day", "[I") ∈ nw_F := (by decide +kernel)
  have kX4_37 : Cond.fieldLink RX4 37 "FreeLand$Work" "held" "[I" ∈ wsX4_workContest := ptX4_workContest_woX4_workContest _ (by decide +kernel)
  have kX4_22 : Cond.fieldLink RX4 22 "FreeLand$Work" "holder" "[I" ∈ wsX4_workContest := ptX4_workContest_woX4_workContest _ (by decide +kernel)
  have kX4_86 : (RX4, 86, "FreeLand$Book", "who", "[I") ∈ nw_F := (by decide +kernel)
  have kX4_57 : Cond.fieldLink RX4 57 "FreeLand$Work" "laws" "LFreeLand$Laws;" ∈ wsX4_workContest := ptX4_workContest_woX4_workContest _ (by decide +kernel)
  have kX4_28 : Cond.fieldLink RX4 28 "FreeLand$Work" "ruling" "[I" ∈ wsX4_workContest := ptX4_workContest_woX4_workContest _ (by decide +kernel)
  have kN121 : (RX4, 121, yX2_valueOf) ∈ nw_M := (by decide +kernel)
  have kIX2 : Cond.initialized RX2 ∈ wsX4_workContest := ptX4_workContest_woX4_workContest _ (by decide +kernel)
  have kVX2_valueOf : Cond.instanceMethod yX2_valueOf ∈ wsX4_workContest := ptX4_workContest_woX4_workContest _ (by decide +kernel)
  have kSX2_valueOf : Cond.selects RX2 yX2_valueOf yX2_valueOf ∈ wsX4_workContest := ptX4_workContest_woX4_workContest _ (by decide +kernel)
  have kX4_149 : Cond.fieldLink RX4 149 "FreeLand$Work" "livedDays" "I" ∈ wsX4_workContest := ptX4_workContest_woX4_workContest _ (by decide +kernel)
  have kX4_40 : Cond.fieldLink RX4 40 "FreeLand$Work" "preferred" "[I" ∈ wsX4_workContest := ptX4_workContest_woX4_workContest _ (by decide +kernel)
  have kX4_43 : Cond.fieldLink RX4 43 "FreeLand$Work" "preferredTo" "[I" ∈ wsX4_workContest := ptX4_workContest_woX4_workContest _ (by decide +kernel)
  refine fj_lv (lv' := [(0, .ref (ad 25)), (1, .int (nI k))]) [0, 1] rfl ?_
  refine fj_aload_n C 0 dX4_workContest_0 rfl rfl ?_
  refine fj_get (Cn := RX4) (T := TX4) (N := 18) (ci := 4) (v := .ref (ad 17)) C iX4 25 (fx_at25 _ _ _ _ _) rfl 2 (by decide) kX4_61 rfl dX4_workContest_1 ?_
  refine fj_getN (Cn := RX0) (T := TX0) (N := 8) (ci := 0) (v := .ref (ad 21)) C iX0 17 (fx_at17 _ _ _ _ _) rfl 3 (by decide) kX4_108 rfl dX4_workContest_4 ?_
  refine fj_iload_n C 1 dX4_workContest_7 rfl rfl ?_
  refine fj_iald (f := (a 21)) C 21 (fx_at21 _ _ _ _ _) (vp_in_nI (by omega) (by decide)) dX4_workContest_8 ?_
  refine fj_at (y := nI q5) (by rw [nI_clamp (by omega), eq5]) ?_
  refine fj_istore_n (lv' := [(2, .int (nI q5)), (0, .ref (ad 25)), (1, .int (nI k))]) C dX4_workContest_9 rfl (by decide) rfl ?_
  refine fj_aload_n C 1 dX4_workContest_10 rfl rfl ?_
  refine fj_get (Cn := RX4) (T := TX4) (N := 18) (ci := 4) (v := .ref (ad 17)) C iX4 25 (fx_at25 _ _ _ _ _) rfl 2 (by decide) kX4_61 rfl dX4_workContest_11 ?_
  refine fj_getN (Cn := RX0) (T := TX0) (N := 8) (ci := 0) (v := .ref (ad 18)) C iX0 17 (fx_at17 _ _ _ _ _) rfl 0 (by decide) kX4_76 rfl dX4_workContest_14 ?_
  refine fj_iload_n C 2 dX4_workContest_17 rfl rfl ?_
  refine fj_iald (f := (a 18)) C 18 (fx_at18 _ _ _ _ _) (vp_in_nI (by omega) (by decide)) dX4_workContest_18 ?_
  refine fj_at (y := a 18 k) (by rw [nI_clamp (by omega)]) ?_
  refine fj_istore_n (lv' := [(3, .int (a 18 k)), (2, .int (nI q5)), (0, .ref (ad 25)), (1, .int (nI k))]) C dX4_workContest_19 rfl (by decide) rfl ?_
  refine fj_aload_n C 2 dX4_workContest_20 rfl rfl ?_
  refine fj_iload_n C 1 dX4_workContest_21 rfl rfl ?_
  refine fj_callVw (As := [.int (nI q5)]) (rest := []) C (d_X4_isHeldLive l D ty t0 ad a g n P S T B I (nI q5) q5 rfl hq5 hw) (cwV 1 C.2.2.2.2.1 gX4_workContest_X4_isHeldLive rfl rfl rfl (by decide +kernel) ⟨Nat.le_of_ble_eq_true rfl, Nat.le_of_ble_eq_true rfl⟩) ⟨25, 4, _, _, fx_at25 _ _ _ _ _, rfl, rfl⟩ rfl (Nat.le_of_ble_eq_true rfl) dX4_workContest_22 ⟨Nat.zero_le _, Nat.zero_le _⟩ (fun v9 w9 hp9 => ?_)
  obtain ⟨rfl, rfl⟩ := hp9
  refine fj_st (st' := .int (if HLV a q5 then 1 else 0) :: []) rfl ?_
  refine fj_ifb_ne (tgt := 31) C dX4_workContest_25 (by decide) (fun h25 => ?_) (fun h25 => ?_)
  · refine fj_aload_n C 2 dX4_workContest_31 rfl rfl ?_
    refine fj_get (Cn := RX4) (T := TX4) (N := 18) (ci := 4) (v := .ref (ad 33)) C iX4 25 (fx_at25 _ _ _ _ _) rfl 11 (by decide) kX4_37 rfl dX4_workContest_32 ?_
    refine fj_iload_n C 1 dX4_workContest_35 rfl rfl ?_
    refine fj_iald (f := (a 33)) C 33 (fx_at33 _ _ _ _ _) (vp_in_nI (by omega) (by decide)) dX4_workContest_36 ?_
    obtain ⟨e9, t9, he9, ee9, ht9, et9⟩ := (hw q5 hq5).resolve_left h25.1
    have he5 : (a 33 q5).toNatClampNeg = e9 := by rw [ee9, nI_clamp (by omega)]
    refine fj_at (y := nI e9) (by rw [nI_clamp (by omega), ee9]) ?_
    refine fj_istore (lv' := [(4, .int (nI e9)), (3, .int (a 18 k)), (2, .int (nI q5)), (0, .ref (ad 25)), (1, .int (nI k))]) C dX4_workContest_37 (by decide) rfl ?_
    refine fj_aload_n C 3 dX4_workContest_39 rfl rfl ?_
    refine fj_get (Cn := RX4) (T := TX4) (N := 18) (ci := 4) (v := .ref (ad 28)) C iX4 25 (fx_at25 _ _ _ _ _) rfl 6 (by decide) kX4_22 rfl dX4_workContest_40 ?_
    refine fj_iload C 0 dX4_workContest_43 rfl ?_
    refine fj_iald (f := (a 28)) C 28 (fx_at28 _ _ _ _ _) (vp_in_nI (by omega) (by decide)) dX4_workContest_45 ?_
    refine fj_at (y := a 28 e9) (by rw [nI_clamp (by omega)]) ?_
    refine fj_aload_n C 3 dX4_workContest_46 rfl rfl ?_
    refine fj_get (Cn := RX4) (T := TX4) (N := 18) (ci := 4) (v := .ref (ad 17)) C iX4 25 (fx_at25 _ _ _ _ _) rfl 2 (by decide) kX4_61 rfl dX4_workContest_47 ?_
    refine fj_getN (Cn := RX0) (T := TX0) (N := 8) (ci := 0) (v := .ref (ad 20)) C iX0 17 (fx_at17 _ _ _ _ _) rfl 2 (by decide) kX4_86 rfl dX4_workContest_50 ?_
    refine fj_iload_n C 4 dX4_workContest_53 rfl rfl ?_
    refine fj_iald (f := (a 20)) C 20 (fx_at20 _ _ _ _ _) (vp_in_nI (by omega) (by decide)) dX4_workContest_54 ?_
    refine fj_at (y := a 20 k) (by rw [nI_clamp (by omega)]) ?_
    refine fj_icmp_ne (tgt := 61) C dX4_workContest_55 (by decide) (fun h55 => ?_) (fun h55 => ?_)
    · refine fj_iload_n C 1 dX4_workContest_61 rfl rfl ?_
      refine fj_aload_n C 3 dX4_workContest_62 rfl rfl ?_
      refine fj_get (Cn := RX4) (T := TX4) (N := 18) (ci := 4) (v := .ref (ad 4)) C iX4 25 (fx_at25 _ _ _ _ _) rfl 1 (by decide) kX4_57 rfl dX4_workContest_63 ?_
      refine fj_aload_n C 3 dX4_workContest_66 rfl rfl ?_
      refine fj_get (Cn := RX4) (T := TX4) (N := 18) (ci := 4) (v := .ref (ad 30)) C iX4 25 (fx_at25 _ _ _ _ _) rfl 8 (by decide) kX4_28 rfl dX4_workContest_67 ?_
      refine fj_iload C 0 dX4_workContest_70 rfl ?_
      refine fj_iald (f := (a 30)) C 30 (fx_at30 _ _ _ _ _) (vp_in_nI (by omega) (by decide)) dX4_workContest_72 ?_
      refine fj_at (y := a 30 e9) (by rw [nI_clamp (by omega)]) ?_
      refine fj_iconst (v := 5) C dX4_workContest_73 (by decide) ?_
      refine fj_callVNw (As := [.int (a 30 e9), .int 5]) (rest := [.int (a 18 k)]) C (d_X2_valueOf l D ty t0 ad a g n P S T B I (a 30 e9) 5 5 rfl (by decide)) ⟨va_cnB 2 C.2.2.2.2.1 gX4_workContest_X2_valueOf_n121 rfl rfl rfl (nw_m C.2.2.2.2.2.2.2.1 kN121) (C.2.2.2.2.1 _ kIX2) (by decide +kernel) ⟨Nat.le_of_ble_eq_true rfl, Nat.le_of_ble_eq_true rfl⟩, C.2.2.2.2.1 _ kVX2_valueOf, C.2.2.2.2.1 _ kSX2_valueOf⟩ ⟨4, 2, _, _, fx_at4 _ _ _ _ _, rfl, rfl⟩ rfl (Nat.le_of_ble_eq_true rfl) dX4_workContest_74 ⟨Nat.zero_le _, Nat.zero_le _⟩ (fun v9 w9 hp9 => ?_)
      obtain ⟨rfl, rfl⟩ := hp9
      refine fj_st (st' := .int (vof a (a 30 e9) 5 S 0) :: [.int (a 18 k)]) rfl ?_
      refine fj_isub C dX4_workContest_77 ?_
      refine fj_istore (lv' := [(5, .int ((a 18 k) - (vof a (a 30 e9) 5 S 0))), (4, .int (nI e9)), (3, .int (a 18 k)), (2, .int (nI q5)), (0, .ref (ad 25)), (1, .int (nI k))]) C dX4_workContest_78 (by decide) rfl ?_
      refine fj_aload_n C 4 dX4_workContest_80 rfl rfl ?_
      refine fj_get (Cn := RX4) (T := TX4) (N := 18) (ci := 4) (v := .ref (ad 17)) C iX4 25 (fx_at25 _ _ _ _ _) rfl 2 (by decide) kX4_61 rfl dX4_workContest_81 ?_
      refine fj_getN (Cn := RX0) (T := TX0) (N := 8) (ci := 0) (v := .ref (ad 18)) C iX0 17 (fx_at17 _ _ _ _ _) rfl 0 (by decide) kX4_76 rfl dX4_workContest_84 ?_
      refine fj_iload C 1 dX4_workContest_87 rfl ?_
      refine fj_iald (f := (a 18)) C 18 (fx_at18 _ _ _ _ _) (vp_in_nI (by omega) (by decide)) dX4_workContest_89 ?_
      refine fj_at (y := a 18 e9) (by rw [nI_clamp (by omega)]) ?_
      refine fj_iload C 0 dX4_workContest_90 rfl ?_
      refine fj_icmp_lt (tgt := 98) C dX4_workContest_92 (by decide) (fun h92 => ?_) (fun h92 => ?_)
      · refine fj_aload_n C 4 dX4_workContest_98 rfl rfl ?_
        refine fj_iload C 1 dX4_workContest_99 rfl ?_
        refine fj_iload C 0 dX4_workContest_101 rfl ?_
        refine fj_iload_n C 2 dX4_workContest_103 rfl rfl ?_
        refine fj_iconst (v := 1) C dX4_workContest_104 (by decide) ?_
        refine fj_isub C dX4_workContest_105 ?_
        refine fj_callVw (As := [.int (nI e9), .int ((a 18 k) - (vof a (a 30 e9) 5 S 0)), .int ((a 18 k) - 1)]) (rest := []) C (d_X4_lookAtLiving l D ty t0 ad a g n P S T B I (nI e9) ((a 18 k) - (vof a (a 30 e9) 5 S 0)) ((a 18 k) - 1) e9 rfl (by omega)) (cwV 3 C.2.2.2.2.1 gX4_workContest_X4_lookAtLiving rfl rfl rfl (by decide +kernel) ⟨Nat.le_of_ble_eq_true rfl, Nat.le_of_ble_eq_true rfl⟩) ⟨25, 4, _, _, fx_at25 _ _ _ _ _, rfl, rfl⟩ rfl (Nat.le_of_ble_eq_true rfl) dX4_workContest_106 ⟨Nat.zero_le _, Nat.zero_le _⟩ (fun v9 w9 hp9 => ?_)
        obtain ⟨rfl, rfl⟩ := hp9
        refine fj_st (st' := []) rfl ?_
        refine fj_aload_n C 4 dX4_workContest_109 rfl rfl ?_
        refine fj_get (Cn := RX4) (T := TX4) (N := 18) (ci := 4) (v := .int ((lkF a e9 ((a 18 k) - (vof a (a 30 e9) 5 S 0)) ((a 18 k) - 1) B).2.1)) C iX4 25 (fx_at25 _ _ _ _ _) rfl 16 (by decide) kX4_149 rfl dX4_workContest_110 ?_
        refine fj_if_le (tgt := 119) C dX4_workContest_113 (by decide) (fun h113 => ?_) (fun h113 => ?_)
        · refine fj_aload_n C 4 dX4_workContest_119 rfl rfl ?_
          refine fj_iload_n C 3 dX4_workContest_120 rfl rfl ?_
          refine fj_callVw (As := [.int (nI q5)]) (rest := []) C (d_X4_end l D ty t0 ad a g (va_up (va_up n 6 ((lkF a e9 ((a 18 k) - (vof a (a 30 e9) 5 S 0)) ((a 18 k) - 1) B).2.1)) 7 (lkG ((a 18 k) - 1) (lkF a e9 ((a 18 k) - (vof a (a 30 e9) 5 S 0)) ((a 18 k) - 1) B))) (nI q5) q5 rfl hq5 e9 (by omega) ee9) (cwV 1 C.2.2.2.2.1 gX4_workContest_X4_end rfl rfl rfl (by decide +kernel) ⟨Nat.le_of_ble_eq_true rfl, Nat.le_of_ble_eq_true rfl⟩) ⟨25, 4, _, _, fx_at25 _ _ _ _ _, rfl, rfl⟩ rfl (Nat.le_of_ble_eq_true rfl) dX4_workContest_121 ⟨Nat.zero_le _, Nat.zero_le _⟩ (fun v9 w9 hp9 => ?_)
          obtain ⟨rfl, rfl⟩ := hp9
          refine fj_st (st' := []) rfl ?_
          refine fj_aload_n C 4 dX4_workContest_124 rfl rfl ?_
          refine fj_get (Cn := RX4) (T := TX4) (N := 18) (ci := 4) (v := .ref (ad 34)) C iX4 25 (fx_at25 _ _ _ _ _) rfl 12 (by decide) kX4_40 rfl dX4_workContest_125 ?_
          refine fj_iload_n C 3 dX4_workContest_128 rfl rfl ?_
          refine fj_aload_n C 4 dX4_workContest_129 rfl rfl ?_
          refine fj_get (Cn := RX4) (T := TX4) (N := 18) (ci := 4) (v := .ref (ad 17)) C iX4 25 (fx_at25 _ _ _ _ _) rfl 2 (by decide) kX4_61 rfl dX4_workContest_130 ?_
          refine fj_getN (Cn := RX0) (T := TX0) (N := 8) (ci := 0) (v := .ref (ad 20)) C iX0 17 (fx_at17 _ _ _ _ _) rfl 2 (by decide) kX4_86 rfl dX4_workContest_133 ?_
          refine fj_iload_n C 5 dX4_workContest_136 rfl rfl ?_
          refine fj_iald (f := (a 20)) C 20 (fx_at20 _ _ _ _ _) (vp_in_nI (by omega) (by decide)) dX4_workContest_137 ?_
          refine fj_at (y := a 20 k) (by rw [nI_clamp (by omega)]) ?_
          refine fj_iast (f := (a 34)) C 34 (fx_at34 _ _ _ _ _) (vp_in_nI (by omega) (by decide)) dX4_workContest_138 (fx_st34 _ _ _ _ _ _) ?_
          refine fj_ws (ws' := (fx_w ad ty (va_up (va_up (va_up a 27 (upd (a 27) e9 3)) 33 (upd (a 33) q5 (-1))) 34 (upd (a 34) q5 (a 20 k))) g (va_up (va_up n 6 ((lkF a e9 ((a 18 k) - (vof a (a 30 e9) 5 S 0)) ((a 18 k) - 1) B).2.1)) 7 (lkG ((a 18 k) - 1) (lkF a e9 ((a 18 k) - (vof a (a 30 e9) 5 S 0)) ((a 18 k) - 1) B))))) (by rw [nI_clamp (by omega)]) ?_
          refine fj_aload_n C 4 dX4_workContest_139 rfl rfl ?_
          refine fj_get (Cn := RX4) (T := TX4) (N := 18) (ci := 4) (v := .ref (ad 35)) C iX4 25 (fx_at25 _ _ _ _ _) rfl 13 (by decide) kX4_43 rfl dX4_workContest_140 ?_
          refine fj_iload_n C 3 dX4_workContest_143 rfl rfl ?_
          refine fj_iload_n C 2 dX4_workContest_144 rfl rfl ?_
          refine fj_aload_n C 4 dX4_workContest_145 rfl rfl ?_
          refine fj_get (Cn := RX4) (T := TX4) (N := 18) (ci := 4) (v := .ref (ad 4)) C iX4 25 (fx_at25 _ _ _ _ _) rfl 1 (by decide) kX4_57 rfl dX4_workContest_146 ?_
          refine fj_aload_n C 4 dX4_workContest_149 rfl rfl ?_
          refine fj_get (Cn := RX4) (T := TX4) (N := 18) (ci := 4) (v := .ref (ad 30)) C iX4 25 (fx_at25 _ _ _ _ _) rfl 8 (by decide) kX4_28 rfl dX4_workContest_150 ?_
          refine fj_iload C 1 dX4_workContest_153 rfl ?_
          refine fj_iald (f := (a 30)) C 30 (fx_at30 _ _ _ _ _) (vp_in_nI (by omega) (by decide)) dX4_workContest_155 ?_
          refine fj_at (y := a 30 e9) (by rw [nI_clamp (by omega)]) ?_
          refine fj_bipush (v := 6) C dX4_workContest_156 (by decide) ?_
          refine fj_callVNw (As := [.int (a 30 e9), .int 6]) (rest := [.int (a 18 k), .int (nI q5), .ref (ad 35)]) C (d_X2_valueOf l D ty t0 ad (va_up (va_up (va_up a 27 (upd (a 27) e9 3)) 33 (upd (a 33) q5 (-1))) 34 (upd (a 34) q5 (a 20 k))) g (va_up (va_up n 6 ((lkF a e9 ((a 18 k) - (vof a (a 30 e9) 5 S 0)) ((a 18 k) - 1) B).2.1)) 7 (lkG ((a 18 k) - 1) (lkF a e9 ((a 18 k) - (vof a (a 30 e9) 5 S 0)) ((a 18 k) - 1) B))) P S T B I (a 30 e9) 6 6 rfl (by decide)) ⟨va_cnB 2 C.2.2.2.2.1 gX4_workContest_X2_valueOf_n121 rfl rfl rfl (nw_m C.2.2.2.2.2.2.2.1 kN121) (C.2.2.2.2.1 _ kIX2) (by decide +kernel) ⟨Nat.le_of_ble_eq_true rfl, Nat.le_of_ble_eq_true rfl⟩, C.2.2.2.2.1 _ kVX2_valueOf, C.2.2.2.2.1 _ kSX2_valueOf⟩ ⟨4, 2, _, _, fx_at4 _ _ _ _ _, rfl, rfl⟩ rfl (Nat.le_of_ble_eq_true rfl) dX4_workContest_158 ⟨Nat.zero_le _, Nat.zero_le _⟩ (fun v9 w9 hp9 => ?_)
          obtain ⟨rfl, rfl⟩ := hp9
          refine fj_st (st' := .int (vof (va_up (va_up (va_up a 27 (upd (a 27) e9 3)) 33 (upd (a 33) q5 (-1))) 34 (upd (a 34) q5 (a 20 k))) (a 30 e9) 6 S 0) :: [.int (a 18 k), .int (nI q5), .ref (ad 35)]) rfl ?_
          refine fj_iadd C dX4_workContest_161 ?_
          refine fj_iast (f := (a 35)) C 35 (fx_at35 _ _ _ _ _) (vp_in_nI (by omega) (by decide)) dX4_workContest_162 (fx_st35 _ _ _ _ _ _) ?_
          refine fj_ws (ws' := (fx_w ad ty (va_up (va_up (va_up (va_up a 27 (upd (a 27) e9 3)) 33 (upd (a 33) q5 (-1))) 34 (upd (a 34) q5 (a 20 k))) 35 (upd (a 35) q5 (a 18 k + vof (va_up (va_up (va_up a 27 (upd (a 27) e9 3)) 33 (upd (a 33) q5 (-1))) 34 (upd (a 34) q5 (a 20 k))) (a 30 e9) 6 S 0))) g (va_up (va_up n 6 ((lkF a e9 ((a 18 k) - (vof a (a 30 e9) 5 S 0)) ((a 18 k) - 1) B).2.1)) 7 (lkG ((a 18 k) - 1) (lkF a e9 ((a 18 k) - (vof a (a 30 e9) 5 S 0)) ((a 18 k) - 1) B))))) (by rw [nI_clamp (by omega)]) ?_
          refine fj_iconst (v := 0) C dX4_workContest_163 (by decide) ?_
          exact fj_iret C E9 dX4_workContest_164 (by
      have hc : WCc a S B k q5 = 0 := by rw [WCc, he5, WCd, if_neg (not_not_intro h25), if_neg h55, if_neg (Int32.not_le.mpr h92), if_neg (fun z => absurd h113 (Int32.not_le.mpr z))]
      exact ⟨(va_up (va_up n 6 ((lkF a e9 ((a 18 k) - (vof a (a 30 e9) 5 S 0)) ((a 18 k) - 1) B).2.1)) 7 (lkG ((a 18 k) - 1) (lkF a e9 ((a 18 k) - (vof a (a 30 e9) 5 S 0)) ((a 18 k) - 1) B))), (fx_67 _ _ _), by rw [hc], by rw [hc, if_pos rfl, WCu, WEu, he5]; rfl⟩)
        · refine fj_bipush (v := 11) C dX4_workContest_116 (by decide) ?_
          exact fj_iret C E9 dX4_workContest_118 (by
      have hc : WCc a S B k q5 = 11 := by rw [WCc, he5, WCd, if_neg (not_not_intro h25), if_neg h55, if_neg (Int32.not_le.mpr h92), if_pos (Int32.not_le.mp h113)]
      exact ⟨(va_up (va_up n 6 ((lkF a e9 ((a 18 k) - (vof a (a 30 e9) 5 S 0)) ((a 18 k) - 1) B).2.1)) 7 (lkG ((a 18 k) - 1) (lkF a e9 ((a 18 k) - (vof a (a 30 e9) 5 S 0)) ((a 18 k) - 1) B))), (fx_67 _ _ _), by rw [hc], by rw [hc, if_neg (by decide : ¬ (11 : Int32) = 0)]⟩)
      · refine fj_bipush (v := 11) C dX4_workContest_95 (by decide) ?_
        exact fj_iret C E9 dX4_workContest_97 (by
      have hc : WCc a S B k q5 = 11 := by rw [WCc, he5, WCd, if_neg (not_not_intro h25), if_neg h55, if_pos (Int32.not_lt.mp h92)]
      exact ⟨n, (fun _ _ _ => rfl), by rw [hc], by rw [hc, if_neg (by decide : ¬ (11 : Int32) = 0)]⟩)
    · refine fj_bipush (v := 10) C dX4_workContest_58 (by decide) ?_
      exact fj_iret C E9 dX4_workContest_60 (by
      have hc : WCc a S B k q5 = 10 := by rw [WCc, he5, WCd, if_neg (not_not_intro h25), if_pos h55]
      exact ⟨n, (fun _ _ _ => rfl), by rw [hc], by rw [hc, if_neg (by decide : ¬ (10 : Int32) = 0)]⟩)
  · refine fj_bipush (v := 9) C dX4_workContest_28 (by decide) ?_
    exact fj_iret C E9 dX4_workContest_30 (by
      have hc : WCc a S B k q5 = 9 := by rw [WCc, WCd, if_pos h25]
      exact ⟨n, (fun _ _ _ => rfl), by rw [hc], by rw [hc, if_neg (by decide : ¬ (9 : Int32) = 0)]⟩)

set_option maxHeartbeats 4000000 in
set_option maxRecDepth 100000 in
theorem d_X4_workProve (l : Launch) (D : va_G) (ty : Nat → ClassId) (t0 : Nat → Nat) (ad : Nat → Nat) (a : Nat → Nat → Int32) (g : Nat → Nat → Int64) (n : Nat → Int32) (P : Nat) (S : Nat) (T : Nat) (B : Nat) (I : XI P S T B a n) (x : Int32) (k : Nat) (ek : x = nI k) (hk : k < B) (q5 : Nat) (eq5 : a 21 k = nI q5) (hq5 : q5 < 64) (hw : WI B a) : fc l yX4_workProve wsX4_workProve (fj_rm 2 51 0 0) D ty t0 [.ref (ad 25), .int x] (fx_w ad ty a g n) 0 0 (fun v w => ∃ n9 : Nat → Int32, (∀ j, j ≠ 6 → j ≠ 7 → n9 j = n j) ∧ v = some (.int (WPc a S B k q5)) ∧ w = fx_w ad ty (if WPc a S B k q5 = 0 then WPu a S k q5 else a) g n9) := by
  subst ek
  refine fc_start (own := RX4) (cc := cX4_workProve) (maxL := 6) (ret := (some .int)) (by decide) rfl (Nat.le_of_ble_eq_true rfl) rfl ?_
  intro p e s m args below meth c Q A C hmn E9
  obtain ⟨hn0, hP, hn1, hT, hn3, hS, hn4, hB, iLO, iBO, iWho, iSort, iQ, iN⟩ := id I
  have iX4 : ∀ w ∈ u_ws RX4 TX4 18, w ∈ wsX4_workProve := ptX4_workProve_wsX40
  have kX4_61 : Cond.fieldLink RX4 61 "FreeLand$Work" "book" "LFreeLand$Book;" ∈ wsX4_workProve := ptX4_workProve_woX4_workProve _ (by decide +kernel)
  have iX0 : ∀ w ∈ u_ws RX0 TX0 8, w ∈ wsX4_workProve := ptX4_workProve_wsX00
  have kX4_108 : (RX4, 108, "FreeLand$Book", "where", "[I") ∈ nw_F := (by decide +kernel)
  have kX4_76 : (RX4, 76, "FreeLand$Book", "day", "[I") ∈ nw_F := (by decide +kernel)
  have kX4_86 : (RX4, 86, "FreeLand$Book", "who", "[I") ∈ nw_F := (by decide +kernel)
  have kX4_37 : Cond.fieldLink RX4 37 "FreeLand$Work" "held" "[I" ∈ wsX4_workProve := ptX4_workProve_woX4_workProve _ (by decide +kernel)
  have kX4_28 : Cond.fieldLink RX4 28 "FreeLand$Work" "ruling" "[I" ∈ wsX4_workProve := ptX4_workProve_woX4_workProve _ (by decide +kernel)
  have kX4_57 : Cond.fieldLink RX4 57 "FreeLand$Work" "laws" "LFreeLand$Laws;" ∈ wsX4_workProve := ptX4_workProve_woX4_workProve _ (by decide +kernel)
  have kN121 : (RX4, 121, yX2_valueOf) ∈ nw_M := (by decide +kernel)
  have kIX2 : Cond.initialized RX2 ∈ wsX4_workProve := ptX4_workProve_woX4_workProve _ (by decide +kernel)
  have kVX2_valueOf : Cond.instanceMethod yX2_valueOf ∈ wsX4_workProve := ptX4_workProve_woX4_workProve _ (by decide +kernel)
  have kSX2_valueOf : Cond.selects RX2 yX2_valueOf yX2_valueOf ∈ wsX4_workProve := ptX4_workProve_woX4_workProve _ (by decide +kernel)
  have kX4_149 : Cond.fieldLink RX4 149 "FreeLand$Work" "livedDays" "I" ∈ wsX4_workProve := ptX4_workProve_woX4_workProve _ (by decide +kernel)
  have kX4_152 : Cond.fieldLink RX4 152 "FreeLand$Work" "longestGap" "I" ∈ wsX4_workProve := ptX4_workProve_woX4_workProve _ (by decide +kernel)
  have kX4_19 : Cond.fieldLink RX4 19 "FreeLand$Work" "state" "[I" ∈ wsX4_workProve := ptX4_workProve_woX4_workProve _ (by decide +kernel)
  have kX4_31 : Cond.fieldLink RX4 31 "FreeLand$Work" "bindsFrom" "[I" ∈ wsX4_workProve := ptX4_workProve_woX4_workProve _ (by decide +kernel)
  refine fj_lv (lv' := [(0, .ref (ad 25)), (1, .int (nI k))]) [0, 1] rfl ?_
  refine fj_aload_n C 0 dX4_workProve_0 rfl rfl ?_
  refine fj_get (Cn := RX4) (T := TX4) (N := 18) (ci := 4) (v := .ref (ad 17)) C iX4 25 (fx_at25 _ _ _ _ _) rfl 2 (by decide) kX4_61 rfl dX4_workProve_1 ?_
  refine fj_getN (Cn := RX0) (T := TX0) (N := 8) (ci := 0) (v := .ref (ad 21)) C iX0 17 (fx_at17 _ _ _ _ _) rfl 3 (by decide) kX4_108 rfl dX4_workProve_4 ?_
  refine fj_iload_n C 1 dX4_workProve_7 rfl rfl ?_
  refine fj_iald (f := (a 21)) C 21 (fx_at21 _ _ _ _ _) (vp_in_nI (by omega) (by decide)) dX4_workProve_8 ?_
  refine fj_at (y := nI q5) (by rw [nI_clamp (by omega), eq5]) ?_
  refine fj_istore_n (lv' := [(2, .int (nI q5)), (0, .ref (ad 25)), (1, .int (nI k))]) C dX4_workProve_9 rfl (by decide) rfl ?_
  refine fj_aload_n C 1 dX4_workProve_10 rfl rfl ?_
  refine fj_get (Cn := RX4) (T := TX4) (N := 18) (ci := 4) (v := .ref (ad 17)) C iX4 25 (fx_at25 _ _ _ _ _) rfl 2 (by decide) kX4_61 rfl dX4_workProve_11 ?_
  refine fj_getN (Cn := RX0) (T := TX0) (N := 8) (ci := 0) (v := .ref (ad 18)) C iX0 17 (fx_at17 _ _ _ _ _) rfl 0 (by decide) kX4_76 rfl dX4_workProve_14 ?_
  refine fj_iload_n C 2 dX4_workProve_17 rfl rfl ?_
  refine fj_iald (f := (a 18)) C 18 (fx_at18 _ _ _ _ _) (vp_in_nI (by omega) (by decide)) dX4_workProve_18 ?_
  refine fj_at (y := a 18 k) (by rw [nI_clamp (by omega)]) ?_
  refine fj_istore_n (lv' := [(3, .int (a 18 k)), (2, .int (nI q5)), (0, .ref (ad 25)), (1, .int (nI k))]) C dX4_workProve_19 rfl (by decide) rfl ?_
  refine fj_aload_n C 2 dX4_workProve_20 rfl rfl ?_
  refine fj_iload_n C 1 dX4_workProve_21 rfl rfl ?_
  refine fj_aload_n C 2 dX4_workProve_22 rfl rfl ?_
  refine fj_get (Cn := RX4) (T := TX4) (N := 18) (ci := 4) (v := .ref (ad 17)) C iX4 25 (fx_at25 _ _ _ _ _) rfl 2 (by decide) kX4_61 rfl dX4_workProve_23 ?_
  refine fj_getN (Cn := RX0) (T := TX0) (N := 8) (ci := 0) (v := .ref (ad 20)) C iX0 17 (fx_at17 _ _ _ _ _) rfl 2 (by decide) kX4_86 rfl dX4_workProve_26 ?_
  refine fj_iload_n C 3 dX4_workProve_29 rfl rfl ?_
  refine fj_iald (f := (a 20)) C 20 (fx_at20 _ _ _ _ _) (vp_in_nI (by omega) (by decide)) dX4_workProve_30 ?_
  refine fj_at (y := a 20 k) (by rw [nI_clamp (by omega)]) ?_
  refine fj_callVw (As := [.int (nI q5), .int (a 20 k)]) (rest := []) C (d_X4_isHeldLiveBy l D ty t0 ad a g n P S T B I (nI q5) (a 20 k) q5 rfl hq5 hw) (cwV 2 C.2.2.2.2.1 gX4_workProve_X4_isHeldLiveBy rfl rfl rfl (by decide +kernel) ⟨Nat.le_of_ble_eq_true rfl, Nat.le_of_ble_eq_true rfl⟩) ⟨25, 4, _, _, fx_at25 _ _ _ _ _, rfl, rfl⟩ rfl (Nat.le_of_ble_eq_true rfl) dX4_workProve_31 ⟨Nat.zero_le _, Nat.zero_le _⟩ (fun v9 w9 hp9 => ?_)
  obtain ⟨rfl, rfl⟩ := hp9
  refine fj_st (st' := .int (if HLV a q5 ∧ (a 28) ((a 33) q5).toNatClampNeg = (a 20 k) then 1 else 0) :: []) rfl ?_
  refine fj_ifb_ne (tgt := 40) C dX4_workProve_34 (by decide) (fun h34 => ?_) (fun h34 => ?_)
  · refine fj_aload_n C 2 dX4_workProve_40 rfl rfl ?_
    refine fj_get (Cn := RX4) (T := TX4) (N := 18) (ci := 4) (v := .ref (ad 33)) C iX4 25 (fx_at25 _ _ _ _ _) rfl 11 (by decide) kX4_37 rfl dX4_workProve_41 ?_
    refine fj_iload_n C 1 dX4_workProve_44 rfl rfl ?_
    refine fj_iald (f := (a 33)) C 33 (fx_at33 _ _ _ _ _) (vp_in_nI (by omega) (by decide)) dX4_workProve_45 ?_
    obtain ⟨e9, t9, he9, ee9, ht9, et9⟩ := (hw q5 hq5).resolve_left h34.1.1
    have he5 : (a 33 q5).toNatClampNeg = e9 := by rw [ee9, nI_clamp (by omega)]
    refine fj_at (y := nI e9) (by rw [nI_clamp (by omega), ee9]) ?_
    refine fj_istore (lv' := [(4, .int (nI e9)), (3, .int (a 18 k)), (2, .int (nI q5)), (0, .ref (ad 25)), (1, .int (nI k))]) C dX4_workProve_46 (by decide) rfl ?_
    refine fj_aload_n C 3 dX4_workProve_48 rfl rfl ?_
    refine fj_get (Cn := RX4) (T := TX4) (N := 18) (ci := 4) (v := .ref (ad 30)) C iX4 25 (fx_at25 _ _ _ _ _) rfl 8 (by decide) kX4_28 rfl dX4_workProve_49 ?_
    refine fj_iload C 0 dX4_workProve_52 rfl ?_
    refine fj_iald (f := (a 30)) C 30 (fx_at30 _ _ _ _ _) (vp_in_nI (by omega) (by decide)) dX4_workProve_54 ?_
    refine fj_at (y := a 30 e9) (by rw [nI_clamp (by omega)]) ?_
    refine fj_istore (lv' := [(5, .int (a 30 e9)), (4, .int (nI e9)), (3, .int (a 18 k)), (2, .int (nI q5)), (0, .ref (ad 25)), (1, .int (nI k))]) C dX4_workProve_55 (by decide) rfl ?_
    refine fj_iload_n C 2 dX4_workProve_57 rfl rfl ?_
    refine fj_aload_n C 4 dX4_workProve_58 rfl rfl ?_
    refine fj_get (Cn := RX4) (T := TX4) (N := 18) (ci := 4) (v := .ref (ad 17)) C iX4 25 (fx_at25 _ _ _ _ _) rfl 2 (by decide) kX4_61 rfl dX4_workProve_59 ?_
    refine fj_getN (Cn := RX0) (T := TX0) (N := 8) (ci := 0) (v := .ref (ad 18)) C iX0 17 (fx_at17 _ _ _ _ _) rfl 0 (by decide) kX4_76 rfl dX4_workProve_62 ?_
    refine fj_iload C 1 dX4_workProve_65 rfl ?_
    refine fj_iald (f := (a 18)) C 18 (fx_at18 _ _ _ _ _) (vp_in_nI (by omega) (by decide)) dX4_workProve_67 ?_
    refine fj_at (y := a 18 e9) (by rw [nI_clamp (by omega)]) ?_
    refine fj_isub C dX4_workProve_68 ?_
    refine fj_aload_n C 4 dX4_workProve_69 rfl rfl ?_
    refine fj_get (Cn := RX4) (T := TX4) (N := 18) (ci := 4) (v := .ref (ad 4)) C iX4 25 (fx_at25 _ _ _ _ _) rfl 1 (by decide) kX4_57 rfl dX4_workProve_70 ?_
    refine fj_iload C 0 dX4_workProve_73 rfl ?_
    refine fj_iconst (v := 4) C dX4_workProve_75 (by decide) ?_
    refine fj_callVNw (As := [.int (a 30 e9), .int 4]) (rest := [.int ((a 18 k) - (a 18 e9))]) C (d_X2_valueOf l D ty t0 ad a g n P S T B I (a 30 e9) 4 4 rfl (by decide)) ⟨va_cnB 2 C.2.2.2.2.1 gX4_workProve_X2_valueOf_n121 rfl rfl rfl (nw_m C.2.2.2.2.2.2.2.1 kN121) (C.2.2.2.2.1 _ kIX2) (by decide +kernel) ⟨Nat.le_of_ble_eq_true rfl, Nat.le_of_ble_eq_true rfl⟩, C.2.2.2.2.1 _ kVX2_valueOf, C.2.2.2.2.1 _ kSX2_valueOf⟩ ⟨4, 2, _, _, fx_at4 _ _ _ _ _, rfl, rfl⟩ rfl (Nat.le_of_ble_eq_true rfl) dX4_workProve_76 ⟨Nat.zero_le _, Nat.zero_le _⟩ (fun v9 w9 hp9 => ?_)
    obtain ⟨rfl, rfl⟩ := hp9
    refine fj_st (st' := .int (vof a (a 30 e9) 4 S 0) :: [.int ((a 18 k) - (a 18 e9))]) rfl ?_
    refine fj_icmp_le (tgt := 85) C dX4_workProve_79 (by decide) (fun h79 => ?_) (fun h79 => ?_)
    · refine fj_aload_n C 4 dX4_workProve_85 rfl rfl ?_
      refine fj_iload C 1 dX4_workProve_86 rfl ?_
      refine fj_aload_n C 4 dX4_workProve_88 rfl rfl ?_
      refine fj_get (Cn := RX4) (T := TX4) (N := 18) (ci := 4) (v := .ref (ad 17)) C iX4 25 (fx_at25 _ _ _ _ _) rfl 2 (by decide) kX4_61 rfl dX4_workProve_89 ?_
      refine fj_getN (Cn := RX0) (T := TX0) (N := 8) (ci := 0) (v := .ref (ad 18)) C iX0 17 (fx_at17 _ _ _ _ _) rfl 0 (by decide) kX4_76 rfl dX4_workProve_92 ?_
      refine fj_iload C 1 dX4_workProve_95 rfl ?_
      refine fj_iald (f := (a 18)) C 18 (fx_at18 _ _ _ _ _) (vp_in_nI (by omega) (by decide)) dX4_workProve_97 ?_
      refine fj_at (y := a 18 e9) (by rw [nI_clamp (by omega)]) ?_
      refine fj_iload_n C 2 dX4_workProve_98 rfl rfl ?_
      refine fj_iconst (v := 1) C dX4_workProve_99 (by decide) ?_
      refine fj_isub C dX4_workProve_100 ?_
      refine fj_callVw (As := [.int (nI e9), .int (a 18 e9), .int ((a 18 k) - 1)]) (rest := []) C (d_X4_lookAtLiving l D ty t0 ad a g n P S T B I (nI e9) (a 18 e9) ((a 18 k) - 1) e9 rfl (by omega)) (cwV 3 C.2.2.2.2.1 gX4_workProve_X4_lookAtLiving rfl rfl rfl (by decide +kernel) ⟨Nat.le_of_ble_eq_true rfl, Nat.le_of_ble_eq_true rfl⟩) ⟨25, 4, _, _, fx_at25 _ _ _ _ _, rfl, rfl⟩ rfl (Nat.le_of_ble_eq_true rfl) dX4_workProve_101 ⟨Nat.zero_le _, Nat.zero_le _⟩ (fun v9 w9 hp9 => ?_)
      obtain ⟨rfl, rfl⟩ := hp9
      refine fj_st (st' := []) rfl ?_
      refine fj_aload_n C 4 dX4_workProve_104 rfl rfl ?_
      refine fj_get (Cn := RX4) (T := TX4) (N := 18) (ci := 4) (v := .int ((lkF a e9 (a 18 e9) ((a 18 k) - 1) B).2.1)) C iX4 25 (fx_at25 _ _ _ _ _) rfl 16 (by decide) kX4_149 rfl dX4_workProve_105 ?_
      refine fj_aload_n C 4 dX4_workProve_108 rfl rfl ?_
      refine fj_get (Cn := RX4) (T := TX4) (N := 18) (ci := 4) (v := .ref (ad 4)) C iX4 25 (fx_at25 _ _ _ _ _) rfl 1 (by decide) kX4_57 rfl dX4_workProve_109 ?_
      refine fj_iload C 0 dX4_workProve_112 rfl ?_
      refine fj_iconst (v := 1) C dX4_workProve_114 (by decide) ?_
      refine fj_callVNw (As := [.int (a 30 e9), .int 1]) (rest := [.int ((lkF a e9 (a 18 e9) ((a 18 k) - 1) B).2.1)]) C (d_X2_valueOf l D ty t0 ad a g (va_up (va_up n 6 ((lkF a e9 (a 18 e9) ((a 18 k) - 1) B).2.1)) 7 (lkG ((a 18 k) - 1) (lkF a e9 (a 18 e9) ((a 18 k) - 1) B))) P S T B I (a 30 e9) 1 1 rfl (by decide)) ⟨va_cnB 2 C.2.2.2.2.1 gX4_workProve_X2_valueOf_n121 rfl rfl rfl (nw_m C.2.2.2.2.2.2.2.1 kN121) (C.2.2.2.2.1 _ kIX2) (by decide +kernel) ⟨Nat.le_of_ble_eq_true rfl, Nat.le_of_ble_eq_true rfl⟩, C.2.2.2.2.1 _ kVX2_valueOf, C.2.2.2.2.1 _ kSX2_valueOf⟩ ⟨4, 2, _, _, fx_at4 _ _ _ _ _, rfl, rfl⟩ rfl (Nat.le_of_ble_eq_true rfl) dX4_workProve_115 ⟨Nat.zero_le _, Nat.zero_le _⟩ (fun v9 w9 hp9 => ?_)
      obtain ⟨rfl, rfl⟩ := hp9
      refine fj_st (st' := .int (vof a (a 30 e9) 1 S 0) :: [.int ((lkF a e9 (a 18 e9) ((a 18 k) - 1) B).2.1)]) rfl ?_
      refine fj_icmp_ge (tgt := 124) C dX4_workProve_118 (by decide) (fun h118 => ?_) (fun h118 => ?_)
      · refine fj_aload_n C 4 dX4_workProve_124 rfl rfl ?_
        refine fj_get (Cn := RX4) (T := TX4) (N := 18) (ci := 4) (v := .int (lkG ((a 18 k) - 1) (lkF a e9 (a 18 e9) ((a 18 k) - 1) B))) C iX4 25 (fx_at25 _ _ _ _ _) rfl 17 (by decide) kX4_152 rfl dX4_workProve_125 ?_
        refine fj_aload_n C 4 dX4_workProve_128 rfl rfl ?_
        refine fj_get (Cn := RX4) (T := TX4) (N := 18) (ci := 4) (v := .ref (ad 4)) C iX4 25 (fx_at25 _ _ _ _ _) rfl 1 (by decide) kX4_57 rfl dX4_workProve_129 ?_
        refine fj_iload C 0 dX4_workProve_132 rfl ?_
        refine fj_iconst (v := 2) C dX4_workProve_134 (by decide) ?_
        refine fj_callVNw (As := [.int (a 30 e9), .int 2]) (rest := [.int (lkG ((a 18 k) - 1) (lkF a e9 (a 18 e9) ((a 18 k) - 1) B))]) C (d_X2_valueOf l D ty t0 ad a g (va_up (va_up n 6 ((lkF a e9 (a 18 e9) ((a 18 k) - 1) B).2.1)) 7 (lkG ((a 18 k) - 1) (lkF a e9 (a 18 e9) ((a 18 k) - 1) B))) P S T B I (a 30 e9) 2 2 rfl (by decide)) ⟨va_cnB 2 C.2.2.2.2.1 gX4_workProve_X2_valueOf_n121 rfl rfl rfl (nw_m C.2.2.2.2.2.2.2.1 kN121) (C.2.2.2.2.1 _ kIX2) (by decide +kernel) ⟨Nat.le_of_ble_eq_true rfl, Nat.le_of_ble_eq_true rfl⟩, C.2.2.2.2.1 _ kVX2_valueOf, C.2.2.2.2.1 _ kSX2_valueOf⟩ ⟨4, 2, _, _, fx_at4 _ _ _ _ _, rfl, rfl⟩ rfl (Nat.le_of_ble_eq_true rfl) dX4_workProve_135 ⟨Nat.zero_le _, Nat.zero_le _⟩ (fun v9 w9 hp9 => ?_)
        obtain ⟨rfl, rfl⟩ := hp9
        refine fj_st (st' := .int (vof a (a 30 e9) 2 S 0) :: [.int (lkG ((a 18 k) - 1) (lkF a e9 (a 18 e9) ((a 18 k) - 1) B))]) rfl ?_
        refine fj_icmp_le (tgt := 144) C dX4_workProve_138 (by decide) (fun h138 => ?_) (fun h138 => ?_)
        · refine fj_aload_n C 4 dX4_workProve_144 rfl rfl ?_
          refine fj_iload_n C 3 dX4_workProve_145 rfl rfl ?_
          refine fj_callVw (As := [.int (nI q5)]) (rest := []) C (d_X4_acres l D ty t0 ad a g (va_up (va_up n 6 ((lkF a e9 (a 18 e9) ((a 18 k) - 1) B).2.1)) 7 (lkG ((a 18 k) - 1) (lkF a e9 (a 18 e9) ((a 18 k) - 1) B))) P S T B I (nI q5) q5 rfl hq5 hw) (cwV 1 C.2.2.2.2.1 gX4_workProve_X4_acres rfl rfl rfl (by decide +kernel) ⟨Nat.le_of_ble_eq_true rfl, Nat.le_of_ble_eq_true rfl⟩) ⟨25, 4, _, _, fx_at25 _ _ _ _ _, rfl, rfl⟩ rfl (Nat.le_of_ble_eq_true rfl) dX4_workProve_146 ⟨Nat.zero_le _, Nat.zero_le _⟩ (fun v9 w9 hp9 => ?_)
          obtain ⟨rfl, rfl⟩ := hp9
          refine fj_st (st' := .int (if (a 33) q5 = -1 then 0 else acF a ((a 33) q5).toNatClampNeg ((a 32) ((a 33) q5).toNatClampNeg).toNatClampNeg (B - ((a 32) ((a 33) q5).toNatClampNeg).toNatClampNeg)) :: []) rfl ?_
          refine fj_aload_n C 4 dX4_workProve_149 rfl rfl ?_
          refine fj_get (Cn := RX4) (T := TX4) (N := 18) (ci := 4) (v := .ref (ad 4)) C iX4 25 (fx_at25 _ _ _ _ _) rfl 1 (by decide) kX4_57 rfl dX4_workProve_150 ?_
          refine fj_iload C 0 dX4_workProve_153 rfl ?_
          refine fj_iconst (v := 3) C dX4_workProve_155 (by decide) ?_
          refine fj_callVNw (As := [.int (a 30 e9), .int 3]) (rest := [.int (if (a 33) q5 = -1 then 0 else acF a ((a 33) q5).toNatClampNeg ((a 32) ((a 33) q5).toNatClampNeg).toNatClampNeg (B - ((a 32) ((a 33) q5).toNatClampNeg).toNatClampNeg))]) C (d_X2_valueOf l D ty t0 ad a g (va_up (va_up n 6 ((lkF a e9 (a 18 e9) ((a 18 k) - 1) B).2.1)) 7 (lkG ((a 18 k) - 1) (lkF a e9 (a 18 e9) ((a 18 k) - 1) B))) P S T B I (a 30 e9) 3 3 rfl (by decide)) ⟨va_cnB 2 C.2.2.2.2.1 gX4_workProve_X2_valueOf_n121 rfl rfl rfl (nw_m C.2.2.2.2.2.2.2.1 kN121) (C.2.2.2.2.1 _ kIX2) (by decide +kernel) ⟨Nat.le_of_ble_eq_true rfl, Nat.le_of_ble_eq_true rfl⟩, C.2.2.2.2.1 _ kVX2_valueOf, C.2.2.2.2.1 _ kSX2_valueOf⟩ ⟨4, 2, _, _, fx_at4 _ _ _ _ _, rfl, rfl⟩ rfl (Nat.le_of_ble_eq_true rfl) dX4_workProve_156 ⟨Nat.zero_le _, Nat.zero_le _⟩ (fun v9 w9 hp9 => ?_)
          obtain ⟨rfl, rfl⟩ := hp9
          refine fj_st (st' := .int (vof a (a 30 e9) 3 S 0) :: [.int (if (a 33) q5 = -1 then 0 else acF a ((a 33) q5).toNatClampNeg ((a 32) ((a 33) q5).toNatClampNeg).toNatClampNeg (B - ((a 32) ((a 33) q5).toNatClampNeg).toNatClampNeg))]) rfl ?_
          refine fj_icmp_ge (tgt := 165) C dX4_workProve_159 (by decide) (fun h159 => ?_) (fun h159 => ?_)
          · refine fj_aload_n C 4 dX4_workProve_165 rfl rfl ?_
            refine fj_get (Cn := RX4) (T := TX4) (N := 18) (ci := 4) (v := .ref (ad 27)) C iX4 25 (fx_at25 _ _ _ _ _) rfl 5 (by decide) kX4_19 rfl dX4_workProve_166 ?_
            refine fj_iload C 1 dX4_workProve_169 rfl ?_
            refine fj_iconst (v := 2) C dX4_workProve_171 (by decide) ?_
            refine fj_iast (f := (a 27)) C 27 (fx_at27 _ _ _ _ _) (vp_in_nI (by omega) (by decide)) dX4_workProve_172 (fx_st27 _ _ _ _ _ _) ?_
            refine fj_ws (ws' := (fx_w ad ty (va_up a 27 (upd (a 27) e9 2)) g (va_up (va_up n 6 ((lkF a e9 (a 18 e9) ((a 18 k) - 1) B).2.1)) 7 (lkG ((a 18 k) - 1) (lkF a e9 (a 18 e9) ((a 18 k) - 1) B))))) (by rw [nI_clamp (by omega)]) ?_
            refine fj_aload_n C 4 dX4_workProve_173 rfl rfl ?_
            refine fj_get (Cn := RX4) (T := TX4) (N := 18) (ci := 4) (v := .ref (ad 31)) C iX4 25 (fx_at25 _ _ _ _ _) rfl 9 (by decide) kX4_31 rfl dX4_workProve_174 ?_
            refine fj_iload C 1 dX4_workProve_177 rfl ?_
            refine fj_iload_n C 2 dX4_workProve_179 rfl rfl ?_
            refine fj_aload_n C 4 dX4_workProve_180 rfl rfl ?_
            refine fj_get (Cn := RX4) (T := TX4) (N := 18) (ci := 4) (v := .ref (ad 4)) C iX4 25 (fx_at25 _ _ _ _ _) rfl 1 (by decide) kX4_57 rfl dX4_workProve_181 ?_
            refine fj_iload C 0 dX4_workProve_184 rfl ?_
            refine fj_bipush (v := 8) C dX4_workProve_186 (by decide) ?_
            refine fj_callVNw (As := [.int (a 30 e9), .int 8]) (rest := [.int (a 18 k), .int (nI e9), .ref (ad 31)]) C (d_X2_valueOf l D ty t0 ad (va_up a 27 (upd (a 27) e9 2)) g (va_up (va_up n 6 ((lkF a e9 (a 18 e9) ((a 18 k) - 1) B).2.1)) 7 (lkG ((a 18 k) - 1) (lkF a e9 (a 18 e9) ((a 18 k) - 1) B))) P S T B I (a 30 e9) 8 8 rfl (by decide)) ⟨va_cnB 2 C.2.2.2.2.1 gX4_workProve_X2_valueOf_n121 rfl rfl rfl (nw_m C.2.2.2.2.2.2.2.1 kN121) (C.2.2.2.2.1 _ kIX2) (by decide +kernel) ⟨Nat.le_of_ble_eq_true rfl, Nat.le_of_ble_eq_true rfl⟩, C.2.2.2.2.1 _ kVX2_valueOf, C.2.2.2.2.1 _ kSX2_valueOf⟩ ⟨4, 2, _, _, fx_at4 _ _ _ _ _, rfl, rfl⟩ rfl (Nat.le_of_ble_eq_true rfl) dX4_workProve_188 ⟨Nat.zero_le _, Nat.zero_le _⟩ (fun v9 w9 hp9 => ?_)
            obtain ⟨rfl, rfl⟩ := hp9
            refine fj_st (st' := .int (vof (va_up a 27 (upd (a 27) e9 2)) (a 30 e9) 8 S 0) :: [.int (a 18 k), .int (nI e9), .ref (ad 31)]) rfl ?_
            refine fj_iadd C dX4_workProve_191 ?_
            refine fj_iast (f := (a 31)) C 31 (fx_at31 _ _ _ _ _) (vp_in_nI (by omega) (by decide)) dX4_workProve_192 (fx_st31 _ _ _ _ _ _) ?_
            refine fj_ws (ws' := (fx_w ad ty (va_up (va_up a 27 (upd (a 27) e9 2)) 31 (upd (a 31) e9 (a 18 k + vof (va_up a 27 (upd (a 27) e9 2)) (a 30 e9) 8 S 0))) g (va_up (va_up n 6 ((lkF a e9 (a 18 e9) ((a 18 k) - 1) B).2.1)) 7 (lkG ((a 18 k) - 1) (lkF a e9 (a 18 e9) ((a 18 k) - 1) B))))) (by rw [nI_clamp (by omega)]) ?_
            refine fj_iconst (v := 0) C dX4_workProve_193 (by decide) ?_
            exact fj_iret C E9 dX4_workProve_194 (by
      have hc : WPc a S B k q5 = 0 := by rw [WPc, he5, WPd, if_neg (not_not_intro (show HLV a q5 ∧ a 28 e9 = a 20 k from ⟨h34.1, by have := h34.2; rwa [he5] at this⟩)), if_neg (Int32.not_lt.mpr h79), if_neg (Int32.not_lt.mpr h118), if_neg (Int32.not_lt.mpr h138), if_neg (Int32.not_lt.mpr h159)]
      exact ⟨(va_up (va_up n 6 ((lkF a e9 (a 18 e9) ((a 18 k) - 1) B).2.1)) 7 (lkG ((a 18 k) - 1) (lkF a e9 (a 18 e9) ((a 18 k) - 1) B))), (fx_67 _ _ _), by rw [hc], by rw [hc, if_pos rfl, WPu, he5]; rfl⟩)
          · refine fj_bipush (v := 15) C dX4_workProve_162 (by decide) ?_
            exact fj_iret C E9 dX4_workProve_164 (by
      have hc : WPc a S B k q5 = 15 := by rw [WPc, he5, WPd, if_neg (not_not_intro (show HLV a q5 ∧ a 28 e9 = a 20 k from ⟨h34.1, by have := h34.2; rwa [he5] at this⟩)), if_neg (Int32.not_lt.mpr h79), if_neg (Int32.not_lt.mpr h118), if_neg (Int32.not_lt.mpr h138), if_pos (Int32.not_le.mp h159)]
      exact ⟨(va_up (va_up n 6 ((lkF a e9 (a 18 e9) ((a 18 k) - 1) B).2.1)) 7 (lkG ((a 18 k) - 1) (lkF a e9 (a 18 e9) ((a 18 k) - 1) B))), (fx_67 _ _ _), by rw [hc], by rw [hc, if_neg (by decide : ¬ (15 : Int32) = 0)]⟩)
        · refine fj_bipush (v := 14) C dX4_workProve_141 (by decide) ?_
          exact fj_iret C E9 dX4_workProve_143 (by
      have hc : WPc a S B k q5 = 14 := by rw [WPc, he5, WPd, if_neg (not_not_intro (show HLV a q5 ∧ a 28 e9 = a 20 k from ⟨h34.1, by have := h34.2; rwa [he5] at this⟩)), if_neg (Int32.not_lt.mpr h79), if_neg (Int32.not_lt.mpr h118), if_pos (Int32.not_le.mp h138)]
      exact ⟨(va_up (va_up n 6 ((lkF a e9 (a 18 e9) ((a 18 k) - 1) B).2.1)) 7 (lkG ((a 18 k) - 1) (lkF a e9 (a 18 e9) ((a 18 k) - 1) B))), (fx_67 _ _ _), by rw [hc], by rw [hc, if_neg (by decide : ¬ (14 : Int32) = 0)]⟩)
      · refine fj_bipush (v := 13) C dX4_workProve_121 (by decide) ?_
        exact fj_iret C E9 dX4_workProve_123 (by
      have hc : WPc a S B k q5 = 13 := by rw [WPc, he5, WPd, if_neg (not_not_intro (show HLV a q5 ∧ a 28 e9 = a 20 k from ⟨h34.1, by have := h34.2; rwa [he5] at this⟩)), if_neg (Int32.not_lt.mpr h79), if_pos (Int32.not_le.mp h118)]
      exact ⟨(va_up (va_up n 6 ((lkF a e9 (a 18 e9) ((a 18 k) - 1) B).2.1)) 7 (lkG ((a 18 k) - 1) (lkF a e9 (a 18 e9) ((a 18 k) - 1) B))), (fx_67 _ _ _), by rw [hc], by rw [hc, if_neg (by decide : ¬ (13 : Int32) = 0)]⟩)
    · refine fj_bipush (v := 12) C dX4_workProve_82 (by decide) ?_
      exact fj_iret C E9 dX4_workProve_84 (by
      have hc : WPc a S B k q5 = 12 := by rw [WPc, he5, WPd, if_neg (not_not_intro (show HLV a q5 ∧ a 28 e9 = a 20 k from ⟨h34.1, by have := h34.2; rwa [he5] at this⟩)), if_pos (Int32.not_le.mp h79)]
      exact ⟨n, (fun _ _ _ => rfl), by rw [hc], by rw [hc, if_neg (by decide : ¬ (12 : Int32) = 0)]⟩)
  · refine fj_bipush (v := 8) C dX4_workProve_37 (by decide) ?_
    exact fj_iret C E9 dX4_workProve_39 (by
      have hc : WPc a S B k q5 = 8 := by rw [WPc, WPd, if_pos h34]
      exact ⟨n, (fun _ _ _ => rfl), by rw [hc], by rw [hc, if_neg (by decide : ¬ (8 : Int32) = 0)]⟩)

set_option maxHeartbeats 4000000 in
set_option maxRecDepth 100000 in
theorem d_X4_workDeath (l : Launch) (D : va_G) (ty : Nat → ClassId) (t0 : Nat → Nat) (ad : Nat → Nat) (a : Nat → Nat → Int32) (g : Nat → Nat → Int64) (n : Nat → Int32) (P : Nat) (S : Nat) (T : Nat) (B : Nat) (I : XI P S T B a n) (x : Int32) (k : Nat) (ek : x = nI k) (hk : k < B) (p5 : Nat) (ep5 : a 20 k = nI p5) (hp5 : p5 < 12) (h5 : Nat) (eh5 : a 22 k = nI h5) (hh5 : h5 < 12) (hw : WI B a) : fc l yX4_workDeath wsX4_workDeath (fj_rm 1 21 0 0) D ty t0 [.ref (ad 25), .int x] (fx_w ad ty a g n) 0 0 (fun v w => v = some (.int (WDc a p5 h5)) ∧ w = fx_w ad ty (if WDc a p5 h5 = 0 then WDu a p5 h5 else a) g n) := by
  subst ek
  refine fc_start (own := RX4) (cc := cX4_workDeath) (maxL := 5) (ret := (some .int)) (by decide) rfl (Nat.le_of_ble_eq_true rfl) rfl ?_
  intro p e s m args below meth c Q A C hmn E9
  obtain ⟨hn0, hP, hn1, hT, hn3, hS, hn4, hB, iLO, iBO, iWho, iSort, iQ, iN⟩ := id I
  have iX4 : ∀ w ∈ u_ws RX4 TX4 18, w ∈ wsX4_workDeath := ptX4_workDeath_wsX40
  have kX4_61 : Cond.fieldLink RX4 61 "FreeLand$Work" "book" "LFreeLand$Book;" ∈ wsX4_workDeath := ptX4_workDeath_woX4_workDeath _ (by decide +kernel)
  have iX0 : ∀ w ∈ u_ws RX0 TX0 8, w ∈ wsX4_workDeath := ptX4_workDeath_wsX00
  have kX4_86 : (RX4, 86, "FreeLand$Book", "who", "[I") ∈ nw_F := (by decide +kernel)
  have kX4_158 : (RX4, 158, "FreeLand$Book", "number", "[I") ∈ nw_F := (by decide +kernel)
  have kX4_46 : Cond.fieldLink RX4 46 "FreeLand$Work" "dead" "[Z" ∈ wsX4_workDeath := ptX4_workDeath_woX4_workDeath _ (by decide +kernel)
  have kX4_22 : Cond.fieldLink RX4 22 "FreeLand$Work" "holder" "[I" ∈ wsX4_workDeath := ptX4_workDeath_woX4_workDeath _ (by decide +kernel)
  have kX4_37 : Cond.fieldLink RX4 37 "FreeLand$Work" "held" "[I" ∈ wsX4_workDeath := ptX4_workDeath_woX4_workDeath _ (by decide +kernel)
  have kX4_25 : Cond.fieldLink RX4 25 "FreeLand$Work" "holders" "[I" ∈ wsX4_workDeath := ptX4_workDeath_woX4_workDeath _ (by decide +kernel)
  refine fj_lv (lv' := [(0, .ref (ad 25)), (1, .int (nI k))]) [0, 1] rfl ?_
  refine fj_aload_n C 0 dX4_workDeath_0 rfl rfl ?_
  refine fj_get (Cn := RX4) (T := TX4) (N := 18) (ci := 4) (v := .ref (ad 17)) C iX4 25 (fx_at25 _ _ _ _ _) rfl 2 (by decide) kX4_61 rfl dX4_workDeath_1 ?_
  refine fj_getN (Cn := RX0) (T := TX0) (N := 8) (ci := 0) (v := .ref (ad 20)) C iX0 17 (fx_at17 _ _ _ _ _) rfl 2 (by decide) kX4_86 rfl dX4_workDeath_4 ?_
  refine fj_iload_n C 1 dX4_workDeath_7 rfl rfl ?_
  refine fj_iald (f := (a 20)) C 20 (fx_at20 _ _ _ _ _) (vp_in_nI (by omega) (by decide)) dX4_workDeath_8 ?_
  refine fj_at (y := nI p5) (by rw [nI_clamp (by omega), ep5]) ?_
  refine fj_istore_n (lv' := [(2, .int (nI p5)), (0, .ref (ad 25)), (1, .int (nI k))]) C dX4_workDeath_9 rfl (by decide) rfl ?_
  refine fj_aload_n C 1 dX4_workDeath_10 rfl rfl ?_
  refine fj_get (Cn := RX4) (T := TX4) (N := 18) (ci := 4) (v := .ref (ad 17)) C iX4 25 (fx_at25 _ _ _ _ _) rfl 2 (by decide) kX4_61 rfl dX4_workDeath_11 ?_
  refine fj_getN (Cn := RX0) (T := TX0) (N := 8) (ci := 0) (v := .ref (ad 22)) C iX0 17 (fx_at17 _ _ _ _ _) rfl 4 (by decide) kX4_158 rfl dX4_workDeath_14 ?_
  refine fj_iload_n C 2 dX4_workDeath_17 rfl rfl ?_
  refine fj_iald (f := (a 22)) C 22 (fx_at22 _ _ _ _ _) (vp_in_nI (by omega) (by decide)) dX4_workDeath_18 ?_
  refine fj_at (y := nI h5) (by rw [nI_clamp (by omega), eh5]) ?_
  refine fj_istore_n (lv' := [(3, .int (nI h5)), (2, .int (nI p5)), (0, .ref (ad 25)), (1, .int (nI k))]) C dX4_workDeath_19 rfl (by decide) rfl ?_
  refine fj_iload_n C 0 dX4_workDeath_20 rfl rfl ?_
  refine fj_iload_n C 1 dX4_workDeath_21 rfl rfl ?_
  refine fj_icmp_eq (tgt := 34) C dX4_workDeath_22 (by decide) (fun h22 => ?_) (fun h22 => ?_)
  · refine fj_bipush (v := 16) C dX4_workDeath_34 (by decide) ?_
    exact fj_iret C E9 dX4_workDeath_36 (by
      have hc : WDc a p5 h5 = 16 := if_pos (by first | exact Or.inl h22 | exact Or.inr h31)
      exact ⟨by rw [hc], by rw [hc, if_neg (by decide : ¬ (16 : Int32) = 0)]⟩)
  · refine fj_aload_n C 2 dX4_workDeath_25 rfl rfl ?_
    refine fj_get (Cn := RX4) (T := TX4) (N := 18) (ci := 4) (v := .ref (ad 36)) C iX4 25 (fx_at25 _ _ _ _ _) rfl 14 (by decide) kX4_46 rfl dX4_workDeath_26 ?_
    refine fj_iload_n C 0 dX4_workDeath_29 rfl rfl ?_
    refine fj_zald (f := (a 36)) C 36 (fx_at36 _ _ _ _ _) (vp_in_nI (by omega) (by decide)) dX4_workDeath_30 ?_
    refine fj_at (y := a 36 h5) (by rw [nI_clamp (by omega)]) ?_
    refine fj_if_eq (tgt := 37) C dX4_workDeath_31 (by decide) (fun h31 => ?_) (fun h31 => ?_)
    · refine fj_aload_n C 2 dX4_workDeath_37 rfl rfl ?_
      refine fj_get (Cn := RX4) (T := TX4) (N := 18) (ci := 4) (v := .ref (ad 36)) C iX4 25 (fx_at25 _ _ _ _ _) rfl 14 (by decide) kX4_46 rfl dX4_workDeath_38 ?_
      refine fj_iload_n C 1 dX4_workDeath_41 rfl rfl ?_
      refine fj_iconst (v := 1) C dX4_workDeath_42 (by decide) ?_
      refine fj_zast (f := (a 36)) C 36 (fx_at36 _ _ _ _ _) (vp_in_nI (by omega) (by decide)) dX4_workDeath_43 (fx_st36 _ _ _ _ _ _) ?_
      refine fj_ws (ws' := (fx_w ad ty (va_up a 36 (upd (a 36) p5 1)) g n)) (by rw [nI_clamp (by omega)]; rfl) ?_
      refine fj_iconst (v := 0) C dX4_workDeath_44 (by decide) ?_
      refine fj_istore (lv' := [(4, .int 0), (3, .int (nI h5)), (2, .int (nI p5)), (0, .ref (ad 25)), (1, .int (nI k))]) C dX4_workDeath_45 (by decide) rfl ?_
      refine fj_lv (lv' := [(0, .ref (ad 25)), (1, .int (nI k)), (2, .int (nI p5)), (3, .int (nI h5)), (4, .int 0)]) [3, 4, 2, 1, 0] rfl ?_
      have lp47 : ∀ (i : Nat) (f : Nat → Int32) (f2 : Nat → Int32), (i ≤ 64) → (dth a (nI p5) (nI h5) i = (f, f2)) → fj p l e (fj_rm 1 21 0 0) s m args below meth c Q A D 5 0 0 (fx_w ad ty (va_up (va_up (va_up a 36 (upd (a 36) p5 1)) 28 f) 29 f2) g n) [(0, .ref (ad 25)), (1, .int (nI k)), (2, .int (nI p5)), (3, .int (nI h5)), (4, .int (nI i))] 47 [] := by
        have key : ∀ zz : Nat × (Nat → Int32) × (Nat → Int32), (fun (zz : Nat × (Nat → Int32) × (Nat → Int32)) => match zz with | (i, f, f2) => (i ≤ 64) → (dth a (nI p5) (nI h5) i = (f, f2)) → fj p l e (fj_rm 1 21 0 0) s m args below meth c Q A D 5 0 0 (fx_w ad ty (va_up (va_up (va_up a 36 (upd (a 36) p5 1)) 28 f) 29 f2) g n) [(0, .ref (ad 25)), (1, .int (nI k)), (2, .int (nI p5)), (3, .int (nI h5)), (4, .int (nI i))] 47 []) zz := by
          refine fx_ind (fun (zz : Nat × (Nat → Int32) × (Nat → Int32)) => match zz with | (i, f, f2) => 64 - i) _ ?_
          rintro ⟨i, f, f2⟩ ih hi hst
          refine fj_iload C 4 dX4_workDeath_47 rfl ?_
          refine fj_bipush (v := 64) C dX4_workDeath_49 (by decide) ?_
          refine fj_icmp_ge (tgt := 101) C dX4_workDeath_51 (by decide) (fun h51 => ?_) (fun h51 => ?_)
          · obtain rfl : i = 64 := by have := (nI_leI (a := 64) (by decide) (by omega)).mp h51; omega
            refine fj_iconst (v := 0) C dX4_workDeath_101 (by decide) ?_
            exact fj_iret C E9 dX4_workDeath_102 (by
      have hc : WDc a p5 h5 = 0 := if_neg (fun z => z.elim h22 (fun y => y h31))
      exact ⟨by rw [hc], by rw [hc, if_pos rfl, WDu, hst]⟩)
          · have hlt : i < 64 := Nat.lt_of_not_le fun q => h51 ((nI_leI (a := 64) (by decide) (by omega)).mpr q)
            refine fj_aload_n C 0 dX4_workDeath_54 rfl rfl ?_
            refine fj_iload C 4 dX4_workDeath_55 rfl ?_
            refine fj_callVw (As := [.int (nI i)]) (rest := []) C (d_X4_holderOf l D ty t0 ad (va_up (va_up (va_up a 36 (upd (a 36) p5 1)) 28 f) 29 f2) g n P S T B I (nI i) i rfl (by omega) hw) (cwV 1 C.2.2.2.2.1 gX4_workDeath_X4_holderOf rfl rfl rfl (by decide +kernel) ⟨Nat.le_of_ble_eq_true rfl, Nat.le_of_ble_eq_true rfl⟩) ⟨25, 4, _, _, fx_at25 _ _ _ _ _, rfl, rfl⟩ rfl (Nat.le_of_ble_eq_true rfl) dX4_workDeath_57 ⟨Nat.zero_le _, Nat.zero_le _⟩ (fun v9 w9 hp9 => ?_)
            obtain ⟨rfl, rfl⟩ := hp9
            refine fj_st (st' := .int (if (a 33) i = -1 then -1 else f ((a 33) i).toNatClampNeg) :: []) rfl ?_
            refine fj_iload_n C 2 dX4_workDeath_60 rfl rfl ?_
            refine fj_icmp_ne (tgt := 95) C dX4_workDeath_61 (by decide) (fun h61 => ?_) (fun h61 => ?_)
            · refine fj_iinc (v := nI (i + 1)) (lv' := [(4, .int (nI (i + 1))), (0, .ref (ad 25)), (1, .int (nI k)), (2, .int (nI p5)), (3, .int (nI h5))]) C 4 dX4_workDeath_95 rfl (nI_1 i) (by decide) rfl ?_
              refine fj_goto (tgt := 47) C dX4_workDeath_98 (by decide) ?_
              refine fj_lv (lv' := [(0, .ref (ad 25)), (1, .int (nI k)), (2, .int (nI p5)), (3, .int (nI h5)), (4, .int (nI (i + 1)))]) [1, 2, 3, 4, 0] rfl ?_
              refine fj_ws (ws' := (fx_w ad ty (va_up (va_up (va_up a 36 (upd (a 36) p5 1)) 28 f) 29 f2) g n)) rfl ?_
              exact ih ⟨i + 1, f, f2⟩ (by show 64 - (i + 1) < 64 - i; omega) (by omega) (by first | exact dth_z hst h61 | exact dth_s hst ee9 (by omega) hf)
            · have hn1 : ¬ a 33 i = -1 := fun z => by rw [if_pos z] at h61; exact nI_m1 (by omega) h61.symm
              obtain ⟨e9, t9, he9, ee9, ht9, et9⟩ := (hw i hlt).resolve_left hn1
              have hf : f e9 = nI p5 := by rw [if_neg hn1, ee9, nI_clamp (by omega)] at h61; exact h61
              refine fj_aload_n C 0 dX4_workDeath_64 rfl rfl ?_
              refine fj_get (Cn := RX4) (T := TX4) (N := 18) (ci := 4) (v := .ref (ad 28)) C iX4 25 (fx_at25 _ _ _ _ _) rfl 6 (by decide) kX4_22 rfl dX4_workDeath_65 ?_
              refine fj_aload_n C 0 dX4_workDeath_68 rfl rfl ?_
              refine fj_get (Cn := RX4) (T := TX4) (N := 18) (ci := 4) (v := .ref (ad 33)) C iX4 25 (fx_at25 _ _ _ _ _) rfl 11 (by decide) kX4_37 rfl dX4_workDeath_69 ?_
              refine fj_iload C 4 dX4_workDeath_72 rfl ?_
              refine fj_iald (f := (a 33)) C 33 (fx_at33 _ _ _ _ _) (vp_in_nI (by omega) (by decide)) dX4_workDeath_74 ?_
              refine fj_at (y := nI e9) (by rw [nI_clamp (by omega), ee9]) ?_
              refine fj_iload_n C 3 dX4_workDeath_75 rfl rfl ?_
              refine fj_iast (f := f) C 28 (fx_at28 _ _ _ _ _) (vp_in_nI (by omega) (by decide)) dX4_workDeath_76 (fx_st28 _ _ _ _ _ _) ?_
              refine fj_ws (ws' := (fx_w ad ty (va_up (va_up (va_up a 36 (upd (a 36) p5 1)) 29 f2) 28 (upd f (nI e9).toNatClampNeg (nI h5))) g n)) rfl ?_
              refine fj_ws (ws' := (fx_w ad ty (va_up (va_up (va_up a 36 (upd (a 36) p5 1)) 29 f2) 28 (upd f e9 (nI h5))) g n)) (by rw [nI_clamp (by omega)]) ?_
              refine fj_aload_n C 0 dX4_workDeath_77 rfl rfl ?_
              refine fj_get (Cn := RX4) (T := TX4) (N := 18) (ci := 4) (v := .ref (ad 29)) C iX4 25 (fx_at25 _ _ _ _ _) rfl 7 (by decide) kX4_25 rfl dX4_workDeath_78 ?_
              refine fj_aload_n C 0 dX4_workDeath_81 rfl rfl ?_
              refine fj_get (Cn := RX4) (T := TX4) (N := 18) (ci := 4) (v := .ref (ad 33)) C iX4 25 (fx_at25 _ _ _ _ _) rfl 11 (by decide) kX4_37 rfl dX4_workDeath_82 ?_
              refine fj_iload C 4 dX4_workDeath_85 rfl ?_
              refine fj_iald (f := (a 33)) C 33 (fx_at33 _ _ _ _ _) (vp_in_nI (by omega) (by decide)) dX4_workDeath_87 ?_
              refine fj_at (y := nI e9) (by rw [nI_clamp (by omega), ee9]) ?_
              refine fj_dup2 C dX4_workDeath_88 rfl rfl ?_
              refine fj_iald (f := f2) C 29 (fx_at29 _ _ _ _ _) (vp_in_nI (by omega) (by decide)) dX4_workDeath_89 ?_
              refine fj_at (y := f2 e9) (by rw [nI_clamp (by omega)]) ?_
              refine fj_iconst (v := 1) C dX4_workDeath_90 (by decide) ?_
              refine fj_iload_n C 3 dX4_workDeath_91 rfl rfl ?_
              refine fj_ishl C dX4_workDeath_92 ?_
              refine fj_ior C dX4_workDeath_93 ?_
              refine fj_iast (f := f2) C 29 (fx_at29 _ _ _ _ _) (vp_in_nI (by omega) (by decide)) dX4_workDeath_94 (fx_st29 _ _ _ _ _ _) ?_
              refine fj_ws (ws' := (fx_w ad ty (va_up (va_up (va_up a 36 (upd (a 36) p5 1)) 28 (upd f e9 (nI h5))) 29 (upd f2 (nI e9).toNatClampNeg ((f2 e9) ||| (1 <<< ((nI h5) &&& 31))))) g n)) rfl ?_
              refine fj_ws (ws' := (fx_w ad ty (va_up (va_up (va_up a 36 (upd (a 36) p5 1)) 28 (upd f e9 (nI h5))) 29 (upd f2 e9 (f2 e9 ||| 1 <<< (nI h5 &&& 31)))) g n)) (by rw [nI_clamp (by omega)]) ?_
              refine fj_iinc (v := nI (i + 1)) (lv' := [(4, .int (nI (i + 1))), (0, .ref (ad 25)), (1, .int (nI k)), (2, .int (nI p5)), (3, .int (nI h5))]) C 4 dX4_workDeath_95 rfl (nI_1 i) (by decide) rfl ?_
              refine fj_goto (tgt := 47) C dX4_workDeath_98 (by decide) ?_
              refine fj_lv (lv' := [(0, .ref (ad 25)), (1, .int (nI k)), (2, .int (nI p5)), (3, .int (nI h5)), (4, .int (nI (i + 1)))]) [1, 2, 3, 4, 0] rfl ?_
              refine fj_ws (ws' := (fx_w ad ty (va_up (va_up (va_up a 36 (upd (a 36) p5 1)) 28 (upd f e9 (nI h5))) 29 (upd f2 e9 (f2 e9 ||| 1 <<< (nI h5 &&& 31)))) g n)) rfl ?_
              exact ih ⟨i + 1, upd f e9 (nI h5), upd f2 e9 (f2 e9 ||| 1 <<< (nI h5 &&& 31))⟩ (by show 64 - (i + 1) < 64 - i; omega) (by omega) (by first | exact dth_z hst h61 | exact dth_s hst ee9 (by omega) hf)
        intro i f f2
        exact key ⟨i, f, f2⟩
      refine fj_ws (ws' := (fx_w ad ty (va_up (va_up (va_up a 36 (upd (a 36) p5 1)) 28 (a 28)) 29 (a 29)) g n)) (by rw [up_id2 (b := va_up a 36 (upd (a 36) p5 1)) (k := 28) (l := 29) (x := a 28) (y := a 29) rfl rfl]) ?_
      exact lp47 0 (a 28) (a 29) (Nat.zero_le _) rfl
    · refine fj_bipush (v := 16) C dX4_workDeath_34 (by decide) ?_
      exact fj_iret C E9 dX4_workDeath_36 (by
      have hc : WDc a p5 h5 = 16 := if_pos (by first | exact Or.inl h22 | exact Or.inr h31)
      exact ⟨by rw [hc], by rw [hc, if_neg (by decide : ¬ (16 : Int32) = 0)]⟩)
