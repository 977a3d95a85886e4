theorem XI_keep {P S T B : Nat} {a b : Nat → Nat → Int32} {n m : Nat → Int32} (I : XI P S T B a n) (h : ∀ q, q < 26 ∨ 37 < q → b q = a q) (hm : ∀ j, j ≠ 6 → j ≠ 7 → m j = n j) : XI P S T B b m := by
  rw [XI, h 8 (by omega), h 24 (by omega), h 20 (by omega), h 19 (by omega), h 21 (by omega), h 22 (by omega), hm 0 (by decide) (by decide), hm 1 (by decide) (by decide), hm 3 (by decide) (by decide), hm 4 (by decide) (by decide)]
  exact I
/-- what a line comes to -/
def WLc (a : Nat → Nat → Int32) (n : Nat → Int32) (S B k : Nat) : Int32 :=
  if ¬ a 36 (a 20 k).toNatClampNeg = 0 then 1 else if a 19 k = 0 then WFc a n S k (a 21 k).toNatClampNeg (a 20 k).toNatClampNeg (iof a (a 18 k) S) (PFO a (a 21 k).toNatClampNeg (a 18 k)) else if a 19 k = 3 then (if HLV a (a 21 k).toNatClampNeg ∧ a 28 (a 33 (a 21 k).toNatClampNeg).toNatClampNeg = a 20 k then 0 else 8) else if a 19 k = 4 then WCc a S B k (a 21 k).toNatClampNeg else if a 19 k = 5 then WPc a S B k (a 21 k).toNatClampNeg else if a 19 k = 6 then WDc a (a 20 k).toNatClampNeg (a 22 k).toNatClampNeg else 0
def WLa (a : Nat → Nat → Int32) (n : Nat → Int32) (S B k t : Nat) : Nat → Nat → Int32 :=
  if ¬ a 36 (a 20 k).toNatClampNeg = 0 then a else if a 19 k = 0 then (if WFc a n S k (a 21 k).toNatClampNeg (a 20 k).toNatClampNeg (iof a (a 18 k) S) (PFO a (a 21 k).toNatClampNeg (a 18 k)) = 0 then WFu a k (a 21 k).toNatClampNeg (a 20 k).toNatClampNeg t (iof a (a 18 k) S) else a) else if a 19 k = 3 then (if HLV a (a 21 k).toNatClampNeg ∧ a 28 (a 33 (a 21 k).toNatClampNeg).toNatClampNeg = a 20 k then WEu a (a 21 k).toNatClampNeg else a) else if a 19 k = 4 then (if WCc a S B k (a 21 k).toNatClampNeg = 0 then WCu a S k (a 21 k).toNatClampNeg else a) else if a 19 k = 5 then (if WPc a S B k (a 21 k).toNatClampNeg = 0 then WPu a S k (a 21 k).toNatClampNeg else a) else if a 19 k = 6 then (if WDc a (a 20 k).toNatClampNeg (a 22 k).toNatClampNeg = 0 then WDu a (a 20 k).toNatClampNeg (a 22 k).toNatClampNeg else a) else a
theorem WFc_n {a : Nat → Nat → Int32} {n m : Nat → Int32} {S k q p : Nat} {lw pf : Int32} (h : m 5 = n 5) : WFc a m S k q p lw pf = WFc a n S k q p lw pf := by simp only [WFc, h]
theorem WLc_n {a : Nat → Nat → Int32} {n m : Nat → Int32} {S B k : Nat} (h : m 5 = n 5) : WLc a m S B k = WLc a n S B k := by simp only [WLc, WFc_n h]
theorem WLa_n {a : Nat → Nat → Int32} {n m : Nat → Int32} {S B k t : Nat} (h : m 5 = n 5) : WLa a m S B k t = WLa a n S B k t := by simp only [WLa, WFc_n h]
theorem WFu_k {a : Nat → Nat → Int32} {k q p t : Nat} {lw : Int32} {r : Nat} (h : r < 26 ∨ 37 < r) : WFu a k q p t lw r = a r := by
  rw [WFu, va_up_ne _ _ (by omega), va_up_ne _ _ (by omega), va_up_ne _ _ (by omega), va_up_ne _ _ (by omega), va_up_ne _ _ (by omega), va_up_ne _ _ (by omega), va_up_ne _ _ (by omega)]
theorem WEu_k {a : Nat → Nat → Int32} {q : Nat} {r : Nat} (h : r < 26 ∨ 37 < r) : WEu a q r = a r := by
  rw [WEu, va_up_ne _ _ (by omega), va_up_ne _ _ (by omega)]
theorem WCu_k {a : Nat → Nat → Int32} {S k q : Nat} {r : Nat} (h : r < 26 ∨ 37 < r) : WCu a S k q r = a r := by
  rw [WCu, WCv, va_up_ne _ _ (by omega), va_up_ne _ _ (by omega), WEu_k h]
theorem WPu_k {a : Nat → Nat → Int32} {S k q : Nat} {r : Nat} (h : r < 26 ∨ 37 < r) : WPu a S k q r = a r := by
  rw [WPu, WPv, va_up_ne _ _ (by omega), va_up_ne _ _ (by omega)]
theorem WDu_k {a : Nat → Nat → Int32} {p h5 : Nat} {r : Nat} (h : r < 26 ∨ 37 < r) : WDu a p h5 r = a r := by
  rw [WDu, va_up_ne _ _ (by omega), va_up_ne _ _ (by omega), va_up_ne _ _ (by omega)]
theorem WLa_keep {a : Nat → Nat → Int32} {n : Nat → Int32} {S B k t : Nat} {r : Nat} (h : r < 26 ∨ 37 < r) : WLa a n S B k t r = a r := by
  unfold WLa
  (repeat' split) <;> first | rfl | exact WFu_k h | exact WEu_k h | exact WCu_k h | exact WPu_k h | exact WDu_k h
theorem WI_of {B : Nat} {a b : Nat → Nat → Int32} (hw : WI B a) (h3 : b 33 = a 33) (h2 : b 32 = a 32) : WI B b := by
  rw [WI, h3, h2]; exact hw
theorem WI_E {B : Nat} {a b : Nat → Nat → Int32} {q : Nat} (hw : WI B a) (h3 : b 33 = upd (a 33) q (-1)) (h2 : b 32 = a 32) : WI B b := by
  rw [WI, h3, h2]
  intro r hr
  by_cases e : r = q
  · exact Or.inl (by rw [upd, if_pos e])
  · rw [upd, if_neg e]; exact hw r hr
theorem WI_F {B : Nat} {a b : Nat → Nat → Int32} {q k t : Nat} (hw : WI B a) (hk : k < B) (ht : t < B) (h3 : b 33 = upd (a 33) q (nI k)) (h2 : b 32 = upd (a 32) k (nI t)) : WI B b := by
  rw [WI, h3, h2]
  intro r hr
  by_cases e : r = q
  · exact Or.inr ⟨k, t, hk, by rw [upd, if_pos e], ht, by rw [upd, if_pos rfl]⟩
  · rw [upd, if_neg e]
    rcases hw r hr with z | ⟨f, u, hf, ef, hu, eu⟩
    · exact Or.inl z
    · by_cases e2 : f = k
      · exact Or.inr ⟨f, t, hf, ef, ht, by rw [upd, if_pos e2]⟩
      · exact Or.inr ⟨f, u, hf, ef, hu, by rw [upd, if_neg e2]; exact eu⟩
theorem WI_WLa {B : Nat} {a : Nat → Nat → Int32} {n : Nat → Int32} {S k t : Nat} (hw : WI B a) (hk : k < B) (ht : t < B) : WI B (WLa a n S B k t) := by
  unfold WLa
  (repeat' split) <;> first | exact hw | exact WI_F hw hk ht rfl rfl | exact WI_E hw rfl rfl | exact WI_of hw rfl rfl
def CLR (a : Nat → Nat → Int32) : Nat → Nat → Int32 := (va_up (va_up (va_up (va_up (va_up (va_up a 26 (fil (a 26) (-1) 120)) 27 (fil (a 27) 0 120)) 33 (fil (a 33) (-1) 64)) 34 (fil (a 34) (-1) 64)) 36 (fil (a 36) 0 12)) 37 (fil (a 37) 0 12))
theorem CLR_k {a : Nat → Nat → Int32} {r : Nat} (h : r < 26 ∨ 37 < r) : CLR a r = a r := by
  rw [CLR, va_up_ne _ _ (by omega), va_up_ne _ _ (by omega), va_up_ne _ _ (by omega), va_up_ne _ _ (by omega), va_up_ne _ _ (by omega), va_up_ne _ _ (by omega)]
theorem WI_CLR {B : Nat} (a : Nat → Nat → Int32) : WI B (CLR a) := fun q hq => Or.inl (show fil (a 33) (-1) 64 q = -1 from if_pos hq)
def TST (z : Nat → Nat → Int32) (n : Nat → Int32) (S B k t : Nat) : Nat → Nat → Int32 := va_up (WLa z n S B k t) 26 (upd (WLa z n S B k t 26) k (WLc z n S B k))
theorem TST_k {z : Nat → Nat → Int32} {n : Nat → Int32} {S B k t r : Nat} (h : r < 26 ∨ 37 < r) : TST z n S B k t r = z r := by
  rw [TST, va_up_ne _ _ (by omega), WLa_keep h]
theorem WI_TST {B : Nat} {a : Nat → Nat → Int32} {n : Nat → Int32} {S k t : Nat} (hw : WI B a) (hk : k < B) (ht : t < B) : WI B (TST a n S B k t) := WI_of (WI_WLa hw hk ht) rfl rfl
/-- the book worked through: the first i of the order, of the first ln told -/
def THR (a : Nat → Nat → Int32) (n : Nat → Int32) (S B : Nat) (ln : Int32) : Nat → Nat → Nat → Int32
  | 0 => CLR a
  | i + 1 => if nI (a 24 i).toNatClampNeg < ln ∧ a 23 (a 24 i).toNatClampNeg = 0 then TST (THR a n S B ln i) n S B (a 24 i).toNatClampNeg i else THR a n S B ln i
theorem THR_s {a z : Nat → Nat → Int32} {n m : Nat → Int32} {S B i j : Nat} {ln : Int32} (h : THR a n S B ln i = z) (hm : m 5 = n 5) (e : a 24 i = nI j) (hj : j < 2 ^ 31) (h1 : nI j < ln) (h2 : a 23 j = 0) : THR a n S B ln (i + 1) = TST z m S B j i := by
  rw [THR, e, nI_clamp hj, if_pos ⟨h1, h2⟩, h, TST, TST, WLa_n hm, WLc_n hm]
theorem THR_z {a z : Nat → Nat → Int32} {n : Nat → Int32} {S B i j : Nat} {ln : Int32} (h : THR a n S B ln i = z) (e : a 24 i = nI j) (hj : j < 2 ^ 31) (h1 : ¬ (nI j < ln ∧ a 23 j = 0)) : THR a n S B ln (i + 1) = z := by
  rw [THR, e, nI_clamp hj, if_neg h1, h]
set_option maxHeartbeats 4000000 in
set_option maxRecDepth 100000 in
theorem d_X4_workLine (l : Launch) (D : va_G) (ty : Nat → ClassId) (t0 : Nat → Nat) (ad : Nat → Nat) (a : Nat → Nat → Int32) (g : Nat → Nat → Int64) (n : Nat → Int32) (P : Nat) (S : Nat) (T : Nat) (B : Nat) (I : XI P S T B a n) (x : Int32) (y : Int32) (k : Nat) (ek : x = nI k) (hk : k < B) (t5 : Nat) (et5 : y = nI t5) (hw : WI B a) : fc l yX4_workLine wsX4_workLine (fj_rm 3 76 0 0) D ty t0 [.ref (ad 25), .int x, .int y] (fx_w ad ty a g n) 0 0 (fun v w => ∃ n9 : Nat → Int32, (∀ j, j ≠ 6 → j ≠ 7 → n9 j = n j) ∧ v = some (.int (WLc a n S B k)) ∧ w = fx_w ad ty (WLa a n S B k t5) g n9) := by
  subst ek et5
  refine fc_start (own := RX4) (cc := cX4_workLine) (maxL := 3) (ret := (some .int)) (by decide) rfl (Nat.le_of_ble_eq_true rfl) rfl ?_
  intro p e s m args below meth c Q A C hmn E9
  obtain ⟨hn0, hP, hn1, hT, hn3, hS, hn4, hB, iLO, iBO, iWho, iSort, iQ, iN⟩ := id I
  obtain ⟨p9, hp9P, ep9⟩ := iWho k hk
  have hpN : a 20 k = nI (a 20 k).toNatClampNeg ∧ (a 20 k).toNatClampNeg < 12 := by rw [ep9, nI_clamp (by omega)]; exact ⟨rfl, by omega⟩
  have iX4 : ∀ w ∈ u_ws RX4 TX4 18, w ∈ wsX4_workLine := ptX4_workLine_wsX40
  have kX4_46 : Cond.fieldLink RX4 46 "FreeLand$Work" "dead" "[Z" ∈ wsX4_workLine := ptX4_workLine_woX4_workLine _ (by decide +kernel)
  have kX4_61 : Cond.fieldLink RX4 61 "FreeLand$Work" "book" "LFreeLand$Book;" ∈ wsX4_workLine := ptX4_workLine_woX4_workLine _ (by decide +kernel)
  have iX0 : ∀ w ∈ u_ws RX0 TX0 8, w ∈ wsX4_workLine := ptX4_workLine_wsX00
  have kX4_86 : (RX4, 86, "FreeLand$Book", "who", "[I") ∈ nw_F := (by decide +kernel)
  have kX4_89 : (RX4, 89, "FreeLand$Book", "sort", "[I") ∈ nw_F := (by decide +kernel)
  refine fj_lv (lv' := [(0, .ref (ad 25)), (1, .int (nI k)), (2, .int (nI t5))]) [0, 1, 2] rfl ?_
  refine fj_aload_n C 0 dX4_workLine_0 rfl rfl ?_
  refine fj_get (Cn := RX4) (T := TX4) (N := 18) (ci := 4) (v := .ref (ad 36)) C iX4 25 (fx_at25 _ _ _ _ _) rfl 14 (by decide) kX4_46 rfl dX4_workLine_1 ?_
  refine fj_aload_n C 0 dX4_workLine_4 rfl rfl ?_
  refine fj_get (Cn := RX4) (T := TX4) (N := 18) (ci := 4) (v := .ref (ad 17)) C iX4 25 (fx_at25 _ _ _ _ _) rfl 2 (by decide) kX4_61 rfl dX4_workLine_5 ?_
  refine fj_getN (Cn := RX0) (T := TX0) (N := 8) (ci := 0) (v := .ref (ad 20)) C iX0 17 (fx_at17 _ _ _ _ _) rfl 2 (by decide) kX4_86 rfl dX4_workLine_8 ?_
  refine fj_iload_n C 1 dX4_workLine_11 rfl rfl ?_
  refine fj_iald (f := (a 20)) C 20 (fx_at20 _ _ _ _ _) (vp_in_nI (by omega) (by decide)) dX4_workLine_12 ?_
  refine fj_at (y := nI (a 20 k).toNatClampNeg) (by rw [nI_clamp (by omega)]; exact hpN.1) ?_
  refine fj_zald (f := (a 36)) C 36 (fx_at36 _ _ _ _ _) (vp_in_nI hpN.2 (by decide)) dX4_workLine_13 ?_
  refine fj_at (y := a 36 (a 20 k).toNatClampNeg) (by rw [nI_clamp (by omega)]) ?_
  refine fj_if_eq (tgt := 19) C dX4_workLine_14 (by decide) (fun h14 => ?_) (fun h14 => ?_)
  · refine fj_aload_n C 0 dX4_workLine_19 rfl rfl ?_
    refine fj_get (Cn := RX4) (T := TX4) (N := 18) (ci := 4) (v := .ref (ad 17)) C iX4 25 (fx_at25 _ _ _ _ _) rfl 2 (by decide) kX4_61 rfl dX4_workLine_20 ?_
    refine fj_getN (Cn := RX0) (T := TX0) (N := 8) (ci := 0) (v := .ref (ad 19)) C iX0 17 (fx_at17 _ _ _ _ _) rfl 1 (by decide) kX4_89 rfl dX4_workLine_23 ?_
    refine fj_iload_n C 1 dX4_workLine_26 rfl rfl ?_
    refine fj_iald (f := (a 19)) C 19 (fx_at19 _ _ _ _ _) (vp_in_nI (by omega) (by decide)) dX4_workLine_27 ?_
    refine fj_at (y := a 19 k) (by rw [nI_clamp (by omega)]) ?_
    rcases fx_sw (a 19 k) 0 6 with hsw | hsw
    · refine fj_tableOut (tgt := 103) C dX4_workLine_28 hsw (by decide) ?_
      have hs : ∀ c : Int32, 0 ≤ c.toInt → c.toInt ≤ 6 → ¬ a 19 k = c := fun c u0 u6 e => by rw [e] at hsw; omega
      refine fj_iconst (v := 0) C dX4_workLine_103 (by decide) ?_
      exact fj_iret C E9 dX4_workLine_104 (by
      have hne : ¬ a 19 k = 0 ∧ ¬ a 19 k = 3 ∧ ¬ a 19 k = 4 ∧ ¬ a 19 k = 5 ∧ ¬ a 19 k = 6 := by first | exact ⟨by rw [hs]; decide, by rw [hs]; decide, by rw [hs]; decide, by rw [hs]; decide, by rw [hs]; decide⟩ | exact ⟨hs 0 (by decide) (by decide), hs 3 (by decide) (by decide), hs 4 (by decide) (by decide), hs 5 (by decide) (by decide), hs 6 (by decide) (by decide)⟩
      exact ⟨n, (fun _ _ _ => rfl), by rw [WLc, if_neg (not_not_intro h14), if_neg hne.1, if_neg hne.2.1, if_neg hne.2.2.1, if_neg hne.2.2.2.1, if_neg hne.2.2.2.2], by rw [WLa, if_neg (not_not_intro h14), if_neg hne.1, if_neg hne.2.1, if_neg hne.2.2.1, if_neg hne.2.2.2.1, if_neg hne.2.2.2.2]⟩)
    · obtain ⟨hs1, hs2⟩ := hsw
      rcases (show (a 19 k).toInt = 0 ∨ (a 19 k).toInt = 1 ∨ (a 19 k).toInt = 2 ∨ (a 19 k).toInt = 3 ∨ (a 19 k).toInt = 4 ∨ (a 19 k).toInt = 5 ∨ (a 19 k).toInt = 6 by omega) with hsw | hsw | hsw | hsw | hsw | hsw | hsw
      · refine fj_tableIn (off := 44) (tgt := 72) C dX4_workLine_28 (by omega) (by omega) (by rw [hsw]; rfl) (by decide) ?_
        have hs : a 19 k = 0 := Int32.toInt_inj.mp (by rw [hsw]; decide)
        obtain ⟨q9, hq9, eq9⟩ := iQ k hk (by rw [hs]; decide)
        have hqN : a 21 k = nI (a 21 k).toNatClampNeg ∧ (a 21 k).toNatClampNeg < 64 := by rw [eq9, nI_clamp (by omega)]; exact ⟨rfl, hq9⟩
        refine fj_aload_n C 0 dX4_workLine_72 rfl rfl ?_
        refine fj_iload_n C 1 dX4_workLine_73 rfl rfl ?_
        refine fj_iload_n C 2 dX4_workLine_74 rfl rfl ?_
        refine fj_callVw (As := [.int (nI k), .int (nI t5)]) (rest := []) C (d_X4_workFile l D ty t0 ad a g n P S T B I (nI k) (nI t5) k rfl hk t5 rfl ((a 21 k).toNatClampNeg) hqN.1 hqN.2 ((a 20 k).toNatClampNeg) hpN.1 hpN.2 hw) (cwV 2 C.2.2.2.2.1 gX4_workLine_X4_workFile rfl rfl rfl (by decide +kernel) ⟨Nat.le_of_ble_eq_true rfl, Nat.le_of_ble_eq_true rfl⟩) ⟨25, 4, _, _, fx_at25 _ _ _ _ _, rfl, rfl⟩ rfl (Nat.le_of_ble_eq_true rfl) dX4_workLine_75 ⟨Nat.zero_le _, Nat.zero_le _⟩ (fun v9 w9 hp9 => ?_)
        obtain ⟨rfl, rfl⟩ := hp9
        refine fj_st (st' := .int (WFc a n S k (a 21 k).toNatClampNeg (a 20 k).toNatClampNeg (iof a (a 18 k) S) (PFO a (a 21 k).toNatClampNeg (a 18 k))) :: []) rfl ?_
        exact fj_iret C E9 dX4_workLine_78 ⟨n, (fun _ _ _ => rfl), by rw [WLc, if_neg (not_not_intro h14), if_pos hs], by rw [WLa, if_neg (not_not_intro h14), if_pos hs]⟩
      · refine fj_tableIn (off := 75) (tgt := 103) C dX4_workLine_28 (by omega) (by omega) (by rw [hsw]; rfl) (by decide) ?_
        have hs : a 19 k = 1 := Int32.toInt_inj.mp (by rw [hsw]; decide)
        refine fj_iconst (v := 0) C dX4_workLine_103 (by decide) ?_
        exact fj_iret C E9 dX4_workLine_104 (by
      have hne : ¬ a 19 k = 0 ∧ ¬ a 19 k = 3 ∧ ¬ a 19 k = 4 ∧ ¬ a 19 k = 5 ∧ ¬ a 19 k = 6 := by first | exact ⟨by rw [hs]; decide, by rw [hs]; decide, by rw [hs]; decide, by rw [hs]; decide, by rw [hs]; decide⟩ | exact ⟨hs 0 (by decide) (by decide), hs 3 (by decide) (by decide), hs 4 (by decide) (by decide), hs 5 (by decide) (by decide), hs 6 (by decide) (by decide)⟩
      exact ⟨n, (fun _ _ _ => rfl), by rw [WLc, if_neg (not_not_intro h14), if_neg hne.1, if_neg hne.2.1, if_neg hne.2.2.1, if_neg hne.2.2.2.1, if_neg hne.2.2.2.2], by rw [WLa, if_neg (not_not_intro h14), if_neg hne.1, if_neg hne.2.1, if_neg hne.2.2.1, if_neg hne.2.2.2.1, if_neg hne.2.2.2.2]⟩)
      · refine fj_tableIn (off := 75) (tgt := 103) C dX4_workLine_28 (by omega) (by omega) (by rw [hsw]; rfl) (by decide) ?_
        have hs : a 19 k = 2 := Int32.toInt_inj.mp (by rw [hsw]; decide)
        refine fj_iconst (v := 0) C dX4_workLine_103 (by decide) ?_
        exact fj_iret C E9 dX4_workLine_104 (by
      have hne : ¬ a 19 k = 0 ∧ ¬ a 19 k = 3 ∧ ¬ a 19 k = 4 ∧ ¬ a 19 k = 5 ∧ ¬ a 19 k = 6 := by first | exact ⟨by rw [hs]; decide, by rw [hs]; decide, by rw [hs]; decide, by rw [hs]; decide, by rw [hs]; decide⟩ | exact ⟨hs 0 (by decide) (by decide), hs 3 (by decide) (by decide), hs 4 (by decide) (by decide), hs 5 (by decide) (by decide), hs 6 (by decide) (by decide)⟩
      exact ⟨n, (fun _ _ _ => rfl), by rw [WLc, if_neg (not_not_intro h14), if_neg hne.1, if_neg hne.2.1, if_neg hne.2.2.1, if_neg hne.2.2.2.1, if_neg hne.2.2.2.2], by rw [WLa, if_neg (not_not_intro h14), if_neg hne.1, if_neg hne.2.1, if_neg hne.2.2.1, if_neg hne.2.2.2.1, if_neg hne.2.2.2.2]⟩)
      · refine fj_tableIn (off := 51) (tgt := 79) C dX4_workLine_28 (by omega) (by omega) (by rw [hsw]; rfl) (by decide) ?_
        have hs : a 19 k = 3 := Int32.toInt_inj.mp (by rw [hsw]; decide)
        obtain ⟨q9, hq9, eq9⟩ := iQ k hk (by rw [hs]; decide)
        have hqN : a 21 k = nI (a 21 k).toNatClampNeg ∧ (a 21 k).toNatClampNeg < 64 := by rw [eq9, nI_clamp (by omega)]; exact ⟨rfl, hq9⟩
        refine fj_aload_n C 0 dX4_workLine_79 rfl rfl ?_
        refine fj_iload_n C 1 dX4_workLine_80 rfl rfl ?_
        refine fj_callVw (As := [.int (nI k)]) (rest := []) C (d_X4_workGiveUp l D ty t0 ad a g n P S T B I (nI k) k rfl hk ((a 21 k).toNatClampNeg) hqN.1 hqN.2 hw) (cwV 1 C.2.2.2.2.1 gX4_workLine_X4_workGiveUp rfl rfl rfl (by decide +kernel) ⟨Nat.le_of_ble_eq_true rfl, Nat.le_of_ble_eq_true rfl⟩) ⟨25, 4, _, _, fx_at25 _ _ _ _ _, rfl, rfl⟩ rfl (Nat.le_of_ble_eq_true rfl) dX4_workLine_81 ⟨Nat.zero_le _, Nat.zero_le _⟩ (fun v9 w9 hp9 => ?_)
        obtain ⟨rfl, rfl⟩ := hp9
        refine fj_st (st' := .int (if HLV a (a 21 k).toNatClampNeg ∧ a 28 (a 33 (a 21 k).toNatClampNeg).toNatClampNeg = a 20 k then 0 else 8) :: []) rfl ?_
        exact fj_iret C E9 dX4_workLine_84 ⟨n, (fun _ _ _ => rfl), by rw [WLc, if_neg (not_not_intro h14), if_neg (by rw [hs]; decide : ¬ a 19 k = 0), if_pos hs], by rw [WLa, if_neg (not_not_intro h14), if_neg (by rw [hs]; decide : ¬ a 19 k = 0), if_pos hs]⟩
      · refine fj_tableIn (off := 57) (tgt := 85) C dX4_workLine_28 (by omega) (by omega) (by rw [hsw]; rfl) (by decide) ?_
        have hs : a 19 k = 4 := Int32.toInt_inj.mp (by rw [hsw]; decide)
        obtain ⟨q9, hq9, eq9⟩ := iQ k hk (by rw [hs]; decide)
        have hqN : a 21 k = nI (a 21 k).toNatClampNeg ∧ (a 21 k).toNatClampNeg < 64 := by rw [eq9, nI_clamp (by omega)]; exact ⟨rfl, hq9⟩
        refine fj_aload_n C 0 dX4_workLine_85 rfl rfl ?_
        refine fj_iload_n C 1 dX4_workLine_86 rfl rfl ?_
        refine fj_callVw (As := [.int (nI k)]) (rest := []) C (d_X4_workContest l D ty t0 ad a g n P S T B I (nI k) k rfl hk ((a 21 k).toNatClampNeg) hqN.1 hqN.2 hw) (cwV 1 C.2.2.2.2.1 gX4_workLine_X4_workContest rfl rfl rfl (by decide +kernel) ⟨Nat.le_of_ble_eq_true rfl, Nat.le_of_ble_eq_true rfl⟩) ⟨25, 4, _, _, fx_at25 _ _ _ _ _, rfl, rfl⟩ rfl (Nat.le_of_ble_eq_true rfl) dX4_workLine_87 ⟨Nat.zero_le _, Nat.zero_le _⟩ (fun v9 w9 hp9 => ?_)
        obtain ⟨n9, hn9, rfl, rfl⟩ := hp9
        refine fj_st (st' := .int (WCc a S B k (a 21 k).toNatClampNeg) :: []) rfl ?_
        exact fj_iret C E9 dX4_workLine_90 ⟨n9, hn9, by rw [WLc, if_neg (not_not_intro h14), if_neg (by rw [hs]; decide : ¬ a 19 k = 0), if_neg (by rw [hs]; decide : ¬ a 19 k = 3), if_pos hs], by rw [WLa, if_neg (not_not_intro h14), if_neg (by rw [hs]; decide : ¬ a 19 k = 0), if_neg (by rw [hs]; decide : ¬ a 19 k = 3), if_pos hs]⟩
      · refine fj_tableIn (off := 63) (tgt := 91) C dX4_workLine_28 (by omega) (by omega) (by rw [hsw]; rfl) (by decide) ?_
        have hs : a 19 k = 5 := Int32.toInt_inj.mp (by rw [hsw]; decide)
        obtain ⟨q9, hq9, eq9⟩ := iQ k hk (by rw [hs]; decide)
        have hqN : a 21 k = nI (a 21 k).toNatClampNeg ∧ (a 21 k).toNatClampNeg < 64 := by rw [eq9, nI_clamp (by omega)]; exact ⟨rfl, hq9⟩
        refine fj_aload_n C 0 dX4_workLine_91 rfl rfl ?_
        refine fj_iload_n C 1 dX4_workLine_92 rfl rfl ?_
        refine fj_callVw (As := [.int (nI k)]) (rest := []) C (d_X4_workProve l D ty t0 ad a g n P S T B I (nI k) k rfl hk ((a 21 k).toNatClampNeg) hqN.1 hqN.2 hw) (cwV 1 C.2.2.2.2.1 gX4_workLine_X4_workProve rfl rfl rfl (by decide +kernel) ⟨Nat.le_of_ble_eq_true rfl, Nat.le_of_ble_eq_true rfl⟩) ⟨25, 4, _, _, fx_at25 _ _ _ _ _, rfl, rfl⟩ rfl (Nat.le_of_ble_eq_true rfl) dX4_workLine_93 ⟨Nat.zero_le _, Nat.zero_le _⟩ (fun v9 w9 hp9 => ?_)
        obtain ⟨n9, hn9, rfl, rfl⟩ := hp9
        refine fj_st (st' := .int (WPc a S B k (a 21 k).toNatClampNeg) :: []) rfl ?_
        exact fj_iret C E9 dX4_workLine_96 ⟨n9, hn9, by rw [WLc, if_neg (not_not_intro h14), if_neg (by rw [hs]; decide : ¬ a 19 k = 0), if_neg (by rw [hs]; decide : ¬ a 19 k = 3), if_neg (by rw [hs]; decide : ¬ a 19 k = 4), if_pos hs], by rw [WLa, if_neg (not_not_intro h14), if_neg (by rw [hs]; decide : ¬ a 19 k = 0), if_neg (by rw [hs]; decide : ¬ a 19 k = 3), if_neg (by rw [hs]; decide : ¬ a 19 k = 4), if_pos hs]⟩
      · refine fj_tableIn (off := 69) (tgt := 97) C dX4_workLine_28 (by omega) (by omega) (by rw [hsw]; rfl) (by decide) ?_
        have hs : a 19 k = 6 := Int32.toInt_inj.mp (by rw [hsw]; decide)
        obtain ⟨h9, hh9, eh9⟩ := iN k hk (by rw [hs]; rfl)
        have hhN : a 22 k = nI (a 22 k).toNatClampNeg ∧ (a 22 k).toNatClampNeg < 12 := by rw [eh9, nI_clamp (by omega)]; exact ⟨rfl, by omega⟩
        refine fj_aload_n C 0 dX4_workLine_97 rfl rfl ?_
        refine fj_iload_n C 1 dX4_workLine_98 rfl rfl ?_
        refine fj_callVw (As := [.int (nI k)]) (rest := []) C (d_X4_workDeath l D ty t0 ad a g n P S T B I (nI k) k rfl hk ((a 20 k).toNatClampNeg) hpN.1 hpN.2 ((a 22 k).toNatClampNeg) hhN.1 hhN.2 hw) (cwV 1 C.2.2.2.2.1 gX4_workLine_X4_workDeath rfl rfl rfl (by decide +kernel) ⟨Nat.le_of_ble_eq_true rfl, Nat.le_of_ble_eq_true rfl⟩) ⟨25, 4, _, _, fx_at25 _ _ _ _ _, rfl, rfl⟩ rfl (Nat.le_of_ble_eq_true rfl) dX4_workLine_99 ⟨Nat.zero_le _, Nat.zero_le _⟩ (fun v9 w9 hp9 => ?_)
        obtain ⟨rfl, rfl⟩ := hp9
        refine fj_st (st' := .int (WDc a (a 20 k).toNatClampNeg (a 22 k).toNatClampNeg) :: []) rfl ?_
        exact fj_iret C E9 dX4_workLine_102 ⟨n, (fun _ _ _ => rfl), by rw [WLc, if_neg (not_not_intro h14), if_neg (by rw [hs]; decide : ¬ a 19 k = 0), if_neg (by rw [hs]; decide : ¬ a 19 k = 3), if_neg (by rw [hs]; decide : ¬ a 19 k = 4), if_neg (by rw [hs]; decide : ¬ a 19 k = 5), if_pos hs], by rw [WLa, if_neg (not_not_intro h14), if_neg (by rw [hs]; decide : ¬ a 19 k = 0), if_neg (by rw [hs]; decide : ¬ a 19 k = 3), if_neg (by rw [hs]; decide : ¬ a 19 k = 4), if_neg (by rw [hs]; decide : ¬ a 19 k = 5), if_pos hs]⟩
  · refine fj_iconst (v := 1) C dX4_workLine_17 (by decide) ?_
    exact fj_iret C E9 dX4_workLine_18 ⟨n, (fun _ _ _ => rfl), by rw [WLc, if_pos h14], by rw [WLa, if_pos h14]⟩

set_option maxHeartbeats 4000000 in
set_option maxRecDepth 100000 in
theorem d_X4_through (l : Launch) (D : va_G) (ty : Nat → ClassId) (t0 : Nat → Nat) (ad : Nat → Nat) (a : Nat → Nat → Int32) (g : Nat → Nat → Int64) (n : Nat → Int32) (P : Nat) (S : Nat) (T : Nat) (B : Nat) (I : XI P S T B a n) (x : Int32) (y : Int32)  : fc l yX4_through wsX4_through (fj_rm 4 98 0 0) D ty t0 [.ref (ad 25), .int x, .int y] (fx_w ad ty a g n) 0 0 (fun v w => v = none ∧ ∃ (r : Nat) (z : Nat → Nat → Int32) (m : Nat → Int32), r ≤ B ∧ (r = B ∨ y < a 18 (a 24 r).toNatClampNeg) ∧ (∀ j, j < r → a 18 (a 24 j).toNatClampNeg ≤ y) ∧ z = THR a n S B x r ∧ (∀ j, j ≠ 6 → j ≠ 7 → m j = n j) ∧ (∀ q, q < 26 ∨ 37 < q → z q = a q) ∧ XI P S T B z m ∧ WI B z ∧ w = fx_w ad ty z g m) := by
  refine fc_start (own := RX4) (cc := cX4_through) (maxL := 5) (ret := none) (by decide) rfl (Nat.le_of_ble_eq_true rfl) rfl ?_
  intro p e s m args below meth c Q A C hmn E9
  obtain ⟨hn0, hP, hn1, hT, hn3, hS, hn4, hB, iLO, iBO, iWho, iSort, iQ, iN⟩ := id I
  have iX4 : ∀ w ∈ u_ws RX4 TX4 18, w ∈ wsX4_through := ptX4_through_wsX40
  have kX4_61 : Cond.fieldLink RX4 61 "FreeLand$Work" "book" "LFreeLand$Book;" ∈ wsX4_through := ptX4_through_woX4_through _ (by decide +kernel)
  have iX0 : ∀ w ∈ u_ws RX0 TX0 8, w ∈ wsX4_through := ptX4_through_wsX00
  have kX4_68 : (RX4, 68, "FreeLand$Book", "size", "I") ∈ nw_F := (by decide +kernel)
  have kX4_73 : (RX4, 73, "FreeLand$Book", "order", "[I") ∈ nw_F := (by decide +kernel)
  have kX4_76 : (RX4, 76, "FreeLand$Book", "day", "[I") ∈ nw_F := (by decide +kernel)
  have kX4_79 : (RX4, 79, "FreeLand$Book", "struck", "[Z") ∈ nw_F := (by decide +kernel)
  have kX4_15 : Cond.fieldLink RX4 15 "FreeLand$Work" "result" "[I" ∈ wsX4_through := ptX4_through_woX4_through _ (by decide +kernel)
  refine fj_lv (lv' := [(0, .ref (ad 25)), (1, .int x), (2, .int y)]) [0, 1, 2] rfl ?_
  refine fj_aload_n C 0 dX4_through_0 rfl rfl ?_
  refine fj_callVw (As := []) (rest := []) C (d_X4_clear l D ty t0 ad a g n) (cwV 0 C.2.2.2.2.1 gX4_through_X4_clear rfl rfl rfl (by decide +kernel) ⟨Nat.le_of_ble_eq_true rfl, Nat.le_of_ble_eq_true rfl⟩) ⟨25, 4, _, _, fx_at25 _ _ _ _ _, rfl, rfl⟩ rfl (Nat.le_of_ble_eq_true rfl) dX4_through_1 ⟨Nat.zero_le _, Nat.zero_le _⟩ (fun v9 w9 hp9 => ?_)
  obtain ⟨rfl, rfl⟩ := hp9
  refine fj_st (st' := []) rfl ?_
  refine fj_iconst (v := 0) C dX4_through_4 (by decide) ?_
  refine fj_istore_n (lv' := [(3, .int 0), (0, .ref (ad 25)), (1, .int x), (2, .int y)]) C dX4_through_5 rfl (by decide) rfl ?_
  refine fj_lv (lv' := [(0, .ref (ad 25)), (1, .int x), (2, .int y), (3, .int 0)]) [1, 2, 3, 0] rfl ?_
  have lp6 : ∀ (i : Nat) (z : Nat → Nat → Int32) (u5 : Nat → Int32), (i ≤ B) → (THR a n S B x i = z) → (∀ j, j ≠ 6 → j ≠ 7 → u5 j = n j) → (XI P S T B z u5) → (WI B z) → (∀ j, j < i → a 18 (a 24 j).toNatClampNeg ≤ y) → (∀ q, q < 26 ∨ 37 < q → z q = a q) → fj p l e (fj_rm 4 98 0 0) s m args below meth c Q A D 5 0 0 (fx_w ad ty z g u5) [(0, .ref (ad 25)), (1, .int x), (2, .int y), (3, .int (nI i))] 6 [] := by
    have key : ∀ zz : Nat × (Nat → Nat → Int32) × (Nat → Int32), (fun (zz : Nat × (Nat → Nat → Int32) × (Nat → Int32)) => match zz with | (i, z, u5) => (i ≤ B) → (THR a n S B x i = z) → (∀ j, j ≠ 6 → j ≠ 7 → u5 j = n j) → (XI P S T B z u5) → (WI B z) → (∀ j, j < i → a 18 (a 24 j).toNatClampNeg ≤ y) → (∀ q, q < 26 ∨ 37 < q → z q = a q) → fj p l e (fj_rm 4 98 0 0) s m args below meth c Q A D 5 0 0 (fx_w ad ty z g u5) [(0, .ref (ad 25)), (1, .int x), (2, .int y), (3, .int (nI i))] 6 []) zz := by
      refine fx_ind (fun (zz : Nat × (Nat → Nat → Int32) × (Nat → Int32)) => match zz with | (i, z, u5) => B - i) _ ?_
      rintro ⟨i, z, u5⟩ ih hi hTH hm I2 W2 hdy hsm
      obtain ⟨hn0, hP, hn1, hT, hn3, hS, hn4, hB, iLO, iBO, iWho, iSort, iQ, iN⟩ := id I2
      refine fj_iload_n C 3 dX4_through_6 rfl rfl ?_
      refine fj_aload_n C 0 dX4_through_7 rfl rfl ?_
      refine fj_get (Cn := RX4) (T := TX4) (N := 18) (ci := 4) (v := .ref (ad 17)) C iX4 25 (fx_at25 _ _ _ _ _) rfl 2 (by decide) kX4_61 rfl dX4_through_8 ?_
      refine fj_getN (Cn := RX0) (T := TX0) (N := 8) (ci := 0) (v := .int (u5 4)) C iX0 17 (fx_at17 _ _ _ _ _) rfl 7 (by decide) kX4_68 rfl dX4_through_11 ?_
      refine fj_at (y := nI B) hn4 ?_
      refine fj_icmp_ge (tgt := 84) C dX4_through_14 (by decide) (fun h14 => ?_) (fun h14 => ?_)
      · have hge : B ≤ i := Nat.le_of_not_lt fun q => absurd (Int32.not_lt.mpr h14) (not_not_intro ((nI_ltI (by omega) (by omega)).mpr q))
        exact fj_vret C E9 dX4_through_84 ⟨rfl, i, z, u5, hi, (by first | exact Or.inl (by omega) | exact Or.inr (by rw [ea, nI_clamp (by omega), ← hsm 18 (by omega)]; exact Int32.not_le.mp h39)), hdy, hTH.symm, hm, hsm, I2, W2, rfl⟩
      · have hlt : i < B := (nI_ltI (by omega) (by omega)).mp (Int32.not_le.mp h14)
        refine fj_aload_n C 0 dX4_through_17 rfl rfl ?_
        refine fj_get (Cn := RX4) (T := TX4) (N := 18) (ci := 4) (v := .ref (ad 17)) C iX4 25 (fx_at25 _ _ _ _ _) rfl 2 (by decide) kX4_61 rfl dX4_through_18 ?_
        refine fj_getN (Cn := RX0) (T := TX0) (N := 8) (ci := 0) (v := .ref (ad 24)) C iX0 17 (fx_at17 _ _ _ _ _) rfl 6 (by decide) kX4_73 rfl dX4_through_21 ?_
        refine fj_iload_n C 3 dX4_through_24 rfl rfl ?_
        refine fj_iald (f := (z 24)) C 24 (fx_at24 _ _ _ _ _) (vp_in_nI (by omega) (by decide)) dX4_through_25 ?_
        obtain ⟨j, hj, ej⟩ := iBO i hlt
        have ea : a 24 i = nI j := by rw [← hsm 24 (by omega)]; exact ej
        refine fj_at (y := nI j) (by rw [nI_clamp (by omega), ej]) ?_
        refine fj_istore (lv' := [(4, .int (nI j)), (0, .ref (ad 25)), (1, .int x), (2, .int y), (3, .int (nI i))]) C dX4_through_26 (by decide) rfl ?_
        refine fj_aload_n C 1 dX4_through_28 rfl rfl ?_
        refine fj_get (Cn := RX4) (T := TX4) (N := 18) (ci := 4) (v := .ref (ad 17)) C iX4 25 (fx_at25 _ _ _ _ _) rfl 2 (by decide) kX4_61 rfl dX4_through_29 ?_
        refine fj_getN (Cn := RX0) (T := TX0) (N := 8) (ci := 0) (v := .ref (ad 18)) C iX0 17 (fx_at17 _ _ _ _ _) rfl 0 (by decide) kX4_76 rfl dX4_through_32 ?_
        refine fj_iload C 0 dX4_through_35 rfl ?_
        refine fj_iald (f := (z 18)) C 18 (fx_at18 _ _ _ _ _) (vp_in_nI (by omega) (by decide)) dX4_through_37 ?_
        refine fj_at (y := z 18 j) (by rw [nI_clamp (by omega)]) ?_
        refine fj_iload_n C 3 dX4_through_38 rfl rfl ?_
        refine fj_icmp_le (tgt := 45) C dX4_through_39 (by decide) (fun h39 => ?_) (fun h39 => ?_)
        · refine fj_iload C 0 dX4_through_45 rfl ?_
          refine fj_iload_n C 2 dX4_through_47 rfl rfl ?_
          refine fj_icmp_ge (tgt := 78) C dX4_through_48 (by decide) (fun h48 => ?_) (fun h48 => ?_)
          · refine fj_iinc (v := nI (i + 1)) (lv' := [(3, .int (nI (i + 1))), (4, .int (nI j)), (0, .ref (ad 25)), (1, .int x), (2, .int y)]) C 4 dX4_through_78 rfl (nI_1 i) (by decide) rfl ?_
            refine fj_goto (tgt := 6) C dX4_through_81 (by decide) ?_
            refine fj_lv (lv' := [(0, .ref (ad 25)), (1, .int x), (2, .int y), (3, .int (nI (i + 1)))]) [2, 3, 4, 0] rfl ?_
            exact ih ⟨i + 1, z, u5⟩ (by show B - (i + 1) < B - i; omega) (by omega) (THR_z hTH ea (by omega) (fun u => by first | exact absurd u.1 (Int32.not_lt.mpr h48) | exact h61 (by rw [hsm 23 (by omega)]; exact u.2))) hm I2 W2 (fun q hq => (Nat.eq_or_lt_of_le (Nat.le_of_lt_succ hq)).elim (fun e9 => by subst e9; rw [ea, nI_clamp (by omega), ← hsm 18 (by omega)]; exact h39) (fun y9 => hdy q y9)) hsm
          · refine fj_aload_n C 1 dX4_through_51 rfl rfl ?_
            refine fj_get (Cn := RX4) (T := TX4) (N := 18) (ci := 4) (v := .ref (ad 17)) C iX4 25 (fx_at25 _ _ _ _ _) rfl 2 (by decide) kX4_61 rfl dX4_through_52 ?_
            refine fj_getN (Cn := RX0) (T := TX0) (N := 8) (ci := 0) (v := .ref (ad 23)) C iX0 17 (fx_at17 _ _ _ _ _) rfl 5 (by decide) kX4_79 rfl dX4_through_55 ?_
            refine fj_iload C 0 dX4_through_58 rfl ?_
            refine fj_zald (f := (z 23)) C 23 (fx_at23 _ _ _ _ _) (vp_in_nI (by omega) (by decide)) dX4_through_60 ?_
            refine fj_at (y := z 23 j) (by rw [nI_clamp (by omega)]) ?_
            refine fj_if_ne (tgt := 78) C dX4_through_61 (by decide) (fun h61 => ?_) (fun h61 => ?_)
            · refine fj_iinc (v := nI (i + 1)) (lv' := [(3, .int (nI (i + 1))), (4, .int (nI j)), (0, .ref (ad 25)), (1, .int x), (2, .int y)]) C 4 dX4_through_78 rfl (nI_1 i) (by decide) rfl ?_
              refine fj_goto (tgt := 6) C dX4_through_81 (by decide) ?_
              refine fj_lv (lv' := [(0, .ref (ad 25)), (1, .int x), (2, .int y), (3, .int (nI (i + 1)))]) [2, 3, 4, 0] rfl ?_
              exact ih ⟨i + 1, z, u5⟩ (by show B - (i + 1) < B - i; omega) (by omega) (THR_z hTH ea (by omega) (fun u => by first | exact absurd u.1 (Int32.not_lt.mpr h48) | exact h61 (by rw [hsm 23 (by omega)]; exact u.2))) hm I2 W2 (fun q hq => (Nat.eq_or_lt_of_le (Nat.le_of_lt_succ hq)).elim (fun e9 => by subst e9; rw [ea, nI_clamp (by omega), ← hsm 18 (by omega)]; exact h39) (fun y9 => hdy q y9)) hsm
            · refine fj_aload_n C 1 dX4_through_64 rfl rfl ?_
              refine fj_get (Cn := RX4) (T := TX4) (N := 18) (ci := 4) (v := .ref (ad 26)) C iX4 25 (fx_at25 _ _ _ _ _) rfl 4 (by decide) kX4_15 rfl dX4_through_65 ?_
              refine fj_iload C 0 dX4_through_68 rfl ?_
              refine fj_aload_n C 1 dX4_through_70 rfl rfl ?_
              refine fj_iload C 0 dX4_through_71 rfl ?_
              refine fj_iload_n C 4 dX4_through_73 rfl rfl ?_
              refine fj_callVw (As := [.int (nI j), .int (nI i)]) (rest := [.int (nI j), .ref (ad 26)]) C (d_X4_workLine l D ty t0 ad z g u5 P S T B I2 (nI j) (nI i) j rfl hj i rfl W2) (cwV 2 C.2.2.2.2.1 gX4_through_X4_workLine rfl rfl rfl (by decide +kernel) ⟨Nat.le_of_ble_eq_true rfl, Nat.le_of_ble_eq_true rfl⟩) ⟨25, 4, _, _, fx_at25 _ _ _ _ _, rfl, rfl⟩ rfl (Nat.le_of_ble_eq_true rfl) dX4_through_74 ⟨Nat.zero_le _, Nat.zero_le _⟩ (fun v9 w9 hp9 => ?_)
              obtain ⟨n9, hn9, rfl, rfl⟩ := hp9
              refine fj_st (st' := .int (WLc z u5 S B j) :: [.int (nI j), .ref (ad 26)]) rfl ?_
              refine fj_iast (f := ((WLa z u5 S B j i) 26)) C 26 (fx_at26 _ _ _ _ _) (vp_in_nI (by omega) (by decide)) dX4_through_77 (fx_st26 _ _ _ _ _ _) ?_
              refine fj_ws (ws' := (fx_w ad ty (va_up (WLa z u5 S B j i) 26 (upd (WLa z u5 S B j i 26) j (WLc z u5 S B j))) g n9)) (by rw [nI_clamp (by omega)]) ?_
              refine fj_iinc (v := nI (i + 1)) (lv' := [(3, .int (nI (i + 1))), (4, .int (nI j)), (0, .ref (ad 25)), (1, .int x), (2, .int y)]) C 4 dX4_through_78 rfl (nI_1 i) (by decide) rfl ?_
              refine fj_goto (tgt := 6) C dX4_through_81 (by decide) ?_
              refine fj_lv (lv' := [(0, .ref (ad 25)), (1, .int x), (2, .int y), (3, .int (nI (i + 1)))]) [2, 3, 4, 0] rfl ?_
              refine fj_ws (ws' := fx_w ad ty (TST z u5 S B j i) g n9) rfl ?_
              exact ih ⟨i + 1, TST z u5 S B j i, n9⟩ (by show B - (i + 1) < B - i; omega) (by omega) (THR_s hTH (hm 5 (by decide) (by decide)) ea (by omega) (Int32.not_le.mp h48) (by rw [← hsm 23 (by omega)]; exact h61)) (fun q h6 h7 => (hn9 q h6 h7).trans (hm q h6 h7)) (XI_keep I2 (fun q hq => TST_k hq) hn9) (WI_TST W2 hj hlt) (fun q hq => (Nat.eq_or_lt_of_le (Nat.le_of_lt_succ hq)).elim (fun e9 => by subst e9; rw [ea, nI_clamp (by omega), ← hsm 18 (by omega)]; exact h39) (fun y9 => hdy q y9)) (fun q hq => (TST_k hq).trans (hsm q hq))
        · refine fj_goto (tgt := 84) C dX4_through_42 (by decide) ?_
          exact fj_vret C E9 dX4_through_84 ⟨rfl, i, z, u5, hi, (by first | exact Or.inl (by omega) | exact Or.inr (by rw [ea, nI_clamp (by omega), ← hsm 18 (by omega)]; exact Int32.not_le.mp h39)), hdy, hTH.symm, hm, hsm, I2, W2, rfl⟩
    intro i z u5
    exact key ⟨i, z, u5⟩
  exact lp6 0 (CLR a) n (Nat.zero_le _) rfl (fun _ _ _ => rfl) (XI_keep I (fun q hq => CLR_k hq) (fun _ _ _ => rfl)) (WI_CLR a) (fun _ q => absurd q (Nat.not_lt_zero _)) (fun q hq => CLR_k hq)
