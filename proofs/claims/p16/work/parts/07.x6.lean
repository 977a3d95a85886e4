theorem if_or {P : Prop} {_ : Decidable P} {v : Option Value} {x : Option Value} {w y z : va_W} (h : v = x ∧ w = if P then y else z) : (P ∧ v = x ∧ w = y) ∨ (¬ P ∧ v = x ∧ w = z) := by
  by_cases p : P
  · exact Or.inl ⟨p, h.1, by rw [h.2, if_pos p]⟩
  · exact Or.inr ⟨p, h.1, by rw [h.2, if_neg p]⟩
/-- what a line comes to in the reference, what it leaves, and how many entries there are then -/
def MLR (a : Nat → Nat → Int32) (n : Nat → Int32) (S E t k : Nat) (c : Int32) (b : Nat → Nat → Int32) (E2 : Nat) : Prop :=
  (¬ a 19 (a 10 k).toNatClampNeg = 0 ∧ c = 1 ∧ b = a ∧ E2 = E) ∨ (a 19 (a 10 k).toNatClampNeg = 0 ∧ ((a 9 k = 0 ∧ c = MFc a n S E k (a 11 k).toNatClampNeg (a 10 k).toNatClampNeg ∧ ((c = 0 ∧ b = MFu a E k (a 10 k).toNatClampNeg t (lfo a (a 8 k) S) ∧ E2 = E + 1) ∨ (¬ c = 0 ∧ b = a ∧ E2 = E))) ∨ (a 9 k = 3 ∧ c = (if MGO a (a 11 k).toNatClampNeg E k then 0 else 8) ∧ b = (if MGO a (a 11 k).toNatClampNeg E k then MGu a (a 11 k).toNatClampNeg E else a) ∧ E2 = E) ∨ (a 9 k = 4 ∧ MCR a S E t k (a 11 k).toNatClampNeg c b ∧ E2 = E) ∨ (a 9 k = 5 ∧ MPR a S E t k (a 11 k).toNatClampNeg c b ∧ E2 = E) ∨ (a 9 k = 6 ∧ c = MDc a (a 10 k).toNatClampNeg (a 12 k).toNatClampNeg ∧ b = (if MDc a (a 10 k).toNatClampNeg (a 12 k).toNatClampNeg = 0 then MDu a E (a 10 k).toNatClampNeg (a 12 k).toNatClampNeg else a) ∧ E2 = E) ∨ ((¬ a 9 k = 0 ∧ ¬ a 9 k = 3 ∧ ¬ a 9 k = 4 ∧ ¬ a 9 k = 5 ∧ ¬ a 9 k = 6) ∧ c = 0 ∧ b = a ∧ E2 = E)))
theorem MFc_n {a : Nat → Nat → Int32} {n m : Nat → Int32} {S E k q p : Nat} (h : m 1 = n 1) : MFc a m S E k q p = MFc a n S E k q p := by simp only [MFc, MFd, h]
theorem MLR_n {a : Nat → Nat → Int32} {n m : Nat → Int32} {S E t k : Nat} {c : Int32} {b : Nat → Nat → Int32} {E2 : Nat} (h : m 1 = n 1) (q : MLR a m S E t k c b E2) : MLR a n S E t k c b E2 := by
  simp only [MLR, MFc_n h] at q ⊢
  exact q
/-- what a line leaves as it was, but for a new entry -/
def SAM (a b : Nat → Nat → Int32) : Prop := ∀ q, (q < 19 ∨ q = 20 ∨ q = 21 ∨ q = 24) → b q = a q
theorem MLR_or {a : Nat → Nat → Int32} {n : Nat → Int32} {S E t k : Nat} {c : Int32} {b : Nat → Nat → Int32} {E2 : Nat} (h : MLR a n S E t k c b E2) : (E2 = E ∧ SAM a b) ∨ (E2 = E + 1 ∧ b = MFu a E k (a 10 k).toNatClampNeg t (lfo a (a 8 k) S)) := by
  rcases h with ⟨_, _, rfl, rfl⟩ | ⟨_, ⟨_, _, ⟨_, rfl, rfl⟩ | ⟨_, rfl, rfl⟩⟩ | ⟨_, _, rfl, rfl⟩ | ⟨_, h, rfl⟩ | ⟨_, h, rfl⟩ | ⟨_, _, rfl, rfl⟩ | ⟨_, _, rfl, rfl⟩⟩
  · exact Or.inl ⟨rfl, fun q _ => rfl⟩
  · exact Or.inr ⟨rfl, rfl⟩
  · exact Or.inl ⟨rfl, fun q _ => rfl⟩
  · refine Or.inl ⟨rfl, fun q hq => ?_⟩
    split
    · rw [MGu, va_up_ne _ _ (by omega)]
    · rfl
  · refine Or.inl ⟨rfl, fun q hq => ?_⟩
    rcases h with ⟨_, _, rfl⟩ | ⟨e, _, _, ⟨_, _, rfl⟩ | ⟨_, ⟨_, _, rfl⟩ | ⟨_, u, d, _, _, ⟨_, _, rfl⟩ | ⟨_, _, rfl⟩⟩⟩⟩
    · rfl
    · rfl
    · rw [va_up_ne _ _ (by omega)]
    · rw [va_up_ne _ _ (by omega)]
    · rw [MCu, va_up_ne _ _ (by omega), va_up_ne _ _ (by omega), va_up_ne _ _ (by omega), va_up_ne _ _ (by omega)]
  · refine Or.inl ⟨rfl, fun q hq => ?_⟩
    rcases h with ⟨_, _, rfl⟩ | ⟨e, _, _, _, ⟨_, _, rfl⟩ | ⟨_, u, d, _, _, _, ⟨_, _, rfl⟩ | ⟨_, d2, _, ⟨_, _, rfl⟩ | ⟨_, ⟨_, _, rfl⟩ | ⟨_, _, rfl⟩⟩⟩⟩⟩
    · rfl
    · rfl
    · rw [va_up_ne _ _ (by omega)]
    · rw [va_up_ne _ _ (by omega)]
    · rw [va_up_ne _ _ (by omega)]
    · rw [MPu, va_up_ne _ _ (by omega), va_up_ne _ _ (by omega), va_up_ne _ _ (by omega)]
  · refine Or.inl ⟨rfl, fun q hq => ?_⟩
    split
    · rw [MDu, va_up_ne _ _ (by omega), va_up_ne _ _ (by omega), va_up_ne _ _ (by omega)]
    · rfl
  · exact Or.inl ⟨rfl, fun q _ => rfl⟩
theorem MFu_k {a : Nat → Nat → Int32} {E k p t : Nat} {lw : Int32} {q : Nat} (h : q < 20 ∨ 26 < q) : MFu a E k p t lw q = a q := by
  rw [MFu, va_up_ne _ _ (by omega), va_up_ne _ _ (by omega), va_up_ne _ _ (by omega), va_up_ne _ _ (by omega), va_up_ne _ _ (by omega), va_up_ne _ _ (by omega), va_up_ne _ _ (by omega)]
theorem MLR_k {a : Nat → Nat → Int32} {n : Nat → Int32} {S E t k : Nat} {c : Int32} {b : Nat → Nat → Int32} {E2 : Nat} (h : MLR a n S E t k c b E2) : ∀ q, q < 18 → b q = a q := by
  intro q hq
  rcases MLR_or h with ⟨_, h2⟩ | ⟨_, rfl⟩
  · exact h2 q (by omega)
  · exact MFu_k (by omega)
theorem YW_step {S B M E t k : Nat} {a : Nat → Nat → Int32} {n m : Nat → Int32} {c : Int32} {b : Nat → Nat → Int32} {E2 : Nat} {f18 : Nat → Int32} (Y : YW S B M E t a n) (h : MLR a n S E t k c b E2) (hk : k < B) (ht : t < M) (h6 : m 6 = nI M) (h7 : m 7 = nI E2) (h8 : m 8 = nI (t + 1)) : YW S B M E2 (t + 1) (va_up b 18 f18) m := by
  obtain ⟨_, hM, _, _, hEW, hWM, yO, yEL, yEA, yLW⟩ := Y
  rw [YW, va_up_ne _ _ (by decide), va_up_ne _ _ (by decide), va_up_ne _ _ (by decide), va_up_ne _ _ (by decide)]
  rcases MLR_or h with ⟨rfl, h2⟩ | ⟨rfl, rfl⟩
  · rw [h2 17 (by omega), h2 20 (by omega), h2 21 (by omega), h2 24 (by omega)]
    exact ⟨h6, hM, h7, h8, by omega, by omega, yO, yEL, fun e he => (yEA e he).elim fun u q => ⟨u, by omega, q.2⟩, yLW⟩
  · have e20 : MFu a E k (a 10 k).toNatClampNeg t (lfo a (a 8 k) S) 20 = upd (a 20) E (nI k) := rfl
    have e21 : MFu a E k (a 10 k).toNatClampNeg t (lfo a (a 8 k) S) 21 = upd (a 21) E (nI t) := rfl
    have e24 : MFu a E k (a 10 k).toNatClampNeg t (lfo a (a 8 k) S) 24 = upd (a 24) E (lfo a (a 8 k) S) := rfl
    rw [MFu_k (q := 17) (by omega), e20, e21, e24]
    refine ⟨h6, hM, h7, h8, by omega, by omega, yO, fun e he => ?_, fun e he => ?_, fun e he => ?_⟩
    · by_cases q : e = E
      · exact ⟨k, hk, by rw [upd, if_pos q]⟩
      · rw [upd, if_neg q]; exact yEL e (by omega)
    · by_cases q : e = E
      · exact ⟨t, by omega, by rw [upd, if_pos q]⟩
      · rw [upd, if_neg q]; exact (yEA e (by omega)).elim fun u q => ⟨u, by omega, q.2⟩
    · by_cases q : e = E
      · rw [upd, if_pos q]; exact lfo_in a _ S
      · rw [upd, if_neg q]; exact yLW e (by omega)
/-- the reference's state as the working begins -/
def MST (a : Nat → Nat → Int32) (f : Nat → Int32) : Nat → Nat → Int32 := va_up (va_up (va_up (va_up a 17 f) 18 (fil (a 18) (-1) 120)) 19 (fil (a 19) 0 12)) 27 (fil (a 27) (-1) 64)
theorem MST_k {a : Nat → Nat → Int32} {f : Nat → Int32} {q : Nat} (h : q < 17) : MST a f q = a q := by
  rw [MST, va_up_ne _ _ (by omega), va_up_ne _ _ (by omega), va_up_ne _ _ (by omega), va_up_ne _ _ (by omega)]
def MRN (z0 : Nat → Nat → Int32) (n : Nat → Int32) (S : Nat) : Nat → (Nat → Nat → Int32) → Nat → Prop
  | 0, z, E => z = z0 ∧ E = 0
  | t + 1, z, E => ∃ z1 E1 c b, MRN z0 n S t z1 E1 ∧ MLR z1 n S E1 t (z1 17 t).toNatClampNeg c b E ∧ z = va_up b 18 (upd (b 18) (z1 17 t).toNatClampNeg c)
abbrev n678 (n : Nat → Int32) (M E t : Nat) : Nat → Int32 := va_up (va_up (va_up n 6 (nI M)) 7 (nI E)) 8 (nI t)
/-- the book worked through by the reference: the first N lines, up to a day -/
def MTH (S B : Nat) (a : Nat → Nat → Int32) (n : Nat → Int32) (N : Nat) (y : Int32) (z : Nat → Nat → Int32) (E M : Nat) : Prop := (∃ f, PIO a (a 17) y N f M ∧ MRN (MST a f) n S M z E) ∧ M ≤ N ∧ YW S B M E M z (n678 n M E M) ∧ (∀ q, q < 17 → z q = a q)
theorem va_up_id1 {n : Nat → Int32} {k : Nat} : va_up n k (n k) = n := by
  funext i
  by_cases e : i = k
  · rw [e, va_up_self]
  · rw [va_up_ne _ _ e]
set_option maxHeartbeats 4000000 in
set_option maxRecDepth 100000 in
theorem d_X6_comesTo (l : Launch) (D : va_G) (ty : Nat → ClassId) (t0 : Nat → Nat) (bd : Nat → Nat) (a : Nat → Nat → Int32) (g : Nat → Nat → Int64) (n : Nat → Int32) (P : Nat) (S : Nat) (T : Nat) (B : Nat) (I : YI P S T B a n) (M6 : Nat) (E7 : Nat) (W8 : Nat) (Y : YW S B M6 E7 W8 a n) (x : Int32) (k : Nat) (ek : x = nI k) (hk : k < B) (hW : W8 < M6) : fc l yX6_comesTo wsX6_comesTo (fj_rm 3 72 0 0) D ty t0 [.ref (bd 0), .int x] (fm_w bd ty a g n) 0 0 (fun v w => ∃ (c9 : Int32) (b9 : Nat → Nat → Int32) (E9 : Nat), MLR a n S E7 W8 k c9 b9 E9 ∧ v = some (.int c9) ∧ w = fm_w bd ty b9 g (va_up n 7 (nI E9))) := by
  subst ek
  refine fc_start (own := RX6) (cc := cX6_comesTo) (maxL := 2) (ret := (some .int)) (by decide) rfl (Nat.le_of_ble_eq_true rfl) rfl ?_
  intro p e s m args below meth c Q A C hmn E9
  obtain ⟨hn0, hP, hn2, hT, hn4, hS, hn5, hB, yWho, ySort, yQ, yN, yD, yL⟩ := id I
  obtain ⟨hn6, hM6, hn7, hn8, hEW, hWM, yO, yEL, yEA, yLW⟩ := id Y
  obtain ⟨p9, hp9P, ep9⟩ := yWho k hk
  have hpN : a 10 k = nI (a 10 k).toNatClampNeg ∧ (a 10 k).toNatClampNeg < 12 := by rw [ep9, nI_clamp (by omega)]; exact ⟨rfl, by omega⟩
  have iX6 : ∀ w ∈ u_ws RX6 TX6 44, w ∈ wsX6_comesTo := ptX6_comesTo_wsX60
  have kX6_73 : Cond.fieldLink RX6 73 "FreeLandModel" "isDead" "[Z" ∈ wsX6_comesTo := ptX6_comesTo_woX6_comesTo _ (by decide +kernel)
  have kX6_45 : Cond.fieldLink RX6 45 "FreeLandModel" "people" "[I" ∈ wsX6_comesTo := ptX6_comesTo_woX6_comesTo _ (by decide +kernel)
  have kX6_42 : Cond.fieldLink RX6 42 "FreeLandModel" "sorts" "[I" ∈ wsX6_comesTo := ptX6_comesTo_woX6_comesTo _ (by decide +kernel)
  refine fj_lv (lv' := [(0, .ref (bd 0)), (1, .int (nI k))]) [0, 1] rfl ?_
  refine fj_aload_n C 0 dX6_comesTo_0 rfl rfl ?_
  refine fj_get (Cn := RX6) (T := TX6) (N := 44) (ci := 6) (v := .ref (bd 19)) C iX6 0 (fm_at0 _ _ _ _ _) rfl 25 (by decide) kX6_73 rfl dX6_comesTo_1 ?_
  refine fj_aload_n C 0 dX6_comesTo_4 rfl rfl ?_
  refine fj_get (Cn := RX6) (T := TX6) (N := 44) (ci := 6) (v := .ref (bd 10)) C iX6 0 (fm_at0 _ _ _ _ _) rfl 15 (by decide) kX6_45 rfl dX6_comesTo_5 ?_
  refine fj_iload_n C 1 dX6_comesTo_8 rfl rfl ?_
  refine fj_iald (f := (a 10)) C 10 (fm_at10 _ _ _ _ _) (vp_in_nI (by omega) (by decide)) dX6_comesTo_9 ?_
  refine fj_at (y := nI (a 10 k).toNatClampNeg) (by rw [nI_clamp (by omega)]; exact hpN.1) ?_
  refine fj_zald (f := (a 19)) C 19 (fm_at19 _ _ _ _ _) (vp_in_nI hpN.2 (by decide)) dX6_comesTo_10 ?_
  refine fj_at (y := a 19 (a 10 k).toNatClampNeg) (by rw [nI_clamp (by omega)]) ?_
  refine fj_if_eq (tgt := 16) C dX6_comesTo_11 (by decide) (fun h11 => ?_) (fun h11 => ?_)
  · refine fj_aload_n C 0 dX6_comesTo_16 rfl rfl ?_
    refine fj_get (Cn := RX6) (T := TX6) (N := 44) (ci := 6) (v := .ref (bd 9)) C iX6 0 (fm_at0 _ _ _ _ _) rfl 14 (by decide) kX6_42 rfl dX6_comesTo_17 ?_
    refine fj_iload_n C 1 dX6_comesTo_20 rfl rfl ?_
    refine fj_iald (f := (a 9)) C 9 (fm_at9 _ _ _ _ _) (vp_in_nI (by omega) (by decide)) dX6_comesTo_21 ?_
    refine fj_at (y := a 9 k) (by rw [nI_clamp (by omega)]) ?_
    rcases fx_sw (a 9 k) 0 6 with hsw | hsw
    · refine fj_tableOut (tgt := 94) C dX6_comesTo_22 hsw (by decide) ?_
      have hs : ∀ c : Int32, 0 ≤ c.toInt → c.toInt ≤ 6 → ¬ a 9 k = c := fun c u0 u6 e => by rw [e] at hsw; omega
      refine fj_iconst (v := 0) C dX6_comesTo_94 (by decide) ?_
      exact fj_iret C E9 dX6_comesTo_95 ⟨_, _, E7, Or.inr ⟨h11, Or.inr (Or.inr (Or.inr (Or.inr (Or.inr (⟨(by first | exact ⟨by rw [hs]; decide, by rw [hs]; decide, by rw [hs]; decide, by rw [hs]; decide, by rw [hs]; decide⟩ | exact ⟨hs 0 (by decide) (by decide), hs 3 (by decide) (by decide), hs 4 (by decide) (by decide), hs 5 (by decide) (by decide), hs 6 (by decide) (by decide)⟩), rfl, rfl, rfl⟩)))))⟩, rfl, (by rw [← hn7, va_up_id1])⟩
    · obtain ⟨hs1, hs2⟩ := hsw
      rcases (show (a 9 k).toInt = 0 ∨ (a 9 k).toInt = 1 ∨ (a 9 k).toInt = 2 ∨ (a 9 k).toInt = 3 ∨ (a 9 k).toInt = 4 ∨ (a 9 k).toInt = 5 ∨ (a 9 k).toInt = 6 by omega) with hsw | hsw | hsw | hsw | hsw | hsw | hsw
      · refine fj_tableIn (off := 42) (tgt := 64) C dX6_comesTo_22 (by omega) (by omega) (by rw [hsw]; rfl) (by decide) ?_
        have hs : a 9 k = 0 := Int32.toInt_inj.mp (by rw [hsw]; decide)
        obtain ⟨q9, hq9, eq9⟩ := yQ k hk (by rw [hs]; decide)
        have hqN : a 11 k = nI (a 11 k).toNatClampNeg ∧ (a 11 k).toNatClampNeg < 64 := by rw [eq9, nI_clamp (by omega)]; exact ⟨rfl, hq9⟩
        refine fj_aload_n C 0 dX6_comesTo_64 rfl rfl ?_
        refine fj_iload_n C 1 dX6_comesTo_65 rfl rfl ?_
        refine fj_callVw (As := [.int (nI k)]) (rest := []) C (d_X6_file l D ty t0 bd a g n P S T B I M6 E7 W8 Y (nI k) k rfl hk ((a 11 k).toNatClampNeg) hqN.1 hqN.2 ((a 10 k).toNatClampNeg) hpN.1 hpN.2 hW) (cwV 1 C.2.2.2.2.1 gX6_comesTo_X6_file rfl rfl rfl (by decide +kernel) ⟨Nat.le_of_ble_eq_true rfl, Nat.le_of_ble_eq_true rfl⟩) ⟨0, 6, _, _, fm_at0 _ _ _ _ _, rfl, rfl⟩ rfl (Nat.le_of_ble_eq_true rfl) dX6_comesTo_66 ⟨Nat.zero_le _, Nat.zero_le _⟩ (fun v9 w9 hp9 => ?_)
        replace hp9 := if_or hp9
        rcases hp9 with ⟨hz9, rfl, rfl⟩ | ⟨hz9, rfl, rfl⟩
        · refine fj_st (st' := .int (MFc a n S E7 k (a 11 k).toNatClampNeg (a 10 k).toNatClampNeg) :: []) rfl ?_
          exact fj_iret C E9 dX6_comesTo_69 ⟨_, _, (E7 + 1), Or.inr ⟨h11, Or.inl ⟨hs, rfl, Or.inl ⟨hz9, rfl, rfl⟩⟩⟩, rfl, rfl⟩
        · refine fj_st (st' := .int (MFc a n S E7 k (a 11 k).toNatClampNeg (a 10 k).toNatClampNeg) :: []) rfl ?_
          exact fj_iret C E9 dX6_comesTo_69 ⟨_, _, E7, Or.inr ⟨h11, Or.inl ⟨hs, rfl, Or.inr ⟨hz9, rfl, rfl⟩⟩⟩, rfl, (by rw [← hn7, va_up_id1])⟩
      · refine fj_tableIn (off := 72) (tgt := 94) C dX6_comesTo_22 (by omega) (by omega) (by rw [hsw]; rfl) (by decide) ?_
        have hs : a 9 k = 1 := Int32.toInt_inj.mp (by rw [hsw]; decide)
        refine fj_iconst (v := 0) C dX6_comesTo_94 (by decide) ?_
        exact fj_iret C E9 dX6_comesTo_95 ⟨_, _, E7, Or.inr ⟨h11, Or.inr (Or.inr (Or.inr (Or.inr (Or.inr (⟨(by first | exact ⟨by rw [hs]; decide, by rw [hs]; decide, by rw [hs]; decide, by rw [hs]; decide, by rw [hs]; decide⟩ | exact ⟨hs 0 (by decide) (by decide), hs 3 (by decide) (by decide), hs 4 (by decide) (by decide), hs 5 (by decide) (by decide), hs 6 (by decide) (by decide)⟩), rfl, rfl, rfl⟩)))))⟩, rfl, (by rw [← hn7, va_up_id1])⟩
      · refine fj_tableIn (off := 72) (tgt := 94) C dX6_comesTo_22 (by omega) (by omega) (by rw [hsw]; rfl) (by decide) ?_
        have hs : a 9 k = 2 := Int32.toInt_inj.mp (by rw [hsw]; decide)
        refine fj_iconst (v := 0) C dX6_comesTo_94 (by decide) ?_
        exact fj_iret C E9 dX6_comesTo_95 ⟨_, _, E7, Or.inr ⟨h11, Or.inr (Or.inr (Or.inr (Or.inr (Or.inr (⟨(by first | exact ⟨by rw [hs]; decide, by rw [hs]; decide, by rw [hs]; decide, by rw [hs]; decide, by rw [hs]; decide⟩ | exact ⟨hs 0 (by decide) (by decide), hs 3 (by decide) (by decide), hs 4 (by decide) (by decide), hs 5 (by decide) (by decide), hs 6 (by decide) (by decide)⟩), rfl, rfl, rfl⟩)))))⟩, rfl, (by rw [← hn7, va_up_id1])⟩
      · refine fj_tableIn (off := 48) (tgt := 70) C dX6_comesTo_22 (by omega) (by omega) (by rw [hsw]; rfl) (by decide) ?_
        have hs : a 9 k = 3 := Int32.toInt_inj.mp (by rw [hsw]; decide)
        obtain ⟨q9, hq9, eq9⟩ := yQ k hk (by rw [hs]; decide)
        have hqN : a 11 k = nI (a 11 k).toNatClampNeg ∧ (a 11 k).toNatClampNeg < 64 := by rw [eq9, nI_clamp (by omega)]; exact ⟨rfl, hq9⟩
        refine fj_aload_n C 0 dX6_comesTo_70 rfl rfl ?_
        refine fj_iload_n C 1 dX6_comesTo_71 rfl rfl ?_
        refine fj_callVw (As := [.int (nI k)]) (rest := []) C (d_X6_giveUp l D ty t0 bd a g n P S T B I M6 E7 W8 Y (nI k) k rfl hk ((a 11 k).toNatClampNeg) hqN.1 hqN.2) (cwV 1 C.2.2.2.2.1 gX6_comesTo_X6_giveUp rfl rfl rfl (by decide +kernel) ⟨Nat.le_of_ble_eq_true rfl, Nat.le_of_ble_eq_true rfl⟩) ⟨0, 6, _, _, fm_at0 _ _ _ _ _, rfl, rfl⟩ rfl (Nat.le_of_ble_eq_true rfl) dX6_comesTo_72 ⟨Nat.zero_le _, Nat.zero_le _⟩ (fun v9 w9 hp9 => ?_)
        obtain ⟨rfl, rfl⟩ := hp9
        refine fj_st (st' := .int (if MGO a (a 11 k).toNatClampNeg E7 k then 0 else 8) :: []) rfl ?_
        exact fj_iret C E9 dX6_comesTo_75 ⟨_, _, E7, Or.inr ⟨h11, Or.inr (Or.inl ⟨hs, rfl, rfl, rfl⟩)⟩, rfl, (by rw [← hn7, va_up_id1])⟩
      · refine fj_tableIn (off := 54) (tgt := 76) C dX6_comesTo_22 (by omega) (by omega) (by rw [hsw]; rfl) (by decide) ?_
        have hs : a 9 k = 4 := Int32.toInt_inj.mp (by rw [hsw]; decide)
        obtain ⟨q9, hq9, eq9⟩ := yQ k hk (by rw [hs]; decide)
        have hqN : a 11 k = nI (a 11 k).toNatClampNeg ∧ (a 11 k).toNatClampNeg < 64 := by rw [eq9, nI_clamp (by omega)]; exact ⟨rfl, hq9⟩
        refine fj_aload_n C 0 dX6_comesTo_76 rfl rfl ?_
        refine fj_iload_n C 1 dX6_comesTo_77 rfl rfl ?_
        refine fj_callVw (As := [.int (nI k)]) (rest := []) C (d_X6_contest l D ty t0 bd a g n P S T B I M6 E7 W8 Y (nI k) k rfl hk ((a 11 k).toNatClampNeg) hqN.1 hqN.2) (cwV 1 C.2.2.2.2.1 gX6_comesTo_X6_contest rfl rfl rfl (by decide +kernel) ⟨Nat.le_of_ble_eq_true rfl, Nat.le_of_ble_eq_true rfl⟩) ⟨0, 6, _, _, fm_at0 _ _ _ _ _, rfl, rfl⟩ rfl (Nat.le_of_ble_eq_true rfl) dX6_comesTo_78 ⟨Nat.zero_le _, Nat.zero_le _⟩ (fun v9 w9 hp9 => ?_)
        obtain ⟨c9, b9, hR9, rfl, rfl⟩ := hp9
        refine fj_st (st' := .int c9 :: []) rfl ?_
        exact fj_iret C E9 dX6_comesTo_81 ⟨_, _, E7, Or.inr ⟨h11, Or.inr (Or.inr (Or.inl ⟨hs, hR9, rfl⟩))⟩, rfl, (by rw [← hn7, va_up_id1])⟩
      · refine fj_tableIn (off := 60) (tgt := 82) C dX6_comesTo_22 (by omega) (by omega) (by rw [hsw]; rfl) (by decide) ?_
        have hs : a 9 k = 5 := Int32.toInt_inj.mp (by rw [hsw]; decide)
        obtain ⟨q9, hq9, eq9⟩ := yQ k hk (by rw [hs]; decide)
        have hqN : a 11 k = nI (a 11 k).toNatClampNeg ∧ (a 11 k).toNatClampNeg < 64 := by rw [eq9, nI_clamp (by omega)]; exact ⟨rfl, hq9⟩
        refine fj_aload_n C 0 dX6_comesTo_82 rfl rfl ?_
        refine fj_iload_n C 1 dX6_comesTo_83 rfl rfl ?_
        refine fj_callVw (As := [.int (nI k)]) (rest := []) C (d_X6_prove l D ty t0 bd a g n P S T B I M6 E7 W8 Y (nI k) k rfl hk ((a 11 k).toNatClampNeg) hqN.1 hqN.2) (cwV 1 C.2.2.2.2.1 gX6_comesTo_X6_prove rfl rfl rfl (by decide +kernel) ⟨Nat.le_of_ble_eq_true rfl, Nat.le_of_ble_eq_true rfl⟩) ⟨0, 6, _, _, fm_at0 _ _ _ _ _, rfl, rfl⟩ rfl (Nat.le_of_ble_eq_true rfl) dX6_comesTo_84 ⟨Nat.zero_le _, Nat.zero_le _⟩ (fun v9 w9 hp9 => ?_)
        obtain ⟨c9, b9, hR9, rfl, rfl⟩ := hp9
        refine fj_st (st' := .int c9 :: []) rfl ?_
        exact fj_iret C E9 dX6_comesTo_87 ⟨_, _, E7, Or.inr ⟨h11, Or.inr (Or.inr (Or.inr (Or.inl ⟨hs, hR9, rfl⟩)))⟩, rfl, (by rw [← hn7, va_up_id1])⟩
      · refine fj_tableIn (off := 66) (tgt := 88) C dX6_comesTo_22 (by omega) (by omega) (by rw [hsw]; rfl) (by decide) ?_
        have hs : a 9 k = 6 := Int32.toInt_inj.mp (by rw [hsw]; decide)
        obtain ⟨h9, hh9, eh9⟩ := yN k hk (by rw [hs]; rfl)
        have hhN : a 12 k = nI (a 12 k).toNatClampNeg ∧ (a 12 k).toNatClampNeg < 12 := by rw [eh9, nI_clamp (by omega)]; exact ⟨rfl, by omega⟩
        refine fj_aload_n C 0 dX6_comesTo_88 rfl rfl ?_
        refine fj_iload_n C 1 dX6_comesTo_89 rfl rfl ?_
        refine fj_callVw (As := [.int (nI k)]) (rest := []) C (d_X6_death l D ty t0 bd a g n P S T B I M6 E7 W8 Y (nI k) k rfl hk ((a 10 k).toNatClampNeg) hpN.1 hpN.2 ((a 12 k).toNatClampNeg) hhN.1 hhN.2) (cwV 1 C.2.2.2.2.1 gX6_comesTo_X6_death rfl rfl rfl (by decide +kernel) ⟨Nat.le_of_ble_eq_true rfl, Nat.le_of_ble_eq_true rfl⟩) ⟨0, 6, _, _, fm_at0 _ _ _ _ _, rfl, rfl⟩ rfl (Nat.le_of_ble_eq_true rfl) dX6_comesTo_90 ⟨Nat.zero_le _, Nat.zero_le _⟩ (fun v9 w9 hp9 => ?_)
        obtain ⟨rfl, rfl⟩ := hp9
        refine fj_st (st' := .int (MDc a (a 10 k).toNatClampNeg (a 12 k).toNatClampNeg) :: []) rfl ?_
        exact fj_iret C E9 dX6_comesTo_93 ⟨_, _, E7, Or.inr ⟨h11, Or.inr (Or.inr (Or.inr (Or.inr (Or.inl ⟨hs, rfl, rfl, rfl⟩))))⟩, rfl, (by rw [← hn7, va_up_id1])⟩
  · refine fj_iconst (v := 1) C dX6_comesTo_14 (by decide) ?_
    exact fj_iret C E9 dX6_comesTo_15 ⟨_, _, E7, Or.inl ⟨h11, rfl, rfl, rfl⟩, rfl, (by rw [← hn7, va_up_id1])⟩

set_option maxHeartbeats 4000000 in
set_option maxRecDepth 100000 in
theorem d_X6_work (l : Launch) (D : va_G) (ty : Nat → ClassId) (t0 : Nat → Nat) (bd : Nat → Nat) (a : Nat → Nat → Int32) (g : Nat → Nat → Int64) (n : Nat → Int32) (P : Nat) (S : Nat) (T : Nat) (B : Nat) (I : YI P S T B a n) (x : Int32) (y : Int32) (N : Nat) (eN : x = nI N) (hNB : N ≤ B) : fc l yX6_work wsX6_work (fj_rm 4 93 0 0) D ty t0 [.ref (bd 0), .int x, .int y] (fm_w bd ty a g n) 0 0 (fun v w => v = none ∧ ∃ (z : Nat → Nat → Int32) (E M : Nat), MTH S B a n N y z E M ∧ w = fm_w bd ty z g (n678 n M E M)) := by
  subst eN
  refine fc_start (own := RX6) (cc := cX6_work) (maxL := 4) (ret := none) (by decide) rfl (Nat.le_of_ble_eq_true rfl) rfl ?_
  intro p e s m args below meth c Q A C hmn E9
  obtain ⟨hn0, hP, hn2, hT, hn4, hS, hn5, hB, yWho, ySort, yQ, yN, yD, yL⟩ := id I
  have iX6 : ∀ w ∈ u_ws RX6 TX6 44, w ∈ wsX6_work := ptX6_work_wsX60
  have kX6_206 : Cond.fieldLink RX6 206 "FreeLandModel" "entries" "I" ∈ wsX6_work := ptX6_work_woX6_work _ (by decide +kernel)
  have kX6_212 : Cond.fieldLink RX6 212 "FreeLandModel" "worked" "I" ∈ wsX6_work := ptX6_work_woX6_work _ (by decide +kernel)
  have kX6_203 : Cond.fieldLink RX6 203 "FreeLandModel" "orderMany" "I" ∈ wsX6_work := ptX6_work_woX6_work _ (by decide +kernel)
  have kX6_67 : Cond.fieldLink RX6 67 "FreeLandModel" "order" "[I" ∈ wsX6_work := ptX6_work_woX6_work _ (by decide +kernel)
  have kX6_70 : Cond.fieldLink RX6 70 "FreeLandModel" "outcomes" "[I" ∈ wsX6_work := ptX6_work_woX6_work _ (by decide +kernel)
  have kX6_97 : Cond.fieldLink RX6 97 "FreeLandModel" "preferred" "[I" ∈ wsX6_work := ptX6_work_woX6_work _ (by decide +kernel)
  have kX6_73 : Cond.fieldLink RX6 73 "FreeLandModel" "isDead" "[Z" ∈ wsX6_work := ptX6_work_woX6_work _ (by decide +kernel)
  refine fj_lv (lv' := [(0, .ref (bd 0)), (1, .int (nI N)), (2, .int y)]) [0, 1, 2] rfl ?_
  refine fj_aload_n C 0 dX6_work_0 rfl rfl ?_
  refine fj_iload_n C 1 dX6_work_1 rfl rfl ?_
  refine fj_iload_n C 2 dX6_work_2 rfl rfl ?_
  refine fj_callVw (As := [.int (nI N), .int y]) (rest := []) C (d_X6_putInOrder l D ty t0 bd a g n P S T B I (nI N) y N rfl hNB) (cwV 2 C.2.2.2.2.1 gX6_work_X6_putInOrder rfl rfl rfl (by decide +kernel) ⟨Nat.le_of_ble_eq_true rfl, Nat.le_of_ble_eq_true rfl⟩) ⟨0, 6, _, _, fm_at0 _ _ _ _ _, rfl, rfl⟩ rfl (Nat.le_of_ble_eq_true rfl) dX6_work_3 ⟨Nat.zero_le _, Nat.zero_le _⟩ (fun v9 w9 hp9 => ?_)
  obtain ⟨rfl, f9, M9, hPO, hMN, hbd, rfl⟩ := hp9
  refine fj_st (st' := []) rfl ?_
  refine fj_aload_n C 0 dX6_work_6 rfl rfl ?_
  refine fj_iconst (v := 0) C dX6_work_7 (by decide) ?_
  refine fj_put (Cn := RX6) (T := TX6) (N := 44) (ci := 6) C iX6 tyX6 tyX6_ok nmX6 0 (fm_at0 _ _ _ _ _) rfl 26 (by decide) kX6_206 rfl rfl rfl (Nat.le_of_ble_eq_true rfl) dX6_work_8 (fm_si0_26 _ _ _ _ _ _) ?_
  refine fj_iconst (v := 0) C dX6_work_11 (by decide) ?_
  refine fj_istore_n (lv' := [(3, .int 0), (0, .ref (bd 0)), (1, .int (nI N)), (2, .int y)]) C dX6_work_12 rfl (by decide) rfl ?_
  refine fj_lv (lv' := [(0, .ref (bd 0)), (1, .int (nI N)), (2, .int y), (3, .int 0)]) [1, 2, 3, 0] rfl ?_
  have lp13 : ∀ (i1 : Nat), (i1 ≤ 120) → fj p l e (fj_rm 4 93 0 0) s m args below meth c Q A D 4 0 0 (fm_w bd ty (va_up (va_up a 17 f9) 18 (fil (a 18) (-1) i1)) g (va_up (va_up n 6 (nI M9)) 7 0)) [(0, .ref (bd 0)), (1, .int (nI N)), (2, .int y), (3, .int (nI i1))] 13 [] := by
    have key : ∀ zz : Nat, (fun (i1 : Nat) => (i1 ≤ 120) → fj p l e (fj_rm 4 93 0 0) s m args below meth c Q A D 4 0 0 (fm_w bd ty (va_up (va_up a 17 f9) 18 (fil (a 18) (-1) i1)) g (va_up (va_up n 6 (nI M9)) 7 0)) [(0, .ref (bd 0)), (1, .int (nI N)), (2, .int y), (3, .int (nI i1))] 13 []) zz := by
      refine fx_ind (fun (i1 : Nat) => 120 - i1) _ ?_
      rintro i1 ih13 hi1
      refine fj_iload_n C 3 dX6_work_13 rfl rfl ?_
      refine fj_bipush (v := 120) C dX6_work_14 (by decide) ?_
      refine fj_icmp_ge (tgt := 32) C dX6_work_16 (by decide) (fun h16 => ?_) (fun h16 => ?_)
      · obtain rfl : i1 = 120 := by have := (nI_leI (a := 120) (by decide) (by omega)).mp h16; omega
        refine fj_iconst (v := 0) C dX6_work_32 (by decide) ?_
        refine fj_istore_n (lv' := [(3, .int 0), (0, .ref (bd 0)), (1, .int (nI N)), (2, .int y)]) C dX6_work_33 rfl (by decide) rfl ?_
        refine fj_lv (lv' := [(0, .ref (bd 0)), (1, .int (nI N)), (2, .int y), (3, .int 0)]) [1, 2, 3, 0] rfl ?_
        have lp34 : ∀ (i2 : Nat), (i2 ≤ 12) → fj p l e (fj_rm 4 93 0 0) s m args below meth c Q A D 4 0 0 (fm_w bd ty (va_up (va_up (va_up a 17 f9) 18 (fil (a 18) (-1) 120)) 19 (fil (a 19) 0 i2)) g (va_up (va_up n 6 (nI M9)) 7 0)) [(0, .ref (bd 0)), (1, .int (nI N)), (2, .int y), (3, .int (nI i2))] 34 [] := by
          have key : ∀ zz : Nat, (fun (i2 : Nat) => (i2 ≤ 12) → fj p l e (fj_rm 4 93 0 0) s m args below meth c Q A D 4 0 0 (fm_w bd ty (va_up (va_up (va_up a 17 f9) 18 (fil (a 18) (-1) 120)) 19 (fil (a 19) 0 i2)) g (va_up (va_up n 6 (nI M9)) 7 0)) [(0, .ref (bd 0)), (1, .int (nI N)), (2, .int y), (3, .int (nI i2))] 34 []) zz := by
            refine fx_ind (fun (i2 : Nat) => 12 - i2) _ ?_
            rintro i2 ih34 hi2
            refine fj_iload_n C 3 dX6_work_34 rfl rfl ?_
            refine fj_bipush (v := 12) C dX6_work_35 (by decide) ?_
            refine fj_icmp_ge (tgt := 53) C dX6_work_37 (by decide) (fun h37 => ?_) (fun h37 => ?_)
            · obtain rfl : i2 = 12 := by have := (nI_leI (a := 12) (by decide) (by omega)).mp h37; omega
              refine fj_iconst (v := 0) C dX6_work_53 (by decide) ?_
              refine fj_istore_n (lv' := [(3, .int 0), (0, .ref (bd 0)), (1, .int (nI N)), (2, .int y)]) C dX6_work_54 rfl (by decide) rfl ?_
              refine fj_lv (lv' := [(0, .ref (bd 0)), (1, .int (nI N)), (2, .int y), (3, .int 0)]) [1, 2, 3, 0] rfl ?_
              have lp55 : ∀ (i3 : Nat), (i3 ≤ 64) → fj p l e (fj_rm 4 93 0 0) s m args below meth c Q A D 4 0 0 (fm_w bd ty (va_up (va_up (va_up (va_up a 17 f9) 18 (fil (a 18) (-1) 120)) 19 (fil (a 19) 0 12)) 27 (fil (a 27) (-1) i3)) g (va_up (va_up n 6 (nI M9)) 7 0)) [(0, .ref (bd 0)), (1, .int (nI N)), (2, .int y), (3, .int (nI i3))] 55 [] := by
                have key : ∀ zz : Nat, (fun (i3 : Nat) => (i3 ≤ 64) → fj p l e (fj_rm 4 93 0 0) s m args below meth c Q A D 4 0 0 (fm_w bd ty (va_up (va_up (va_up (va_up a 17 f9) 18 (fil (a 18) (-1) 120)) 19 (fil (a 19) 0 12)) 27 (fil (a 27) (-1) i3)) g (va_up (va_up n 6 (nI M9)) 7 0)) [(0, .ref (bd 0)), (1, .int (nI N)), (2, .int y), (3, .int (nI i3))] 55 []) zz := by
                  refine fx_ind (fun (i3 : Nat) => 64 - i3) _ ?_
                  rintro i3 ih55 hi3
                  refine fj_iload_n C 3 dX6_work_55 rfl rfl ?_
                  refine fj_bipush (v := 64) C dX6_work_56 (by decide) ?_
                  refine fj_icmp_ge (tgt := 74) C dX6_work_58 (by decide) (fun h58 => ?_) (fun h58 => ?_)
                  · obtain rfl : i3 = 64 := by have := (nI_leI (a := 64) (by decide) (by omega)).mp h58; omega
                    refine fj_aload_n C 0 dX6_work_74 rfl rfl ?_
                    refine fj_iconst (v := 0) C dX6_work_75 (by decide) ?_
                    refine fj_put (Cn := RX6) (T := TX6) (N := 44) (ci := 6) C iX6 tyX6 tyX6_ok nmX6 0 (fm_at0 _ _ _ _ _) rfl 36 (by decide) kX6_212 rfl rfl rfl (Nat.le_of_ble_eq_true rfl) dX6_work_76 (fm_si0_36 _ _ _ _ _ _) ?_
                    refine fj_lv (lv' := [(0, .ref (bd 0)), (1, .int (nI N)), (2, .int y)]) [0, 1, 2] rfl ?_
                    have lp79 : ∀ (t : Nat) (z : Nat → Nat → Int32) (E7 : Nat), (t ≤ M9) → (MRN (MST a f9) n S t z E7) → (YW S B M9 E7 t z (n678 n M9 E7 t)) → (∀ q, q < 17 → z q = a q) → fj p l e (fj_rm 4 93 0 0) s m args below meth c Q A D 4 0 0 (fm_w bd ty z g (va_up (va_up (va_up n 6 (nI M9)) 7 (nI E7)) 8 (nI t))) [(0, .ref (bd 0)), (1, .int (nI N)), (2, .int y)] 79 [] := by
                      have key : ∀ zz : Nat × (Nat → Nat → Int32) × Nat, (fun (zz : Nat × (Nat → Nat → Int32) × Nat) => match zz with | (t, z, E7) => (t ≤ M9) → (MRN (MST a f9) n S t z E7) → (YW S B M9 E7 t z (n678 n M9 E7 t)) → (∀ q, q < 17 → z q = a q) → fj p l e (fj_rm 4 93 0 0) s m args below meth c Q A D 4 0 0 (fm_w bd ty z g (va_up (va_up (va_up n 6 (nI M9)) 7 (nI E7)) 8 (nI t))) [(0, .ref (bd 0)), (1, .int (nI N)), (2, .int y)] 79 []) zz := by
                        refine fx_ind (fun (zz : Nat × (Nat → Nat → Int32) × Nat) => match zz with | (t, z, E7) => M9 - t) _ ?_
                        rintro ⟨t, z, E7⟩ ih79 ht hR hY hz
                        have I2 : YI P S T B z (n678 n M9 E7 t) := YI_keep I hz (fun j hj => by rw [n678, va_up_ne _ _ (by omega), va_up_ne _ _ (by omega), va_up_ne _ _ (by omega)])
                        obtain ⟨hn0, hP, hn2, hT, hn4, hS, hn5, hB, yWho, ySort, yQ, yN, yD, yL⟩ := id I2
                        obtain ⟨hn6, hM6, hn7, hn8, hEW, hWM, yO, yEL, yEA, yLW⟩ := id hY
                        refine fj_aload_n C 0 dX6_work_79 rfl rfl ?_
                        refine fj_get (Cn := RX6) (T := TX6) (N := 44) (ci := 6) (v := .int (nI t)) C iX6 0 (fm_at0 _ _ _ _ _) rfl 36 (by decide) kX6_212 rfl dX6_work_80 ?_
                        refine fj_aload_n C 0 dX6_work_83 rfl rfl ?_
                        refine fj_get (Cn := RX6) (T := TX6) (N := 44) (ci := 6) (v := .int (nI M9)) C iX6 0 (fm_at0 _ _ _ _ _) rfl 23 (by decide) kX6_203 rfl dX6_work_84 ?_
                        refine fj_icmp_ge (tgt := 124) C dX6_work_87 (by decide) (fun h87 => ?_) (fun h87 => ?_)
                        · have hge : M9 ≤ t := Nat.le_of_not_lt fun q => absurd (Int32.not_lt.mpr h87) (not_not_intro ((nI_ltI (by omega) (by omega)).mpr q))
                          obtain rfl : M9 = t := by omega
                          exact fj_vret C E9 dX6_work_124 ⟨rfl, z, E7, M9, ⟨⟨f9, hPO, hR⟩, hMN, hY, hz⟩, rfl⟩
                        · have hlt : t < M9 := (nI_ltI (by omega) (by omega)).mp (Int32.not_le.mp h87)
                          refine fj_aload_n C 0 dX6_work_90 rfl rfl ?_
                          refine fj_get (Cn := RX6) (T := TX6) (N := 44) (ci := 6) (v := .ref (bd 17)) C iX6 0 (fm_at0 _ _ _ _ _) rfl 22 (by decide) kX6_67 rfl dX6_work_91 ?_
                          refine fj_aload_n C 0 dX6_work_94 rfl rfl ?_
                          refine fj_get (Cn := RX6) (T := TX6) (N := 44) (ci := 6) (v := .int (nI t)) C iX6 0 (fm_at0 _ _ _ _ _) rfl 36 (by decide) kX6_212 rfl dX6_work_95 ?_
                          refine fj_iald (f := (z 17)) C 17 (fm_at17 _ _ _ _ _) (vp_in_nI (by omega) (by decide)) dX6_work_98 ?_
                          obtain ⟨l5, hl5, el5⟩ := yO t hlt
                          refine fj_at (y := nI l5) (by rw [nI_clamp (by omega), el5]) ?_
                          refine fj_istore_n (lv' := [(3, .int (nI l5)), (0, .ref (bd 0)), (1, .int (nI N)), (2, .int y)]) C dX6_work_99 rfl (by decide) rfl ?_
                          refine fj_aload_n C 1 dX6_work_100 rfl rfl ?_
                          refine fj_get (Cn := RX6) (T := TX6) (N := 44) (ci := 6) (v := .ref (bd 18)) C iX6 0 (fm_at0 _ _ _ _ _) rfl 24 (by decide) kX6_70 rfl dX6_work_101 ?_
                          refine fj_iload_n C 0 dX6_work_104 rfl rfl ?_
                          refine fj_aload_n C 1 dX6_work_105 rfl rfl ?_
                          refine fj_iload_n C 0 dX6_work_106 rfl rfl ?_
                          refine fj_callVw (As := [.int (nI l5)]) (rest := [.int (nI l5), .ref (bd 18)]) C (d_X6_comesTo l D ty t0 bd z g (va_up (va_up (va_up n 6 (nI M9)) 7 (nI E7)) 8 (nI t)) P S T B I2 M9 E7 t hY (nI l5) l5 rfl hl5 hlt) (cwV 1 C.2.2.2.2.1 gX6_work_X6_comesTo rfl rfl rfl (by decide +kernel) ⟨Nat.le_of_ble_eq_true rfl, Nat.le_of_ble_eq_true rfl⟩) ⟨0, 6, _, _, fm_at0 _ _ _ _ _, rfl, rfl⟩ rfl (Nat.le_of_ble_eq_true rfl) dX6_work_107 ⟨Nat.zero_le _, Nat.zero_le _⟩ (fun v9 w9 hp9 => ?_)
                          obtain ⟨c9, b9, E9, hL9, rfl, rfl⟩ := hp9
                          refine fj_ws (ws' := (fm_w bd ty b9 g (va_up (va_up (va_up n 6 (nI M9)) 7 (nI E9)) 8 (nI t)))) rfl ?_
                          refine fj_st (st' := .int c9 :: [.int (nI l5), .ref (bd 18)]) rfl ?_
                          refine fj_iast (f := (b9 18)) C 18 (fm_at18 _ _ _ _ _) (vp_in_nI (by omega) (by decide)) dX6_work_110 (fm_st18 _ _ _ _ _ _) ?_
                          refine fj_ws (ws' := (fm_w bd ty (va_up b9 18 (upd (b9 18) l5 c9)) g (va_up (va_up (va_up n 6 (nI M9)) 7 (nI E9)) 8 (nI t)))) (by rw [nI_clamp (by omega)]) ?_
                          refine fj_aload_n C 1 dX6_work_111 rfl rfl ?_
                          refine fj_dup C dX6_work_112 rfl ?_
                          refine fj_get (Cn := RX6) (T := TX6) (N := 44) (ci := 6) (v := .int (nI t)) C iX6 0 (fm_at0 _ _ _ _ _) rfl 36 (by decide) kX6_212 rfl dX6_work_113 ?_
                          refine fj_iconst (v := 1) C dX6_work_116 (by decide) ?_
                          refine fj_iadd C dX6_work_117 ?_
                          refine fj_at (y := nI (t + 1)) (nI_1 t) ?_
                          refine fj_put (Cn := RX6) (T := TX6) (N := 44) (ci := 6) C iX6 tyX6 tyX6_ok nmX6 0 (fm_at0 _ _ _ _ _) rfl 36 (by decide) kX6_212 rfl rfl rfl (Nat.le_of_ble_eq_true rfl) dX6_work_118 (fm_si0_36 _ _ _ _ _ _) ?_
                          refine fj_ws (ws' := (fm_w bd ty (va_up b9 18 (upd (b9 18) l5 c9)) g (va_up (va_up (va_up n 6 (nI M9)) 7 (nI E9)) 8 (nI (t + 1))))) rfl ?_
                          refine fj_goto (tgt := 79) C dX6_work_121 (by decide) ?_
                          refine fj_lv (lv' := [(0, .ref (bd 0)), (1, .int (nI N)), (2, .int y)]) [1, 2, 3] rfl ?_
                          refine fj_ws (ws' := (fm_w bd ty (va_up b9 18 (upd (b9 18) l5 c9)) g (va_up (va_up (va_up n 6 (nI M9)) 7 (nI E9)) 8 (nI (t + 1))))) rfl ?_
                          exact ih79 ⟨t + 1, (va_up b9 18 (upd (b9 18) l5 c9)), E9⟩ (by show M9 - (t + 1) < M9 - t; omega) (by omega) (⟨z, E7, c9, b9, hR, (by rw [el5, nI_clamp (by omega)]; exact MLR_n rfl hL9), by rw [el5, nI_clamp (by omega)]⟩) (YW_step hY hL9 hl5 hlt rfl rfl rfl) (fun q hq => (va_up_ne _ _ (by omega)).trans ((MLR_k hL9 q (by omega)).trans (hz q hq)))
                      intro t z E7
                      exact key ⟨t, z, E7⟩
                    refine fj_ws (ws' := (fm_w bd ty (MST a f9) g (va_up (va_up (va_up n 6 (nI M9)) 7 (nI 0)) 8 (nI 0)))) rfl ?_
                    exact lp79 0 (MST a f9) 0 (Nat.zero_le _) (⟨rfl, rfl⟩) (⟨rfl, by omega, rfl, rfl, Nat.le_refl _, Nat.zero_le _, (fun i hi => (hbd i hi).elim fun j q => ⟨j, by omega, q.2⟩), (fun e he => absurd he (Nat.not_lt_zero _)), (fun e he => absurd he (Nat.not_lt_zero _)), (fun e he => absurd he (Nat.not_lt_zero _))⟩) (fun q hq => MST_k hq)
                  · have hlti3 : i3 < 64 := Nat.lt_of_not_le fun q => h58 ((nI_leI (a := 64) (by decide) (by omega)).mpr q)
                    refine fj_aload_n C 0 dX6_work_61 rfl rfl ?_
                    refine fj_get (Cn := RX6) (T := TX6) (N := 44) (ci := 6) (v := .ref (bd 27)) C iX6 0 (fm_at0 _ _ _ _ _) rfl 34 (by decide) kX6_97 rfl dX6_work_62 ?_
                    refine fj_iload_n C 3 dX6_work_65 rfl rfl ?_
                    refine fj_iconst (v := (-1)) C dX6_work_66 (by decide) ?_
                    refine fj_iast (f := (fil (a 27) (-1) i3)) C 27 (fm_at27 _ _ _ _ _) (vp_in_nI (by omega) (by decide)) dX6_work_67 (fm_st27 _ _ _ _ _ _) ?_
                    refine fj_ws (ws' := (fm_w bd ty (va_up (va_up (va_up (va_up a 17 f9) 18 (fil (a 18) (-1) 120)) 19 (fil (a 19) 0 12)) 27 (upd (fil (a 27) (-1) i3) (nI i3).toNatClampNeg (-1))) g (va_up (va_up n 6 (nI M9)) 7 0))) rfl ?_
                    refine fj_ws (ws' := (fm_w bd ty (va_up (va_up (va_up (va_up a 17 f9) 18 (fil (a 18) (-1) 120)) 19 (fil (a 19) 0 12)) 27 (fil (a 27) (-1) (i3 + 1))) g (va_up (va_up n 6 (nI M9)) 7 0))) (by rw [nI_clamp (by omega), fil_s]) ?_
                    refine fj_iinc (v := nI (i3 + 1)) (lv' := [(3, .int (nI (i3 + 1))), (0, .ref (bd 0)), (1, .int (nI N)), (2, .int y)]) C 3 dX6_work_68 rfl (nI_1 i3) (by decide) rfl ?_
                    refine fj_goto (tgt := 55) C dX6_work_71 (by decide) ?_
                    refine fj_lv (lv' := [(0, .ref (bd 0)), (1, .int (nI N)), (2, .int y), (3, .int (nI (i3 + 1)))]) [1, 2, 3, 0] rfl ?_
                    exact ih55 (i3 + 1) (by show 64 - (i3 + 1) < 64 - i3; omega) (by omega)
                intro i3
                exact key i3
              refine fj_ws (ws' := (fm_w bd ty (va_up (va_up (va_up (va_up a 17 f9) 18 (fil (a 18) (-1) 120)) 19 (fil (a 19) 0 12)) 27 (fil (a 27) (-1) 0)) g (va_up (va_up n 6 (nI M9)) 7 0))) (by rw [fil_0]; rfl) ?_
              exact lp55 0 (Nat.zero_le _)
            · have hlti2 : i2 < 12 := Nat.lt_of_not_le fun q => h37 ((nI_leI (a := 12) (by decide) (by omega)).mpr q)
              refine fj_aload_n C 0 dX6_work_40 rfl rfl ?_
              refine fj_get (Cn := RX6) (T := TX6) (N := 44) (ci := 6) (v := .ref (bd 19)) C iX6 0 (fm_at0 _ _ _ _ _) rfl 25 (by decide) kX6_73 rfl dX6_work_41 ?_
              refine fj_iload_n C 3 dX6_work_44 rfl rfl ?_
              refine fj_iconst (v := 0) C dX6_work_45 (by decide) ?_
              refine fj_zast (f := (fil (a 19) 0 i2)) C 19 (fm_at19 _ _ _ _ _) (vp_in_nI (by omega) (by decide)) dX6_work_46 (fm_st19 _ _ _ _ _ _) ?_
              refine fj_ws (ws' := (fm_w bd ty (va_up (va_up (va_up a 17 f9) 18 (fil (a 18) (-1) 120)) 19 (upd (fil (a 19) 0 i2) (nI i2).toNatClampNeg (vp_nar .boolean 0))) g (va_up (va_up n 6 (nI M9)) 7 0))) rfl ?_
              refine fj_ws (ws' := (fm_w bd ty (va_up (va_up (va_up a 17 f9) 18 (fil (a 18) (-1) 120)) 19 (fil (a 19) 0 (i2 + 1))) g (va_up (va_up n 6 (nI M9)) 7 0))) (by rw [nI_clamp (by omega), show vp_nar .boolean 0 = 0 from rfl, fil_s]) ?_
              refine fj_iinc (v := nI (i2 + 1)) (lv' := [(3, .int (nI (i2 + 1))), (0, .ref (bd 0)), (1, .int (nI N)), (2, .int y)]) C 3 dX6_work_47 rfl (nI_1 i2) (by decide) rfl ?_
              refine fj_goto (tgt := 34) C dX6_work_50 (by decide) ?_
              refine fj_lv (lv' := [(0, .ref (bd 0)), (1, .int (nI N)), (2, .int y), (3, .int (nI (i2 + 1)))]) [1, 2, 3, 0] rfl ?_
              exact ih34 (i2 + 1) (by show 12 - (i2 + 1) < 12 - i2; omega) (by omega)
          intro i2
          exact key i2
        refine fj_ws (ws' := (fm_w bd ty (va_up (va_up (va_up a 17 f9) 18 (fil (a 18) (-1) 120)) 19 (fil (a 19) 0 0)) g (va_up (va_up n 6 (nI M9)) 7 0))) (by rw [fil_0]; rfl) ?_
        exact lp34 0 (Nat.zero_le _)
      · have hlti1 : i1 < 120 := Nat.lt_of_not_le fun q => h16 ((nI_leI (a := 120) (by decide) (by omega)).mpr q)
        refine fj_aload_n C 0 dX6_work_19 rfl rfl ?_
        refine fj_get (Cn := RX6) (T := TX6) (N := 44) (ci := 6) (v := .ref (bd 18)) C iX6 0 (fm_at0 _ _ _ _ _) rfl 24 (by decide) kX6_70 rfl dX6_work_20 ?_
        refine fj_iload_n C 3 dX6_work_23 rfl rfl ?_
        refine fj_iconst (v := (-1)) C dX6_work_24 (by decide) ?_
        refine fj_iast (f := (fil (a 18) (-1) i1)) C 18 (fm_at18 _ _ _ _ _) (vp_in_nI (by omega) (by decide)) dX6_work_25 (fm_st18 _ _ _ _ _ _) ?_
        refine fj_ws (ws' := (fm_w bd ty (va_up (va_up a 17 f9) 18 (upd (fil (a 18) (-1) i1) (nI i1).toNatClampNeg (-1))) g (va_up (va_up n 6 (nI M9)) 7 0))) rfl ?_
        refine fj_ws (ws' := (fm_w bd ty (va_up (va_up a 17 f9) 18 (fil (a 18) (-1) (i1 + 1))) g (va_up (va_up n 6 (nI M9)) 7 0))) (by rw [nI_clamp (by omega), fil_s]) ?_
        refine fj_iinc (v := nI (i1 + 1)) (lv' := [(3, .int (nI (i1 + 1))), (0, .ref (bd 0)), (1, .int (nI N)), (2, .int y)]) C 3 dX6_work_26 rfl (nI_1 i1) (by decide) rfl ?_
        refine fj_goto (tgt := 13) C dX6_work_29 (by decide) ?_
        refine fj_lv (lv' := [(0, .ref (bd 0)), (1, .int (nI N)), (2, .int y), (3, .int (nI (i1 + 1)))]) [1, 2, 3, 0] rfl ?_
        exact ih13 (i1 + 1) (by show 120 - (i1 + 1) < 120 - i1; omega) (by omega)
    intro i1
    exact key i1
  refine fj_ws (ws' := (fm_w bd ty (va_up (va_up a 17 f9) 18 (fil (a 18) (-1) 0)) g (va_up (va_up n 6 (nI M9)) 7 0))) (by rw [fil_0]; rfl) ?_
  exact lp13 0 (Nat.zero_le _)
