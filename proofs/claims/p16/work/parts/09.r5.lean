section SWP
variable {F : Nat → Int32}
theorem cL_add (u x : Nat) : ∀ y, cL F u (x + y) = cL F u x + cL F (u + x) y := by
  intro y
  induction y with
  | zero => rfl
  | succ y ih =>
    show cL F u (x + y) + (if F (u + (x + y)) = 0 then 0 else 1) = cL F u x + (cL F (u + x) y + if F (u + x + y) = 0 then 0 else 1)
    rw [ih, Nat.add_assoc u x y, Nat.add_assoc]
theorem cL_no {u : Nat} : ∀ y, (∀ d, u ≤ d → d < u + y → F d = 0) → cL F u y = 0 := by
  intro y
  induction y with
  | zero => intro _; rfl
  | succ y ih =>
    intro h
    show cL F u y + (if F (u + y) = 0 then 0 else 1) = 0
    rw [ih (fun d a b => h d a (by omega)), if_pos (h (u + y) (by omega) (by omega))]
theorem cL_all {u : Nat} : ∀ y, (∀ d, u ≤ d → d < u + y → ¬ F d = 0) → cL F u y = y := by
  intro y
  induction y with
  | zero => intro _; rfl
  | succ y ih =>
    intro h
    show cL F u y + (if F (u + y) = 0 then 0 else 1) = y + 1
    rw [ih (fun d a b => h d a (by omega)), if_neg (h (u + y) (by omega) (by omega))]
theorem gp_no {u x : Nat} (h0 : gpN F u x = 0) : ∀ y, (∀ d, u + x ≤ d → d < u + x + y → F d = 0) → gpN F u (x + y) = y ∧ lgN F u (x + y) = if lgN F u x < y then y else lgN F u x := by
  intro y
  induction y with
  | zero => intro _; exact ⟨h0, by rw [if_neg (Nat.not_lt_zero _)]; rfl⟩
  | succ y ih =>
    intro h
    obtain ⟨e1, e2⟩ := ih (fun d a b => h d a (by omega))
    have eg : gpN F u (x + y + 1) = y + 1 := by
      show (if F (u + (x + y)) = 0 then gpN F u (x + y) + 1 else 0) = y + 1
      rw [if_pos (h _ (by omega) (by omega)), e1]
    refine ⟨eg, ?_⟩
    show (if lgN F u (x + y) < gpN F u (x + y + 1) then gpN F u (x + y + 1) else lgN F u (x + y)) = _
    rw [eg, e2]
    by_cases c : lgN F u x < y
    · rw [if_pos c, if_pos (by omega), if_pos (by omega)]
    · rw [if_neg c]
theorem gp_all {u x : Nat} : ∀ y, (∀ d, u + x ≤ d → d < u + x + (y + 1) → ¬ F d = 0) → gpN F u (x + (y + 1)) = 0 ∧ lgN F u (x + (y + 1)) = lgN F u x := by
  intro y
  induction y with
  | zero =>
    intro h
    have eg : gpN F u (x + 1) = 0 := by
      show (if F (u + x) = 0 then gpN F u x + 1 else 0) = 0
      rw [if_neg (h _ (by omega) (by omega))]
    refine ⟨eg, ?_⟩
    show (if lgN F u x < gpN F u (x + 1) then gpN F u (x + 1) else lgN F u x) = _
    rw [eg, if_neg (Nat.not_lt_zero _)]
  | succ y ih =>
    intro h
    obtain ⟨e1, e2⟩ := ih (fun d a b => h d a (by omega))
    have eg : gpN F u (x + (y + 1) + 1) = 0 := by
      show (if F (u + (x + (y + 1))) = 0 then gpN F u (x + (y + 1)) + 1 else 0) = 0
      rw [if_neg (h _ (by omega) (by omega))]
    refine ⟨eg, ?_⟩
    show (if lgN F u (x + (y + 1)) < gpN F u (x + (y + 1) + 1) then gpN F u (x + (y + 1) + 1) else lgN F u (x + (y + 1))) = _
    rw [eg, if_neg (Nat.not_lt_zero _), e2]
theorem cL_le (u : Nat) : ∀ y, cL F u y ≤ y := by
  intro y
  induction y with
  | zero => exact Nat.le_refl _
  | succ y ih =>
    show cL F u y + (if F (u + y) = 0 then 0 else 1) ≤ y + 1
    by_cases c : F (u + y) = 0
    · rw [if_pos c]; omega
    · rw [if_neg c]; omega
/-- the days that a line covers -/
def IVL (a : Nat → Nat → Int32) (i s D N : Nat) : Prop := DBH a (a 24 s).toNatClampNeg 1 i ∧ a 18 (a 24 s).toNatClampNeg = nI D ∧ a 22 (a 24 s).toNatClampNeg = nI N ∧ D ≤ 20000 ∧ N ≤ 5000
theorem i32_lt {x y : Int32} : x < y ↔ x.toInt < y.toInt := Int32.lt_iff_toInt_lt
/-- the sweep over the lines, held against the days themselves -/
theorem lk_sw {a : Nat → Nat → Int32} {i B : Nat} {fr tu : Int32} (hI : ∀ s, s < B → DBH a (a 24 s).toNatClampNeg 1 i → ∃ D N, IVL a i s D N) (hO : ∀ s t D N D' N', s < t → t < B → IVL a i s D N → IVL a i t D' N' → D ≤ D') (hF : ∀ d, d < 25200 → (¬ F d = 0 ↔ ∃ s D N, s < B ∧ IVL a i s D N ∧ D ≤ d ∧ d < D + N)) (hfr : -200000 ≤ fr.toInt ∧ fr.toInt ≤ 20000) (htu : -1 ≤ tu.toInt ∧ tu.toInt ≤ 20001) :
    ∀ j, j ≤ B → fr.toInt ≤ (lkF a i fr tu j).1.toInt ∧ ((lkF a i fr tu j).1.toInt = fr.toInt ∨ (lkF a i fr tu j).1.toInt ≤ tu.toInt + 1) ∧ (∀ s D N d : Nat, s < j → IVL a i s D N → D ≤ d → d < D + N → (d : Int) < (lkF a i fr tu j).1.toInt ∨ tu.toInt < d) ∧ (lkF a i fr tu j).2.1.toInt = (cL F fr.toInt.toNat ((lkF a i fr tu j).1.toInt - fr.toInt.toNat).toNat : Nat) ∧ (0 ≤ fr.toInt → (lkF a i fr tu j).2.2.toInt = lgN F fr.toInt.toNat ((lkF a i fr tu j).1.toInt - fr.toInt.toNat).toNat ∧ gpN F fr.toInt.toNat ((lkF a i fr tu j).1.toInt - fr.toInt.toNat).toNat = 0) ∧ (lkF a i fr tu j).2.2.toInt ≤ 300000 ∧ 0 ≤ (lkF a i fr tu j).2.2.toInt := by
  intro j
  induction j with
  | zero =>
    intro _
    have e0 : (fr.toInt - (fr.toInt.toNat : Nat)).toNat = 0 := by omega
    refine ⟨Int.le_refl _, Or.inl rfl, fun s D N d h => absurd h (Nat.not_lt_zero s), ?_, fun _ => ?_, by show (0 : Int) ≤ 300000; omega, Int.le_refl _⟩
    · show (0 : Int) = ((cL F fr.toInt.toNat (fr.toInt - (fr.toInt.toNat : Nat)).toNat : Nat) : Int)
      rw [e0]; rfl
    · show (0 : Int) = ((lgN F fr.toInt.toNat (fr.toInt - (fr.toInt.toNat : Nat)).toNat : Nat) : Int) ∧ gpN F fr.toInt.toNat (fr.toInt - (fr.toInt.toNat : Nat)).toNat = 0
      rw [e0]; exact ⟨rfl, rfl⟩
  | succ j ih =>
    intro hj
    obtain ⟨h1, h2, h3, h4, h5, h7, h8⟩ := ih (by omega)
    by_cases c : DBH a (a 24 j).toNatClampNeg 1 i
    · obtain ⟨D, N, hiv⟩ := hI j (by omega) c
      obtain ⟨hD, hN⟩ := hiv.2.2.2
      have es : lkF a i fr tu (j + 1) = lkS (nI D) (nI N) tu (lkF a i fr tu j) := by
        show (if DBH a (a 24 j).toNatClampNeg 1 i then lkS (a 18 (a 24 j).toNatClampNeg) (a 22 (a 24 j).toNatClampNeg) tu (lkF a i fr tu j) else lkF a i fr tu j) = _
        rw [if_pos c, hiv.2.1, hiv.2.2.1]
      generalize hz : lkF a i fr tu j = z at *
      have eD : (nI D).toInt = D := nI_toInt (by omega)
      have eE : (nI D + nI N - 1).toInt = (D : Int) + N - 1 := by
        rw [Int32.toInt_sub, Int32.toInt_add, eD, nI_toInt (by omega), show (1 : Int32).toInt = 1 from rfl, show ((D : Int) + N).bmod (2 ^ 32) = D + N from Int.bmod_eq_of_le (by omega) (by omega)]
        exact Int.bmod_eq_of_le (by omega) (by omega)
      obtain ⟨l, hl⟩ : ∃ l, l = (if tu < nI D + nI N - 1 then tu else nI D + nI N - 1) := ⟨_, rfl⟩
      obtain ⟨f, hf⟩ : ∃ f, f = (if nI D < z.1 then z.1 else nI D) := ⟨_, rfl⟩
      have el : (l.toInt = tu.toInt ∧ tu.toInt < (D : Int) + N - 1) ∨ (l.toInt = (D : Int) + N - 1 ∧ (D : Int) + N - 1 ≤ tu.toInt) := by
        by_cases q : tu < nI D + nI N - 1
        · rw [hl, if_pos q]; rw [i32_lt, eE] at q; exact Or.inl ⟨rfl, q⟩
        · rw [hl, if_neg q, eE]; rw [i32_lt, eE] at q; exact Or.inr ⟨rfl, by omega⟩
      have ef : (f.toInt = z.1.toInt ∧ (D : Int) < z.1.toInt) ∨ (f.toInt = D ∧ z.1.toInt ≤ D) := by
        by_cases q : nI D < z.1
        · rw [hf, if_pos q]; rw [i32_lt, eD] at q; exact Or.inl ⟨rfl, q⟩
        · rw [hf, if_neg q, eD]; rw [i32_lt, eD] at q; exact Or.inr ⟨rfl, by omega⟩
      have ev : lkS (nI D) (nI N) tu z = if l < f then z else (l + 1, z.2.1 + (l - f + 1), if z.2.2 < f - z.1 then f - z.1 else z.2.2) := by rw [hl, hf]; rfl
      rw [es, ev]
      by_cases q : l < f
      · rw [if_pos q]
        rw [i32_lt] at q
        refine ⟨h1, h2, fun s D2 N2 d hs hv a1 a2 => ?_, h4, h5, h7, h8⟩
        by_cases e : s = j
        · subst e
          have e1 := nI_inj (hv.2.1.symm.trans hiv.2.1) (by have := hv.2.2.2.1; omega) (by omega)
          have e2 := nI_inj (hv.2.2.1.symm.trans hiv.2.2.1) (by have := hv.2.2.2.2; omega) (by omega)
          omega
        · exact h3 s D2 N2 d (by omega) hv a1 a2
      · rw [if_neg q]
        rw [i32_lt] at q
        obtain ⟨U, hU⟩ : ∃ U : Nat, U = fr.toInt.toNat := ⟨_, rfl⟩
        obtain ⟨n0, hn0⟩ : ∃ n0 : Nat, n0 = (z.1.toInt - (U : Int)).toNat := ⟨_, rfl⟩
        rw [← hU] at h4 h5 ⊢
        rw [← hn0] at h4 h5
        obtain ⟨m1, hm1⟩ : ∃ m1 : Nat, (m1 : Int) = f.toInt - (U + n0 : Nat) := ⟨(f.toInt - (U + n0 : Nat)).toNat, by omega⟩
        obtain ⟨m2, hm2⟩ : ∃ m2 : Nat, (m2 : Int) = l.toInt - f.toInt := ⟨(l.toInt - f.toInt).toNat, by omega⟩
        have hC0 : (cL F U n0 : Int) ≤ n0 := by have := cL_le (F := F) U n0; omega
        have eX : (l + 1).toInt = l.toInt + 1 := by
          rw [Int32.toInt_add, show (1 : Int32).toInt = 1 from rfl]
          exact Int.bmod_eq_of_le (by omega) (by omega)
        have eS : (l - f + 1).toInt = l.toInt - f.toInt + 1 := by
          rw [Int32.toInt_add, Int32.toInt_sub, show (1 : Int32).toInt = 1 from rfl, show (l.toInt - f.toInt).bmod (2 ^ 32) = l.toInt - f.toInt from Int.bmod_eq_of_le (by omega) (by omega)]
          exact Int.bmod_eq_of_le (by omega) (by omega)
        have eC : (z.2.1 + (l - f + 1)).toInt = z.2.1.toInt + (l.toInt - f.toInt + 1) := by
          rw [Int32.toInt_add, eS]
          exact Int.bmod_eq_of_le (by omega) (by omega)
        have eG : (f - z.1).toInt = f.toInt - z.1.toInt := by
          rw [Int32.toInt_sub]
          exact Int.bmod_eq_of_le (by omega) (by omega)
        have eN : (l.toInt + 1 - (U : Int)).toNat = n0 + (m1 + (m2 + 1)) := by omega
        have no : ∀ d, U + n0 ≤ d → d < U + n0 + m1 → F d = 0 := fun d a1 a2 => by
          refine Classical.byContradiction fun hd => ?_
          obtain ⟨s, D2, N2, hs, hv, b1, b2⟩ := (hF d (by omega)).mp hd
          rcases Nat.lt_trichotomy s j with w | w | w
          · rcases h3 s D2 N2 d w hv b1 b2 with w2 | w2 <;> omega
          · subst w
            have e1 := nI_inj (hv.2.1.symm.trans hiv.2.1) (by have := hv.2.2.2.1; omega) (by omega)
            omega
          · have := hO j s D N D2 N2 w hs hiv hv
            omega
        have al : ∀ d, U + (n0 + m1) ≤ d → d < U + (n0 + m1) + (m2 + 1) → ¬ F d = 0 := fun d a1 a2 =>
          (hF d (by omega)).mpr ⟨j, D, N, by omega, hiv, by omega, by omega⟩
        refine ⟨by show fr.toInt ≤ (l + 1).toInt; omega, Or.inr (by show (l + 1).toInt ≤ tu.toInt + 1; omega), fun s D2 N2 d hs hv a1 a2 => ?_, ?_, fun h0 => ?_, ?_, ?_⟩
        · show (d : Int) < (l + 1).toInt ∨ tu.toInt < d
          by_cases e : s = j
          · subst e
            have e1 := nI_inj (hv.2.1.symm.trans hiv.2.1) (by have := hv.2.2.2.1; omega) (by omega)
            have e2 := nI_inj (hv.2.2.1.symm.trans hiv.2.2.1) (by have := hv.2.2.2.2; omega) (by omega)
            omega
          · have := h3 s D2 N2 d (by omega) hv a1 a2
            omega
        · show (z.2.1 + (l - f + 1)).toInt = cL F U ((l + 1).toInt - (U : Int)).toNat
          rw [eX, eN, eC, h4, ← Nat.add_assoc, cL_add, cL_add, cL_no m1 no, cL_all (m2 + 1) (fun d a b => al d (by omega) (by omega))]
          omega
        · show (if z.2.2 < f - z.1 then f - z.1 else z.2.2).toInt = lgN F U ((l + 1).toInt - (U : Int)).toNat ∧ gpN F U ((l + 1).toInt - (U : Int)).toNat = 0
          obtain ⟨g1, g2⟩ := h5 h0
          obtain ⟨k1, k2⟩ := gp_no g2 m1 no
          obtain ⟨k3, k4⟩ := gp_all (F := F) (u := U) (x := n0 + m1) m2 al
          rw [eX, eN, ← Nat.add_assoc, k4, k2]
          refine ⟨?_, k3⟩
          by_cases w : z.2.2 < f - z.1
          · rw [if_pos w, eG]
            rw [i32_lt, eG] at w
            by_cases w2 : lgN F U n0 < m1
            · rw [if_pos w2]; omega
            · omega
          · rw [if_neg w]
            rw [i32_lt, eG] at w
            rw [if_neg (by omega)]; exact g1
        · show (if z.2.2 < f - z.1 then f - z.1 else z.2.2).toInt ≤ 300000
          by_cases w : z.2.2 < f - z.1
          · rw [if_pos w, eG]; omega
          · rw [if_neg w]; exact h7
        · show 0 ≤ (if z.2.2 < f - z.1 then f - z.1 else z.2.2).toInt
          by_cases w : z.2.2 < f - z.1
          · rw [if_pos w, eG]; omega
          · rw [if_neg w]; exact h8
    · have es : lkF a i fr tu (j + 1) = lkF a i fr tu j := by
        show (if DBH a (a 24 j).toNatClampNeg 1 i then lkS (a 18 (a 24 j).toNatClampNeg) (a 22 (a 24 j).toNatClampNeg) tu (lkF a i fr tu j) else lkF a i fr tu j) = _
        rw [if_neg c]
      rw [es]
      refine ⟨h1, h2, fun s D2 N2 d hs hv a1 a2 => ?_, h4, h5, h7, h8⟩
      by_cases e : s = j
      · subst e; exact absurd hv.1 c
      · exact h3 s D2 N2 d (by omega) hv a1 a2
/-- all days up to tu -/
theorem lk_all {a : Nat → Nat → Int32} {i B : Nat} {fr tu : Int32} (hI : ∀ s, s < B → DBH a (a 24 s).toNatClampNeg 1 i → ∃ D N, IVL a i s D N) (hO : ∀ s t D N D' N', s < t → t < B → IVL a i s D N → IVL a i t D' N' → D ≤ D') (hF : ∀ d, d < 25200 → (¬ F d = 0 ↔ ∃ s D N, s < B ∧ IVL a i s D N ∧ D ≤ d ∧ d < D + N)) (hfr : -200000 ≤ fr.toInt ∧ fr.toInt ≤ 20000) (htu : -1 ≤ tu.toInt ∧ tu.toInt ≤ 20001) {u d : Nat} (hu : (u : Int) = if fr.toInt < 0 then 0 else fr.toInt) (hd : UPT u tu d) :
    (lkF a i fr tu B).2.1 = nI (cL F u d) ∧ (0 ≤ fr.toInt → lkG tu (lkF a i fr tu B) = nI (lgN F u d)) ∧ d ≤ 25200 := by
  obtain ⟨h1, h2, h3, h4, h5, h7, h8⟩ := lk_sw (F := F) hI hO hF hfr htu B (Nat.le_refl _)
  have eu : fr.toInt.toNat = u := by
    by_cases c : fr.toInt < 0
    · rw [if_pos c] at hu; omega
    · rw [if_neg c] at hu; omega
  have hu2 : u ≤ 20000 := by omega
  obtain ⟨p1, p2, p3⟩ := hd
  have hd2 : u + d < 2 ^ 31 := by omega
  rw [le_i, nI_toInt hd2] at p1
  have hd3 : (d : Int) = if tu.toInt + 1 ≤ u then 0 else tu.toInt + 1 - u := by
    by_cases c : tu.toInt + 1 ≤ u
    · rw [if_pos c]
      by_cases e : d = 0
      · rw [e]; rfl
      · have := p2 0 (by omega)
        rw [le_i, nI_toInt (by omega)] at this
        omega
    · rw [if_neg c]
      by_cases e : d = 0
      · omega
      · have := p2 (d - 1) (by omega)
        rw [le_i, nI_toInt (by omega)] at this
        omega
  rw [eu] at h4 h5
  obtain ⟨n0, hn0⟩ : ∃ n0 : Nat, n0 = ((lkF a i fr tu B).1.toInt - (u : Int)).toNat := ⟨_, rfl⟩
  rw [← hn0] at h4 h5
  have hn : n0 ≤ d := by
    by_cases c : tu.toInt + 1 ≤ u
    · rw [if_pos c] at hd3; omega
    · rw [if_neg c] at hd3; omega
  have hdl : d ≤ 25200 := by
    by_cases c : tu.toInt + 1 ≤ u
    · rw [if_pos c] at hd3; omega
    · rw [if_neg c] at hd3; omega
  have no : ∀ x, u + n0 ≤ x → x < u + n0 + (d - n0) → F x = 0 := fun x a1 a2 => by
    refine Classical.byContradiction fun hx => ?_
    have hx2 : x < 25200 ∧ (x : Int) ≤ tu.toInt := by
      by_cases c : tu.toInt + 1 ≤ u
      · rw [if_pos c] at hd3; omega
      · rw [if_neg c] at hd3; omega
    obtain ⟨s, D2, N2, hs, hv, b1, b2⟩ := (hF x hx2.1).mp hx
    rcases h3 s D2 N2 x hs hv b1 b2 with w | w <;> omega
  have hcl := cL_le (F := F) u n0
  have eq : n0 + (d - n0) = d := by omega
  refine ⟨?_, fun h0 => ?_, hdl⟩
  · have : cL F u d = cL F u n0 := by rw [← eq, cL_add, cL_no _ no, Nat.add_zero]
    rw [this]
    exact Int32.toInt_inj.mp (by rw [h4, nI_toInt (by omega)])
  · obtain ⟨g1, g2⟩ := h5 h0
    obtain ⟨k1, k2⟩ := gp_no g2 (d - n0) no
    rw [eq] at k1 k2
    have eG : (tu + 1 - (lkF a i fr tu B).1).toInt = tu.toInt + 1 - (lkF a i fr tu B).1.toInt := by
      rw [Int32.toInt_sub, Int32.toInt_add, show (1 : Int32).toInt = 1 from rfl, show (tu.toInt + 1).bmod (2 ^ 32) = tu.toInt + 1 from Int.bmod_eq_of_le (by omega) (by omega)]
      exact Int.bmod_eq_of_le (by omega) (by omega)
    rw [k2]
    unfold lkG
    by_cases w : (lkF a i fr tu B).2.2 < tu + 1 - (lkF a i fr tu B).1
    · rw [if_pos w]
      rw [i32_lt, eG] at w
      refine Int32.toInt_inj.mp ?_
      by_cases c : tu.toInt + 1 ≤ u
      · rw [if_pos c] at hd3; omega
      · rw [if_neg c] at hd3
        rw [if_pos (by omega), nI_toInt (by omega), eG]; omega
    · rw [if_neg w]
      rw [i32_lt, eG] at w
      refine Int32.toInt_inj.mp ?_
      rw [g1]
      by_cases c : tu.toInt + 1 ≤ u
      · rw [if_pos c] at hd3
        rw [if_neg (by omega), nI_toInt (by omega)]
      · rw [if_neg c] at hd3
        rw [if_neg (by omega), nI_toInt (by omega)]
end SWP
