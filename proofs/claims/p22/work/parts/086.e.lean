section LNS22
variable {F G M B V : Nat} {a a1 : Nat → Nat → Int32} {n n1 : Nat → Int32} {x z p9 q u acr : Int32} {Fm f g : Nat → Int32}
/-- what a line told changes -/
def LFX (P B : Nat) (a : Nat → Nat → Int32) (n : Nat → Int32) (a1 : Nat → Nat → Int32) (n1 : Nat → Int32) (x z p9 q u : Int32) : Prop :=
  XI P 0 0 (B + 1) a1 n1 ∧ ORD (B + 1) (a1 18) (a1 24) ∧ a1 18 = upd (a 18) B x ∧ a1 19 = upd (a 19) B z ∧ a1 20 = upd (a 20) B p9 ∧ a1 21 = upd (a 21) B q ∧ a1 22 = upd (a 22) B u ∧ (∀ r, r < 18 ∨ r = 23 → a1 r = a r) ∧ (∀ j, j ≠ 4 → n1 j = n j)
theorem lfx_of {P : Nat} (hI : XI P 0 0 B a n) (ho : ORD B (a 18) (a 24)) (hok : LOKp P B x z p9 q u) {k : Nat} (hk : k ≤ B) (h1 : ∀ i, k ≤ i → i < B → x < a 18 (a 24 i).toNatClampNeg) (h2 : k = 0 ∨ a 18 (a 24 (k - 1)).toNatClampNeg ≤ x) : LFX P B a n (va_up (va_up (va_up (va_up (va_up (va_up a 18 (upd (a 18) (nI B).toNatClampNeg x)) 19 (upd (a 19) (nI B).toNatClampNeg z)) 24 (upd (shf (a 24) B k) (nI k).toNatClampNeg (nI B))) 20 (upd (a 20) (nI B).toNatClampNeg p9)) 21 (upd (a 21) (nI B).toNatClampNeg q)) 22 (upd (a 22) (nI B).toNatClampNeg u)) (va_up n 4 (nI (B + 1))) x z p9 q u := by
  have hP : P ≤ 12 := hI.2.1
  obtain ⟨hB2, f1, f2, f3, f4, f5, f6⟩ := ln_facts hok hP
  have eB : (nI B).toNatClampNeg = B := nI_clamp (by omega)
  have ek : (nI k).toNatClampNeg = k := nI_clamp (by omega)
  rw [eB, ek]
  obtain ⟨x0, xP, x1, xT, x3, xS, x4, xB, xLO, xBO, xW, xSo, xQ, xN⟩ := hI
  refine ⟨⟨x0, xP, x1, xT, x3, xS, rfl, by omega, xLO, ins_bd xBO hk, ext1 (Pr := fun _ y => ∃ p, p < P ∧ y = nI p) xW f1, ext1 (Pr := fun _ y => ∃ p, p < 7 ∧ y = nI p) xSo f2, ext2 (Pr := fun y t => y ≠ nI 6 → ∃ q, q < 64 ∧ t = nI q) xQ f3, ext2 (Pr := fun y t => y = nI 6 → ∃ q, q < P ∧ t = nI q) xN f4⟩, ord_ins ho hk (by omega) h1 h2, rfl, rfl, rfl, rfl, rfl, fun r hr => ?_, fun j hj => va_up_ne _ _ hj⟩
  rw [va_up_ne _ _ (by omega), va_up_ne _ _ (by omega), va_up_ne _ _ (by omega), va_up_ne _ _ (by omega), va_up_ne _ _ (by omega), va_up_ne _ _ (by omega)]
theorem lne_cg (h : LFX 2 B a n a1 n1 x z p9 q u) {l : Nat} (hl : l < B) (hn : LNE a l) : LNE a1 l := by
  obtain ⟨_, _, e18, e19, e20, e21, e22, er, _⟩ := h
  unfold LNE
  rw [e18, e19, e20, e21, e22, er 23 (Or.inr rfl), upd_ne (by omega), upd_ne (by omega), upd_ne (by omega), upd_ne (by omega), upd_ne (by omega)]
  exact hn
theorem lif_cg (h : LFX 2 B a n a1 n1 x z p9 q u) {l : Nat} (hl : l < B) : LIF a1 l ↔ LIF a l := by
  obtain ⟨_, _, e18, e19, e20, e21, e22, er, _⟩ := h
  unfold LIF
  rw [e19, e20, e21, upd_ne (by omega), upd_ne (by omega), upd_ne (by omega)]
theorem acw_lf (h : LFX 2 B a n a1 n1 x z p9 q u) {l : Nat} (hl : l < B) : ACW F G a1 l = ACW F G a l := by
  obtain ⟨_, _, e18, e19, e20, e21, e22, er, _⟩ := h
  unfold ACW
  rw [e18, e19, e20, e21, e22, upd_ne (by omega), upd_ne (by omega), upd_ne (by omega), upd_ne (by omega), upd_ne (by omega)]
/-- one more line of a life or of acres -/
theorem bk_step (hb : BK F G M M a n) (hM : M < 60) (h : LFX 2 M a n a1 n1 x z p9 q u) (hz : z = 1 ∨ z = 2) {D N : Nat} (hx : x = nI D) (hD : D ≤ 7200) (hu : u = nI N) (hN : N ≤ 400) (hp : p9 = 0 ∨ p9 = 1) (hq : q = 9 ∨ q = 10) : BK F G (M + 1) (M + 1) a1 n1 := by
  have hl := fun l h1 h2 => lne_cg h (l := l) h1 h2
  obtain ⟨xi, ho, e18, e19, e20, e21, e22, er, en⟩ := h
  obtain ⟨_, h2, h3, h4, h5, h6, h7, _, h9, h10, h11, _⟩ := hb
  refine ⟨xi, (en 5 (by decide)).trans h2, ?_, ?_, ?_, ?_, fun l l2 lM => ?_, ho, h9, by omega, by omega, Or.inl rfl⟩
  · rw [er 2 (by omega), er 3 (by omega)]; exact h3
  · rw [er 2 (by omega), er 3 (by omega), er 23 (by omega)]; exact h4
  · rw [e18, e19, e20, e21, er 23 (by omega), upd_ne (by omega), upd_ne (by omega), upd_ne (by omega), upd_ne (by omega)]; exact h5
  · rw [e18, e19, e20, e21, upd_ne (by omega), upd_ne (by omega), upd_ne (by omega), upd_ne (by omega)]; exact h6
  · by_cases e : l = M
    · unfold LNE
      rw [e, e18, e19, e20, e21, e22, er 23 (by omega), upd_at, upd_at, upd_at, upd_at, upd_at]
      exact ⟨hz, ⟨D, hD, hx⟩, ⟨N, hN, hu⟩, hp, hq, h4.2.2 M (by omega)⟩
    · exact hl l (by omega) (h7 l l2 (by omega))
/-- the last line -/
theorem bk_last (hk : BKF F G M M a n Fm acr) (h : LFX 2 M a n a1 n1 20000 0 1 9 0) : BKF F G M (M + 1) a1 n1 Fm acr := by
  obtain ⟨hb, hF, hA⟩ := hk
  have hl := fun l h1 h2 => lne_cg h (l := l) h1 h2
  have hlf := fun l h1 => lif_cg h (l := l) h1
  have hac := fun l h1 => acw_lf (F := F) (G := G) h (l := l) h1
  obtain ⟨xi, ho, e18, e19, e20, e21, e22, er, en⟩ := h
  obtain ⟨_, h2, h3, h4, h5, h6, h7, _, h9, h10, h11, _⟩ := hb
  refine ⟨⟨xi, (en 5 (by decide)).trans h2, ?_, ?_, ?_, ?_, fun l l2 lM => hl l lM (h7 l l2 lM), ho, h9, h10, h11, Or.inr ⟨rfl, ?_, ?_, ?_, ?_, ?_⟩⟩, fun d d1 d2 => ?_, ?_⟩
  · rw [er 2 (by omega), er 3 (by omega)]; exact h3
  · rw [er 2 (by omega), er 3 (by omega), er 23 (by omega)]; exact h4
  · rw [e18, e19, e20, e21, er 23 (by omega), upd_ne (by omega), upd_ne (by omega), upd_ne (by omega), upd_ne (by omega)]; exact h5
  · rw [e18, e19, e20, e21, upd_ne (by omega), upd_ne (by omega), upd_ne (by omega), upd_ne (by omega)]; exact h6
  · rw [e18, upd_at]; rfl
  · rw [e19, upd_at]
  · rw [e20, upd_at]
  · rw [e21, upd_at]
  · rw [er 23 (by omega)]; exact h4.2.2 M (by omega)
  · rw [hF d d1 d2]
    constructor
    · rintro ⟨l, D, N, l2, lM, w, w1, w2, w3⟩
      exact ⟨l, D, N, l2, lM, (hlf l lM).mpr w, by rw [e18, upd_ne (by omega)]; exact w1, by rw [e22, upd_ne (by omega)]; exact w2, w3⟩
    · rintro ⟨l, D, N, l2, lM, w, w1, w2, w3⟩
      rw [e18, upd_ne (by omega)] at w1
      rw [e22, upd_ne (by omega)] at w2
      exact ⟨l, D, N, l2, lM, (hlf l lM).mp w, w1, w2, w3⟩
  · rw [hA]
    exact (smW_cg M hac).symm
/-- the first two lines -/
theorem bk_two {a0 a1 a2 : Nat → Nat → Int32} {n0 n1 n2 : Nat → Int32} (h5 : n0 5 = 20001) (h2 : a0 2 0 = -12000 ∧ a0 3 0 = 0) (h3 : a0 2 1 = -12000 ∧ a0 3 1 = 0 ∧ ∀ l, a0 23 l = 0) (hF : 1000 ≤ F ∧ F ≤ G ∧ G ≤ 7200) (k1 : LFX 2 0 a0 n0 a1 n1 (nI F) 0 0 9 0) (k2 : LFX 2 1 a1 n1 a2 n2 (nI G) 5 0 9 0) : BK F G 2 2 a2 n2 := by
  obtain ⟨_, _, c18, c19, c20, c21, c22, cr, cn⟩ := k1
  obtain ⟨xi, ho, e18, e19, e20, e21, e22, er, en⟩ := k2
  have g23 : ∀ l, a2 23 l = 0 := fun l => by rw [er 23 (by omega), cr 23 (by omega)]; exact h3.2.2 l
  refine ⟨xi, ?_, ?_, ?_, ⟨?_, ?_, ?_, ?_, g23 0⟩, ⟨?_, ?_, ?_, ?_⟩, fun l h1 h2 => by omega, ho, hF, by omega, by omega, Or.inl rfl⟩
  · rw [en 5 (by decide), cn 5 (by decide)]; exact h5
  · rw [er 2 (by omega), er 3 (by omega), cr 2 (by omega), cr 3 (by omega)]; exact h2
  · rw [er 2 (by omega), er 3 (by omega), cr 2 (by omega), cr 3 (by omega)]; exact ⟨h3.1, h3.2.1, fun l _ => g23 l⟩
  · rw [e18, c18, upd_ne (by decide), upd_at]
  · rw [e19, c19, upd_ne (by decide), upd_at]
  · rw [e20, c20, upd_ne (by decide), upd_at]
  · rw [e21, c21, upd_ne (by decide), upd_at]
  · rw [e18, upd_at]
  · rw [e19, upd_at]
  · rw [e20, upd_at]
  · rw [e21, upd_at]
/-- the law's own marks of a day -/
def LV (f g : Nat → Int32) (x : Int32) : Nat → Int32
  | 0 => 0
  | j + 1 => if ¬ LV f g x j = 0 then 1 else if f j ≤ x ∧ x < g j then 1 else 0
theorem LV_on {j : Nat} (h : ¬ LV f g x j = 0) : (1 : Int32) = LV f g x (j + 1) := (if_pos h).symm
theorem LV_in {j : Nat} (h : LV f g x j = 0) (h1 : f j ≤ x) (h2 : x < g j) : (1 : Int32) = LV f g x (j + 1) := by
  show 1 = if ¬ LV f g x j = 0 then 1 else if f j ≤ x ∧ x < g j then 1 else 0
  rw [if_neg (fun w => w h), if_pos ⟨h1, h2⟩]
theorem LV_ou {j : Nat} (h : LV f g x j = 0) (h1 : ¬ (f j ≤ x ∧ x < g j)) : (0 : Int32) = LV f g x (j + 1) := by
  show 0 = if ¬ LV f g x j = 0 then 1 else if f j ≤ x ∧ x < g j then 1 else 0
  rw [if_neg (fun w => w h), if_neg h1]
theorem LV_iff : ∀ j, ¬ LV f g x j = 0 ↔ ∃ i, i < j ∧ f i ≤ x ∧ x < g i := by
  intro j
  induction j with
  | zero => exact ⟨fun w => absurd rfl w, fun ⟨i, h, _⟩ => absurd h (Nat.not_lt_zero i)⟩
  | succ j ih =>
    show ¬ (if ¬ LV f g x j = 0 then (1 : Int32) else if f j ≤ x ∧ x < g j then 1 else 0) = 0 ↔ _
    by_cases c : LV f g x j = 0
    · rw [if_neg (fun w => w c)]
      have no : ∀ i, i < j → ¬ (f i ≤ x ∧ x < g i) := fun i hi w => absurd c (ih.mpr ⟨i, hi, w⟩)
      by_cases d : f j ≤ x ∧ x < g j
      · rw [if_pos d]; exact ⟨fun _ => ⟨j, Nat.lt_succ_self j, d⟩, fun _ => by decide⟩
      · rw [if_neg d]
        refine ⟨fun w => absurd rfl w, fun ⟨i, hi, w⟩ => ?_⟩
        by_cases e : i = j
        · rw [e] at w; exact absurd w d
        · exact absurd w (no i (by omega))
    · rw [if_pos c]
      obtain ⟨i, hi, w⟩ := ih.mp c
      exact ⟨fun _ => ⟨i, by omega, w⟩, fun _ => by decide⟩
/-- what the law keeps of the lines: the first one's lives there, and acres -/
def LI (F G M V : Nat) (f g : Nat → Int32) (acr : Int32) (a : Nat → Nat → Int32) : Prop := V + 2 ≤ M ∧ (∀ j, j < V → ∃ l D N, 2 ≤ l ∧ l < M ∧ LIF a l ∧ a 18 l = nI D ∧ a 22 l = nI N ∧ D ≤ G ∧ N ≤ 400 ∧ f j = nI D ∧ g j = nI (D + N)) ∧ (∀ l, 2 ≤ l → l < M → LIF a l → a 18 l ≤ nI G → ∃ j, j < V ∧ f j = a 18 l ∧ g j = a 18 l + a 22 l) ∧ acr = smW (ACW F G a) M
theorem li_0 (hb : BK F G 2 2 a n) : LI F G 2 0 f g 0 a := by
  refine ⟨Nat.le_refl _, fun j h => absurd h (Nat.not_lt_zero j), fun l h1 h2 => by omega, ?_⟩
  refine (smW_no 2 (fun l hl => ?_)).symm
  have : ¬ a 19 l = 2 := by
    by_cases e : l = 0
    · rw [e, (bk_0 hb).2.1]; decide
    · rw [show l = 1 by omega, (bk_1 hb).2.1]; decide
  unfold ACW
  rw [if_neg (fun w => this w.1), if_neg (fun w => this w.1)]; rfl
theorem li_old (hl : LI F G M V f g acr a) (h : LFX 2 M a n a1 n1 x z p9 q u) : (∀ j, j < V → ∃ l D N, 2 ≤ l ∧ l < M + 1 ∧ LIF a1 l ∧ a1 18 l = nI D ∧ a1 22 l = nI N ∧ D ≤ G ∧ N ≤ 400 ∧ f j = nI D ∧ g j = nI (D + N)) ∧ (∀ l, 2 ≤ l → l < M → LIF a1 l → a1 18 l ≤ nI G → ∃ j, j < V ∧ f j = a1 18 l ∧ g j = a1 18 l + a1 22 l) := by
  have hlf := fun l h1 => lif_cg h (l := l) h1
  obtain ⟨xi, ho, e18, e19, e20, e21, e22, er, en⟩ := h
  refine ⟨fun j hj => ?_, fun l l2 lM w1 w2 => ?_⟩
  · obtain ⟨l, D, N, l2, lM, w, w1, w2, w3⟩ := hl.2.1 j hj
    exact ⟨l, D, N, l2, by omega, (hlf l lM).mpr w, by rw [e18, upd_ne (by omega)]; exact w1, by rw [e22, upd_ne (by omega)]; exact w2, w3⟩
  · rw [e18, upd_ne (by omega)] at w2 ⊢
    rw [e22, upd_ne (by omega)]
    exact hl.2.2.1 l l2 lM ((hlf l lM).mp w1) w2
/-- a line of acres -/
theorem li_2 (hl : LI F G M V f g acr a) (h : LFX 2 M a n a1 n1 x 2 p9 q u) {A1 A2 : Int32} (h1 : A1 = if p9 = 0 ∧ q = 9 ∧ nI F < x ∧ x < nI G then u else 0) (h2 : A2 = if p9 = 0 ∧ q = 9 ∧ x = nI F then u else 0) : LI F G (M + 1) V f g (acr + A1 + A2) a1 := by
  obtain ⟨o1, o2⟩ := li_old hl h
  have hac := fun l h1 => acw_lf (F := F) (G := G) h (l := l) h1
  obtain ⟨xi, ho, e18, e19, e20, e21, e22, er, en⟩ := h
  refine ⟨by have := hl.1; omega, o1, fun l l2 lM w1 w2 => ?_, ?_⟩
  · by_cases e : l = M
    · rw [e] at w1
      have := w1.1
      rw [e19, upd_at] at this
      exact absurd this (by decide)
    · exact o2 l l2 (by omega) w1 w2
  · show acr + A1 + A2 = smW (ACW F G a1) M + ACW F G a1 M
    rw [smW_cg M hac, ← hl.2.2.2, Int32.add_assoc, h1, h2]
    unfold ACW
    rw [e18, e19, e20, e21, e22, upd_at, upd_at, upd_at, upd_at, upd_at]
    congr 1
    have r : ∀ {α : Prop}, ((2 : Int32) = 2 ∧ α) ↔ α := fun {α} => ⟨fun w => w.2, fun w => ⟨rfl, w⟩⟩
    rw [ite_ff r, ite_ff r]
/-- a life that the law doesn't keep -/
theorem li_1n (hl : LI F G M V f g acr a) (h : LFX 2 M a n a1 n1 x 1 p9 q u) (hn : ¬ (p9 = 0 ∧ q = 9 ∧ x ≤ nI G)) : LI F G (M + 1) V f g acr a1 := by
  obtain ⟨o1, o2⟩ := li_old hl h
  have hac := fun l h1 => acw_lf (F := F) (G := G) h (l := l) h1
  obtain ⟨xi, ho, e18, e19, e20, e21, e22, er, en⟩ := h
  refine ⟨by have := hl.1; omega, o1, fun l l2 lM w1 w2 => ?_, ?_⟩
  · by_cases e : l = M
    · rw [e] at w1 w2
      obtain ⟨x1, x2, x3⟩ := w1
      rw [e20, upd_at] at x2
      rw [e21, upd_at] at x3
      rw [e18, upd_at] at w2
      exact absurd ⟨x2, x3, w2⟩ hn
    · exact o2 l l2 (by omega) w1 w2
  · show acr = smW (ACW F G a1) M + ACW F G a1 M
    have e0 : ¬ a1 19 M = 2 := by rw [e19, upd_at]; decide
    have : ACW F G a1 M = 0 := by
      unfold ACW
      rw [if_neg (fun w => e0 w.1), if_neg (fun w => e0 w.1)]; rfl
    rw [smW_cg M hac, ← hl.2.2.2, this, Int32.add_zero]
/-- a life that it keeps -/
theorem li_1y (hl : LI F G M V f g acr a) {D N : Nat} (h : LFX 2 M a n a1 n1 (nI D) 1 0 9 (nI N)) (hD : D ≤ G) (hN : N ≤ 400) : LI F G (M + 1) (V + 1) (upd f V (nI D)) (upd g V (nI (D + N))) acr a1 := by
  obtain ⟨o1, o2⟩ := li_old hl h
  have hac := fun l h1 => acw_lf (F := F) (G := G) h (l := l) h1
  obtain ⟨xi, ho, e18, e19, e20, e21, e22, er, en⟩ := h
  refine ⟨by have := hl.1; omega, fun j hj => ?_, fun l l2 lM w1 w2 => ?_, ?_⟩
  · by_cases e : j = V
    · rw [e, upd_at, upd_at]
      refine ⟨M, D, N, by have := hl.1; omega, Nat.lt_succ_self M, ⟨?_, ?_, ?_⟩, ?_, ?_, hD, hN, rfl, rfl⟩
      · rw [e19, upd_at]
      · rw [e20, upd_at]
      · rw [e21, upd_at]
      · rw [e18, upd_at]
      · rw [e22, upd_at]
    · rw [upd_ne e, upd_ne e]; exact o1 j (by omega)
  · by_cases e : l = M
    · refine ⟨V, Nat.lt_succ_self V, ?_, ?_⟩
      · rw [upd_at, e, e18, upd_at]
      · rw [upd_at, e, e18, e22, upd_at, upd_at, nI_add]
    · obtain ⟨j, hj, j1, j2⟩ := o2 l l2 (by omega) w1 w2
      exact ⟨j, by omega, by rw [upd_ne (by omega)]; exact j1, by rw [upd_ne (by omega)]; exact j2⟩
  · show acr = smW (ACW F G a1) M + ACW F G a1 M
    have e0 : ¬ a1 19 M = 2 := by rw [e19, upd_at]; decide
    have : ACW F G a1 M = 0 := by
      unfold ACW
      rw [if_neg (fun w => e0 w.1), if_neg (fun w => e0 w.1)]; rfl
    rw [smW_cg M hac, ← hl.2.2.2, this, Int32.add_zero]
/-- the law's marks are the days lived there -/
theorem li_fm (hb : BK F G M M a n) (hl : LI F G M V f g acr a) : BKF F G M M a n (fun d => LV f g (nI d) V) acr := by
  have hFG := bk_F hb
  refine ⟨hb, fun d d1 d2 => ?_, hl.2.2.2⟩
  show ¬ LV f g (nI d) V = 0 ↔ _
  rw [LV_iff]
  have td : (nI d).toInt = d := nI_toInt (by omega)
  constructor
  · rintro ⟨j, hj, j1, j2⟩
    obtain ⟨l, D, N, l2, lM, w, w1, w2, w3, w4, w5, w6⟩ := hl.2.1 j hj
    rw [w5, le_i, td, nI_toInt (by omega)] at j1
    rw [w6, lt_i, td, nI_toInt (by omega)] at j2
    exact ⟨l, D, N, l2, lM, w, w1, w2, by omega, by omega, by omega, w4⟩
  · rintro ⟨l, D, N, l2, lM, w, w1, w2, w3, w4, w5, w6⟩
    obtain ⟨j, hj, j1, j2⟩ := hl.2.2.1 l l2 lM w (by rw [w1, le_i, nI_toInt (by omega), nI_toInt (by omega)]; omega)
    refine ⟨j, hj, ?_, ?_⟩
    · rw [j1, w1, le_i, td, nI_toInt (by omega)]; omega
    · rw [j2, w1, w2, nI_add, lt_i, td, nI_toInt (by omega)]; omega
end LNS22
