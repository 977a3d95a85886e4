/-! the book that the law of p22 tells: line 0 the filing, line 1 the proof, then lives and acres, at last perhaps another filing -/
theorem ite_ff {α : Type} {c c2 : Prop} [Decidable c] [Decidable c2] {x y : α} (h : c ↔ c2) : (if c then x else y) = if c2 then x else y := by
  by_cases q : c
  · rw [if_pos q, if_pos (h.mp q)]
  · rw [if_neg q, if_neg (fun w => q (h.mpr w))]
theorem i32_sb {x y : Int32} (h : -2147483648 ≤ x.toInt - y.toInt) (h2 : x.toInt - y.toInt ≤ 2147483647) : (x - y).toInt = x.toInt - y.toInt := by
  rw [Int32.toInt_sub]
  exact Int.bmod_eq_of_le (by omega) (by omega)
theorem THR_k {a : Nat → Nat → Int32} {n : Nat → Int32} {S B : Nat} {ln : Int32} {q : Nat} (hq : q < 26 ∨ 37 < q) : ∀ i, THR a n S B ln i q = a q := by
  intro i
  induction i with
  | zero => exact CLR_k hq
  | succ i ih =>
    show (if nI (a 24 i).toNatClampNeg < ln ∧ a 23 (a 24 i).toNatClampNeg = 0 then TST (THR a n S B ln i) n S B (a 24 i).toNatClampNeg i else THR a n S B ln i) q = a q
    by_cases c : nI (a 24 i).toNatClampNeg < ln ∧ a 23 (a 24 i).toNatClampNeg = 0
    · rw [if_pos c, TST_k hq]; exact ih
    · rw [if_neg c]; exact ih
theorem cL_cg {f f2 : Nat → Int32} {u : Nat} : ∀ d, (∀ j, j < d → (f (u + j) = 0 ↔ f2 (u + j) = 0)) → cL f u d = cL f2 u d := by
  intro d
  induction d with
  | zero => intro _; rfl
  | succ d ih =>
    intro h
    show cL f u d + (if f (u + d) = 0 then 0 else 1) = cL f2 u d + (if f2 (u + d) = 0 then 0 else 1)
    rw [ih (fun j hj => h j (by omega)), ite_ff (h d (by omega))]
theorem gpN_cg {f f2 : Nat → Int32} {u : Nat} : ∀ d, (∀ j, j < d → (f (u + j) = 0 ↔ f2 (u + j) = 0)) → gpN f u d = gpN f2 u d := by
  intro d
  induction d with
  | zero => intro _; rfl
  | succ d ih =>
    intro h
    show (if f (u + d) = 0 then gpN f u d + 1 else 0) = (if f2 (u + d) = 0 then gpN f2 u d + 1 else 0)
    rw [ih (fun j hj => h j (by omega)), ite_ff (h d (by omega))]
theorem lgN_cg {f f2 : Nat → Int32} {u : Nat} : ∀ d, (∀ j, j < d → (f (u + j) = 0 ↔ f2 (u + j) = 0)) → lgN f u d = lgN f2 u d := by
  intro d
  induction d with
  | zero => intro _; rfl
  | succ d ih =>
    intro h
    show (if lgN f u d < gpN f u (d + 1) then gpN f u (d + 1) else lgN f u d) = (if lgN f2 u d < gpN f2 u (d + 1) then gpN f2 u (d + 1) else lgN f2 u d)
    rw [ih (fun j hj => h j (by omega)), gpN_cg (d + 1) h]
def LNE (a : Nat → Nat → Int32) (l : Nat) : Prop := (a 19 l = 1 ∨ a 19 l = 2) ∧ (∃ D, D ≤ 7200 ∧ a 18 l = nI D) ∧ (∃ N, N ≤ 400 ∧ a 22 l = nI N) ∧ (a 20 l = 0 ∨ a 20 l = 1) ∧ (a 21 l = 9 ∨ a 21 l = 10) ∧ a 23 l = 0
/-- F: the day of the filing, G: of the proof, M: so many lines with lives and acres, B: all lines -/
def BK (F G M B : Nat) (a : Nat → Nat → Int32) (n : Nat → Int32) : Prop :=
  XI 2 0 0 B a n ∧ n 5 = 20001 ∧ (a 2 0 = -12000 ∧ a 3 0 = 0) ∧ (a 2 1 = -12000 ∧ a 3 1 = 0 ∧ ∀ l, 2 ≤ l → a 23 l = 0) ∧
  (a 18 0 = nI F ∧ a 19 0 = 0 ∧ a 20 0 = 0 ∧ a 21 0 = 9 ∧ a 23 0 = 0) ∧ (a 18 1 = nI G ∧ a 19 1 = 5 ∧ a 20 1 = 0 ∧ a 21 1 = 9) ∧
  (∀ l, 2 ≤ l → l < M → LNE a l) ∧ ORD B (a 18) (a 24) ∧ (1000 ≤ F ∧ F ≤ G ∧ G ≤ 7200) ∧ 2 ≤ M ∧ M ≤ 60 ∧
  (B = M ∨ (B = M + 1 ∧ a 18 M = nI 20000 ∧ a 19 M = 0 ∧ a 20 M = 1 ∧ a 21 M = 9 ∧ a 23 M = 0))
def LIF (a : Nat → Nat → Int32) (l : Nat) : Prop := a 19 l = 1 ∧ a 20 l = 0 ∧ a 21 l = 9
/-- Fm marks the days that the first one lived there -/
def FMK (F G M : Nat) (a : Nat → Nat → Int32) (Fm : Nat → Int32) : Prop := ∀ d, F ≤ d → d < G → (¬ Fm d = 0 ↔ ∃ l D N, 2 ≤ l ∧ l < M ∧ LIF a l ∧ a 18 l = nI D ∧ a 22 l = nI N ∧ D ≤ d ∧ d < D + N ∧ D ≤ 7200 ∧ N ≤ 400)
/-- acres, as the law adds them -/
def ACW (F G : Nat) (a : Nat → Nat → Int32) (l : Nat) : Int32 := (if a 19 l = 2 ∧ a 20 l = 0 ∧ a 21 l = 9 ∧ nI F < a 18 l ∧ a 18 l < nI G then a 22 l else 0) + (if a 19 l = 2 ∧ a 20 l = 0 ∧ a 21 l = 9 ∧ a 18 l = nI F then a 22 l else 0)
def DUE (F G : Nat) (Fm : Nat → Int32) (acr : Int32) : Int32 := if 2600 < nI G - nI F then 12 else if nI (cL Fm F (G - F)) < 1800 then 13 else if 180 < nI (lgN Fm F (G - F)) then 14 else if acr < 10 then 15 else 0
def BKF (F G M B : Nat) (a : Nat → Nat → Int32) (n : Nat → Int32) (Fm : Nat → Int32) (acr : Int32) : Prop := BK F G M B a n ∧ FMK F G M a Fm ∧ acr = smW (ACW F G a) M
/-- the order of the lines; s0, s1: where lines 0 and 1 stand -/
def PO (B s0 s1 : Nat) (a : Nat → Nat → Int32) (p : Nat → Nat) : Prop := (∀ r, r < B → p r < B ∧ a 24 r = nI (p r)) ∧ (∀ r s, r < s → s < B → BEF (a 18) (p r) (p s)) ∧ (∀ l, l < B → ∃ r, r < B ∧ p r = l) ∧ (s0 < B ∧ p s0 = 0) ∧ (s1 < B ∧ p s1 = 1) ∧ s0 < s1
section BKS
variable {F G M B N s0 s1 i : Nat} {a z : Nat → Nat → Int32} {n u : Nat → Int32} {p : Nat → Nat} {h v c acr : Int32} {Fm : Nat → Int32}
theorem bk_cg (hb : BK F G M B a n) (hq : ∀ q, q < 26 ∨ 37 < q → z q = a q) (hn : ∀ j, j ≠ 6 → j ≠ 7 → u j = n j) : BK F G M B z u := by
  obtain ⟨xi, h2, h3, h4, h5, h6, h7, h8, h9⟩ := hb
  have e2 := hq 2 (by omega)
  have e3 := hq 3 (by omega)
  have e18 := hq 18 (by omega)
  have e19 := hq 19 (by omega)
  have e20 := hq 20 (by omega)
  have e21 := hq 21 (by omega)
  have e22 := hq 22 (by omega)
  have e23 := hq 23 (by omega)
  have e24 := hq 24 (by omega)
  refine ⟨XI_keep xi hq hn, (hn 5 (by decide) (by decide)).trans h2, ?_⟩
  unfold LNE at h7
  unfold LNE
  rw [e2, e3, e18, e19, e20, e21, e22, e23, e24]
  exact ⟨h3, h4, h5, h6, h7, h8, h9⟩
theorem fmk_cg (hF : FMK F G M a Fm) (hq : ∀ q, q < 26 ∨ 37 < q → z q = a q) : FMK F G M z Fm := by
  unfold FMK LIF
  rw [hq 18 (by omega), hq 19 (by omega), hq 20 (by omega), hq 21 (by omega), hq 22 (by omega)]
  exact hF
theorem acw_cg (hq : ∀ q, q < 26 ∨ 37 < q → z q = a q) : ACW F G z = ACW F G a := by
  funext l
  unfold ACW
  rw [hq 18 (by omega), hq 19 (by omega), hq 20 (by omega), hq 21 (by omega), hq 22 (by omega)]
theorem bkf_cg (hk : BKF F G M B a n Fm acr) (hq : ∀ q, q < 26 ∨ 37 < q → z q = a q) (hn : ∀ j, j ≠ 6 → j ≠ 7 → u j = n j) : BKF F G M B z u Fm acr := ⟨bk_cg hk.1 hq hn, fmk_cg hk.2.1 hq, by rw [acw_cg hq]; exact hk.2.2⟩
theorem po_cg (hp : PO B s0 s1 a p) (hq : ∀ q, q < 26 ∨ 37 < q → z q = a q) : PO B s0 s1 z p := by
  unfold PO
  rw [hq 18 (by omega), hq 24 (by omega)]
  exact hp
theorem po_inj (hp : PO B s0 s1 a p) {r s : Nat} (hr : r < B) (hs : s < B) (e : p r = p s) : r = s := by
  rcases Nat.lt_trichotomy r s with c | c | c
  · have := bef_i.mp (hp.2.1 r s c hs)
    rw [e] at this; omega
  · exact c
  · have := bef_i.mp (hp.2.1 s r c hr)
    rw [e] at this; omega
theorem bk_ln (hb : BK F G M B a n) {l : Nat} (h1 : 2 ≤ l) (h2 : l < M) : LNE a l := hb.2.2.2.2.2.2.1 l h1 h2
theorem bk_0 (hb : BK F G M B a n) : a 18 0 = nI F ∧ a 19 0 = 0 ∧ a 20 0 = 0 ∧ a 21 0 = 9 ∧ a 23 0 = 0 := hb.2.2.2.2.1
theorem bk_1 (hb : BK F G M B a n) : a 18 1 = nI G ∧ a 19 1 = 5 ∧ a 20 1 = 0 ∧ a 21 1 = 9 := hb.2.2.2.2.2.1
theorem bk_F (hb : BK F G M B a n) : 1000 ≤ F ∧ F ≤ G ∧ G ≤ 7200 := hb.2.2.2.2.2.2.2.2.1
theorem bk_M (hb : BK F G M B a n) : 2 ≤ M ∧ M ≤ 60 := ⟨hb.2.2.2.2.2.2.2.2.2.1, hb.2.2.2.2.2.2.2.2.2.2.1⟩
theorem bk_L (hb : BK F G M B a n) : B = M ∨ (B = M + 1 ∧ a 18 M = nI 20000 ∧ a 19 M = 0 ∧ a 20 M = 1 ∧ a 21 M = 9 ∧ a 23 M = 0) := hb.2.2.2.2.2.2.2.2.2.2.2
theorem bk_B (hb : BK F G M B a n) : M ≤ B ∧ B ≤ M + 1 := by
  rcases bk_L hb with e | ⟨e, _⟩ <;> omega
theorem bk_sort (hb : BK F G M B a n) {l : Nat} (hl : l < B) (h9 : a 19 l = 1 ∨ a 19 l = 2) : 2 ≤ l ∧ l < M := by
  have e0 : l ≠ 0 := fun e => by rw [e, (bk_0 hb).2.1] at h9; revert h9; decide
  have e1 : l ≠ 1 := fun e => by rw [e, (bk_1 hb).2.1] at h9; revert h9; decide
  rcases bk_L hb with e | ⟨e, _, eM, _⟩
  · omega
  · have : l ≠ M := fun q => by rw [q, eM] at h9; revert h9; decide
    omega
theorem bk_day (hb : BK F G M B a n) {l : Nat} (hl : l < B) : ∃ D, D ≤ 20000 ∧ a 18 l = nI D := by
  have hF := bk_F hb
  by_cases e0 : l = 0
  · exact ⟨F, by omega, by rw [e0]; exact (bk_0 hb).1⟩
  · by_cases e1 : l = 1
    · exact ⟨G, by omega, by rw [e1]; exact (bk_1 hb).1⟩
    · by_cases eM : l < M
      · obtain ⟨_, ⟨D, hD, e⟩, _⟩ := bk_ln hb (by omega) eM
        exact ⟨D, by omega, e⟩
      · rcases bk_L hb with e | ⟨e, e2, _⟩
        · omega
        · exact ⟨20000, Nat.le_refl _, by rw [show l = M by omega]; exact e2⟩
theorem t_F (hb : BK F G M B a n) : (a 18 0).toInt = F := by
  have := bk_F hb
  rw [(bk_0 hb).1, nI_toInt (by omega)]
theorem t_G (hb : BK F G M B a n) : (a 18 1).toInt = G := by
  have := bk_F hb
  rw [(bk_1 hb).1, nI_toInt (by omega)]
theorem bk_po (hb : BK F G M B a n) : ∃ p s0 s1, PO B s0 s1 a p := by
  have hB := bk_B hb
  have hM := bk_M hb
  have hF := bk_F hb
  obtain ⟨p, q1, q2, q3⟩ := hb.2.2.2.2.2.2.2.1
  obtain ⟨s0, h0, e0⟩ := q3 0 (by omega)
  obtain ⟨s1, h1, e1⟩ := q3 1 (by omega)
  refine ⟨p, s0, s1, q1, q2, q3, ⟨h0, e0⟩, ⟨h1, e1⟩, ?_⟩
  rcases Nat.lt_trichotomy s0 s1 with q | q | q
  · exact q
  · rw [q, e1] at e0; omega
  · have := bef_i.mp (q2 s1 s0 q h0)
    rw [e0, e1, t_F hb, t_G hb] at this
    omega
theorem po_l0 (hb : BK F G M B a n) (hp : PO B s0 s1 a p) {s : Nat} (hs : s < s0) : (a 18 (p s)).toInt < F := by
  have := bef_i.mp (hp.2.1 s s0 hs hp.2.2.2.1.1)
  rw [hp.2.2.2.1.2, t_F hb] at this
  omega
theorem po_g0 (hb : BK F G M B a n) (hp : PO B s0 s1 a p) {s : Nat} (hs : s0 ≤ s) (hB : s < B) : (F : Int) ≤ (a 18 (p s)).toInt := by
  by_cases e : s = s0
  · rw [e, hp.2.2.2.1.2, t_F hb]; exact Int.le_refl _
  · have := bef_i.mp (hp.2.1 s0 s (by omega) hB)
    rw [hp.2.2.2.1.2, t_F hb] at this
    omega
theorem po_l1 (hb : BK F G M B a n) (hp : PO B s0 s1 a p) {s : Nat} (hs : s < s1) (h2 : 1 ≤ p s) : (a 18 (p s)).toInt < G := by
  have := bef_i.mp (hp.2.1 s s1 hs hp.2.2.2.2.1.1)
  rw [hp.2.2.2.2.1.2, t_G hb] at this
  omega
theorem po_g1 (hb : BK F G M B a n) (hp : PO B s0 s1 a p) {s : Nat} (hs : s1 ≤ s) (hB : s < B) : (G : Int) ≤ (a 18 (p s)).toInt := by
  by_cases e : s = s1
  · rw [e, hp.2.2.2.2.1.2, t_G hb]; exact Int.le_refl _
  · have := bef_i.mp (hp.2.1 s1 s (by omega) hB)
    rw [hp.2.2.2.2.1.2, t_G hb] at this
    omega
theorem who1 {x : Int32} (h : x = 0 ∨ x = 1) : ((1 : Int32) >>> (x &&& 31)) &&& 1 = 1 ↔ x = 0 := by
  rcases h with rfl | rfl <;> decide
theorem dbh22 (hb : BK F G M B a n) (h29 : a 29 0 = 1) {l : Nat} {x : Int32} (hl : l < B) (hx : x = 1 ∨ x = 2) : DBH a l x 0 ↔ (a 26 l = 0 ∧ a 19 l = x ∧ a 21 l = 9 ∧ a 20 l = 0) := by
  constructor
  · rintro ⟨c1, c2, c3, c4⟩
    obtain ⟨l2, lM⟩ := bk_sort hb hl (by rw [c2]; exact hx)
    obtain ⟨_, _, _, l20, _, _⟩ := bk_ln hb l2 lM
    rw [h29] at c4
    exact ⟨c1, c2, c3.trans (bk_0 hb).2.2.2.1, (who1 l20).mp c4⟩
  · rintro ⟨c1, c2, c3, c4⟩
    exact ⟨c1, c2, c3.trans (bk_0 hb).2.2.2.1.symm, by rw [h29, c4]; decide⟩
theorem po_cl (hb : BK F G M B a n) (hp : PO B s0 s1 a p) {s : Nat} (hs : s < B) : (a 24 s).toNatClampNeg = p s := by
  have hB := bk_B hb
  have hM := bk_M hb
  obtain ⟨h1, h2⟩ := hp.1 s hs
  rw [h2, nI_clamp (by omega)]
/-- the days lived there, and the longest row of days without: class and law -/
theorem lk_22 (hb : BK F G M B a n) (hp : PO B s0 s1 a p) (hF : FMK F G M a Fm) (h29 : a 29 0 = 1) (h26 : ∀ l, 2 ≤ l → l < M → (a 26 l = 0 ↔ (a 18 l).toInt < G)) : (lkF a 0 (nI F) (nI G - 1) B).2.1 = nI (cL Fm F (G - F)) ∧ lkG (nI G - 1) (lkF a 0 (nI F) (nI G - 1) B) = nI (lgN Fm F (G - F)) := by
  have hFG := bk_F hb
  have hB := bk_B hb
  have hd : ∀ s, s < B → DBH a (a 24 s).toNatClampNeg 1 0 → 2 ≤ p s ∧ p s < M ∧ LIF a (p s) ∧ (a 18 (p s)).toInt < G := fun s hs q => by
    rw [po_cl hb hp hs] at q
    obtain ⟨c1, c2, c3, c4⟩ := (dbh22 hb h29 (hp.1 s hs).1 (Or.inl rfl)).mp q
    obtain ⟨l2, lM⟩ := bk_sort hb (hp.1 s hs).1 (Or.inl c2)
    exact ⟨l2, lM, ⟨c2, c4, c3⟩, (h26 _ l2 lM).mp c1⟩
  have hI : ∀ s, s < B → DBH a (a 24 s).toNatClampNeg 1 0 → ∃ D N, IVL a 0 s D N := fun s hs q => by
    obtain ⟨l2, lM, _, _⟩ := hd s hs q
    obtain ⟨_, ⟨D, hD, eD⟩, ⟨N, hN, eN⟩, _⟩ := bk_ln hb l2 lM
    refine ⟨D, N, q, ?_, ?_, by omega, by omega⟩
    · rw [po_cl hb hp hs]; exact eD
    · rw [po_cl hb hp hs]; exact eN
  have hO : ∀ s t D N D' N', s < t → t < B → IVL a 0 s D N → IVL a 0 t D' N' → D ≤ D' := fun s t D N D' N' h1 h2 w1 w2 => by
    have e := bef_i.mp (hp.2.1 s t h1 h2)
    have e1 := w1.2.1
    have e2 := w2.2.1
    have b1 := w1.2.2.2.1
    have b2 := w2.2.2.2.1
    rw [po_cl hb hp (by omega)] at e1
    rw [po_cl hb hp h2] at e2
    rw [e1, e2, nI_toInt (by omega), nI_toInt (by omega)] at e
    omega
  obtain ⟨F1, hF1⟩ : ∃ F1 : Nat → Int32, ∀ d, ¬ F1 d = 0 ↔ ∃ s D N, s < B ∧ IVL a 0 s D N ∧ D ≤ d ∧ d < D + N := by
    refine ⟨fun d => @ite _ (∃ s D N, s < B ∧ IVL a 0 s D N ∧ D ≤ d ∧ d < D + N) (Classical.propDecidable _) 1 0, fun d => ?_⟩
    show ¬ (@ite _ (∃ s D N, s < B ∧ IVL a 0 s D N ∧ D ≤ d ∧ d < D + N) (Classical.propDecidable _) (1 : Int32) 0) = 0 ↔ _
    by_cases q : ∃ s D N, s < B ∧ IVL a 0 s D N ∧ D ≤ d ∧ d < D + N
    · rw [if_pos q]; exact ⟨fun _ => q, fun _ => by decide⟩
    · rw [if_neg q]; exact ⟨fun w => absurd rfl w, fun w => absurd w q⟩
  have tF : (nI F).toInt = F := nI_toInt (by omega)
  have tG : (nI G - 1).toInt = (G : Int) - 1 := by
    have := pk_sub_toInt (a := G) (b := 1) (by omega) (by decide)
    exact this
  have hup : UPT F (nI G - 1) (G - F) := by
    refine ⟨fun w => ?_, fun j hj => ?_, Or.inr (by omega)⟩
    · rw [le_i, nI_toInt (by omega), tG] at w; omega
    · rw [le_i, nI_toInt (by omega), tG]; omega
  obtain ⟨r1, r2, _⟩ := lk_all (F := F1) (a := a) (i := 0) (B := B) (fr := nI F) (tu := nI G - 1) (u := F) (d := G - F) hI hO (fun d _ => hF1 d) ⟨by rw [tF]; omega, by rw [tF]; omega⟩ ⟨by rw [tG]; omega, by rw [tG]; omega⟩ (by rw [tF, if_neg (by omega)]) hup
  have ag : ∀ j, j < G - F → (F1 (F + j) = 0 ↔ Fm (F + j) = 0) := fun j hj => by
    have e1 := hF1 (F + j)
    have e2 := hF (F + j) (by omega) (by omega)
    have e3 : (∃ s D N, s < B ∧ IVL a 0 s D N ∧ D ≤ F + j ∧ F + j < D + N) ↔ ∃ l D N, 2 ≤ l ∧ l < M ∧ LIF a l ∧ a 18 l = nI D ∧ a 22 l = nI N ∧ D ≤ F + j ∧ F + j < D + N ∧ D ≤ 7200 ∧ N ≤ 400 := by
      constructor
      · rintro ⟨s, D, N, hs, ⟨w1, w2, w3, w4, w5⟩, b1, b2⟩
        obtain ⟨l2, lM, hl, _⟩ := hd s hs w1
        rw [po_cl hb hp hs] at w2 w3
        obtain ⟨_, ⟨D2, hD, eD⟩, ⟨N2, hN, eN⟩, _⟩ := bk_ln hb l2 lM
        have q1 := nI_inj (w2.symm.trans eD) (by omega) (by omega)
        have q2 := nI_inj (w3.symm.trans eN) (by omega) (by omega)
        exact ⟨p s, D, N, l2, lM, hl, w2, w3, b1, b2, by omega, by omega⟩
      · rintro ⟨l, D, N, l2, lM, hl, w2, w3, b1, b2, b3, b4⟩
        obtain ⟨s, hs, es⟩ := hp.2.2.1 l (by omega)
        refine ⟨s, D, N, hs, ⟨?_, ?_, ?_, by omega, by omega⟩, b1, b2⟩
        · rw [po_cl hb hp hs, es]
          refine (dbh22 hb h29 (by omega) (Or.inl rfl)).mpr ⟨(h26 l l2 lM).mpr ?_, hl.1, hl.2.2, hl.2.1⟩
          rw [w2, nI_toInt (by omega)]
          exact Int.ofNat_lt.mpr (Nat.lt_of_le_of_lt b1 (Nat.add_lt_of_lt_sub' hj))
        · rw [po_cl hb hp hs, es]; exact w2
        · rw [po_cl hb hp hs, es]; exact w3
    constructor
    · intro q
      refine Classical.byContradiction fun w => ?_
      exact absurd q (e1.mpr (e3.mpr (e2.mp w)))
    · intro q
      refine Classical.byContradiction fun w => ?_
      exact absurd q (e2.mpr (e3.mp (e1.mp w)))
  refine ⟨?_, ?_⟩
  · rw [r1, cL_cg _ ag]
  · rw [r2 (by rw [tF]; omega), lgN_cg _ ag]
/-- the acres: class and law -/
theorem ac_22 (hb : BK F G M B a n) (hp : PO B s0 s1 a p) (hFG : F < G) (h29 : a 29 0 = 1) (h26 : ∀ l, 2 ≤ l → l < M → (a 26 l = 0 ↔ (a 18 l).toInt < G)) : acF a 0 s0 (B - s0) = smW (ACW F G a) M := by
  have hF := bk_F hb
  have hB := bk_B hb
  have hM := bk_M hb
  have h0 := hp.2.2.2.1.1
  have tF : (nI F).toInt = F := nI_toInt (by omega)
  have tG : (nI G).toInt = G := nI_toInt (by omega)
  obtain ⟨w, hw⟩ : ∃ w : Nat → Int32, w = fun l => if a 19 l = 2 ∧ a 20 l = 0 ∧ a 21 l = 9 ∧ nI F ≤ a 18 l ∧ a 18 l < nI G then a 22 l else 0 := ⟨_, rfl⟩
  have e1 : smW (fun s => if DBH a (a 24 (s0 + s)).toNatClampNeg 2 0 then a 22 (a 24 (s0 + s)).toNatClampNeg else 0) (B - s0) = smW (fun s => w (p (s0 + s))) (B - s0) := smW_cg _ (fun s hs => by
    have hsB : s0 + s < B := by omega
    have hl := (hp.1 _ hsB).1
    show (if DBH a (a 24 (s0 + s)).toNatClampNeg 2 0 then a 22 (a 24 (s0 + s)).toNatClampNeg else 0) = w (p (s0 + s))
    rw [po_cl hb hp hsB, hw]
    refine ite_ff ?_
    rw [dbh22 hb h29 hl (Or.inr rfl)]
    constructor
    · rintro ⟨c1, c2, c3, c4⟩
      obtain ⟨l2, lM⟩ := bk_sort hb hl (Or.inr c2)
      have := (h26 _ l2 lM).mp c1
      have := po_g0 hb hp (Nat.le_add_right s0 s) hsB
      exact ⟨c2, c4, c3, by rw [le_i, tF]; omega, by rw [lt_i, tG]; omega⟩
    · rintro ⟨c2, c4, c3, _, c6⟩
      obtain ⟨l2, lM⟩ := bk_sort hb hl (Or.inr c2)
      rw [lt_i, tG] at c6
      exact ⟨(h26 _ l2 lM).mpr c6, c2, c3, c4⟩)
  have e2 : smW (fun s => w (p s)) (s0 + (B - s0)) = smW (fun s => w (p s)) s0 + smW (fun s => w (p (s0 + s))) (B - s0) := smW_add (w := fun s => w (p s)) (t := s0) (B - s0)
  have e3 : smW (fun s => w (p s)) s0 = 0 := smW_no _ (fun s hs => by
    show w (p s) = 0
    rw [hw]
    refine if_neg ?_
    rintro ⟨_, _, _, c, _⟩
    have := po_l0 hb hp hs
    rw [le_i, tF] at c
    omega)
  have e4 : smW (fun s => w (p s)) B = smW w B := smW_perm (fun e he => (hp.1 e he).1) (fun e f he hf q => po_inj hp he hf q) hp.2.2.1
  have e5 : smW w B = smW w M := by
    rcases bk_L hb with e | ⟨e, _, eM, _⟩
    · rw [e]
    · rw [e]
      show smW w M + w M = smW w M
      have : w M = 0 := by
        rw [hw]
        refine if_neg ?_
        rintro ⟨c, _⟩
        rw [eM] at c; revert c; decide
      rw [this, Int32.add_zero]
  have e6 : smW w M = smW (ACW F G a) M := smW_cg _ (fun l hl => by
    rw [hw]
    show (if a 19 l = 2 ∧ a 20 l = 0 ∧ a 21 l = 9 ∧ nI F ≤ a 18 l ∧ a 18 l < nI G then a 22 l else 0) = ACW F G a l
    unfold ACW
    by_cases c : a 19 l = 2 ∧ a 20 l = 0 ∧ a 21 l = 9
    · obtain ⟨c1, c2, c3⟩ := c
      by_cases q : a 18 l = nI F
      · have n1 : ¬ (a 19 l = 2 ∧ a 20 l = 0 ∧ a 21 l = 9 ∧ nI F < a 18 l ∧ a 18 l < nI G) := fun w => by
          have := w.2.2.2.1
          rw [lt_i, q] at this; omega
        have p1 : a 19 l = 2 ∧ a 20 l = 0 ∧ a 21 l = 9 ∧ nI F ≤ a 18 l ∧ a 18 l < nI G := ⟨c1, c2, c3, by rw [q]; exact Int32.le_refl _, by rw [q, lt_i, tF, tG]; omega⟩
        have p2 : a 19 l = 2 ∧ a 20 l = 0 ∧ a 21 l = 9 ∧ a 18 l = nI F := ⟨c1, c2, c3, q⟩
        rw [if_pos p1, if_neg n1, if_pos p2, Int32.zero_add]
      · have n2 : ¬ (a 19 l = 2 ∧ a 20 l = 0 ∧ a 21 l = 9 ∧ a 18 l = nI F) := fun w => q w.2.2.2
        rw [if_neg n2, Int32.add_zero]
        refine ite_ff ?_
        constructor
        · rintro ⟨_, _, _, x1, x2⟩
          refine ⟨c1, c2, c3, ?_, x2⟩
          rw [lt_i, tF]
          rw [le_i, tF] at x1
          have : ¬ (a 18 l).toInt = F := fun y => q (Int32.toInt_inj.mp (by rw [y, tF]))
          omega
        · rintro ⟨_, _, _, x1, x2⟩
          refine ⟨c1, c2, c3, ?_, x2⟩
          rw [lt_i, tF] at x1
          rw [le_i, tF]; omega
    · rw [if_neg (fun w => c ⟨w.1, w.2.1, w.2.2.1⟩), if_neg (fun w => c ⟨w.1, w.2.1, w.2.2.1⟩), if_neg (fun w => c ⟨w.1, w.2.1, w.2.2.1⟩), Int32.add_zero])
  rw [acF_sm, e1]
  rw [show s0 + (B - s0) = B by omega, e3, Int32.zero_add, e4, e5, e6] at e2
  exact e2.symm
end BKS
