/-- the book worked through up to the place i: h the entry of the quarter, v its state, c what the proof came to -/
def PHI (M N : Nat) (p : Nat → Nat) (B G s0 i : Nat) (z : Nat → Nat → Int32) (h v c : Int32) : Prop :=
  (∀ x, x < 12 → z 36 x = 0) ∧ (∀ q, q < 64 → z 34 q = -1) ∧ (z 33 9 = h ∧ ∀ q, q < 64 → q ≠ 9 → z 33 q = -1) ∧
  (z 27 0 = v ∧ ∀ l, 0 < l → l < 120 → z 27 l = 0) ∧
  (h = 0 → z 28 0 = 0 ∧ z 29 0 = 1 ∧ z 30 0 = -1 ∧ z 32 0 = nI s0 ∧ z 26 0 = 0) ∧ (h = -1 → z 37 0 = 0) ∧
  (v = 2 → z 31 0 = nI (G + 100)) ∧ z 26 1 = c ∧
  (∀ s, s < B → 2 ≤ p s → z 26 (p s) = if s < i ∧ p s < N then (if p s < M then 0 else 5) else -1)
theorem wl_low {a : Nat → Nat → Int32} {n : Nat → Int32} {S B k t : Nat} (h36 : a 36 (a 20 k).toNatClampNeg = 0) (h19 : a 19 k = 1 ∨ a 19 k = 2) : WLc a n S B k = 0 ∧ WLa a n S B k t = a := by
  have n0 : ¬ ¬ a 36 (a 20 k).toNatClampNeg = 0 := fun w => w h36
  have f : ∀ x : Int32, x = 1 ∨ x = 2 → ¬ x = 0 ∧ ¬ x = 3 ∧ ¬ x = 4 ∧ ¬ x = 5 ∧ ¬ x = 6 := by
    rintro x (rfl | rfl) <;> decide
  obtain ⟨f0, f3, f4, f5, f6⟩ := f _ h19
  unfold WLc WLa
  exact ⟨by rw [if_neg n0, if_neg f0, if_neg f3, if_neg f4, if_neg f5, if_neg f6], by rw [if_neg n0, if_neg f0, if_neg f3, if_neg f4, if_neg f5, if_neg f6]⟩
theorem wl_file {a : Nat → Nat → Int32} {n : Nat → Int32} {S B k t : Nat} (h36 : a 36 (a 20 k).toNatClampNeg = 0) (h19 : a 19 k = 0) : WLc a n S B k = WFc a n S k (a 21 k).toNatClampNeg (a 20 k).toNatClampNeg (iof a (a 18 k) S) (PFO a (a 21 k).toNatClampNeg (a 18 k)) ∧ WLa a n S B k t = if WFc a n S k (a 21 k).toNatClampNeg (a 20 k).toNatClampNeg (iof a (a 18 k) S) (PFO a (a 21 k).toNatClampNeg (a 18 k)) = 0 then WFu a k (a 21 k).toNatClampNeg (a 20 k).toNatClampNeg t (iof a (a 18 k) S) else a := by
  have n0 : ¬ ¬ a 36 (a 20 k).toNatClampNeg = 0 := fun w => w h36
  unfold WLc WLa
  exact ⟨by rw [if_neg n0, if_pos h19], by rw [if_neg n0, if_pos h19]⟩
theorem wl_prove {a : Nat → Nat → Int32} {n : Nat → Int32} {S B k t : Nat} (h36 : a 36 (a 20 k).toNatClampNeg = 0) (h19 : a 19 k = 5) : WLc a n S B k = WPc a S B k (a 21 k).toNatClampNeg ∧ WLa a n S B k t = if WPc a S B k (a 21 k).toNatClampNeg = 0 then WPu a S k (a 21 k).toNatClampNeg else a := by
  have n0 : ¬ ¬ a 36 (a 20 k).toNatClampNeg = 0 := fun w => w h36
  have f : ∀ x : Int32, x = 5 → ¬ x = 0 ∧ ¬ x = 3 ∧ ¬ x = 4 := by
    rintro x rfl; decide
  obtain ⟨f0, f3, f4⟩ := f _ h19
  unfold WLc WLa
  exact ⟨by rw [if_neg n0, if_neg f0, if_neg f3, if_neg f4, if_pos h19], by rw [if_neg n0, if_neg f0, if_neg f3, if_neg f4, if_pos h19]⟩
theorem cl_0 : (0 : Int32).toNatClampNeg = 0 := by decide
theorem cl_1 : (1 : Int32).toNatClampNeg = 1 := by decide
theorem cl_9 : (9 : Int32).toNatClampNeg = 9 := by decide
section PHS
variable {F G M B N s0 s1 i : Nat} {a z : Nat → Nat → Int32} {n u : Nat → Int32} {p : Nat → Nat} {h v c acr : Int32} {Fm : Nat → Int32}
theorem phi_0 {f : Nat → Nat → Int32} : PHI M N p B G s0 0 (CLR f) (-1) 0 (-1) ∨ ¬ (B ≤ 120 ∧ ∀ s, s < B → p s < B) := by
  by_cases q : B ≤ 120 ∧ ∀ s, s < B → p s < B
  · refine Or.inl ⟨fun x hx => ?_, fun q hq => ?_, ⟨?_, fun q hq _ => ?_⟩, ⟨?_, fun l _ hl => ?_⟩, fun w => absurd w (by decide), fun _ => ?_, fun w => absurd w (by decide), ?_, fun s hs _ => ?_⟩
    · show fil (f 36) 0 12 x = 0
      exact if_pos hx
    · show fil (f 34) (-1) 64 q = -1
      exact if_pos hq
    · show fil (f 33) (-1) 64 9 = -1
      exact if_pos (by decide)
    · show fil (f 33) (-1) 64 q = -1
      exact if_pos hq
    · show fil (f 27) 0 120 0 = 0
      exact if_pos (by decide)
    · show fil (f 27) 0 120 l = 0
      exact if_pos hl
    · show fil (f 37) 0 12 0 = 0
      exact if_pos (by decide)
    · show fil (f 26) (-1) 120 1 = -1
      exact if_pos (by decide)
    · rw [if_neg (fun w => absurd w.1 (Nat.not_lt_zero s))]
      show fil (f 26) (-1) 120 (p s) = -1
      have := q.2 s hs
      exact if_pos (by omega)
  · exact Or.inr q
theorem phi_skip (hf : PHI M N p B G s0 i z h v c) (hk : p i < 2 ∨ ¬ p i < N) : PHI M N p B G s0 (i + 1) z h v c := by
  obtain ⟨g36, g34, g33, g27, gh, g37, g31, g1, g26⟩ := hf
  refine ⟨g36, g34, g33, g27, gh, g37, g31, g1, fun s hs h2 => ?_⟩
  rw [g26 s hs h2]
  refine ite_ff ?_
  by_cases e : s = i
  · rw [e]
    rw [e] at h2
    exact ⟨fun w => absurd w.1 (by omega), fun w => by have := w.2; omega⟩
  · exact ⟨fun w => ⟨by omega, w.2⟩, fun w => ⟨by omega, w.2⟩⟩
/-- a line of lives or acres, or another filing there: nothing but what it came to -/
theorem phi_26 (hp : PO B s0 s1 z p) (hi : i < B) (h2 : 2 ≤ p i) (hN : p i < N) (hf : PHI M N p B G s0 i z h v c) : PHI M N p B G s0 (i + 1) (va_up z 26 (upd (z 26) (p i) (if p i < M then 0 else 5))) h v c := by
  obtain ⟨g36, g34, g33, g27, gh, g37, g31, g1, g26⟩ := hf
  refine ⟨g36, g34, g33, g27, fun w => ?_, g37, g31, ?_, fun s hs hs2 => ?_⟩
  · obtain ⟨x1, x2, x3, x4, x5⟩ := gh w
    refine ⟨x1, x2, x3, x4, ?_⟩
    show upd (z 26) (p i) (if p i < M then 0 else 5) 0 = 0
    rw [upd_ne (by omega)]; exact x5
  · show upd (z 26) (p i) (if p i < M then 0 else 5) 1 = c
    rw [upd_ne (by omega)]; exact g1
  · show upd (z 26) (p i) (if p i < M then 0 else 5) (p s) = _
    by_cases e : s = i
    · have hc : i < i + 1 ∧ p i < N := ⟨Nat.lt_succ_self i, hN⟩
      rw [e, upd_at, if_pos hc]
    · have : p s ≠ p i := fun w => e (po_inj hp hs hi w)
      rw [upd_ne this, g26 s hs hs2]
      exact ite_ff ⟨fun w => ⟨by omega, w.2⟩, fun w => ⟨by omega, w.2⟩⟩
theorem phi_L (hb : BK F G M B z n) (hp : PO B s0 s1 z p) (hN : M ≤ N) (hi : i < B) (h2 : 2 ≤ p i) (hM : p i < M) (hf : PHI M N p B G s0 i z h v c) : PHI M N p B G s0 (i + 1) (TST z n 0 B (p i) i) h v c := by
  obtain ⟨l19, _, _, l20, _, _⟩ := bk_ln hb h2 hM
  have e36 : z 36 (z 20 (p i)).toNatClampNeg = 0 := by
    rcases l20 with e | e
    · rw [e, cl_0]; exact hf.1 0 (by decide)
    · rw [e, cl_1]; exact hf.1 1 (by decide)
  obtain ⟨w1, w2⟩ := wl_low (n := n) (S := 0) (B := B) (t := i) e36 l19
  have := phi_26 hp hi h2 (by omega) hf
  rw [if_pos hM] at this
  unfold TST
  rw [w1, w2]
  exact this
theorem pfo_n (h34 : z 34 9 = -1) {x : Int32} : PFO z 9 x = -1 := if_neg (fun w => w.1 h34)
theorem wf_num (hb : BK F G M B z n) {D q lw : Int32} (hD : 0 ≤ D.toInt ∧ D.toInt ≤ 20000) (hq : q = -12000) : ¬ D - q < vof z lw 0 0 0 := by
  show ¬ D - q < (7600 : Int32)
  have e1 : (-12000 : Int32).toInt = -12000 := by decide
  have e2 : (7600 : Int32).toInt = 7600 := by decide
  rw [hq, lt_i, i32_sb (by rw [e1]; omega) (by rw [e1]; omega), e1, e2]
  omega
theorem wf_rl (hb : BK F G M B z n) {D : Int32} (hD : D.toInt ≤ 20000) {k : Nat} : ¬ RLR (n 5) D k := by
  rintro ⟨w, _⟩
  rw [hb.2.1, le_i, show (20001 : Int32).toInt = 20001 by decide] at w
  omega
theorem wf_cz {D q : Int32} (hD : 0 ≤ D.toInt) (hq : q = 0) : ¬ D < q := by
  rw [hq, lt_i, show (0 : Int32).toInt = 0 by decide]; omega
/-- the last line: another one files there -/
theorem phi_M (hb : BK F G M B z n) (hp : PO B s0 s1 z p) (hN : p i < N) (hi : i < B) (hM : p i = M) (hh : h = 0) (hf : PHI M N p B G s0 i z h v c) : PHI M N p B G s0 (i + 1) (TST z n 0 B (p i) i) h v c := by
  have hM2 := bk_M hb
  have hpi := (hp.1 i hi).1
  have g33 := hf.2.2.1.1
  rcases bk_L hb with e | ⟨e, m18, m19, m20, m21, m23⟩
  · omega
  · have e36 : z 36 (z 20 (p i)).toNatClampNeg = 0 := by rw [hM, m20, cl_1]; exact hf.1 1 (by decide)
    obtain ⟨w1, w2⟩ := wl_file (n := n) (S := 0) (B := B) (t := i) e36 (by rw [hM]; exact m19)
    have t20 : (nI 20000).toInt = 20000 := nI_toInt (by decide)
    have e5 : WFc z n 0 (p i) (z 21 (p i)).toNatClampNeg (z 20 (p i)).toNatClampNeg (iof z (z 18 (p i)) 0) (PFO z (z 21 (p i)).toNatClampNeg (z 18 (p i))) = 5 := by
      rw [hM, m18, m20, m21, cl_1, cl_9]
      unfold WFc
      rw [m18, if_neg (wf_num hb ⟨by rw [t20]; decide, by rw [t20]; decide⟩ hb.2.2.2.1.1), if_neg (wf_cz (by rw [t20]; decide) hb.2.2.2.1.2.1), if_neg (wf_rl hb (by rw [t20]; decide)), if_pos (by rw [g33, hh]; decide)]
    have := phi_26 (M := M) hp hi (by omega) hN hf
    rw [if_neg (by omega)] at this
    unfold TST
    rw [w1, w2, e5, if_neg (by decide)]
    exact this
/-- the filing -/
theorem phi_F (hb : BK F G M B z n) (hp : PO B s0 s1 z p) (hi : i < B) (hk : p i = 0) (hf : PHI M N p B G s0 i z (-1) 0 (-1)) : PHI M N p B G s0 (i + 1) (TST z n 0 B 0 i) 0 1 (-1) := by
  have hM2 := bk_M hb
  have hFG := bk_F hb
  have ei : i = s0 := po_inj hp hi hp.2.2.2.1.1 (hk.trans hp.2.2.2.1.2.symm)
  obtain ⟨d18, d19, d20, d21, d23⟩ := bk_0 hb
  obtain ⟨g36, g34, ⟨g33, g33'⟩, ⟨g27, g27'⟩, gh, g37, g31, g1, g26⟩ := hf
  have e36 : z 36 (z 20 0).toNatClampNeg = 0 := by rw [d20, cl_0]; exact g36 0 (by decide)
  obtain ⟨w1, w2⟩ := wl_file (n := n) (S := 0) (B := B) (t := i) e36 d19
  have tF : (nI F).toInt = F := nI_toInt (by omega)
  have e0 : WFc z n 0 0 (z 21 0).toNatClampNeg (z 20 0).toNatClampNeg (iof z (z 18 0) 0) (PFO z (z 21 0).toNatClampNeg (z 18 0)) = 0 := by
    rw [d18, d20, d21, cl_0, cl_9, pfo_n (g34 9 (by decide))]
    unfold WFc
    have n6 : ¬ (¬ (-1 : Int32) = -1 ∧ ¬ (-1 : Int32) = nI 0) := fun w => w.1 rfl
    have n7 : ¬ vof z (iof z (nI F) 0) 7 0 0 ≤ z 37 0 := by
      rw [g37 rfl]
      show ¬ (1 : Int32) ≤ 0
      decide
    have n5 : ¬ ¬ z 33 9 = -1 := fun w => w g33
    rw [d18, if_neg (wf_num hb ⟨by rw [tF]; omega, by rw [tF]; omega⟩ hb.2.2.1.1), if_neg (wf_cz (by rw [tF]; omega) hb.2.2.1.2), if_neg (wf_rl hb (by rw [tF]; omega)), if_neg n5, if_neg n6, if_neg n7]
  unfold TST
  rw [w1, w2, e0, if_pos rfl, d20, d21, cl_0, cl_9, d18]
  refine ⟨g36, g34, ⟨?_, fun q hq hq9 => ?_⟩, ⟨?_, fun l h1 h2 => ?_⟩, fun _ => ⟨?_, ?_, ?_, ?_, ?_⟩, fun w => absurd w (by decide), fun w => absurd w (by decide), ?_, fun s hs h2 => ?_⟩
  · show upd (z 33) 9 (nI 0) 9 = 0
    exact upd_at
  · show upd (z 33) 9 (nI 0) q = -1
    rw [upd_ne hq9]; exact g33' q hq hq9
  · show upd (z 27) 0 1 0 = 1
    exact upd_at
  · show upd (z 27) 0 1 l = 0
    rw [upd_ne (by omega)]; exact g27' l h1 h2
  · show upd (z 28) 0 (nI 0) 0 = 0
    exact upd_at
  · show upd (z 29) 0 (1 <<< (nI 0 &&& 31)) 0 = 1
    rw [upd_at]; decide
  · show upd (z 30) 0 (iof z (nI F) 0) 0 = -1
    exact upd_at
  · show upd (z 32) 0 (nI i) 0 = nI s0
    rw [upd_at, ei]
  · show upd (z 26) 0 0 0 = 0
    exact upd_at
  · show upd (z 26) 0 0 1 = -1
    rw [upd_ne (by decide)]; exact g1
  · show upd (z 26) 0 0 (p s) = _
    rw [upd_ne (by omega), g26 s hs h2]
    refine ite_ff ?_
    by_cases e : s = i
    · rw [e, hk] at h2; omega
    · exact ⟨fun w => ⟨by omega, w.2⟩, fun w => ⟨by omega, w.2⟩⟩
/-- what the lines came to, as the proof sees it -/
theorem phi_h26 (hb : BK F G M B z n) (hp : PO B s0 s1 z p) (hN : M ≤ N) (hf : PHI M N p B G s0 i z h v c) (hi : ∀ s, s < B → 2 ≤ p s → p s < M → (s < i ↔ (z 18 (p s)).toInt < G)) : ∀ l, 2 ≤ l → l < M → (z 26 l = 0 ↔ (z 18 l).toInt < G) := by
  intro l h2 hM
  have hB := bk_B hb
  obtain ⟨s, hs, rfl⟩ := hp.2.2.1 l (by omega)
  rw [hf.2.2.2.2.2.2.2.2 s hs h2, ← hi s hs h2 hM]
  by_cases q : s < i
  · rw [if_pos ⟨q, by omega⟩, if_pos hM]; exact ⟨fun _ => q, fun _ => rfl⟩
  · rw [if_neg (fun w => q w.1)]; exact ⟨fun w => absurd w (by decide), fun w => absurd w q⟩
theorem wp_due (hb : BK F G M B z n) (hp : PO B s0 s1 z p) (hN : M ≤ N) (hF : FMK F G M z Fm) (hA : acr = smW (ACW F G z) M) (hf : PHI M N p B G s0 s1 z 0 1 c) : WPc z 0 B 1 9 = DUE F G Fm acr := by
  have hM2 := bk_M hb
  have hB := bk_B hb
  have hFG := bk_F hb
  have g33 := hf.2.2.1.1
  have g27 := hf.2.2.2.1.1
  obtain ⟨x28, x29, x30, x32, x26⟩ := hf.2.2.2.2.1 rfl
  obtain ⟨d18, d19, d20, d21⟩ := bk_1 hb
  have h26 := phi_h26 hb hp hN hf (fun s hs h2 hM => ⟨fun q => po_l1 hb hp q (by omega), fun q => by
    refine Classical.byContradiction fun w => ?_
    have := po_g1 hb hp (Nat.le_of_not_lt w) hs
    omega⟩)
  obtain ⟨k1, k2⟩ := lk_22 hb hp hF x29 h26
  unfold WPc
  rw [g33, cl_0]
  unfold WPd DUE
  have n8 : ¬ ¬ (HLV z 9 ∧ z 28 0 = z 20 1) := fun w => w ⟨⟨by rw [g33]; decide, by rw [g33, cl_0]; exact g27⟩, by rw [x28, d20]⟩
  rw [if_neg n8, d18, (bk_0 hb).1, k1, k2, g33, cl_0]
  show (if (2600 : Int32) < nI G - nI F then (12 : Int32) else if nI (cL Fm F (G - F)) < (1800 : Int32) then 13 else if (180 : Int32) < nI (lgN Fm F (G - F)) then 14 else if (if (0 : Int32) = -1 then 0 else acF z 0 (z 32 0).toNatClampNeg (B - (z 32 0).toNatClampNeg)) < (10 : Int32) then 15 else 0) = _
  have hs0 := hp.2.2.2.1.1
  rw [x32, nI_clamp (by omega), if_neg (show ¬ (0 : Int32) = -1 by decide)]
  by_cases e : F < G
  · rw [ac_22 hb hp e x29 h26, hA]
  · have e0 : G - F = 0 := by omega
    have n1 : nI (cL Fm F (G - F)) < (1800 : Int32) := by
      rw [e0]
      show nI 0 < (1800 : Int32)
      decide
    rw [if_pos n1, if_pos n1]
/-- the proof -/
theorem phi_P (hb : BK F G M B z n) (hp : PO B s0 s1 z p) (hN : M ≤ N) (hi : i < B) (hk : p i = 1) (hF : FMK F G M z Fm) (hA : acr = smW (ACW F G z) M) (hf : PHI M N p B G s0 i z 0 1 (-1)) : PHI M N p B G s0 (i + 1) (TST z n 0 B 1 i) 0 (if DUE F G Fm acr = 0 then 2 else 1) (DUE F G Fm acr) := by
  have hM2 := bk_M hb
  have hFG := bk_F hb
  have ei : i = s1 := po_inj hp hi hp.2.2.2.2.1.1 (hk.trans hp.2.2.2.2.1.2.symm)
  rw [ei] at hf ⊢
  obtain ⟨d18, d19, d20, d21⟩ := bk_1 hb
  have e36 : z 36 (z 20 1).toNatClampNeg = 0 := by rw [d20, cl_0]; exact hf.1 0 (by decide)
  obtain ⟨w1, w2⟩ := wl_prove (n := n) (S := 0) (B := B) (t := s1) e36 d19
  rw [d21, cl_9, wp_due hb hp hN hF hA hf] at w1 w2
  have fin : ∀ s, s < B → 2 ≤ p s → (s < s1 ∧ p s < N ↔ s < s1 + 1 ∧ p s < N) := fun s hs h2 => by
    by_cases e : s = s1
    · rw [e, hp.2.2.2.2.1.2] at h2; omega
    · exact ⟨fun w => ⟨by omega, w.2⟩, fun w => ⟨by omega, w.2⟩⟩
  obtain ⟨g36, g34, ⟨g33, g33'⟩, ⟨g27, g27'⟩, gh, g37, g31, g1, g26⟩ := hf
  obtain ⟨x28, x29, x30, x32, x26⟩ := gh rfl
  unfold TST
  rw [w1, w2]
  by_cases e : DUE F G Fm acr = 0
  · rw [if_pos e, if_pos e]
    have ew : WPu z 0 1 9 = va_up (va_up z 27 (upd (z 27) 0 2)) 31 (upd (z 31) 0 (nI (G + 100))) := by
      unfold WPu WPv
      rw [g33, cl_0, d18]
      show va_up (va_up z 27 (upd (z 27) 0 2)) 31 (upd (z 31) 0 (nI G + nI 100)) = _
      rw [nI_add]
    rw [ew]
    refine ⟨g36, g34, ⟨g33, g33'⟩, ⟨?_, fun l h1 h2 => ?_⟩, fun _ => ⟨x28, x29, x30, x32, ?_⟩, fun w => absurd w (by decide), fun _ => ?_, ?_, fun s hs h2 => ?_⟩
    · show upd (z 27) 0 2 0 = 2
      exact upd_at
    · show upd (z 27) 0 2 l = 0
      rw [upd_ne (by omega)]; exact g27' l h1 h2
    · show upd (z 26) 1 (DUE F G Fm acr) 0 = 0
      rw [upd_ne (by decide)]; exact x26
    · show upd (z 31) 0 (nI (G + 100)) 0 = nI (G + 100)
      exact upd_at
    · show upd (z 26) 1 (DUE F G Fm acr) 1 = DUE F G Fm acr
      exact upd_at
    · show upd (z 26) 1 (DUE F G Fm acr) (p s) = _
      rw [upd_ne (by omega), g26 s hs h2]
      exact ite_ff (fin s hs h2)
  · rw [if_neg e, if_neg e]
    refine ⟨g36, g34, ⟨g33, g33'⟩, ⟨g27, g27'⟩, fun _ => ⟨x28, x29, x30, x32, ?_⟩, fun w => absurd w (by decide), fun w => absurd w (by decide), ?_, fun s hs h2 => ?_⟩
    · show upd (z 26) 1 (DUE F G Fm acr) 0 = 0
      rw [upd_ne (by decide)]; exact x26
    · show upd (z 26) 1 (DUE F G Fm acr) 1 = DUE F G Fm acr
      exact upd_at
    · show upd (z 26) 1 (DUE F G Fm acr) (p s) = _
      rw [upd_ne (by omega), g26 s hs h2]
      exact ite_ff (fin s hs h2)
end PHS
