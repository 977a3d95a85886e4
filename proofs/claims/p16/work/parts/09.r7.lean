/-- an entry, class and reference -/
def ENR (S : Nat) (p : Nat → Nat) (t : Nat → Bool) (j : Nat) (z u : Nat → Nat → Int32) (k e : Nat) : Prop :=
  k < j ∧ t k = true ∧ u 20 e = nI (p k) ∧ u 21 e = nI (kc t k) ∧ z 32 (p k) = nI k ∧ z 28 (p k) = u 22 e ∧ z 29 (p k) = u 23 e ∧ z 30 (p k) = u 24 e ∧ (∃ q, q < 64 ∧ u 11 (p k) = nI q) ∧ YL S (u 24 e) ∧ ((u 25 e = 1 ∧ z 27 (p k) = 1) ∨ (u 25 e = 2 ∧ z 27 (p k) = 2 ∧ z 31 (p k) = u 26 e) ∨ (u 25 e = 0 ∧ z 27 (p k) = 3))
def W1 (z u : Nat → Nat → Int32) : Prop := ∀ l, l < 120 → z 26 l = u 18 l
def W2 (B : Nat) (p : Nat → Nat) (t : Nat → Bool) (i : Nat) (z : Nat → Nat → Int32) : Prop := ∀ s, s < B → (i ≤ s ∨ ¬ t s = true) → z 26 (p s) = -1
def W3 (P : Nat) (z u : Nat → Nat → Int32) : Prop := (∀ q, q < 12 → z 36 q = u 19 q) ∧ ∀ q, P ≤ q → q < 12 → z 36 q = 0
def W5 (p : Nat → Nat) (τ : Nat → Nat) (E : Nat) (z : Nat → Nat → Int32) : Prop := ∀ l, l < 120 → (∀ e, e < E → ¬ p (τ e) = l) → z 27 l = 0
def W6 (p : Nat → Nat) (τ : Nat → Nat) (E : Nat) (z u : Nat → Nat → Int32) : Prop := ∀ q, q < 64 → (z 33 q = -1 ∧ ∀ e, e < E → ¬ u 25 e = 0 → ¬ u 11 (p (τ e)) = nI q) ∨ (∃ e, e < E ∧ z 33 q = nI (p (τ e)) ∧ ¬ u 25 e = 0 ∧ u 11 (p (τ e)) = nI q ∧ ∀ f, f < E → ¬ u 25 f = 0 → u 11 (p (τ f)) = nI q → f = e)
def W7 (z u : Nat → Nat → Int32) : Prop := ∀ q, q < 64 → z 34 q = u 27 q ∧ (z 34 q = -1 ∨ ((∃ h, h < 12 ∧ z 34 q = nI h) ∧ z 35 q = u 28 q))
def W8 (E : Nat) (z u : Nat → Nat → Int32) : Prop := ∀ x, x < 12 → z 37 x = nI (cF u (nI x) E)
def W9 (τ : Nat → Nat) (E : Nat) : Prop := ∀ e f, e < E → f < E → τ e = τ f → e = f
/-- the book half worked: i positions of the order are done, entries of j -/
def WR (P S B : Nat) (p : Nat → Nat) (t : Nat → Bool) (i j : Nat) (z u : Nat → Nat → Int32) (E : Nat) (τ : Nat → Nat) : Prop :=
  E ≤ j ∧ W1 z u ∧ W2 B p t i z ∧ W3 P z u ∧ (∀ e, e < E → ENR S p t j z u (τ e) e) ∧ W5 p τ E z ∧ W6 p τ E z u ∧ W7 z u ∧ W8 E z u ∧ W9 τ E
/-- what the working of the book finds -/
def CX (P S B : Nat) (p : Nat → Nat) (t : Nat → Bool) (r : Nat) (z u : Nat → Nat → Int32) (n m : Nat → Int32) : Prop :=
  (z 2 = u 1 ∧ z 3 = u 2) ∧ (z 18 = u 8 ∧ z 19 = u 9 ∧ z 20 = u 10 ∧ z 21 = u 11 ∧ z 22 = u 12) ∧ (LRW S z u ∧ S ≤ 8 ∧ B ≤ 120 ∧ P ≤ 12) ∧ (∀ s, s < B → p s < B ∧ z 24 s = nI (p s)) ∧ (∀ s s2, s < s2 → s2 < B → ¬ p s = p s2 ∧ (u 8 (p s)).toInt ≤ (u 8 (p s2)).toInt) ∧ ((∀ l, l < B → ∃ q, q < P ∧ u 10 l = nI q) ∧ (∀ l, l < B → ∃ k, k < 7 ∧ u 9 l = nI k) ∧ (∀ l, l < B → u 9 l ≠ nI 6 → ∃ q, q < 64 ∧ u 11 l = nI q) ∧ (∀ l, l < B → u 9 l = nI 6 → ∃ h, h < P ∧ u 12 l = nI h) ∧ (∀ l, l < B → ∃ d, d ≤ 20000 ∧ u 8 l = nI d) ∧ (∀ l, l < B → u 9 l = nI 1 → ∃ d, d ≤ 5000 ∧ u 12 l = nI d)) ∧ n 5 = m 1 ∧ (r ≤ B ∧ ∀ s, s < r → t s = true → u 17 (kc t s) = nI (p s))
theorem cx_k {P S B r : Nat} {p : Nat → Nat} {t : Nat → Bool} {z u z2 u2 : Nat → Nat → Int32} {n m : Nat → Int32} (h : CX P S B p t r z u n m) (hz : ∀ q, q < 26 → z2 q = z q) (hu : ∀ q, q < 18 → u2 q = u q) : CX P S B p t r z2 u2 n m := by
  obtain ⟨h1, h2, ⟨h3, h3S, h3b⟩, h4, h5, h6, h7, h8⟩ := h
  have k3 : LRW S z2 u2 := lrw_k h3 (fun q a b => hz q (by omega)) (fun q a b => hu q (by omega)) h3S
  unfold CX
  rw [hz 2 (by omega), hz 3 (by omega), hz 18 (by omega), hz 19 (by omega), hz 20 (by omega), hz 21 (by omega), hz 22 (by omega), hz 24 (by omega), hu 1 (by omega), hu 2 (by omega), hu 8 (by omega), hu 9 (by omega), hu 10 (by omega), hu 11 (by omega), hu 12 (by omega), hu 17 (by omega)]
  exact ⟨h1, h2, ⟨k3, h3S, h3b⟩, h4, h5, h6, h7, h8⟩
section WRL
variable {P S B r i j E : Nat} {p : Nat → Nat} {t : Nat → Bool} {z u : Nat → Nat → Int32} {n m : Nat → Int32} {τ : Nat → Nat}
theorem cx_inj (h : CX P S B p t r z u n m) {s s2 : Nat} (hs : s < B) (hs2 : s2 < B) (e : p s = p s2) : s = s2 := by
  have h5 := h.2.2.2.2.1
  rcases Nat.lt_trichotomy s s2 with w | w | w
  · exact absurd e (h5 s s2 w hs2).1
  · exact w
  · exact absurd e.symm (h5 s2 s w hs).1
theorem enO_sp (x : Int32) : ∀ E, (enO u x E = -1 ∧ ∀ e, e < E → ¬ (¬ u 25 e = 0 ∧ u 11 (u 20 e).toNatClampNeg = x)) ∨ ∃ e, e < E ∧ enO u x E = nI e ∧ ¬ u 25 e = 0 ∧ u 11 (u 20 e).toNatClampNeg = x := by
  intro E
  induction E with
  | zero => exact Or.inl ⟨rfl, fun e h => absurd h (Nat.not_lt_zero e)⟩
  | succ E ih =>
    show ((if ¬ u 25 E = 0 ∧ u 11 (u 20 E).toNatClampNeg = x then nI E else enO u x E) = -1 ∧ _) ∨ ∃ e, e < E + 1 ∧ (if ¬ u 25 E = 0 ∧ u 11 (u 20 E).toNatClampNeg = x then nI E else enO u x E) = nI e ∧ ¬ u 25 e = 0 ∧ u 11 (u 20 e).toNatClampNeg = x
    by_cases c : ¬ u 25 E = 0 ∧ u 11 (u 20 E).toNatClampNeg = x
    · rw [if_pos c]; exact Or.inr ⟨E, by omega, rfl, c⟩
    · rw [if_neg c]
      rcases ih with ⟨e1, h⟩ | ⟨e, he, e1, h⟩
      · refine Or.inl ⟨e1, fun e he => ?_⟩
        by_cases w : e = E
        · rw [w]; exact c
        · exact h e (by omega)
      · exact Or.inr ⟨e, by omega, e1, h⟩
theorem enr_at (hx : CX P S B p t r z u n m) (hj : j ≤ r) {e : Nat} (h : ENR S p t j z u (τ e) e) : τ e < B ∧ p (τ e) < B ∧ (u 20 e).toNatClampNeg = p (τ e) ∧ (nI (p (τ e))).toNatClampNeg = p (τ e) := by
  have hr := hx.2.2.2.2.2.2.2.1
  have hB := hx.2.2.1.2.2.1
  have h1 := h.1
  have h2 := (hx.2.2.2.1 (τ e) (by omega)).1
  exact ⟨by omega, h2, by rw [h.2.2.1, nI_clamp (by omega)], nI_clamp (by omega)⟩
/-- the entry that holds a quarter -/
theorem en_at (hx : CX P S B p t r z u n m) (hw : WR P S B p t i j z u E τ) (hj : j ≤ r) {q : Nat} (hq : q < 64) : (z 33 q = -1 ∧ enO u (nI q) E = -1 ∧ ∀ e, e < E → ¬ u 25 e = 0 → ¬ u 11 (p (τ e)) = nI q) ∨ ∃ e, e < E ∧ z 33 q = nI (p (τ e)) ∧ (z 33 q).toNatClampNeg = p (τ e) ∧ enO u (nI q) E = nI e ∧ (nI e).toNatClampNeg = e ∧ ¬ u 25 e = 0 ∧ u 11 (p (τ e)) = nI q ∧ (∀ f, f < E → ¬ u 25 f = 0 → u 11 (p (τ f)) = nI q → f = e) ∧ ENR S p t j z u (τ e) e := by
  obtain ⟨w0, w1, w2, w3, w4, w5, w6, w7, w8, w9⟩ := hw
  have hr := hx.2.2.2.2.2.2.2.1
  have hB := hx.2.2.1.2.2.1
  rcases w6 q hq with ⟨e1, h1⟩ | ⟨e, he, e1, h1, h2, h3⟩
  · rcases enO_sp (u := u) (nI q) E with ⟨e2, _⟩ | ⟨e, he, _, h4, h5⟩
    · exact Or.inl ⟨e1, e2, h1⟩
    · rw [(enr_at hx hj (w4 e he)).2.2.1] at h5
      exact absurd h5 (h1 e he h4)
  · have a := enr_at hx hj (w4 e he)
    rcases enO_sp (u := u) (nI q) E with ⟨_, h4⟩ | ⟨f, hf, e2, h4, h5⟩
    · exact absurd ⟨h1, by rw [a.2.2.1]; exact h2⟩ (h4 e he)
    · rw [(enr_at hx hj (w4 f hf)).2.2.1] at h5
      have := h3 f hf h4 h5
      subst this
      exact Or.inr ⟨f, hf, e1, by rw [e1]; exact a.2.2.2, e2, nI_clamp (by omega), h1, h2, h3, w4 f hf⟩
/-- the entry of a quarter that still runs -/
theorem op_at (hx : CX P S B p t r z u n m) (hw : WR P S B p t i j z u E τ) (hj : j ≤ r) {q : Nat} (hq : q < 64) : (¬ HLV z q ∧ opO u (nI q) E = -1) ∨ ∃ e, e < E ∧ HLV z q ∧ z 33 q = nI (p (τ e)) ∧ (z 33 q).toNatClampNeg = p (τ e) ∧ opO u (nI q) E = nI e ∧ (nI e).toNatClampNeg = e ∧ u 25 e = 1 ∧ z 27 (p (τ e)) = 1 ∧ u 11 (p (τ e)) = nI q ∧ (∀ f, f < E → ¬ u 25 f = 0 → u 11 (p (τ f)) = nI q → f = e) ∧ ENR S p t j z u (τ e) e := by
  have hr := hx.2.2.2.2.2.2.2.1
  have hB := hx.2.2.1.2.2.1
  have hE := hw.1
  rcases en_at hx hw hj hq with ⟨e1, e2, _⟩ | ⟨e, he, e1, e1c, e2, ec, h1, h2, h3, h4⟩
  · refine Or.inl ⟨fun h => h.1 e1, ?_⟩
    unfold opO
    rw [e2, if_neg (fun h => h.1 (by decide))]
  · have op : opO u (nI q) E = if u 25 e = 1 then nI e else -1 := by
      unfold opO
      rw [e2, ec]
      by_cases c : u 25 e = 1
      · rw [if_pos c, if_pos ⟨nI_nn (by omega), c⟩]
      · rw [if_neg c, if_neg (fun h => c h.2)]
    rcases h4.2.2.2.2.2.2.2.2.2.2 with ⟨c, d⟩ | ⟨c, d, _⟩ | ⟨c, _⟩
    · exact Or.inr ⟨e, he, ⟨by rw [e1]; exact nI_mm (by have := (enr_at hx hj h4).2.1; omega), by rw [e1c]; exact d⟩, e1, e1c, by rw [op, if_pos c], ec, c, d, h2, h3, h4⟩
    · refine Or.inl ⟨fun h => ?_, by rw [op, if_neg (by rw [c]; decide)]⟩
      have := h.2
      rw [e1c, d] at this
      exact absurd this (by decide)
    · exact absurd c h1
theorem pf_at (hw : W7 z u) {q : Nat} (hq : q < 64) (x : Int32) : PFO z q x = PFM u q x ∧ (PFO z q x = -1 ∨ ∃ h, h < 12 ∧ PFO z q x = nI h) := by
  obtain ⟨h1, h2⟩ := hw q hq
  rcases h2 with h2 | ⟨⟨h, hh, e⟩, h3⟩
  · have a : PFO z q x = -1 := if_neg (fun w => w.1 h2)
    have b : PFM u q x = -1 := if_neg (fun w => w.1 (by rw [← h1, h2]; decide))
    exact ⟨by rw [a, b], Or.inl a⟩
  · by_cases c : x ≤ z 35 q
    · have a : PFO z q x = z 34 q := if_pos ⟨by rw [e]; exact nI_mm (by omega), c⟩
      have b : PFM u q x = u 27 q := if_pos ⟨by rw [← h1, e]; exact nI_nn (by omega), by rw [← h3]; exact c⟩
      exact ⟨by rw [a, b, h1], Or.inr ⟨h, hh, by rw [a, e]⟩⟩
    · have a : PFO z q x = -1 := if_neg (fun w => c w.2)
      have b : PFM u q x = -1 := if_neg (fun w => c (by rw [h3]; exact w.2))
      exact ⟨by rw [a, b], Or.inl a⟩
/-- what counts for an entry counts for both -/
theorem db_at (hx : CX P S B p t r z u n m) (hw : WR P S B p t i j z u E τ) (hj : j ≤ r) (hi : i ≤ r) {e s : Nat} (he : e < E) (hs : s < B) (K : Int32) : DBH z (z 24 s).toNatClampNeg K (p (τ e)) ↔ (s < i ∧ t s = true ∧ DBM u (u 17 (kc t s)).toNatClampNeg K e) := by
  obtain ⟨w0, w1, w2, w3, w4, w5, w6, w7, w8, w9⟩ := hw
  obtain ⟨c1, ⟨d1, d2, d3, d4, d5⟩, ⟨_, _, hB, _⟩, c4, c5, c6, c7, hr, c8⟩ := id hx
  have a := enr_at hx hj (w4 e he)
  have ps := c4 s hs
  have es : (z 24 s).toNatClampNeg = p s := by rw [ps.2, nI_clamp (by omega)]
  rw [es]
  have w : ∀ (h1 : s < i) (h2 : t s = true), (u 17 (kc t s)).toNatClampNeg = p s := fun h1 h2 => by rw [c8 s (by omega) h2, nI_clamp (by omega)]
  have h29 := (w4 e he).2.2.2.2.2.2.1
  constructor
  · rintro ⟨k1, k2, k3, k4⟩
    have hs2 : s < i ∧ t s = true := by
      refine Classical.byContradiction fun h => ?_
      have := w2 s hs (by
        by_cases q : s < i
        · exact Or.inr (fun q2 => h ⟨q, q2⟩)
        · exact Or.inl (by omega))
      rw [this] at k1
      exact absurd k1 (by decide)
    refine ⟨hs2.1, hs2.2, ?_⟩
    rw [w hs2.1 hs2.2]
    exact ⟨by rw [← d2]; exact k2, by rw [← w1 (p s) (by omega)]; exact k1, by rw [a.2.2.1, ← d4]; exact k3, by rw [← d3, ← h29]; exact k4⟩
  · rintro ⟨h1, h2, h3⟩
    rw [w h1 h2] at h3
    obtain ⟨k1, k2, k3, k4⟩ := h3
    exact ⟨by rw [w1 (p s) (by omega)]; exact k2, by rw [d2]; exact k1, by rw [d4, ← a.2.2.1]; exact k3, by rw [d3, h29]; exact k4⟩
theorem kc_on : ∀ i k, k < kc t i → ∃ s, s < i ∧ t s = true ∧ kc t s = k := by
  intro i
  induction i with
  | zero => intro k h; exact absurd h (Nat.not_lt_zero k)
  | succ i ih =>
    intro k h
    by_cases c : t i = true
    · rw [kc_s c] at h
      by_cases q : k = kc t i
      · exact ⟨i, by omega, c, q.symm⟩
      · obtain ⟨s, a, b⟩ := ih k (by omega)
        exact ⟨s, by omega, b⟩
    · rw [kc_n c] at h
      obtain ⟨s, a, b⟩ := ih k h
      exact ⟨s, by omega, b⟩
/-- acres, class and reference -/
theorem ac_at (hx : CX P S B p t r z u n m) (hw : WR P S B p t i j z u E τ) (hj : j ≤ r) (hi : i ≤ r) {e : Nat} (he : e < E) : ∀ d, τ e + d ≤ B → acF z (p (τ e)) (τ e) d = acM u e (kc t (τ e)) ((if τ e + d ≤ i then kc t (τ e + d) else kc t i) - kc t (τ e)) ∨ i < τ e := by
  intro d
  induction d with
  | zero =>
    intro _
    by_cases c : i < τ e
    · exact Or.inr c
    · rw [if_pos (by omega), Nat.add_zero, Nat.sub_self]; exact Or.inl rfl
  | succ d ih =>
    intro hd
    rcases ih (by omega) with h | h
    · by_cases ci : i < τ e
      · exact Or.inr ci
      refine Or.inl ?_
      obtain ⟨c1, ⟨d1, d2, d3, d4, d5⟩, ⟨_, _, hB, _⟩, c4, c5, c6, c7, hr, c8⟩ := id hx
      have ps := c4 (τ e + d) (by omega)
      have es : (z 24 (τ e + d)).toNatClampNeg = p (τ e + d) := by rw [ps.2, nI_clamp (by omega)]
      have st := db_at hx hw hj hi he (show τ e + d < B by omega) 2
      have av : acF z (p (τ e)) (τ e) (d + 1) = if DBH z (z 24 (τ e + d)).toNatClampNeg 2 (p (τ e)) then acF z (p (τ e)) (τ e) d + z 22 (z 24 (τ e + d)).toNatClampNeg else acF z (p (τ e)) (τ e) d := rfl
      rw [av]
      by_cases hdi : τ e + d < i
      · rw [if_pos (by omega)] at h
        rw [if_pos (show τ e + (d + 1) ≤ i by omega)]
        have kle := kc_le (t := t) (i := τ e) d
        by_cases ht : t (τ e + d) = true
        · have ek : kc t (τ e + (d + 1)) - kc t (τ e) = kc t (τ e + d) - kc t (τ e) + 1 := by
            rw [show τ e + (d + 1) = τ e + d + 1 by omega, kc_s ht]; omega
          have eu : (u 17 (kc t (τ e + d))).toNatClampNeg = p (τ e + d) := by rw [c8 _ (by omega) ht, nI_clamp (by omega)]
          have am : acM u e (kc t (τ e)) (kc t (τ e + d) - kc t (τ e) + 1) = if DBM u (u 17 (kc t (τ e) + (kc t (τ e + d) - kc t (τ e)))).toNatClampNeg 2 e then acM u e (kc t (τ e)) (kc t (τ e + d) - kc t (τ e)) + u 12 (u 17 (kc t (τ e) + (kc t (τ e + d) - kc t (τ e)))).toNatClampNeg else acM u e (kc t (τ e)) (kc t (τ e + d) - kc t (τ e)) := rfl
          rw [ek, am, show kc t (τ e) + (kc t (τ e + d) - kc t (τ e)) = kc t (τ e + d) by omega]
          by_cases q : DBM u (u 17 (kc t (τ e + d))).toNatClampNeg 2 e
          · rw [if_pos q, if_pos (st.mpr ⟨hdi, ht, q⟩), h, es, eu, d5]
          · rw [if_neg q, if_neg (fun w => q (st.mp w).2.2), h]
        · rw [if_neg (fun w => ht (st.mp w).2.1), show τ e + (d + 1) = τ e + d + 1 by omega, kc_n ht, h]
      · rw [if_neg (fun w => hdi (st.mp w).1), h]
        by_cases q : τ e + d ≤ i
        · have : τ e + d = i := by omega
          rw [if_pos q, if_neg (by omega), this]
        · rw [if_neg q, if_neg (by omega)]
    · exact Or.inr h
end WRL
