/-- e names those that c takes, sorted by day, then by number -/
def SEN (d : Nat → Int32) (c : Nat → Prop) (e : Nat → Nat) (M : Nat) : Prop := (∀ i, i < M → c (e i)) ∧ (∀ i j, i < j → j < M → BEF d (e i) (e j)) ∧ ∀ l, c l → ∃ i, i < M ∧ e i = l
theorem sen_0 {d : Nat → Int32} {c : Nat → Prop} {e : Nat → Nat} (h : ∀ l, ¬ c l) : SEN d c e 0 := ⟨fun i h => absurd h (Nat.not_lt_zero i), fun i j _ h => absurd h (Nat.not_lt_zero j), fun l q => absurd q (h l)⟩
theorem sen_cg {d : Nat → Int32} {c c2 : Nat → Prop} {e : Nat → Nat} {M : Nat} (h : SEN d c e M) (hc : ∀ l, c l ↔ c2 l) : SEN d c2 e M := ⟨fun i hi => (hc _).mp (h.1 i hi), h.2.1, fun l q => h.2.2 l ((hc l).mpr q)⟩
theorem bef_tr {d : Nat → Int32} {i j k : Nat} (h : BEF d i j) (h2 : BEF d j k) : BEF d i k := by
  rw [bef_i] at *; omega
theorem bef_ir {d : Nat → Int32} {i : Nat} (h : BEF d i i) : False := by
  rw [bef_i] at h; omega
theorem sen_u {d : Nat → Int32} {c : Nat → Prop} {e e2 : Nat → Nat} {M M2 : Nat} (h : SEN d c e M) (h2 : SEN d c e2 M2) : M = M2 ∧ ∀ i, i < M → e i = e2 i := by
  have key : ∀ n, ∀ i, i < n → i < M → i < M2 → e i = e2 i := by
    intro n
    induction n with
    | zero => intro i hi; exact absurd hi (Nat.not_lt_zero i)
    | succ n ih =>
      intro i hi h3 h4
      by_cases q : i < n
      · exact ih i q h3 h4
      · obtain ⟨k, hk, ek⟩ := h2.2.2 _ (h.1 i h3)
        obtain ⟨k2, hk2, ek2⟩ := h.2.2 _ (h2.1 i h4)
        rcases Nat.lt_trichotomy k i with w | w | w
        · have := ih k (by omega) (by omega) hk
          have b := h.2.1 k i w h3
          rw [this, ek] at b
          exact (bef_ir b).elim
        · rw [← ek, w]
        · rcases Nat.lt_trichotomy k2 i with v | v | v
          · have := ih k2 (by omega) hk2 (by omega)
            have b := h2.2.1 k2 i v h4
            rw [← this, ek2] at b
            exact (bef_ir b).elim
          · rw [← ek2, v]
          · have b1 := h2.2.1 i k w hk
            have b2 := h.2.1 i k2 v hk2
            rw [ek] at b1
            rw [ek2] at b2
            exact (bef_ir (bef_tr b1 b2)).elim
  have hM : M = M2 := by
    rcases Nat.lt_trichotomy M M2 with w | w | w
    · obtain ⟨k, hk, ek⟩ := h.2.2 _ (h2.1 M w)
      have := key (k + 1) k (by omega) hk (by omega)
      have b := h2.2.1 k M hk w
      rw [← this, ek] at b
      exact (bef_ir b).elim
    · exact w
    · obtain ⟨k, hk, ek⟩ := h2.2.2 _ (h.1 M2 w)
      have := key (k + 1) k (by omega) (by omega) hk
      have b := h.2.1 k M2 hk w
      rw [this, ek] at b
      exact (bef_ir b).elim
  exact ⟨hM, fun i hi => key (i + 1) i (by omega) hi (by omega)⟩
theorem sen_ins {d : Nat → Int32} {c : Nat → Prop} {e : Nat → Nat} {M k l : Nat} (h : SEN d c e M) (hk : k ≤ M) (hl : ∀ i, i < M → e i < l) (h1 : ∀ i, k ≤ i → i < M → d l < d (e i)) (h2 : k = 0 ∨ d (e (k - 1)) ≤ d l) : SEN d (fun z => c z ∨ z = l) (fun i => if i < k then e i else if i = k then l else e (i - 1)) (M + 1) := by
  obtain ⟨q1, q2, q3⟩ := h
  have pl : ∀ r, r < k → (if r < k then e r else if r = k then l else e (r - 1)) = e r := fun r hr => if_pos hr
  have pk : (if k < k then e k else if k = k then l else e (k - 1)) = l := by rw [if_neg (by omega), if_pos rfl]
  have pg : ∀ r, k < r → (if r < k then e r else if r = k then l else e (r - 1)) = e (r - 1) := fun r hr => by rw [if_neg (by omega), if_neg (by omega)]
  refine ⟨fun r hr => ?_, fun r s hrs hs => ?_, fun z hz => ?_⟩
  · show c (if r < k then e r else if r = k then l else e (r - 1)) ∨ (if r < k then e r else if r = k then l else e (r - 1)) = l
    rcases Nat.lt_trichotomy r k with w | w | w
    · rw [pl r w]; exact Or.inl (q1 r (by omega))
    · rw [w, pk]; exact Or.inr rfl
    · rw [pg r w]; exact Or.inl (q1 (r - 1) (by omega))
  · show BEF d (if r < k then e r else if r = k then l else e (r - 1)) (if s < k then e s else if s = k then l else e (s - 1))
    rcases Nat.lt_trichotomy s k with w | w | w
    · rw [pl r (by omega), pl s w]; exact q2 r s hrs (by omega)
    · rw [pl r (by omega), w, pk]
      have hp := hl r (by omega)
      refine bef_i.mpr ?_
      rcases h2 with h2 | h2
      · omega
      · have h2' := le_i.mp h2
        by_cases z : r = k - 1
        · rw [z]; rw [z] at hp; omega
        · have := bef_i.mp (q2 r (k - 1) (by omega) (by omega)); omega
    · rw [pg s w]
      rcases Nat.lt_trichotomy r k with v | v | v
      · rw [pl r v]; exact q2 r (s - 1) (by omega) (by omega)
      · rw [v, pk]
        exact bef_i.mpr (Or.inl (lt_i.mp (h1 (s - 1) (by omega) (by omega))))
      · rw [pg r v]; exact q2 (r - 1) (s - 1) (by omega) (by omega)
  · rcases hz with hz | rfl
    · obtain ⟨i, hi, ei⟩ := q3 z hz
      by_cases w : i < k
      · exact ⟨i, by omega, by show (if i < k then e i else if i = k then l else e (i - 1)) = z; rw [pl i w, ei]⟩
      · exact ⟨i + 1, by omega, by show (if i + 1 < k then e (i + 1) else if i + 1 = k then l else e (i + 1 - 1)) = z; rw [pg (i + 1) (by omega), Nat.add_sub_cancel, ei]⟩
    · exact ⟨k, by omega, pk⟩
/-- the order that the reference makes is a sorted naming -/
theorem pio_sen {b : Nat → Nat → Int32} {f0 : Nat → Int32} {y : Int32} : ∀ l f M, l < 2 ^ 31 → PIO b f0 y l f M → ∃ e, (∀ i, i < M → e i < l ∧ f i = nI (e i)) ∧ SEN (b 8) (fun z => z < l ∧ b 13 z = 0 ∧ b 8 z ≤ y) e M := by
  intro l
  induction l with
  | zero =>
    intro f M _ h
    rw [h.2]
    exact ⟨fun _ => 0, fun i h => absurd h (Nat.not_lt_zero i), sen_0 (fun l h => absurd h.1 (Nat.not_lt_zero l))⟩
  | succ l ih =>
    intro f M hl h
    obtain ⟨f1, M1, h1, hc⟩ := h
    obtain ⟨e, he, hs⟩ := ih f1 M1 (by omega) h1
    rcases hc with ⟨hn, rfl, rfl⟩ | ⟨c1, c2, rfl, k, hk, q1, q2, rfl⟩
    · refine ⟨e, fun i hi => ⟨by have := (he i hi).1; omega, (he i hi).2⟩, sen_cg hs (fun z => ⟨fun w => ⟨by omega, w.2⟩, fun w => ⟨?_, w.2⟩⟩)⟩
      have h0 := w.1
      by_cases z0 : z = l
      · rw [z0] at w; exact absurd w.2 hn
      · omega
    · have hcl : ∀ i, i < M1 → (f1 i).toNatClampNeg = e i := fun i hi => by rw [(he i hi).2, nI_clamp (by have := (he i hi).1; omega)]
      refine ⟨fun i => if i < k then e i else if i = k then l else e (i - 1), fun i hi => ?_, sen_cg (sen_ins hs hk (fun i hi => (he i hi).1) (fun i a1 a2 => by have := q1 i a1 a2; rw [hcl i a2] at this; exact this) ?_) (fun z => ⟨fun w => ?_, fun w => ?_⟩)⟩
      · show (if i < k then e i else if i = k then l else e (i - 1)) < l + 1 ∧ upd (shf f1 M1 k) k (nI l) i = nI (if i < k then e i else if i = k then l else e (i - 1))
        rcases Nat.lt_trichotomy i k with w | w | w
        · rw [if_pos w, upd_ne (by omega), ← (he i (by omega)).2]
          refine ⟨by have := (he i (by omega)).1; omega, ?_⟩
          show (if k < i ∧ i ≤ M1 then f1 (i - 1) else f1 i) = f1 i
          rw [if_neg (by omega)]
        · rw [w, if_neg (by omega), if_pos rfl, upd_at]; exact ⟨by omega, rfl⟩
        · rw [if_neg (by omega), if_neg (by omega), upd_ne (by omega), ← (he (i - 1) (by omega)).2]
          refine ⟨by have := (he (i - 1) (by omega)).1; omega, ?_⟩
          show (if k < i ∧ i ≤ M1 then f1 (i - 1) else f1 i) = f1 (i - 1)
          rw [if_pos (by omega)]
      · rcases q2 with w | w
        · exact Or.inl w
        · by_cases k0 : k = 0
          · exact Or.inl k0
          · rw [hcl (k - 1) (by omega)] at w; exact Or.inr w
      · rcases w with w | rfl
        · exact ⟨by omega, w.2⟩
        · exact ⟨by omega, c1, c2⟩
      · by_cases z0 : z = l
        · exact Or.inr z0
        · exact Or.inl ⟨by have := w.1; omega, w.2⟩
/-- how many of the first ones t takes -/
def kc (t : Nat → Bool) : Nat → Nat
  | 0 => 0
  | i + 1 => kc t i + if t i = true then 1 else 0
/-- those that t takes, in their order -/
def fe (t : Nat → Bool) (p : Nat → Nat) : Nat → Nat → Nat
  | 0, _ => 0
  | i + 1, j => if t i = true ∧ j = kc t i then p i else fe t p i j
theorem kc_s {t : Nat → Bool} {i : Nat} (h : t i = true) : kc t (i + 1) = kc t i + 1 := by show kc t i + (if t i = true then 1 else 0) = _; rw [if_pos h]
theorem kc_n {t : Nat → Bool} {i : Nat} (h : ¬ t i = true) : kc t (i + 1) = kc t i := by show kc t i + (if t i = true then 1 else 0) = _; rw [if_neg h]; rfl
theorem kc_le {t : Nat → Bool} {i : Nat} : ∀ d, kc t i ≤ kc t (i + d) := by
  intro d
  induction d with
  | zero => exact Nat.le_refl _
  | succ d ih => exact Nat.le_trans ih (Nat.le_add_right _ _)
theorem kc_lt {t : Nat → Bool} {s i : Nat} (h : t s = true) (hs : s < i) : kc t s < kc t i := by
  have := kc_le (t := t) (i := s + 1) (i - (s + 1))
  rw [kc_s h, show s + 1 + (i - (s + 1)) = i by omega] at this
  omega
theorem kc_b {t : Nat → Bool} : ∀ i, kc t i ≤ i := by
  intro i
  induction i with
  | zero => exact Nat.le_refl _
  | succ i ih =>
    by_cases c : t i = true
    · rw [kc_s c]; omega
    · rw [kc_n c]; omega
theorem fe_at {t : Nat → Bool} {p : Nat → Nat} : ∀ i s, s < i → t s = true → fe t p i (kc t s) = p s := by
  intro i
  induction i with
  | zero => intro s h; exact absurd h (Nat.not_lt_zero s)
  | succ i ih =>
    intro s hs ht
    show (if t i = true ∧ kc t s = kc t i then p i else fe t p i (kc t s)) = p s
    by_cases e : s = i
    · rw [e] at ht ⊢; rw [if_pos ⟨ht, rfl⟩]
    · rw [if_neg (fun w => by have := kc_lt ht (show s < i by omega); omega)]
      exact ih s (by omega) ht
theorem fe_sen {d : Nat → Int32} {t : Nat → Bool} {p : Nat → Nat} {B : Nat} (hs : ∀ r s, r < s → s < B → BEF d (p r) (p s)) : ∀ i, i ≤ B → SEN d (fun l => ∃ s, s < i ∧ t s = true ∧ p s = l) (fe t p i) (kc t i) := by
  intro i
  induction i with
  | zero => intro _; exact sen_0 (fun l h => by obtain ⟨s, h, _⟩ := h; exact absurd h (Nat.not_lt_zero s))
  | succ i ih =>
    intro hi
    obtain ⟨q1, q2, q3⟩ := ih (by omega)
    by_cases c : t i = true
    · have lo : ∀ j, j < kc t i → fe t p (i + 1) j = fe t p i j := fun j hj => by
        show (if t i = true ∧ j = kc t i then p i else fe t p i j) = _
        rw [if_neg (by omega)]
      have hi2 : fe t p (i + 1) (kc t i) = p i := by
        show (if t i = true ∧ kc t i = kc t i then p i else fe t p i (kc t i)) = _
        rw [if_pos ⟨c, rfl⟩]
      rw [kc_s c]
      refine ⟨fun j hj => ?_, fun j k hjk hk => ?_, fun l hl => ?_⟩
      · by_cases e : j = kc t i
        · exact ⟨i, by omega, c, by rw [e, hi2]⟩
        · obtain ⟨s, a1, a2, a3⟩ := q1 j (by omega)
          exact ⟨s, by omega, a2, by rw [lo j (by omega)]; exact a3⟩
      · by_cases e : k = kc t i
        · rw [e, hi2, lo j (by omega)]
          obtain ⟨s, a1, a2, a3⟩ := q1 j (by omega)
          rw [← a3]
          exact hs s i a1 (by omega)
        · rw [lo j (by omega), lo k (by omega)]
          exact q2 j k hjk (by omega)
      · obtain ⟨s, a1, a2, a3⟩ := hl
        by_cases e : s = i
        · exact ⟨kc t i, by omega, by rw [hi2, ← e, a3]⟩
        · obtain ⟨j, hj, ej⟩ := q3 l ⟨s, by omega, a2, a3⟩
          exact ⟨j, by omega, by rw [lo j hj, ej]⟩
    · rw [kc_n c]
      have eq : fe t p (i + 1) = fe t p i := by
        funext j
        show (if t i = true ∧ j = kc t i then p i else fe t p i j) = _
        rw [if_neg (fun w => c w.1)]
      rw [eq]
      refine sen_cg ⟨q1, q2, q3⟩ (fun l => ⟨fun w => ?_, fun w => ?_⟩)
      · obtain ⟨s, a1, a2⟩ := w; exact ⟨s, by omega, a2⟩
      · obtain ⟨s, a1, a2, a3⟩ := w
        by_cases e : s = i
        · rw [e] at a2; exact absurd a2 c
        · exact ⟨s, by omega, a2, a3⟩
/-- the reference's order is the class's, without the lines that aren't worked -/
theorem pio_kc {b : Nat → Nat → Int32} {f0 : Nat → Int32} {y : Int32} {N M B r : Nat} {f : Nat → Int32} {p : Nat → Nat} {t : Nat → Bool} (hN : N < 2 ^ 31) (hp : PIO b f0 y N f M) (hs : ∀ r s, r < s → s < B → BEF (b 8) (p r) (p s)) (hr : r ≤ B) (ht : ∀ s, s < r → (t s = true ↔ (p s < N ∧ b 13 (p s) = 0))) (hy : ∀ s, s < r → b 8 (p s) ≤ y) (hx : ∀ l, l < N → b 8 l ≤ y → ∃ s, s < r ∧ p s = l) : M = kc t r ∧ ∀ s, s < r → t s = true → f (kc t s) = nI (p s) := by
  obtain ⟨e, he, hse⟩ := pio_sen N f M hN hp
  have hf := sen_cg (fe_sen hs (t := t) r hr) (c2 := fun z => z < N ∧ b 13 z = 0 ∧ b 8 z ≤ y) (fun l => ⟨fun w => by
    obtain ⟨s, a1, a2, rfl⟩ := w
    have := (ht s a1).mp a2
    exact ⟨this.1, this.2, hy s a1⟩, fun w => by
    obtain ⟨s, a1, rfl⟩ := hx l w.1 w.2.2
    exact ⟨s, a1, (ht s a1).mpr ⟨w.1, w.2.1⟩, rfl⟩⟩)
  obtain ⟨hM, hv⟩ := sen_u hse hf
  refine ⟨hM, fun s a1 a2 => ?_⟩
  have hk : kc t s < M := by rw [hM]; exact kc_lt a2 a1
  rw [(he _ hk).2, hv _ hk, fe_at r s a1 a2]
