section WRD
variable {P S B r i j E : Nat} {p : Nat → Nat} {t : Nat → Bool} {z u z' u' : Nat → Nat → Int32} {n m : Nat → Int32} {τ : Nat → Nat}
theorem dth_sp {x h : Int32} (hu : ∀ q q2 l, q < 64 → q2 < 64 → l < 120 → z 33 q = nI l → z 33 q2 = nI l → q = q2) (hb : ∀ q, q < 64 → z 33 q = -1 ∨ ∃ l, l < 120 ∧ z 33 q = nI l) : ∀ i, i ≤ 64 → ∀ l, l < 120 → (((∃ q, q < i ∧ z 33 q = nI l) ∧ z 28 l = x) → (dth z x h i).1 l = h ∧ (dth z x h i).2 l = z 29 l ||| 1 <<< (h &&& 31)) ∧ (¬ ((∃ q, q < i ∧ z 33 q = nI l) ∧ z 28 l = x) → (dth z x h i).1 l = z 28 l ∧ (dth z x h i).2 l = z 29 l) := by
  intro i
  induction i with
  | zero => intro _ l _; exact ⟨fun w => (by obtain ⟨⟨q, hq, _⟩, _⟩ := w; exact absurd hq (Nat.not_lt_zero q)), fun _ => ⟨rfl, rfl⟩⟩
  | succ i ih =>
    intro hi l hl
    have ev : dth z x h (i + 1) = if ¬ z 33 i = -1 ∧ (dth z x h i).1 (z 33 i).toNatClampNeg = x then (upd (dth z x h i).1 (z 33 i).toNatClampNeg h, upd (dth z x h i).2 (z 33 i).toNatClampNeg ((dth z x h i).2 (z 33 i).toNatClampNeg ||| 1 <<< (h &&& 31))) else dth z x h i := rfl
    rw [ev]
    have keep : ∀ (hn : ¬ z 33 i = nI l), ((∃ q, q < i + 1 ∧ z 33 q = nI l) ↔ (∃ q, q < i ∧ z 33 q = nI l)) := fun hn => ⟨fun ⟨q, hq, e⟩ => ⟨q, by
      by_cases w : q = i
      · rw [w] at e; exact absurd e hn
      · omega, e⟩, fun ⟨q, hq, e⟩ => ⟨q, by omega, e⟩⟩
    rcases hb i (by omega) with e | ⟨l0, hl0, e⟩
    · rw [if_neg (fun w => w.1 e), keep (by rw [e]; exact fun w => nI_mm (by omega) w.symm)]
      exact ih (by omega) l hl
    · have ec : (z 33 i).toNatClampNeg = l0 := by rw [e, nI_clamp (by omega)]
      rw [ec]
      have old := (ih (by omega) l0 hl0).2 (fun w => by
        obtain ⟨⟨q, hq, eq⟩, _⟩ := w
        have := hu q i l0 (by omega) (by omega) hl0 eq e
        omega)
      by_cases c : z 28 l0 = x
      · rw [if_pos ⟨by rw [e]; exact nI_mm (by omega), by rw [old.1]; exact c⟩]
        show (((∃ q, q < i + 1 ∧ z 33 q = nI l) ∧ z 28 l = x) → upd (dth z x h i).1 l0 h l = h ∧ upd (dth z x h i).2 l0 ((dth z x h i).2 l0 ||| 1 <<< (h &&& 31)) l = z 29 l ||| 1 <<< (h &&& 31)) ∧ (¬ ((∃ q, q < i + 1 ∧ z 33 q = nI l) ∧ z 28 l = x) → upd (dth z x h i).1 l0 h l = z 28 l ∧ upd (dth z x h i).2 l0 ((dth z x h i).2 l0 ||| 1 <<< (h &&& 31)) l = z 29 l)
        by_cases d : l = l0
        · rw [d, upd_at, upd_at, old.2]
          exact ⟨fun _ => ⟨rfl, rfl⟩, fun w => absurd ⟨⟨i, by omega, e⟩, c⟩ w⟩
        · rw [upd_ne d, upd_ne d, keep (fun w => d (nI_inj (e.symm.trans w) (by omega) (by omega)).symm)]
          exact ih (by omega) l hl
      · rw [if_neg (fun w => c (by rw [← old.1]; exact w.2))]
        by_cases d : l = l0
        · rw [d]
          exact ⟨fun w => absurd w.2 c, fun _ => old⟩
        · rw [keep (fun w => d (nI_inj (e.symm.trans w) (by omega) (by omega)).symm)]
          exact ih (by omega) l hl
theorem mdt_sp {x h : Int32} : ∀ i e, ((e < i ∧ ¬ u 25 e = 0 ∧ u 22 e = x) → (mdt u x h i).1 e = h ∧ (mdt u x h i).2 e = u 23 e ||| 1 <<< (h &&& 31)) ∧ (¬ (e < i ∧ ¬ u 25 e = 0 ∧ u 22 e = x) → (mdt u x h i).1 e = u 22 e ∧ (mdt u x h i).2 e = u 23 e) := by
  intro i
  induction i with
  | zero => intro e; exact ⟨fun w => absurd w.1 (Nat.not_lt_zero e), fun _ => ⟨rfl, rfl⟩⟩
  | succ i ih =>
    intro e
    have ev : mdt u x h (i + 1) = if ¬ u 25 i = 0 ∧ (mdt u x h i).1 i = x then (upd (mdt u x h i).1 i h, upd (mdt u x h i).2 i ((mdt u x h i).2 i ||| 1 <<< (h &&& 31))) else mdt u x h i := rfl
    rw [ev]
    have old := (ih i).2 (fun w => absurd w.1 (Nat.lt_irrefl i))
    have keep : ∀ (hn : ¬ e = i), (e < i + 1 ∧ ¬ u 25 e = 0 ∧ u 22 e = x) ↔ (e < i ∧ ¬ u 25 e = 0 ∧ u 22 e = x) := fun hn => ⟨fun w => ⟨by omega, w.2⟩, fun w => ⟨by omega, w.2⟩⟩
    by_cases c : ¬ u 25 i = 0 ∧ u 22 i = x
    · rw [if_pos ⟨c.1, by rw [old.1]; exact c.2⟩]
      show ((e < i + 1 ∧ ¬ u 25 e = 0 ∧ u 22 e = x) → upd (mdt u x h i).1 i h e = h ∧ upd (mdt u x h i).2 i ((mdt u x h i).2 i ||| 1 <<< (h &&& 31)) e = u 23 e ||| 1 <<< (h &&& 31)) ∧ (¬ (e < i + 1 ∧ ¬ u 25 e = 0 ∧ u 22 e = x) → upd (mdt u x h i).1 i h e = u 22 e ∧ upd (mdt u x h i).2 i ((mdt u x h i).2 i ||| 1 <<< (h &&& 31)) e = u 23 e)
      by_cases d : e = i
      · rw [d, upd_at, upd_at, old.2]
        exact ⟨fun _ => ⟨rfl, rfl⟩, fun w => absurd ⟨by omega, c⟩ w⟩
      · rw [upd_ne d, upd_ne d, keep d]; exact ih e
    · rw [if_neg (fun w => c ⟨w.1, by rw [← old.1]; exact w.2⟩)]
      by_cases d : e = i
      · rw [d]; exact ⟨fun w => absurd w.2 c, fun _ => old⟩
      · rw [keep d]; exact ih e
theorem wr_b33 (hx : CX P S B p t r z u n m) (hw : WR P S B p t i j z u E τ) (hj : j ≤ r) : (∀ q, q < 64 → z 33 q = -1 ∨ ∃ l, l < 120 ∧ z 33 q = nI l) ∧ (∀ q q2 l, q < 64 → q2 < 64 → z 33 q = nI l → z 33 q2 = nI l → l < 2 ^ 31 → q = q2) ∧ ∀ e, e < E → ((∃ q, q < 64 ∧ z 33 q = nI (p (τ e))) ↔ ¬ u 25 e = 0) := by
  obtain ⟨w0, w1, w2, w3, w4, w5, w6, w7, w8, w9⟩ := hw
  have hr := hx.2.2.2.2.2.2.2.1
  have hB := hx.2.2.1.2.2.1
  have at' : ∀ q, q < 64 → ∀ l, l < 2 ^ 31 → z 33 q = nI l → ∃ e, e < E ∧ p (τ e) = l ∧ ¬ u 25 e = 0 ∧ u 11 l = nI q := fun q hq l hl e => by
    rcases w6 q hq with ⟨g1, _⟩ | ⟨f, hf, g1, g2, g3, _⟩
    · exact absurd (e.symm.trans g1) (nI_mm hl)
    · have := nI_inj (g1.symm.trans e) (by have := (enr_at hx hj (w4 f hf)).2.1; omega) hl
      exact ⟨f, hf, this, g2, by rw [← this]; exact g3⟩
  refine ⟨fun q hq => ?_, fun q q2 l hq hq2 e e2 hl => ?_, fun e he => ⟨fun w => ?_, fun w => ?_⟩⟩
  · rcases w6 q hq with ⟨g1, _⟩ | ⟨f, hf, g1, _⟩
    · exact Or.inl g1
    · exact Or.inr ⟨_, by have := (enr_at hx hj (w4 f hf)).2.1; omega, g1⟩
  · obtain ⟨_, _, _, _, a⟩ := at' q hq l hl e
    obtain ⟨_, _, _, _, b⟩ := at' q2 hq2 l hl e2
    exact nI_inj (a.symm.trans b) (by omega) (by omega)
  · obtain ⟨q, hq, h⟩ := w
    obtain ⟨f, hf, a, b, _⟩ := at' q hq _ (by have := (enr_at hx hj (w4 e he)).2.1; omega) h
    have : f = e := w9 f e hf he (cx_inj hx (by have := (w4 f hf).1; omega) (by have := (w4 e he).1; omega) a)
    rw [← this]; exact b
  · obtain ⟨q, hq, hq2⟩ := (w4 e he).2.2.2.2.2.2.2.2.1
    rcases w6 q hq with ⟨_, g⟩ | ⟨f, hf, g1, _, _, g⟩
    · exact absurd hq2 (g e he w)
    · have := g e he w hq2
      rw [← this] at g1
      exact ⟨q, hq, g1⟩
/-- a death -/
theorem wr_death (hx : CX P S B p t r z u n m) (hw : WR P S B p t i j z u E τ) (hj : j ≤ r) {x h : Nat} (hx2 : x < P) (hz : ∀ k, k ≠ 36 → k ≠ 28 → k ≠ 29 → z' k = z k) (z36 : z' 36 = upd (z 36) x 1) (z28 : z' 28 = (dth z (nI x) (nI h) 64).1) (z29 : z' 29 = (dth z (nI x) (nI h) 64).2) (hu : ∀ k, k ≠ 19 → k ≠ 22 → k ≠ 23 → u' k = u k) (u19 : u' 19 = upd (u 19) x 1) (u22 : u' 22 = (mdt u (nI x) (nI h) E).1) (u23 : u' 23 = (mdt u (nI x) (nI h) E).2) : WR P S B p t i j z' u' E τ := by
  have hr := hx.2.2.2.2.2.2.2.1
  have hB := hx.2.2.1.2.2.1
  obtain ⟨b1, b2, b3⟩ := wr_b33 hx hw hj
  obtain ⟨w0, w1, w2, w3, w4, w5, w6, w7, w8, w9⟩ := hw
  have ds := dth_sp (z := z) (x := nI x) (h := nI h) (fun q q2 l hq hq2 hl e e2 => b2 q q2 l hq hq2 e e2 (by omega)) b1 64 (Nat.le_refl _)
  refine ⟨w0, ?_, ?_, ⟨fun q hq => ?_, fun q hq hq2 => ?_⟩, fun f hf => ?_, ?_, ?_, ?_, fun x hx => ?_, w9⟩
  · unfold W1; rw [hz 26 (by decide) (by decide) (by decide), hu 18 (by decide) (by decide) (by decide)]; exact w1
  · unfold W2; rw [hz 26 (by decide) (by decide) (by decide)]; exact w2
  · rw [z36, u19]
    by_cases c : q = x
    · rw [c, upd_at, upd_at]
    · rw [upd_ne c, upd_ne c]; exact w3.1 q hq
  · rw [z36, upd_ne (by omega)]; exact w3.2 q hq hq2
  · have he := w4 f hf
    have hl := (enr_at hx hj he).2.1
    unfold ENR
    rw [hz 32 (by decide) (by decide) (by decide), hz 30 (by decide) (by decide) (by decide), hz 31 (by decide) (by decide) (by decide), hz 27 (by decide) (by decide) (by decide), hu 20 (by decide) (by decide) (by decide), hu 21 (by decide) (by decide) (by decide), hu 24 (by decide) (by decide) (by decide), hu 25 (by decide) (by decide) (by decide), hu 26 (by decide) (by decide) (by decide), hu 11 (by decide) (by decide) (by decide), z28, z29, u22, u23]
    obtain ⟨a1, a2, a3, a4, a5, a6, a7, a8⟩ := he
    have d1 := ds (p (τ f)) (by omega)
    have d2 := mdt_sp (u := u) (x := nI x) (h := nI h) E f
    refine ⟨a1, a2, a3, a4, a5, ?_, ?_, a8⟩
    · by_cases c : ¬ u 25 f = 0 ∧ u 22 f = nI x
      · rw [(d1.1 ⟨(b3 f hf).mpr c.1, a6.trans c.2⟩).1, (d2.1 ⟨hf, c⟩).1]
      · rw [(d1.2 (fun w => c ⟨(b3 f hf).mp w.1, a6.symm.trans w.2⟩)).1, (d2.2 (fun w => c w.2)).1, a6]
    · by_cases c : ¬ u 25 f = 0 ∧ u 22 f = nI x
      · rw [(d1.1 ⟨(b3 f hf).mpr c.1, a6.trans c.2⟩).2, (d2.1 ⟨hf, c⟩).2, a7]
      · rw [(d1.2 (fun w => c ⟨(b3 f hf).mp w.1, a6.symm.trans w.2⟩)).2, (d2.2 (fun w => c w.2)).2, a7]
  · unfold W5; rw [hz 27 (by decide) (by decide) (by decide)]; exact w5
  · unfold W6; rw [hz 33 (by decide) (by decide) (by decide), hu 25 (by decide) (by decide) (by decide), hu 11 (by decide) (by decide) (by decide)]; exact w6
  · unfold W7; rw [hz 34 (by decide) (by decide) (by decide), hz 35 (by decide) (by decide) (by decide), hu 27 (by decide) (by decide) (by decide), hu 28 (by decide) (by decide) (by decide)]; exact w7
  · rw [hz 37 (by decide) (by decide) (by decide), cF_cg (u := u) (v := u') (hu 10 (by decide) (by decide) (by decide)) E (fun e _ => by rw [hu 20 (by decide) (by decide) (by decide)])]
    exact w8 x hx
end WRD
