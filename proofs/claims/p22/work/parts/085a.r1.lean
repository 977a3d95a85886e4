theorem upd_ne {f : Nat → Int32} {k j : Nat} {x : Int32} (h : j ≠ k) : upd f k x j = f j := if_neg h
theorem upd_at {f : Nat → Int32} {k : Nat} {x : Int32} : upd f k x k = x := if_pos rfl
theorem ln_P {P : Nat} {x : Int32} (h : ib x P) (hP : P ≤ 12) : ∃ p, p < P ∧ x = nI p := ib_nI h (by omega)
theorem ext1 {Pr : Nat → Int32 → Prop} {f : Nat → Int32} {B : Nat} {x : Int32} (h : ∀ l, l < B → Pr l (f l)) (hx : Pr B x) : ∀ l, l < B + 1 → Pr l (upd f B x l) := by
  intro l hl
  by_cases e : l = B
  · rw [e, upd_at]; exact hx
  · rw [upd_ne e]; exact h l (by omega)
theorem ext2 {Pr : Int32 → Int32 → Prop} {f f2 : Nat → Int32} {B : Nat} {x y : Int32} (h : ∀ l, l < B → Pr (f l) (f2 l)) (hx : Pr x y) : ∀ l, l < B + 1 → Pr (upd f B x l) (upd f2 B y l) := by
  intro l hl
  by_cases e : l = B
  · rw [e, upd_at, upd_at]; exact hx
  · rw [upd_ne e, upd_ne e]; exact h l (by omega)
theorem ln_s {z : Int32} (h : 0 ≤ z ∧ z ≤ 6) : ∃ k, k < 7 ∧ z = nI k := (fx_le8 h (N := 6) rfl (by decide)).elim fun k q => ⟨k, by omega, q.2⟩
def LOKp (P B : Nat) (x z p9 q u : Int32) : Prop := ((0 ≤ z ∧ z ≤ 6) ∧ (ib p9 P ∧ (z = 6 → ib u P) ∧ (¬ z = 6 → (0 ≤ q ∧ q ≤ 63))) ∧ (0 ≤ x ∧ x ≤ 20000) ∧ ((z = 1 → 1 ≤ u ∧ u ≤ 5000) ∧ (z = 2 → 1 ≤ u ∧ u ≤ 160)) ∧ B < 120)
theorem ln_facts {P B : Nat} {x z p9 q u : Int32} (h : LOKp P B x z p9 q u) (hP : P ≤ 12) : B < 120 ∧ (∃ p, p < P ∧ p9 = nI p) ∧ (∃ k, k < 7 ∧ z = nI k) ∧ (z ≠ nI 6 → ∃ k, k < 64 ∧ q = nI k) ∧ (z = nI 6 → ∃ p, p < P ∧ u = nI p) ∧ (∃ d, d ≤ 20000 ∧ x = nI d) ∧ (z = nI 1 → ∃ d, d ≤ 5000 ∧ u = nI d) := by
  obtain ⟨h1, ⟨h2, h3, h4⟩, h5, ⟨h6, h7⟩, h8⟩ := h
  refine ⟨h8, ln_P h2 hP, ln_s h1, fun e => ?_, fun e => ln_P (h3 (by rw [e]; rfl)) hP, fx_le8 h5 (N := 20000) rfl (by decide), fun e => ?_⟩
  · exact (fx_le8 (h4 (fun e2 => e (by rw [e2]; rfl))) (N := 63) rfl (by decide)).elim fun k q => ⟨k, by omega, q.2⟩
  · have h9 := h6 (by rw [e]; rfl)
    exact fx_le8 ⟨Int32.le_trans (by decide : (0 : Int32) ≤ 1) h9.1, h9.2⟩ (N := 5000) rfl (by decide)
theorem nI_inj {a b : Nat} (h : nI a = nI b) (ha : a < 2 ^ 31) (hb : b < 2 ^ 31) : a = b := fx_eqI h ha hb
