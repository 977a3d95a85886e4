/-- x is an index below N -/
abbrev ib (x : Int32) (N : Nat) : Prop := 0 ≤ x.toInt ∧ x.toInt < (N : Int)
theorem ib_nI {x : Int32} {N : Nat} (h : ib x N) (hN : N < 2 ^ 31) : ∃ k, k < N ∧ x = nI k := vp_in_of (vp_in_iff.mpr h) hN
theorem nI_ib {k N : Nat} (h : k < N) (hN : N < 2 ^ 31) : ib (nI k) N := vp_in_iff.mp (vp_in_nI h hN)
theorem ib_m1 {x : Int32} {N : Nat} (hN : N < 2 ^ 30) : (0 ≤ x ∧ x ≤ nI N - 1) ↔ ib x N := by
  have e : (nI N - 1).toInt = (N : Int) - 1 := by
    have := pk_sub_toInt (a := N) (b := 1) hN (by decide)
    simpa [show (nI 1) = (1 : Int32) from rfl] using this
  simp only [Int32.le_iff_toInt_le, e, ib]
  have : (0 : Int32).toInt = 0 := by decide
  omega
theorem ib_le {x : Int32} {N : Nat} (hN : N < 2 ^ 31) : (0 ≤ x ∧ x ≤ nI N) ↔ ib x (N + 1) := by
  simp only [Int32.le_iff_toInt_le, nI_toInt hN, ib]
  have : (0 : Int32).toInt = 0 := by decide
  omega
/-- what holds of a state between calls: how many persons, laws, bytes, lines; the orders; the lines -/
def XI (P S T B : Nat) (a : Nat → Nat → Int32) (n : Nat → Int32) : Prop :=
  n 0 = nI P ∧ P ≤ 12 ∧ n 1 = nI T ∧ T ≤ 120 ∧ n 3 = nI S ∧ S ≤ 8 ∧ n 4 = nI B ∧ B ≤ 120 ∧ (∀ i, i < S → ∃ j, j < S ∧ a 8 i = nI j) ∧ (∀ i, i < B → ∃ j, j < B ∧ a 24 i = nI j) ∧ (∀ l, l < B → ∃ p, p < P ∧ a 20 l = nI p) ∧ (∀ l, l < B → ∃ z, z < 7 ∧ a 19 l = nI z) ∧ (∀ l, l < B → a 19 l ≠ nI 6 → ∃ q, q < 64 ∧ a 21 l = nI q) ∧ (∀ l, l < B → a 19 l = nI 6 → ∃ p, p < P ∧ a 22 l = nI p)
theorem fx_ij {i j : Int32} (hi : 0 ≤ i ∧ i ≤ 8) (hj : 0 ≤ j ∧ j ≤ 8) : vp_in (9 * j + i) 81 := by
  obtain ⟨x, hx, rfl⟩ := nI_of2 (M := 8) (n := 8) (by decide) (x := i) (Int32.not_lt.mpr hi.1) hi.2
  obtain ⟨y, hy, rfl⟩ := nI_of2 (M := 8) (n := 8) (by decide) (x := j) (Int32.not_lt.mpr hj.1) hj.2
  rw [show (9 : Int32) = nI 9 from rfl, pk_mul, nI_add]
  exact vp_in_nI (by omega) (by omega)
theorem fx_ijk {i j : Int32} (hi : 0 ≤ i ∧ i ≤ 8) (hj : 0 ≤ j ∧ j ≤ 8) : (9 * j + i).toNatClampNeg < 81 := by
  have h := fx_ij hi hj
  exact Nat.not_le.mp fun z => h (Or.inr z)
theorem fx_z2 {x : Int32} (h : x = 0 ∨ x = 1) : narrow .boolean (.int x) = .int x := by
  rcases h with rfl | rfl <;> rfl
