theorem q_div : ∀ k, k < 64 → nI k / 8 = nI (k / 8) := by decide +kernel
theorem q_mod : ∀ k, k < 64 → nI k - nI k / 8 * 8 = nI (k % 8) := by decide +kernel
theorem fx_le8 {x : Int32} {N : Nat} {y : Int32} (h : 0 ≤ x ∧ x ≤ y) (hy : y = nI N) (hN : N + 1 < 2 ^ 31) : ∃ k, k ≤ N ∧ x = nI k := by
  subst hy
  obtain ⟨k, hk, e⟩ := vp_in_of (vp_in_iff.mpr (show 0 ≤ x.toInt ∧ x.toInt < ((N + 1 : Nat) : Int) by
    have a := Int32.le_iff_toInt_le.mp h.1
    have b := Int32.le_iff_toInt_le.mp h.2
    rw [nI_toInt (by omega)] at b
    have c : (0 : Int32).toInt = 0 := by decide
    omega)) hN
  exact ⟨k, by omega, e⟩
