theorem ins_bd {f : Nat → Int32} {M k l : Nat} (h : ∀ i, i < M → ∃ j, j < l ∧ f i = nI j) (hk : k ≤ M) : ∀ i, i < M + 1 → ∃ j, j < l + 1 ∧ upd (shf f M k) k (nI l) i = nI j := by
  intro i hi
  by_cases e : i = k
  · exact ⟨l, by omega, by rw [upd, if_pos e]⟩
  · rw [upd, if_neg e, shf]
    by_cases q : k < i ∧ i ≤ M
    · rw [if_pos q]
      obtain ⟨j, h1, h2⟩ := h (i - 1) (by omega)
      exact ⟨j, by omega, h2⟩
    · rw [if_neg q]
      obtain ⟨j, h1, h2⟩ := h i (by omega)
      exact ⟨j, by omega, h2⟩
def cL (f : Nat → Int32) (u : Nat) : Nat → Nat
  | 0 => 0
  | d + 1 => cL f u d + if f (u + d) = 0 then 0 else 1
def gpN (f : Nat → Int32) (u : Nat) : Nat → Nat
  | 0 => 0
  | d + 1 => if f (u + d) = 0 then gpN f u d + 1 else 0
def lgN (f : Nat → Int32) (u : Nat) : Nat → Nat
  | 0 => 0
  | d + 1 => if lgN f u d < gpN f u (d + 1) then gpN f u (d + 1) else lgN f u d
/-- of the days from u on up to y so many -/
def UPT (u : Nat) (y : Int32) (d : Nat) : Prop := ¬ nI (u + d) ≤ y ∧ (∀ j, j < d → nI (u + j) ≤ y) ∧ (d = 0 ∨ u + d ≤ 25200)
