theorem t1 (x : Int32) (h1 : ¬ x < 0) (h2 : ¬ 20000 < x) : (some (Value.int 1)) = some (Value.int (if 0 ≤ x ∧ x ≤ 20000 then 1 else 0)) := by
  split <;> first | rfl | grind
theorem t1b (x : Int32) (h1 : ¬ x < 0) (h2 : ¬ 20000 < x) : (some (Value.int 1)) = some (Value.int (if 0 ≤ x ∧ x ≤ 20000 then 1 else 0)) := by
  grind
theorem t2 (x : Int32) (h1 : ¬ x < 0) (h2 : ¬ 20000 < x) : (some (Value.int 1)) = some (Value.int (if 0 ≤ x ∧ x ≤ 20000 then 1 else 0)) := by
  simp_all [Int32.not_lt]
theorem t3 (x : Int32) (h1 : ¬ x < 0) (h2 : ¬ 20000 < x) : (some (Value.int 1)) = some (Value.int (if 0 ≤ x ∧ x ≤ 20000 then 1 else 0)) := by
  rw [if_pos ⟨Int32.not_lt.mp h1, Int32.not_lt.mp h2⟩]
theorem t4 (x : Int32) (h : x.toInt = 3) : (some (Value.int 0)) = some (Value.int (if 0 ≤ x ∧ x ≤ 10 then 0 else -1002)) := by
  rw [if_pos]
  simp [Int32.le_iff_toInt_le, h]
theorem t5 (x y : Int32) (h : ¬ (0 ≤ x ∧ x ≤ 8)) : (some (Value.int 0)) = some (Value.int (if (0 ≤ x ∧ x ≤ 8) ∧ (0 ≤ y ∧ y ≤ 8) then 1 else 0)) := by
  split <;> first | rfl | grind
theorem t5b (x y : Int32) (h : ¬ (0 ≤ x ∧ x ≤ 8)) : (some (Value.int 0)) = some (Value.int (if (0 ≤ x ∧ x ≤ 8) ∧ (0 ≤ y ∧ y ≤ 8) then 1 else 0)) := by
  simp [*]
theorem t6 (x : Int32) : ¬ (0 ≤ x ∧ x ≤ -1) := by
  grind
theorem t6b (x : Int32) : ¬ (0 ≤ x ∧ x ≤ -1) := by
  simp only [Int32.le_iff_toInt_le]
  have : (-1 : Int32).toInt = -1 := by decide
  have : (0 : Int32).toInt = 0 := by decide
  omega
theorem t7 : (20000 : Int32).toInt = 20000 := by simp
theorem t7b : (20000 : Int32).toInt = 20000 := by rfl
theorem t7c : (-20000 : Int32).toInt = -20000 := by simp
theorem t7d : (-20000 : Int32).toInt = -20000 := by decide
theorem t8 {i : Nat} (hi : i ≤ 120) (h : (120 : Int32) ≤ nI i) : i = 120 := by
  have := (nI_leI (a := 120) (b := i) (by omega) (by omega)).mp h
  omega
theorem t9 {i : Nat} : nI i + Int32.ofInt 1 = nI (i + 1) := nI_1 i
theorem t10 (x : Int32) (h : x.toInt = 3) : x = 3 := by grind
theorem t11 (x : Int32) (h : x.toInt = 3) : x = 3 := Int32.toInt_inj.mp (by simp [h])
theorem t12 (x : Int32) (h : 0 ≤ x ∧ x ≤ 63) : 0 ≤ x.toInt ∧ x.toInt ≤ 63 := by grind
theorem t13 (x : Int32) (h : 0 ≤ x ∧ x ≤ 63) : 0 ≤ x.toInt ∧ x.toInt ≤ 63 := by
  simpa [Int32.le_iff_toInt_le] using h
theorem t14 (d : Int32) (h : (0 : Int64) ≤ d.toInt64) : (0 : Int32) ≤ d := by
  simpa [Int64.le_iff_toInt_le, Int32.le_iff_toInt_le] using h
theorem t15 (d : Int32) : (20000 : Int64) < d.toInt64 ↔ (20000 : Int32) < d := by
  simp [Int64.lt_iff_toInt_lt, Int32.lt_iff_toInt_lt]
theorem t16 (i : Nat) (hi : i < 9) (j : Nat) (hj : j < 9) : vp_in (9 * nI j + nI i) 81 := by
  rw [show (9 : Int32) = nI 9 from rfl, pk_mul, nI_add]
  exact vp_in_nI (by omega) (by omega)
