def fx_cl (a : Nat → Nat → Int32) : Nat → Nat → Int32 := va_up (va_up (va_up (va_up (va_up (va_up a 26 (fl (-1) (a 26) 120)) 27 (fl 0 (a 27) 120)) 33 (fl (-1) (a 33) 64)) 34 (fl (-1) (a 34) 64)) 36 (fl 0 (a 36) 12)) 37 (fl 0 (a 37) 12)
theorem fl_in {α : Type} {v : α} {f : Nat → α} {i k : Nat} (h : k < i) : fl v f i k = v := if_pos h
theorem fx_cl33 (a : Nat → Nat → Int32) {k : Nat} (h : k < 64) : (fx_cl a) 33 k = -1 := if_pos h
theorem fx_cl34 (a : Nat → Nat → Int32) {k : Nat} (h : k < 64) : (fx_cl a) 34 k = -1 := if_pos h
theorem fx_cl36 (a : Nat → Nat → Int32) {k : Nat} (h : k < 12) : (fx_cl a) 36 k = 0 := if_pos h
theorem fl_nIz (f : Nat → Int32) {i : Nat} (hi : i < 2 ^ 31) : upd (fl 0 f i) (nI i).toNatClampNeg (vp_nar .boolean 0) = fl 0 f (i + 1) := fl_nI 0 f hi
theorem fx_ix {q : Int32} (h : 0 ≤ q ∧ q ≤ 63) : q.toNatClampNeg < 64 := by
  have h1 := fx_in (n := 64) h.1 h.2 (by decide) (by decide)
  exact Nat.not_le.mp fun z => h1 (Or.inr z)
theorem fx_p0 {k : Nat} (hk : k < 2 ^ 31) (h : nI k - 1 < 0) : k = 0 := by
  cases k with
  | zero => rfl
  | succ k => rw [nI_pred] at h; exact absurd h (nI_pos (by omega))
theorem fx_p1 {k : Nat} (h : ¬ nI k - 1 < 0) : ∃ z, k = z + 1 := by
  cases k with
  | zero => exact absurd (by decide) h
  | succ k => exact ⟨k, rfl⟩
theorem fx_p2 (k : Nat) : nI (k + 1) - 1 + Int32.ofInt (-1) = nI k - 1 := by
  rw [nI_pred, Int32.sub_eq_add_neg]
  rfl
theorem fx_ij {i j : Int32} (hi : 0 ≤ i ∧ i ≤ 8) (hj : 0 ≤ j ∧ j ≤ 8) : vp_in (9 * j + i) 81 := by
  obtain ⟨x, hx, rfl⟩ := nI_of2 (M := 8) (n := 8) (by decide) (x := i) (Int32.not_lt.mpr hi.1) hi.2
  obtain ⟨y, hy, rfl⟩ := nI_of2 (M := 8) (n := 8) (by decide) (x := j) (Int32.not_lt.mpr hj.1) hj.2
  rw [show (9 : Int32) = nI 9 from rfl, pk_mul, nI_add]
  exact vp_in_nI (by omega) (by omega)
theorem fx_kn {i j : Int32} (hi : 0 ≤ i ∧ i ≤ 8) (hj : 0 ≤ j ∧ j ≤ 8) : (fl 1 (fun _ => 0) 81 : Nat → Int32) (9 * j + i).toNatClampNeg = 1 := by
  have h := fx_ij hi hj
  exact fl_in (Nat.not_le.mp fun z => h (Or.inr z))
def fx_dg : Nat → Int32
  | 0 => 7
  | i + 1 => 31 * fx_dg i + (-1)
def fx_cx (i : Nat) : Nat → Int32 := fun j => if j < i then nI (100 * (j % 9)) else 0
def fx_cy (i : Nat) : Nat → Int32 := fun j => if j < i then nI (100 * (j / 9)) else 0
theorem fx_i0 {i : Int32} (h : 0 ≤ i ∧ i ≤ 7) : 0 ≤ i + 0 ∧ i + 0 ≤ 8 := by
  rw [Int32.add_zero]
  grind
theorem fx_i1 {i : Int32} (h : 0 ≤ i ∧ i ≤ 7) : 0 ≤ i + 1 ∧ i + 1 ≤ 8 := by
  obtain ⟨x, hx, rfl⟩ := nI_of2 (M := 7) (n := 7) (by decide) (x := i) (Int32.not_lt.mpr h.1) h.2
  rw [nI_1]
  exact ⟨(nI_leI (a := 0) (by decide) (by omega)).mpr (by omega), (nI_leI (b := 8) (by omega) (by decide)).mpr (by omega)⟩
theorem fx_q8 {q : Int32} (h : 0 ≤ q ∧ q ≤ 63) : (0 ≤ q - q / 8 * 8 ∧ q - q / 8 * 8 ≤ 7) ∧ (0 ≤ q / 8 ∧ q / 8 ≤ 7) := by
  obtain ⟨x, hx, rfl⟩ := nI_of2 (M := 63) (n := 63) (by decide) (x := q) (Int32.not_lt.mpr h.1) h.2
  rw [show (8 : Int32) = nI 8 from rfl, pk_rem (by omega) (by decide) (by decide), pk_div (by omega) (by decide) (by decide)]
  exact ⟨⟨(nI_leI (a := 0) (by decide) (by omega)).mpr (by omega), (nI_leI (b := 7) (by omega) (by decide)).mpr (by omega)⟩, ⟨(nI_leI (a := 0) (by decide) (by omega)).mpr (by omega), (nI_leI (b := 7) (by omega) (by decide)).mpr (by omega)⟩⟩
/-- the arrays and numbers of a new object -/
def fx_a0 : Nat → Nat → Int32 := fun k => if k = 39 then fl 1 (fun _ => 0) 81 else if k = 40 then fx_cx 81 else if k = 41 then fx_cy 81 else (fun _ => 0)
def fx_g0 : Nat → Nat → Int64 := fun _ _ => 0
def fx_n0 : Nat → Int32 := fun k => if k = 2 then -1 else if k = 5 then 20001 else 0
def fx_cs (x y : Nat → Int64) : Int64 := 0 + (x 0 * y 1 - x 1 * y 0) + (x 1 * y 2 - x 2 * y 1) + (x 2 * y 3 - x 3 * y 2) + (x 3 * y 0 - x 0 * y 3)
def fx_ar (i j : Int32) : Int64 := fx_cs (vp_updL (vp_updL (vp_updL (vp_updL (fx_g0 42) 0 (840 * fx_a0 40 (9 * (j + 0) + (i + 0)).toNatClampNeg).toInt64) 1 (840 * fx_a0 40 (9 * (j + 0) + (i + 1)).toNatClampNeg).toInt64) 2 (840 * fx_a0 40 (9 * (j + 1) + (i + 1)).toNatClampNeg).toInt64) 3 (840 * fx_a0 40 (9 * (j + 1) + (i + 0)).toNatClampNeg).toInt64) (vp_updL (vp_updL (vp_updL (vp_updL (fx_g0 43) 0 (840 * fx_a0 41 (9 * (j + 0) + (i + 0)).toNatClampNeg).toInt64) 1 (840 * fx_a0 41 (9 * (j + 0) + (i + 1)).toNatClampNeg).toInt64) 2 (840 * fx_a0 41 (9 * (j + 1) + (i + 1)).toNatClampNeg).toInt64) 3 (840 * fx_a0 41 (9 * (j + 1) + (i + 0)).toNatClampNeg).toInt64)
