/-- i comes before j: by its day, then by its number -/
abbrev BEF (d : Nat → Int32) (i j : Nat) : Prop := d i < d j ∨ (d i = d j ∧ i < j)
theorem bef_i {d : Nat → Int32} {i j : Nat} : BEF d i j ↔ ((d i).toInt < (d j).toInt ∨ ((d i).toInt = (d j).toInt ∧ i < j)) := by
  unfold BEF
  rw [Int32.lt_iff_toInt_lt, ← Int32.toInt_inj]
theorem le_i {x y : Int32} : x ≤ y ↔ x.toInt ≤ y.toInt := Int32.le_iff_toInt_le
theorem lt_i {x y : Int32} : x < y ↔ x.toInt < y.toInt := Int32.lt_iff_toInt_lt
/-- o names the first N, sorted by day, then by number -/
def ORD (N : Nat) (d o : Nat → Int32) : Prop := ∃ p : Nat → Nat, (∀ r, r < N → p r < N ∧ o r = nI (p r)) ∧ (∀ r s, r < s → s < N → BEF d (p r) (p s)) ∧ ∀ i, i < N → ∃ r, r < N ∧ p r = i
theorem ord_0 {d o : Nat → Int32} : ORD 0 d o := ⟨fun _ => 0, fun r h => absurd h (Nat.not_lt_zero r), fun r s _ h => absurd h (Nat.not_lt_zero s), fun r h => absurd h (Nat.not_lt_zero r)⟩
theorem ord_cg {N : Nat} {d o d2 o2 : Nat → Int32} (h : ORD N d o) (h1 : ∀ i, i < N → d2 i = d i) (h2 : ∀ i, i < N → o2 i = o i) : ORD N d2 o2 := by
  obtain ⟨p, q1, q2, q3⟩ := h
  refine ⟨p, fun r hr => ⟨(q1 r hr).1, (h2 r hr).trans (q1 r hr).2⟩, fun r s a b => ?_, q3⟩
  have := q2 r s a b
  unfold BEF
  rw [h1 _ (q1 r (by omega)).1, h1 _ (q1 s b).1]
  exact this
theorem ord_ins {N k : Nat} {d o : Nat → Int32} {x : Int32} (h : ORD N d o) (hk : k ≤ N) (hN : N < 2 ^ 31) (h1 : ∀ i, k ≤ i → i < N → x < d (o i).toNatClampNeg) (h2 : k = 0 ∨ d (o (k - 1)).toNatClampNeg ≤ x) : ORD (N + 1) (upd d N x) (upd (shf o N k) k (nI N)) := by
  obtain ⟨p, q1, q2, q3⟩ := h
  have hd : ∀ i, i < N → upd d N x i = d i := fun i hi => upd_ne (by omega)
  have hx : upd d N x N = x := upd_at
  have ho : ∀ r, r < N → (o r).toNatClampNeg = p r := fun r hr => by rw [(q1 r hr).2, nI_clamp (by have := (q1 r hr).1; omega)]
  have pl : ∀ r, r < k → (if r < k then p r else if r = k then N else p (r - 1)) = p r := fun r hr => if_pos hr
  have pk : (if k < k then p k else if k = k then N else p (k - 1)) = N := by rw [if_neg (by omega), if_pos rfl]
  have pg : ∀ r, k < r → (if r < k then p r else if r = k then N else p (r - 1)) = p (r - 1) := fun r hr => by rw [if_neg (by omega), if_neg (by omega)]
  refine ⟨fun r => if r < k then p r else if r = k then N else p (r - 1), fun r hr => ?_, fun r s hrs hs => ?_, fun i hi => ?_⟩
  · show (if r < k then p r else if r = k then N else p (r - 1)) < N + 1 ∧ upd (shf o N k) k (nI N) r = nI (if r < k then p r else if r = k then N else p (r - 1))
    rcases Nat.lt_trichotomy r k with c | c | c
    · rw [pl r c, upd_ne (by omega), (q1 r (by omega)).2.symm]
      refine ⟨by have := (q1 r (by omega)).1; omega, ?_⟩
      show (if k < r ∧ r ≤ N then o (r - 1) else o r) = o r
      rw [if_neg (by omega)]
    · rw [c, pk, upd_at]; exact ⟨by omega, rfl⟩
    · rw [pg r c, upd_ne (by omega), (q1 (r - 1) (by omega)).2.symm]
      refine ⟨by have := (q1 (r - 1) (by omega)).1; omega, ?_⟩
      show (if k < r ∧ r ≤ N then o (r - 1) else o r) = o (r - 1)
      rw [if_pos (by omega)]
  · show BEF (upd d N x) (if r < k then p r else if r = k then N else p (r - 1)) (if s < k then p s else if s = k then N else p (s - 1))
    have old : ∀ r s, r < s → s < N → BEF (upd d N x) (p r) (p s) := fun r s a b => by
      have := q2 r s a b
      unfold BEF
      rw [hd _ (q1 r (by omega)).1, hd _ (q1 s b).1]; exact this
    rcases Nat.lt_trichotomy s k with c | c | c
    · rw [pl r (by omega), pl s c]; exact old r s hrs (by omega)
    · rw [pl r (by omega), c, pk]
      have hp := (q1 r (by omega)).1
      refine bef_i.mpr ?_
      rw [hd _ hp, hx]
      rcases h2 with h2 | h2
      · omega
      · rw [ho (k - 1) (by omega)] at h2
        have h2' := le_i.mp h2
        by_cases e : r = k - 1
        · rw [e]; rw [e] at hp; omega
        · have := bef_i.mp (q2 r (k - 1) (by omega) (by omega)); omega
    · rw [pg s c]
      rcases Nat.lt_trichotomy r k with c2 | c2 | c2
      · rw [pl r c2]; exact old r (s - 1) (by omega) (by omega)
      · rw [c2, pk]
        have hp := (q1 (s - 1) (by omega)).1
        refine bef_i.mpr ?_
        rw [hd _ hp, hx]
        have := h1 (s - 1) (by omega) (by omega)
        rw [ho (s - 1) (by omega)] at this
        exact Or.inl (lt_i.mp this)
      · rw [pg r c2]; exact old (r - 1) (s - 1) (by omega) (by omega)
  · by_cases e : i = N
    · exact ⟨k, by omega, by show (if k < k then p k else if k = k then N else p (k - 1)) = i; rw [pk, e]⟩
    · obtain ⟨r, hr, er⟩ := q3 i (by omega)
      by_cases c : r < k
      · exact ⟨r, by omega, by show (if r < k then p r else if r = k then N else p (r - 1)) = i; rw [pl r c, er]⟩
      · exact ⟨r + 1, by omega, by show (if r + 1 < k then p (r + 1) else if r + 1 = k then N else p (r + 1 - 1)) = i; rw [pg (r + 1) (by omega), Nat.add_sub_cancel, er]⟩
