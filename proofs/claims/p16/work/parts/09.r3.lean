/-- i comes before j: by its day, then by its number -/
abbrev BEF (d : Nat → Int32) (i j : Nat) : Prop := d i < d j ∨ (d i = d j ∧ i < j)
theorem bef_i {d : Nat → Int32} {i j : Nat} : BEF d i j ↔ ((d i).toInt < (d j).toInt ∨ ((d i).toInt = (d j).toInt ∧ i < j)) := by
  unfold BEF
  rw [Int32.lt_iff_toInt_lt, ← Int32.toInt_inj]
theorem le_i {x y : Int32} : x ≤ y ↔ x.toInt ≤ y.toInt := Int32.le_iff_toInt_le
theorem lt_i {x y : Int32} : x < y ↔ x.toInt < y.toInt := Int32.lt_iff_toInt_lt
/-- o names the first N, sorted by day, then by number -/
def ORD (N : Nat) (d o : Nat → Int32) : Prop := ∃ p : Nat → Nat, (∀ r, r < N → p r < N ∧ o r = nI (p r)) ∧ (∀ r s, r < s → s < N → BEF d (p r) (p s)) ∧ ∀ i, i < N → ∃ r, r < N ∧ p r = i
theorem ord_0 {d o : Nat → Int32} : ORD 0 d o := ⟨fun _ => 0, fun r h => absurd h (Nat.not_lt_zero r), fun r s _ h => absurd h (Nat.not_lt_zero s), fun r h => absurd h (Nat.not_lt_zero r)⟩
theorem ord_cg {N : Nat} {d o d2 o2 : Nat → Int32} (h : ORD N d o) (h1 : ∀ i, i < N → d2 i = d i) (h2 : ∀ i, i < N → o2 i = o i) : ORD N d2 o2 := by
  obtain ⟨p, q1, q2, q3⟩ := h
  refine ⟨p, fun r hr => ⟨(q1 r hr).1, (h2 r hr).trans (q1 r hr).2⟩, fun r s a b => ?_, q3⟩
  have := q2 r s a b
  unfold BEF
  rw [h1 _ (q1 r (by omega)).1, h1 _ (q1 s b).1]
  exact this
theorem ord_ins {N k : Nat} {d o : Nat → Int32} {x : Int32} (h : ORD N d o) (hk : k ≤ N) (hN : N < 2 ^ 31) (h1 : ∀ i, k ≤ i → i < N → x < d (o i).toNatClampNeg) (h2 : k = 0 ∨ d (o (k - 1)).toNatClampNeg ≤ x) : ORD (N + 1) (upd d N x) (upd (shf o N k) k (nI N)) := by
  obtain ⟨p, q1, q2, q3⟩ := h
  have hd : ∀ i, i < N → upd d N x i = d i := fun i hi => upd_ne (by omega)
  have hx : upd d N x N = x := upd_at
  have ho : ∀ r, r < N → (o r).toNatClampNeg = p r := fun r hr => by rw [(q1 r hr).2, nI_clamp (by have := (q1 r hr).1; omega)]
  have pl : ∀ r, r < k → (if r < k then p r else if r = k then N else p (r - 1)) = p r := fun r hr => if_pos hr
  have pk : (if k < k then p k else if k = k then N else p (k - 1)) = N := by rw [if_neg (by omega), if_pos rfl]
  have pg : ∀ r, k < r → (if r < k then p r else if r = k then N else p (r - 1)) = p (r - 1) := fun r hr => by rw [if_neg (by omega), if_neg (by omega)]
  refine ⟨fun r => if r < k then p r else if r = k then N else p (r - 1), fun r hr => ?_, fun r s hrs hs => ?_, fun i hi => ?_⟩
  · show (if r < k then p r else if r = k then N else p (r - 1)) < N + 1 ∧ upd (shf o N k) k (nI N) r = nI (if r < k then p r else if r = k then N else p (r - 1))
    rcases Nat.lt_trichotomy r k with c | c | c
    · rw [pl r c, upd_ne (by omega), (q1 r (by omega)).2.symm]
      refine ⟨by have := (q1 r (by omega)).1; omega, ?_⟩
      show (if k < r ∧ r ≤ N then o (r - 1) else o r) = o r
      rw [if_neg (by omega)]
    · rw [c, pk, upd_at]; exact ⟨by omega, rfl⟩
    · rw [pg r c, upd_ne (by omega), (q1 (r - 1) (by omega)).2.symm]
      refine ⟨by have := (q1 (r - 1) (by omega)).1; omega, ?_⟩
      show (if k < r ∧ r ≤ N then o (r - 1) else o r) = o (r - 1)
      rw [if_pos (by omega)]
  · show BEF (upd d N x) (if r < k then p r else if r = k then N else p (r - 1)) (if s < k then p s else if s = k then N else p (s - 1))
    have old : ∀ r s, r < s → s < N → BEF (upd d N x) (p r) (p s) := fun r s a b => by
      have := q2 r s a b
      unfold BEF
      rw [hd _ (q1 r (by omega)).1, hd _ (q1 s b).1]; exact this
    rcases Nat.lt_trichotomy s k with c | c | c
    · rw [pl r (by omega), pl s c]; exact old r s hrs (by omega)
    · rw [pl r (by omega), c, pk]
      have hp := (q1 r (by omega)).1
      refine bef_i.mpr ?_
      rw [hd _ hp, hx]
      rcases h2 with h2 | h2
      · omega
      · rw [ho (k - 1) (by omega)] at h2
        have h2' := le_i.mp h2
        by_cases e : r = k - 1
        · rw [e]; rw [e] at hp; omega
        · have := bef_i.mp (q2 r (k - 1) (by omega) (by omega)); omega
    · rw [pg s c]
      rcases Nat.lt_trichotomy r k with c2 | c2 | c2
      · rw [pl r c2]; exact old r (s - 1) (by omega) (by omega)
      · rw [c2, pk]
        have hp := (q1 (s - 1) (by omega)).1
        refine bef_i.mpr ?_
        rw [hd _ hp, hx]
        have := h1 (s - 1) (by omega) (by omega)
        rw [ho (s - 1) (by omega)] at this
        exact Or.inl (lt_i.mp this)
      · rw [pg r c2]; exact old (r - 1) (s - 1) (by omega) (by omega)
  · by_cases e : i = N
    · exact ⟨k, by omega, by show (if k < k then p k else if k = k then N else p (k - 1)) = i; rw [pk, e]⟩
    · obtain ⟨r, hr, er⟩ := q3 i (by omega)
      by_cases c : r < k
      · exact ⟨r, by omega, by show (if r < k then p r else if r = k then N else p (r - 1)) = i; rw [pl r c, er]⟩
      · exact ⟨r + 1, by omega, by show (if r + 1 < k then p (r + 1) else if r + 1 = k then N else p (r + 1 - 1)) = i; rw [pg (r + 1) (by omega), Nat.add_sub_cancel, er]⟩
/-- the last of those that a test takes, or none -/
def LST (N : Nat) (d : Nat → Int32) (c : Nat → Prop) (v : Int32) : Prop := (v = -1 ∧ ∀ i, i < N → ¬ c i) ∨ ∃ j, j < N ∧ v = nI j ∧ c j ∧ ∀ i, i < N → c i → i = j ∨ BEF d i j
theorem lst_u {N : Nat} {d : Nat → Int32} {c : Nat → Prop} {v w : Int32} (h : LST N d c v) (h2 : LST N d c w) : v = w := by
  rcases h with ⟨e, h⟩ | ⟨j, hj, e, hc, h⟩
  · rcases h2 with ⟨e2, _⟩ | ⟨i, hi, _, hc2, _⟩
    · rw [e, e2]
    · exact absurd hc2 (h i hi)
  · rcases h2 with ⟨_, h2⟩ | ⟨i, hi, e2, hc2, h2⟩
    · exact absurd hc (h2 j hj)
    · have : i = j := by
        rcases h i hi hc2 with q | q
        · exact q
        · rcases h2 j hj hc with q2 | q2
          · exact q2.symm
          · have a := bef_i.mp q
            have b := bef_i.mp q2
            omega
      rw [e, e2, this]
theorem lst_up {N : Nat} {d : Nat → Int32} {c : Nat → Prop} {v : Int32} [Decidable (c N ∧ (v < 0 ∨ BEF d v.toNatClampNeg N))] (hN : N < 2 ^ 31) (h : LST N d c v) : LST (N + 1) d c (if c N ∧ (v < 0 ∨ BEF d v.toNatClampNeg N) then nI N else v) := by
  by_cases q : c N ∧ (v < 0 ∨ BEF d v.toNatClampNeg N)
  · rw [if_pos q]
    refine Or.inr ⟨N, by omega, rfl, q.1, fun i hi hc => ?_⟩
    by_cases e : i = N
    · exact Or.inl e
    · rcases h with ⟨_, h⟩ | ⟨j, hj, rfl, _, h⟩
      · exact absurd hc (h i (by omega))
      · rcases q.2 with q2 | q2
        · exact absurd q2 (nI_nn (by omega))
        · rw [nI_clamp (by omega)] at q2
          rcases h i (by omega) hc with rfl | q3
          · exact Or.inr q2
          · refine Or.inr (bef_i.mpr ?_)
            have a := bef_i.mp q2
            have b := bef_i.mp q3
            omega
  · rw [if_neg q]
    rcases h with ⟨rfl, h⟩ | ⟨j, hj, rfl, hc, h⟩
    · refine Or.inl ⟨rfl, fun i hi hc => ?_⟩
      by_cases e : i = N
      · rw [e] at hc; exact q ⟨hc, Or.inl (by decide)⟩
      · exact h i (by omega) hc
    · refine Or.inr ⟨j, by omega, rfl, hc, fun i hi hc2 => ?_⟩
      by_cases e : i = N
      · refine Or.inr (bef_i.mpr ?_)
        rw [e] at hc2 ⊢
        have q4 : ¬ BEF d j N := fun z => q ⟨hc2, Or.inr (by rw [nI_clamp (by omega)]; exact z)⟩
        rw [bef_i] at q4
        omega
      · exact h i (by omega) hc2
theorem lst_cg {N : Nat} {d d2 : Nat → Int32} {c c2 : Nat → Prop} {v : Int32} (h : LST N d c v) (h1 : ∀ i, i < N → d2 i = d i) (h2 : ∀ i, i < N → (c i ↔ c2 i)) : LST N d2 c2 v := by
  rcases h with ⟨e, h⟩ | ⟨j, hj, e, hc, h⟩
  · exact Or.inl ⟨e, fun i hi hc => h i hi ((h2 i hi).mpr hc)⟩
  · refine Or.inr ⟨j, hj, e, (h2 j hj).mp hc, fun i hi hc2 => ?_⟩
    have := h i hi ((h2 i hi).mpr hc2)
    unfold BEF
    rw [h1 i hi, h1 j hj]; exact this
theorem lst_lfo {b : Nat → Nat → Int32} {x : Int32} : ∀ N, N < 2 ^ 31 → LST N (b 4) (fun i => b 4 i ≤ x) (lfo b x N) := by
  intro N
  induction N with
  | zero => intro _; exact Or.inl ⟨rfl, fun i h => absurd h (Nat.not_lt_zero i)⟩
  | succ N ih => intro hN; exact lst_up (by omega) (ih (by omega))
theorem lst_sbo {b : Nat → Nat → Int32} {j q : Nat} : ∀ N, N < 2 ^ 31 → LST N (b 4) (fun i => IBF b i j ∧ 0 ≤ b 5 (9 * i + q)) (sbo b j q N) := by
  intro N
  induction N with
  | zero => intro _; exact Or.inl ⟨rfl, fun i h => absurd h (Nat.not_lt_zero i)⟩
  | succ N ih =>
    intro hN
    have h := lst_up (by omega) (ih (by omega))
    have e : sbo b j q (N + 1) = (if (IBF b N j ∧ 0 ≤ b 5 (9 * N + q)) ∧ (sbo b j q N < 0 ∨ BEF (b 4) (sbo b j q N).toNatClampNeg N) then nI N else sbo b j q N) := by
      show (if IBF b N j ∧ 0 ≤ b 5 (9 * N + q) ∧ (sbo b j q N < 0 ∨ IBF b (sbo b j q N).toNatClampNeg N) then nI N else sbo b j q N) = _
      by_cases c : IBF b N j ∧ 0 ≤ b 5 (9 * N + q) ∧ (sbo b j q N < 0 ∨ IBF b (sbo b j q N).toNatClampNeg N)
      · rw [if_pos c, if_pos ⟨⟨c.1, c.2.1⟩, c.2.2⟩]
      · rw [if_neg c, if_neg (fun z => c ⟨z.1.1, z.1.2, z.2⟩)]
    rw [e]; exact h
/-- a walk down the order finds the last -/
theorem lst_dn {N : Nat} {d o : Nat → Int32} {p : Nat → Nat} {c : Nat → Prop} (q1 : ∀ r, r < N → p r < N ∧ o r = nI (p r)) (q2 : ∀ r s, r < s → s < N → BEF d (p r) (p s)) (q3 : ∀ i, i < N → ∃ r, r < N ∧ p r = i) {v : Int32} (h : (v = -1 ∧ ∀ r, r < N → ¬ c (p r)) ∨ ∃ s, s < N ∧ v = o s ∧ c (p s) ∧ ∀ u, s < u → u < N → ¬ c (p u)) : LST N d c v := by
  rcases h with ⟨e, h⟩ | ⟨s, hs, e, hc, h⟩
  · refine Or.inl ⟨e, fun i hi hc => ?_⟩
    obtain ⟨r, hr, rfl⟩ := q3 i hi
    exact h r hr hc
  · refine Or.inr ⟨p s, (q1 s hs).1, e.trans (q1 s hs).2, hc, fun i hi hc2 => ?_⟩
    obtain ⟨r, hr, rfl⟩ := q3 i hi
    rcases Nat.lt_trichotomy r s with z | z | z
    · exact Or.inr (q2 r s z hs)
    · exact Or.inl (by rw [z])
    · exact absurd hc2 (h r z hr)
theorem iof_sp {a : Nat → Nat → Int32} {x : Int32} : ∀ r, (iof a x r = -1 ∧ ∀ s, s < r → x < a 6 (a 8 s).toNatClampNeg) ∨ ∃ s, s < r ∧ iof a x r = a 8 s ∧ ¬ x < a 6 (a 8 s).toNatClampNeg ∧ ∀ u, s < u → u < r → x < a 6 (a 8 u).toNatClampNeg := by
  intro r
  induction r with
  | zero => exact Or.inl ⟨rfl, fun s h => absurd h (Nat.not_lt_zero s)⟩
  | succ r ih =>
    show ((if x < a 6 (a 8 r).toNatClampNeg then iof a x r else a 8 r) = -1 ∧ _) ∨ ∃ s, s < r + 1 ∧ (if x < a 6 (a 8 r).toNatClampNeg then iof a x r else a 8 r) = a 8 s ∧ ¬ x < a 6 (a 8 s).toNatClampNeg ∧ ∀ u, s < u → u < r + 1 → x < a 6 (a 8 u).toNatClampNeg
    by_cases c : x < a 6 (a 8 r).toNatClampNeg
    · rw [if_pos c]
      rcases ih with ⟨e, h⟩ | ⟨s, hs, e, h1, h⟩
      · refine Or.inl ⟨e, fun s hs => ?_⟩
        by_cases q : s = r
        · rw [q]; exact c
        · exact h s (by omega)
      · refine Or.inr ⟨s, by omega, e, h1, fun u a b => ?_⟩
        by_cases q : u = r
        · rw [q]; exact c
        · exact h u a (by omega)
    · rw [if_neg c]
      exact Or.inr ⟨r, by omega, rfl, c, fun u a b => by omega⟩
theorem iof_lfo {a b : Nat → Nat → Int32} {x : Int32} {S : Nat} (hS : S ≤ 8) (ho : ORD S (a 6) (a 8)) (hd : ∀ i, i < S → a 6 i = b 4 i) : iof a x S = lfo b x S := by
  obtain ⟨p, q1, q2, q3⟩ := ho
  have hp : ∀ r, r < S → (a 8 r).toNatClampNeg = p r := fun r hr => by rw [(q1 r hr).2, nI_clamp (by have := (q1 r hr).1; omega)]
  refine lst_u (d := b 4) (c := fun i => b 4 i ≤ x) ?_ (lst_lfo S (by omega))
  refine lst_cg (lst_dn (d := a 6) (c := fun i => a 6 i ≤ x) q1 q2 q3 ?_) (fun i hi => (hd i hi).symm) (fun i hi => by rw [hd i hi])
  rcases iof_sp (a := a) (x := x) S with ⟨e, h⟩ | ⟨s, hs, e, h1, h⟩
  · exact Or.inl ⟨e, fun r hr => by have := h r hr; rw [hp r hr] at this; exact Int32.not_le.mpr this⟩
  · refine Or.inr ⟨s, hs, e, by rw [hp s hs] at h1; exact Int32.not_lt.mp h1, fun u a b => by have := h u a b; rw [hp u b] at this; exact Int32.not_le.mpr this⟩
theorem vof_1 {a : Nat → Nat → Int32} {x : Int32} {q : Nat} : ∀ r, (vof a x q r 1 = fx_AF q ∧ ∀ s, s < r → a (9 + (a 8 s).toNatClampNeg) q = -1) ∨ ∃ s, s < r ∧ vof a x q r 1 = a (9 + (a 8 s).toNatClampNeg) q ∧ ¬ a (9 + (a 8 s).toNatClampNeg) q = -1 ∧ ∀ u, s < u → u < r → a (9 + (a 8 u).toNatClampNeg) q = -1 := by
  intro r
  induction r with
  | zero => exact Or.inl ⟨rfl, fun s h => absurd h (Nat.not_lt_zero s)⟩
  | succ r ih =>
    have e1 : vof a x q (r + 1) 1 = if a (9 + (a 8 r).toNatClampNeg) q = -1 then vof a x q r 1 else a (9 + (a 8 r).toNatClampNeg) q := by
      show (if (if a 8 r = x then (1 : Int32) else 1) = 0 then vof a x q r (if a 8 r = x then 1 else 1) else if a (9 + (a 8 r).toNatClampNeg) q = -1 then vof a x q r (if a 8 r = x then 1 else 1) else a (9 + (a 8 r).toNatClampNeg) q) = _
      rw [ite_self, if_neg (by decide)]
    rw [e1]
    by_cases c : a (9 + (a 8 r).toNatClampNeg) q = -1
    · rw [if_pos c]
      rcases ih with ⟨e, h⟩ | ⟨s, hs, e, h1, h⟩
      · refine Or.inl ⟨e, fun s hs => ?_⟩
        by_cases z : s = r
        · rw [z]; exact c
        · exact h s (by omega)
      · refine Or.inr ⟨s, by omega, e, h1, fun u a b => ?_⟩
        by_cases z : u = r
        · rw [z]; exact c
        · exact h u a (by omega)
    · rw [if_neg c]
      exact Or.inr ⟨r, by omega, rfl, c, fun u a b => by omega⟩
theorem vof_n {a : Nat → Nat → Int32} {x : Int32} {q r : Nat} (h : ¬ a 8 r = x) : vof a x q (r + 1) 0 = vof a x q r 0 := by
  show (if (if a 8 r = x then (1 : Int32) else 0) = 0 then vof a x q r (if a 8 r = x then 1 else 0) else if a (9 + (a 8 r).toNatClampNeg) q = -1 then vof a x q r (if a 8 r = x then 1 else 0) else a (9 + (a 8 r).toNatClampNeg) q) = _
  rw [if_neg h, if_pos rfl]
theorem vof_0 {a : Nat → Nat → Int32} {x : Int32} {q : Nat} : ∀ r, (∀ s, s < r → ¬ a 8 s = x) → vof a x q r 0 = fx_AF q := by
  intro r
  induction r with
  | zero => intro _; rfl
  | succ r ih => intro h; rw [vof_n (h r (by omega))]; exact ih (fun s hs => h s (by omega))
theorem vof_x {a : Nat → Nat → Int32} {x : Int32} {q t : Nat} (ht : a 8 t = x) : ∀ r, t < r → (∀ s, t < s → s < r → ¬ a 8 s = x) → vof a x q r 0 = if a (9 + (a 8 t).toNatClampNeg) q = -1 then vof a x q t 1 else a (9 + (a 8 t).toNatClampNeg) q := by
  intro r
  induction r with
  | zero => intro h; exact absurd h (Nat.not_lt_zero t)
  | succ r ih =>
    intro h hn
    by_cases e : t = r
    · rw [← e]
      show (if (if a 8 t = x then (1 : Int32) else 0) = 0 then vof a x q t (if a 8 t = x then 1 else 0) else if a (9 + (a 8 t).toNatClampNeg) q = -1 then vof a x q t (if a 8 t = x then 1 else 0) else a (9 + (a 8 t).toNatClampNeg) q) = _
      rw [if_pos ht, if_neg (by decide)]
    · rw [vof_n (hn r (by omega) (by omega))]
      exact ih (by omega) (fun s a b => hn s a (by omega))
/-- the rows of the laws, class and reference -/
def LRW (S : Nat) (a b : Nat → Nat → Int32) : Prop := (∀ i, i < S → a 6 i = b 4 i) ∧ (∀ i, i < S → ∀ q, q < 9 → a (9 + i) q = b 5 (9 * i + q) ∧ (a (9 + i) q = -1 ∨ ∃ N, N < 100000 ∧ a (9 + i) q = nI N)) ∧ (∀ q, q < 9 → b 6 q = fx_AF q) ∧ ORD S (a 6) (a 8)
theorem vof_sbw {a b : Nat → Nat → Int32} {S q : Nat} {x : Int32} (hS : S ≤ 8) (hq : q < 9) (h : LRW S a b) (hx : x = -1 ∨ ib x S) : vof a x q S 0 = sbw b S x q := by
  obtain ⟨hd, hv, hf, p, q1, q2, q3⟩ := h
  have hp : ∀ r, r < S → (a 8 r).toNatClampNeg = p r := fun r hr => by rw [(q1 r hr).2, nI_clamp (by have := (q1 r hr).1; omega)]
  rcases hx with rfl | hx
  · rw [vof_0 S (fun s hs e => nI_mm (j := p s) (by have := (q1 s hs).1; omega) ((q1 s hs).2.symm.trans e)), sbw, if_pos (by decide), hf q hq]
  · obtain ⟨X, hX, rfl⟩ := ib_nI hx (by omega)
    obtain ⟨t, ht, et⟩ := q3 X hX
    have inj : ∀ r s, r < s → s < S → ¬ p r = p s := fun r s a b e => by
      have := bef_i.mp (q2 r s a b)
      rw [e] at this
      omega
    rw [vof_x (t := t) (by rw [(q1 t ht).2, et]) S ht (fun s u v e => inj t s u v (by
      have := e.symm.trans (q1 s v).2
      have := nI_inj this (by omega) (by have := (q1 s v).1; omega)
      omega)), hp t ht, et, sbw, if_neg (nI_nn (by omega)), nI_clamp (by omega)]
    obtain ⟨v1, v2⟩ := hv X hX q hq
    by_cases c : a (9 + X) q = -1
    · have es : sby b S X q = sbo b X q S := if_neg (by rw [← v1, c]; decide)
      rw [if_pos c, es]
      have key : ∃ v, LST S (b 4) (fun i => IBF b i X ∧ 0 ≤ b 5 (9 * i + q)) v ∧ vof a (nI X) q t 1 = if v < 0 then b 6 q else b 5 (9 * v.toNatClampNeg + q) := by
        have cg : ∀ i, i < S → ((BEF (a 6) i X ∧ ¬ a (9 + i) q = -1) ↔ (IBF b i X ∧ 0 ≤ b 5 (9 * i + q))) := fun i hi => by
          obtain ⟨w1, w2⟩ := hv i hi q hq
          rw [← w1]
          unfold BEF
          rw [hd i hi, hd X hX]
          refine and_congr Iff.rfl ?_
          rcases w2 with e | ⟨N, hN, e⟩
          · rw [e]; exact ⟨fun z => absurd rfl z, fun z => absurd z (by decide)⟩
          · rw [e]; exact ⟨fun _ => Int32.not_lt.mp (nI_nn (by omega)), fun _ => nI_mm (by omega)⟩
        have bt : ∀ r, r < S → (BEF (a 6) (p r) X ↔ r < t) := fun r hr => by
          constructor
          · intro z
            rcases Nat.lt_trichotomy r t with y | y | y
            · exact y
            · rw [y, et] at z; have := bef_i.mp z; omega
            · have z2 := q2 t r y hr
              rw [et] at z2
              have := bef_i.mp z; have := bef_i.mp z2; omega
          · intro z; have := q2 r t z ht; rw [et] at this; exact this
        rcases vof_1 (a := a) (x := nI X) (q := q) t with ⟨e, h⟩ | ⟨s, hs, e, h1, h⟩
        · refine ⟨-1, lst_cg (lst_dn (d := a 6) (c := fun i => BEF (a 6) i X ∧ ¬ a (9 + i) q = -1) q1 q2 q3 (Or.inl ⟨rfl, fun r hr z => z.2 ?_⟩)) (fun i hi => (hd i hi).symm) cg, ?_⟩
          · have := h r ((bt r hr).mp z.1)
            rw [hp r hr] at this; exact this
          · rw [e, if_pos (by decide), hf q hq]
        · have hs' : s < S := by omega
          rw [hp s hs'] at e h1
          refine ⟨a 8 s, lst_cg (lst_dn (d := a 6) (c := fun i => BEF (a 6) i X ∧ ¬ a (9 + i) q = -1) q1 q2 q3 (Or.inr ⟨s, hs', rfl, ⟨(bt s hs').mpr hs, h1⟩, fun u y z w => w.2 ?_⟩)) (fun i hi => (hd i hi).symm) cg, ?_⟩
          · have := h u y ((bt u z).mp w.1)
            rw [hp u z] at this; exact this
          · have hps := (q1 s hs').1
            rw [e, (q1 s hs').2, if_neg (nI_nn (by omega)), nI_clamp (by omega)]
            exact (hv (p s) hps q hq).1
      obtain ⟨v, k1, k2⟩ := key
      rw [k2, lst_u k1 (lst_sbo S (by omega))]
    · have es : sby b S X q = nI X := if_pos (by
        rw [← v1]
        rcases v2 with e | ⟨N, hN, e⟩
        · exact absurd e c
        · rw [e]; exact Int32.not_lt.mp (nI_nn (by omega)))
      rw [if_neg c, es, if_neg (nI_nn (j := X) (by omega)), nI_clamp (by omega)]
      exact v1
