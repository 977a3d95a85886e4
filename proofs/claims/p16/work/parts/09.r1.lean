/-- class and reference tell the same persons, day of the map, book and corners -/
def RL0 (P S T B S2 T2 : Nat) (a : Nat → Nat → Int32) (n : Nat → Int32) (b : Nat → Nat → Int32) (m : Nat → Int32) : Prop :=
  XI P S T B a n ∧ YI P S2 T2 B b m ∧ (∀ k, k < 81 → a 39 k = 0 ∨ a 39 k = 1) ∧ n 5 = m 1 ∧ (a 2 = b 1 ∧ a 3 = b 2) ∧ (a 18 = b 8 ∧ a 19 = b 9 ∧ a 20 = b 10 ∧ a 21 = b 11 ∧ a 22 = b 12 ∧ a 23 = b 13) ∧ (∀ l, B ≤ l → a 23 l = 0) ∧ (a 39 = b 14 ∧ a 40 = b 15 ∧ a 41 = b 16)
theorem rl_kk {P S T B S2 T2 : Nat} {a a1 b b1 : Nat → Nat → Int32} {n n1 m m1 : Nat → Int32} (h : RL0 P S T B S2 T2 a n b m) (hx : KX a n a1 n1) (hy : KY b m b1 m1) : RL0 P S T B S2 T2 a1 n1 b1 m1 := by
  obtain ⟨h1, h2, h3, h4, h5, h6, h7, h8⟩ := h
  obtain ⟨x1, x2⟩ := hx
  obtain ⟨y1, y2⟩ := hy
  refine ⟨?_, YI_keep h2 y1 y2, ?_, ?_, ?_, ?_, ?_, ?_⟩
  · rw [XI, x1 8 (by omega), x1 24 (by omega), x1 20 (by omega), x1 19 (by omega), x1 21 (by omega), x1 22 (by omega), x2 0 (by omega), x2 1 (by omega), x2 3 (by omega), x2 4 (by omega)]; exact h1
  · rw [x1 39 (by omega)]; exact h3
  · rw [x2 5 (by omega), y2 1 (by omega)]; exact h4
  · rw [x1 2 (by omega), x1 3 (by omega), y1 1 (by omega), y1 2 (by omega)]; exact h5
  · rw [x1 18 (by omega), x1 19 (by omega), x1 20 (by omega), x1 21 (by omega), x1 22 (by omega), x1 23 (by omega), y1 8 (by omega), y1 9 (by omega), y1 10 (by omega), y1 11 (by omega), y1 12 (by omega), y1 13 (by omega)]; exact h6
  · rw [x1 23 (by omega)]; exact h7
  · rw [x1 39 (by omega), x1 40 (by omega), x1 41 (by omega), y1 14 (by omega), y1 15 (by omega), y1 16 (by omega)]; exact h8
theorem upd_ne {f : Nat → Int32} {k j : Nat} {x : Int32} (h : j ≠ k) : upd f k x j = f j := if_neg h
theorem upd_at {f : Nat → Int32} {k : Nat} {x : Int32} : upd f k x k = x := if_pos rfl
theorem nar_b (y : Int32) : vp_nar .boolean y = 0 ∨ vp_nar .boolean y = 1 := by
  have h : vp_nar .boolean y = y &&& 1 := by first | rfl | (unfold vp_nar; rfl)
  rw [h]
  obtain ⟨j, hj, e⟩ := pk_andE y (m := 1) 1 (by decide)
  rw [e]
  have : j = 0 ∨ j = 1 := by omega
  rcases this with rfl | rfl
  · exact Or.inl rfl
  · exact Or.inr rfl
theorem rl_sets {P S T B S2 T2 : Nat} {a a1 b b1 : Nat → Nat → Int32} {g g2 : Nat → Nat → Int64} {n n1 m m1 : Nat → Int32} {x : Int32} {y : Int32} {r1 r2 : Int32} (h : RL0 P S T B S2 T2 a n b m) (hX : TX_sets P S T B a g n x y r1 a1 n1) (hY : TY_sets P S2 T2 B b g2 m x y r2 b1 m1) : True ∧ ∃ P S T B S2 T2, RL0 P S T B S2 T2 a1 n1 b1 m1 := by
  obtain ⟨_, rfl, rfl⟩ := hX
  obtain ⟨_, rfl, rfl⟩ := hY
  exact ⟨trivial, P, S, T, B, S2, T2, h⟩
theorem rl_lawOf {P S T B S2 T2 : Nat} {a a1 b b1 : Nat → Nat → Int32} {g g2 : Nat → Nat → Int64} {n n1 m m1 : Nat → Int32} {x : Int32} {r1 r2 : Int32} (h : RL0 P S T B S2 T2 a n b m) (hX : TX_lawOf P S T B a g n x r1 a1 n1) (hY : TY_lawOf P S2 T2 B b g2 m x r2 b1 m1) : True ∧ ∃ P S T B S2 T2, RL0 P S T B S2 T2 a1 n1 b1 m1 := by
  obtain ⟨_, rfl, rfl⟩ := hX
  obtain ⟨_, rfl, rfl⟩ := hY
  exact ⟨trivial, P, S, T, B, S2, T2, h⟩
theorem rl_place {P S T B S2 T2 : Nat} {a a1 b b1 : Nat → Nat → Int32} {g g2 : Nat → Nat → Int64} {n n1 m m1 : Nat → Int32}  {r1 r2 : Int32} (h : RL0 P S T B S2 T2 a n b m) (hX : TX_place P S T B a g n  r1 a1 n1) (hY : TY_place P S2 T2 B b g2 m  r2 b1 m1) : True ∧ ∃ P S T B S2 T2, RL0 P S T B S2 T2 a1 n1 b1 m1 := by
  obtain ⟨_, rfl, rfl⟩ := hX
  obtain ⟨_, rfl, rfl⟩ := hY
  exact ⟨trivial, P, S, T, B, S2, T2, h⟩
theorem rl_told {P S T B S2 T2 : Nat} {a a1 b b1 : Nat → Nat → Int32} {g g2 : Nat → Nat → Int64} {n n1 m m1 : Nat → Int32} {x : Int32} {y : Int32} {r1 r2 : Int32} (h : RL0 P S T B S2 T2 a n b m) (hX : TX_told P S T B a g n x y r1 a1 n1) (hY : TY_told P S2 T2 B b g2 m x y r2 b1 m1) : r1 = r2 ∧ ∃ P S T B S2 T2, RL0 P S T B S2 T2 a1 n1 b1 m1 := by
  obtain ⟨e1, rfl, rfl⟩ := hX
  obtain ⟨e2, rfl, rfl⟩ := hY
  refine ⟨?_, P, S, T, B, S2, T2, h⟩
  obtain ⟨h1, h2, h3, h4, h5, ⟨q1, q2, q3, q4, q5, q6⟩, h7, h8⟩ := h
  rw [e1, e2, q1, q2, q3, q4, q5, q6]
theorem rl_outcome {P S T B S2 T2 : Nat} {a a1 b b1 : Nat → Nat → Int32} {g g2 : Nat → Nat → Int64} {n n1 m m1 : Nat → Int32} {x : Int32} {y : Int32} {r1 r2 : Int32} (h : RL0 P S T B S2 T2 a n b m) (hX : TX_outcome P S T B a g n x y r1 a1 n1) (hY : TY_outcome P S2 T2 B b g2 m x y r2 b1 m1) : True ∧ ∃ P S T B S2 T2, RL0 P S T B S2 T2 a1 n1 b1 m1 := by
  exact ⟨trivial, P, S, T, B, S2, T2, rl_kk h hX.1 hY.1⟩
theorem rl_count {P S T B S2 T2 : Nat} {a a1 b b1 : Nat → Nat → Int32} {g g2 : Nat → Nat → Int64} {n n1 m m1 : Nat → Int32} {x : Int32} {r1 r2 : Int32} (h : RL0 P S T B S2 T2 a n b m) (hX : TX_count P S T B a g n x r1 a1 n1) (hY : TY_count P S2 T2 B b g2 m x r2 b1 m1) : True ∧ ∃ P S T B S2 T2, RL0 P S T B S2 T2 a1 n1 b1 m1 := by
  exact ⟨trivial, P, S, T, B, S2, T2, rl_kk h hX.1 hY.1⟩
theorem rl_holds {P S T B S2 T2 : Nat} {a a1 b b1 : Nat → Nat → Int32} {g g2 : Nat → Nat → Int64} {n n1 m m1 : Nat → Int32} {x : Int32} {y : Int32} {u : Int32} {q : Int32} {r1 r2 : Int32} (h : RL0 P S T B S2 T2 a n b m) (hX : TX_holds P S T B a g n x y u q r1 a1 n1) (hY : TY_holds P S2 T2 B b g2 m x y u q r2 b1 m1) : True ∧ ∃ P S T B S2 T2, RL0 P S T B S2 T2 a1 n1 b1 m1 := by
  exact ⟨trivial, P, S, T, B, S2, T2, rl_kk h hX.1 hY.1⟩
theorem rl_holdings {P S T B S2 T2 : Nat} {a a1 b b1 : Nat → Nat → Int32} {g g2 : Nat → Nat → Int64} {n n1 m m1 : Nat → Int32} {x : Int32} {y : Int32} {r1 r2 : Int32} (h : RL0 P S T B S2 T2 a n b m) (hX : TX_holdings P S T B a g n x y r1 a1 n1) (hY : TY_holdings P S2 T2 B b g2 m x y r2 b1 m1) : True ∧ ∃ P S T B S2 T2, RL0 P S T B S2 T2 a1 n1 b1 m1 := by
  exact ⟨trivial, P, S, T, B, S2, T2, rl_kk h hX.1 hY.1⟩
theorem rl_digest {P S T B S2 T2 : Nat} {a a1 b b1 : Nat → Nat → Int32} {g g2 : Nat → Nat → Int64} {n n1 m m1 : Nat → Int32} {x : Int32} {r1 r2 : Int32} (h : RL0 P S T B S2 T2 a n b m) (hX : TX_digest P S T B a g n x r1 a1 n1) (hY : TY_digest P S2 T2 B b g2 m x r2 b1 m1) : True ∧ ∃ P S T B S2 T2, RL0 P S T B S2 T2 a1 n1 b1 m1 := by
  exact ⟨trivial, P, S, T, B, S2, T2, rl_kk h hX.1 hY.1⟩
theorem rl_lies {P S T B S2 T2 : Nat} {a a1 b b1 : Nat → Nat → Int32} {g g2 : Nat → Nat → Int64} {n n1 m m1 : Nat → Int32} {i : Int32} {j : Int32} {q : Int32} {r1 r2 : Int32} (h : RL0 P S T B S2 T2 a n b m) (hX : TX_lies P S T B a g n i j q r1 a1 n1) (hY : TY_lies P S2 T2 B b g2 m i j q r2 b1 m1) : True ∧ ∃ P S T B S2 T2, RL0 P S T B S2 T2 a1 n1 b1 m1 := by
  exact ⟨trivial, P, S, T, B, S2, T2, rl_kk h hX hY⟩
theorem rl_map {P S T B S2 T2 : Nat} {a a1 b b1 : Nat → Nat → Int32} {g g2 : Nat → Nat → Int64} {n n1 m m1 : Nat → Int32} {x : Int32} {r1 r2 : Int32} (h : RL0 P S T B S2 T2 a n b m) (hX : TX_map P S T B a g n x r1 a1 n1) (hY : TY_map P S2 T2 B b g2 m x r2 b1 m1) : r1 = r2 ∧ ∃ P S T B S2 T2, RL0 P S T B S2 T2 a1 n1 b1 m1 := by
  obtain ⟨h1, h2, h3, h4, h5, h6, h7, h8⟩ := h
  obtain ⟨e1, ⟨c1, rfl, rfl⟩ | ⟨c1, rfl, rfl⟩⟩ := hX
  · obtain ⟨e2, ⟨c2, rfl, rfl⟩ | ⟨c2, rfl, rfl⟩⟩ := hY
    · exact ⟨by rw [e1, e2, h4], P, S, T, B, S2, T2, h1, h2, h3, rfl, h5, h6, h7, h8⟩
    · exact absurd c1 c2
  · obtain ⟨e2, ⟨c2, rfl, rfl⟩ | ⟨c2, rfl, rfl⟩⟩ := hY
    · exact absurd c2 c1
    · exact ⟨by rw [e1, e2, h4], P, S, T, B, S2, T2, h1, h2, h3, h4, h5, h6, h7, h8⟩
theorem rl_person {P S T B S2 T2 : Nat} {a a1 b b1 : Nat → Nat → Int32} {g g2 : Nat → Nat → Int64} {n n1 m m1 : Nat → Int32} {x : Int32} {y : Int32} {r1 r2 : Int32} (h : RL0 P S T B S2 T2 a n b m) (hX : TX_person P S T B a g n x y r1 a1 n1) (hY : TY_person P S2 T2 B b g2 m x y r2 b1 m1) : r1 = r2 ∧ ∃ P S T B S2 T2, RL0 P S T B S2 T2 a1 n1 b1 m1 := by
  obtain ⟨h1, h2, h3, h4, ⟨h5, h5'⟩, h6, h7, h8⟩ := h
  obtain ⟨e1, ⟨c1, rfl, rfl⟩ | ⟨c1, rfl, rfl⟩⟩ := hX
  · obtain ⟨e2, ⟨c2, rfl, rfl⟩ | ⟨c2, rfl, rfl⟩⟩ := hY
    · refine ⟨by rw [e1, e2], P + 1, S, T, B, S2, T2, ?_, ?_, h3, h4, ⟨?_, ?_⟩, h6, h7, h8⟩
      · obtain ⟨x0, xP, x1, xT, x3, xS, x4, xB, xLO, xBO, xW, xSo, xQ, xN⟩ := h1
        exact ⟨rfl, by omega, x1, xT, x3, xS, x4, xB, xLO, xBO, fun l hl => (xW l hl).elim fun p q => ⟨p, by omega, q.2⟩, xSo, xQ, fun l hl e => (xN l hl e).elim fun p q => ⟨p, by omega, q.2⟩⟩
      · obtain ⟨x0, xP, x1, xT, x3, xS, x4, xB, xW, xSo, xQ, xN, xD, xL⟩ := h2
        exact ⟨rfl, by omega, x1, xT, x3, xS, x4, xB, fun l hl => (xW l hl).elim fun p q => ⟨p, by omega, q.2⟩, xSo, xQ, fun l hl e => (xN l hl e).elim fun p q => ⟨p, by omega, q.2⟩, xD, xL⟩
      · show upd (a 2) _ _ = upd (b 1) _ _
        rw [h5]
      · show upd (a 3) _ _ = upd (b 2) _ _
        rw [h5']
    · exact absurd c1 c2
  · obtain ⟨e2, ⟨c2, rfl, rfl⟩ | ⟨c2, rfl, rfl⟩⟩ := hY
    · exact absurd c2 c1
    · exact ⟨by rw [e1, e2], P, S, T, B, S2, T2, h1, h2, h3, h4, ⟨h5, h5'⟩, h6, h7, h8⟩
theorem rl_strike {P S T B S2 T2 : Nat} {a a1 b b1 : Nat → Nat → Int32} {g g2 : Nat → Nat → Int64} {n n1 m m1 : Nat → Int32} {x : Int32} {y : Int32} {r1 r2 : Int32} (h : RL0 P S T B S2 T2 a n b m) (hX : TX_strike P S T B a g n x y r1 a1 n1) (hY : TY_strike P S2 T2 B b g2 m x y r2 b1 m1) : r1 = r2 ∧ ∃ P S T B S2 T2, RL0 P S T B S2 T2 a1 n1 b1 m1 := by
  obtain ⟨h1, h2, h3, h4, h5, ⟨q1, q2, q3, q4, q5, q6⟩, h7, h8⟩ := h
  obtain ⟨e1, ⟨c1, rfl, rfl⟩ | ⟨c1, rfl, rfl⟩⟩ := hX
  · obtain ⟨e2, ⟨c2, rfl, rfl⟩ | ⟨c2, rfl, rfl⟩⟩ := hY
    · refine ⟨by rw [e1, e2, q6], P, S, T, B, S2, T2, h1, h2, h3, h4, h5, ⟨q1, q2, q3, q4, q5, ?_⟩, ?_, h8⟩
      · show upd (a 23) _ _ = upd (b 13) _ _
        rw [q6]
      · intro l hl
        have hB : B ≤ 120 := h1.2.2.2.2.2.2.2.1
        obtain ⟨k, hk, rfl⟩ := ib_nI c1 (by omega)
        show upd (a 23) (nI k).toNatClampNeg _ l = 0
        rw [nI_clamp (by omega), upd_ne (by omega)]
        exact h7 l hl
    · exact absurd c1 c2
  · obtain ⟨e2, ⟨c2, rfl, rfl⟩ | ⟨c2, rfl, rfl⟩⟩ := hY
    · exact absurd c2 c1
    · exact ⟨by rw [e1, e2, q6], P, S, T, B, S2, T2, h1, h2, h3, h4, h5, ⟨q1, q2, q3, q4, q5, q6⟩, h7, h8⟩
theorem rl_corner {P S T B S2 T2 : Nat} {a a1 b b1 : Nat → Nat → Int32} {g g2 : Nat → Nat → Int64} {n n1 m m1 : Nat → Int32} {i : Int32} {j : Int32} {x : Int32} {y : Int32} {r1 r2 : Int32} (h : RL0 P S T B S2 T2 a n b m) (hX : TX_corner P S T B a g n i j x y r1 a1 n1) (hY : TY_corner P S2 T2 B b g2 m i j x y r2 b1 m1) : r1 = r2 ∧ ∃ P S T B S2 T2, RL0 P S T B S2 T2 a1 n1 b1 m1 := by
  obtain ⟨h1, h2, h3, h4, h5, h6, h7, ⟨q1, q2, q3⟩⟩ := h
  obtain ⟨e1, ⟨c1, rfl, rfl⟩ | ⟨c1, rfl, rfl⟩⟩ := hX
  · obtain ⟨e2, ⟨c2, rfl, rfl⟩ | ⟨c2, rfl, rfl⟩⟩ := hY
    · refine ⟨by rw [e1, e2], P, S, T, B, S2, T2, h1, h2, ?_, h4, h5, h6, h7, ?_, ?_, ?_⟩
      · intro k hk
        show upd (a 39) _ _ k = 0 ∨ upd (a 39) _ _ k = 1
        by_cases e : k = (9 * j + i).toNatClampNeg
        · rw [e, upd_at]; exact nar_b 1
        · rw [upd_ne e]; exact h3 k hk
      · show upd (a 39) _ _ = upd (b 14) _ _
        rw [q1]
      · show upd (a 40) _ _ = upd (b 15) _ _
        rw [q2]
      · show upd (a 41) _ _ = upd (b 16) _ _
        rw [q3]
    · exact absurd c1 c2
  · obtain ⟨e2, ⟨c2, rfl, rfl⟩ | ⟨c2, rfl, rfl⟩⟩ := hY
    · exact absurd c2 c1
    · exact ⟨by rw [e1, e2], P, S, T, B, S2, T2, h1, h2, h3, h4, h5, h6, h7, q1, q2, q3⟩
theorem rl_lose {P S T B S2 T2 : Nat} {a a1 b b1 : Nat → Nat → Int32} {g g2 : Nat → Nat → Int64} {n n1 m m1 : Nat → Int32} {i : Int32} {j : Int32} {r1 r2 : Int32} (h : RL0 P S T B S2 T2 a n b m) (hX : TX_lose P S T B a g n i j r1 a1 n1) (hY : TY_lose P S2 T2 B b g2 m i j r2 b1 m1) : r1 = r2 ∧ ∃ P S T B S2 T2, RL0 P S T B S2 T2 a1 n1 b1 m1 := by
  obtain ⟨h1, h2, h3, h4, h5, h6, h7, ⟨q1, q2, q3⟩⟩ := h
  obtain ⟨e1, ⟨c1, rfl, rfl⟩ | ⟨c1, rfl, rfl⟩⟩ := hX
  · obtain ⟨e2, ⟨c2, rfl, rfl⟩ | ⟨c2, rfl, rfl⟩⟩ := hY
    · refine ⟨by rw [e1, e2, q1], P, S, T, B, S2, T2, h1, h2, ?_, h4, h5, h6, h7, ?_, q2, q3⟩
      · intro k hk
        show upd (a 39) _ _ k = 0 ∨ upd (a 39) _ _ k = 1
        by_cases e : k = (9 * j + i).toNatClampNeg
        · rw [e, upd_at]; exact nar_b 0
        · rw [upd_ne e]; exact h3 k hk
      · show upd (a 39) _ _ = upd (b 14) _ _
        rw [q1]
    · exact absurd c1 c2
  · obtain ⟨e2, ⟨c2, rfl, rfl⟩ | ⟨c2, rfl, rfl⟩⟩ := hY
    · exact absurd c2 c1
    · exact ⟨by rw [e1, e2, q1], P, S, T, B, S2, T2, h1, h2, h3, h4, h5, h6, h7, q1, q2, q3⟩
theorem fx_feed {P S T B : Nat} {a : Nat → Nat → Int32} {n : Nat → Int32} {T' : Nat} {f : Nat → Int32} (h : XI P S T B a n) (hT : T' ≤ 120) : XI P S T' B (va_up a 5 f) (va_up n 1 (nI T')) := by
  obtain ⟨x0, xP, x1, xT, x3, xS, x4, xB, xLO, xBO, xW, xSo, xQ, xN⟩ := h
  exact ⟨x0, xP, rfl, hT, x3, xS, x4, xB, xLO, xBO, xW, xSo, xQ, xN⟩
theorem fm_feed {P S T B : Nat} {a : Nat → Nat → Int32} {n : Nat → Int32} {T' : Nat} {f : Nat → Int32} (h : YI P S T B a n) (hT : T' ≤ 120) : YI P S T' B (va_up a 3 f) (va_up n 2 (nI T')) := by
  obtain ⟨x0, xP, x1, xT, x3, xS, x4, xB, xW, xSo, xQ, xN, xD, xL⟩ := h
  exact ⟨x0, xP, rfl, hT, x3, xS, x4, xB, xW, xSo, xQ, xN, xD, xL⟩
/-- the law, the class's half: what it leaves is a state again, and all but laws and text as it was -/
def KZ (a a1 : Nat → Nat → Int32) (n n1 : Nat → Int32) : Prop := (∀ q, q < 5 ∨ 17 ≤ q → a1 q = a q) ∧ n1 5 = n 5
theorem fx_law {P S T B : Nat} {a a1 : Nat → Nat → Int32} {g : Nat → Nat → Int64} {n n1 : Nat → Int32} {x r : Int32} (h : XI P S T B a n) (hX : TX_law P S T B a g n x r a1 n1) : ∃ S' T', XI P S' T' B a1 n1 ∧ KZ a a1 n n1 := by
  obtain ⟨x0, xP, x1, xT, x3, xS, x4, xB, xLO, xBO, xW, xSo, xQ, xN⟩ := h
  rcases hX with ⟨_, _, rfl, rfl⟩ | ⟨_, _, _, rfl, rfl⟩ | ⟨_, hS, R, fa, c, _, ⟨_, _, rfl, rfl⟩ | ⟨_, _, ⟨k, hk, _, _, rfl⟩, rfl⟩⟩
  · exact ⟨S, T, ⟨x0, xP, x1, xT, x3, xS, x4, xB, xLO, xBO, xW, xSo, xQ, xN⟩, fun _ _ => rfl, rfl⟩
  · exact ⟨S, T, ⟨x0, xP, x1, xT, x3, xS, x4, xB, xLO, xBO, xW, xSo, xQ, xN⟩, fun _ _ => rfl, rfl⟩
  · have e : ∀ q, q < 9 ∨ 17 ≤ q → va_up a (9 + S) R q = a q := fun q hq => va_up_ne _ _ (by omega)
    refine ⟨S, 0, ?_, fun q hq => e q (by omega), rfl⟩
    rw [XI, e 8 (by omega), e 24 (by omega), e 20 (by omega), e 19 (by omega), e 21 (by omega), e 22 (by omega)]
    exact ⟨x0, xP, rfl, by omega, x3, xS, x4, xB, xLO, xBO, xW, xSo, xQ, xN⟩
  · have e : ∀ q, q < 6 ∨ q = 7 ∨ 17 ≤ q → va_up (va_up (va_up a (9 + S) R) 6 (upd (a 6) S x)) 8 (upd (shf (a 8) S k) k (nI S)) q = a q := fun q hq => by rw [va_up_ne _ _ (by omega), va_up_ne _ _ (by omega), va_up_ne _ _ (by omega)]
    refine ⟨S + 1, 0, ?_, fun q hq => e q (by omega), rfl⟩
    rw [XI, va_up_self, e 24 (by omega), e 20 (by omega), e 19 (by omega), e 21 (by omega), e 22 (by omega)]
    exact ⟨x0, xP, rfl, by omega, rfl, by omega, x4, xB, ins_bd xLO hk, xBO, xW, xSo, xQ, xN⟩
def KW (b b1 : Nat → Nat → Int32) (m m1 : Nat → Int32) : Prop := (∀ q, q < 3 ∨ 6 ≤ q → b1 q = b q) ∧ m1 1 = m 1
theorem fm_law {P S T B : Nat} {a a1 : Nat → Nat → Int32} {g : Nat → Nat → Int64} {n n1 : Nat → Int32} {x r : Int32} (h : YI P S T B a n) (hY : TY_law P S T B a g n x r a1 n1) : ∃ S' T', YI P S' T' B a1 n1 ∧ KW a a1 n n1 := by
  obtain ⟨x0, xP, x1, xT, x3, xS, x4, xB, xW, xSo, xQ, xN, xD, xL⟩ := h
  rcases hY with ⟨_, _, rfl, rfl⟩ | ⟨_, _, _, rfl, rfl⟩ | ⟨_, hS, z5, fa, c, _, _, ⟨_, _, rfl, rfl⟩ | ⟨_, _, rfl, rfl⟩⟩
  · exact ⟨S, T, ⟨x0, xP, x1, xT, x3, xS, x4, xB, xW, xSo, xQ, xN, xD, xL⟩, fun _ _ => rfl, rfl⟩
  · exact ⟨S, T, ⟨x0, xP, x1, xT, x3, xS, x4, xB, xW, xSo, xQ, xN, xD, xL⟩, fun _ _ => rfl, rfl⟩
  · exact ⟨S, 0, ⟨x0, xP, rfl, by omega, x3, xS, x4, xB, xW, xSo, xQ, xN, xD, xL⟩, fun q hq => va_up_ne _ _ (by omega), rfl⟩
  · exact ⟨S + 1, 0, ⟨x0, xP, rfl, by omega, rfl, by omega, x4, xB, xW, xSo, xQ, xN, xD, xL⟩, fun q hq => by rw [va_up_ne _ _ (by omega), va_up_ne _ _ (by omega)], rfl⟩
theorem rl_zw {P S T B S2 T2 S' T' S3 T3 : Nat} {a a1 b b1 : Nat → Nat → Int32} {n n1 m m1 : Nat → Int32} (h : RL0 P S T B S2 T2 a n b m) (hx : XI P S' T' B a1 n1) (kx : KZ a a1 n n1) (hy : YI P S3 T3 B b1 m1) (ky : KW b b1 m m1) : RL0 P S' T' B S3 T3 a1 n1 b1 m1 := by
  obtain ⟨_, _, h3, h4, h5, h6, h7, h8⟩ := h
  obtain ⟨x1, x2⟩ := kx
  obtain ⟨y1, y2⟩ := ky
  refine ⟨hx, hy, ?_, ?_, ?_, ?_, ?_, ?_⟩
  · rw [x1 39 (by omega)]; exact h3
  · rw [x2, y2]; exact h4
  · rw [x1 2 (by omega), x1 3 (by omega), y1 1 (by omega), y1 2 (by omega)]; exact h5
  · rw [x1 18 (by omega), x1 19 (by omega), x1 20 (by omega), x1 21 (by omega), x1 22 (by omega), x1 23 (by omega), y1 8 (by omega), y1 9 (by omega), y1 10 (by omega), y1 11 (by omega), y1 12 (by omega), y1 13 (by omega)]; exact h6
  · rw [x1 23 (by omega)]; exact h7
  · rw [x1 39 (by omega), x1 40 (by omega), x1 41 (by omega), y1 14 (by omega), y1 15 (by omega), y1 16 (by omega)]; exact h8
theorem fx_feedK {P S T B : Nat} {a a1 : Nat → Nat → Int32} {g : Nat → Nat → Int64} {n n1 : Nat → Int32} {x r : Int32} {u : Int64} (h : XI P S T B a n) (hX : TX_feed P S T B a g n x u r a1 n1) : ∃ S' T', XI P S' T' B a1 n1 ∧ (∀ q, q ≠ 5 → a1 q = a q) ∧ n1 5 = n 5 := by
  rcases hX with ⟨_, _, rfl, rfl⟩ | ⟨k, _, _, _, ⟨_, _, rfl, rfl⟩ | ⟨hk, _, rfl, rfl⟩⟩
  · exact ⟨S, T, h, fun _ _ => rfl, rfl⟩
  · exact ⟨S, T, h, fun _ _ => rfl, rfl⟩
  · exact ⟨S, T + k, fx_feed h hk, fun q hq => va_up_ne _ _ hq, rfl⟩
theorem fm_feedK {P S T B : Nat} {a a1 : Nat → Nat → Int32} {g : Nat → Nat → Int64} {n n1 : Nat → Int32} {x r : Int32} {u : Int64} (h : YI P S T B a n) (hX : TY_feed P S T B a g n x u r a1 n1) : ∃ S' T', YI P S' T' B a1 n1 ∧ KW a a1 n n1 := by
  rcases hX with ⟨_, _, rfl, rfl⟩ | ⟨k, _, _, _, ⟨_, _, rfl, rfl⟩ | ⟨hk, _, rfl, rfl⟩⟩
  · exact ⟨S, T, h, fun _ _ => rfl, rfl⟩
  · exact ⟨S, T, h, fun _ _ => rfl, rfl⟩
  · exact ⟨S, T + k, fm_feed h hk, fun q hq => va_up_ne _ _ (by omega), rfl⟩
theorem rl_law {P S T B S2 T2 : Nat} {a a1 b b1 : Nat → Nat → Int32} {g g2 : Nat → Nat → Int64} {n n1 m m1 : Nat → Int32} {x : Int32} {r1 r2 : Int32} (h : RL0 P S T B S2 T2 a n b m) (hX : TX_law P S T B a g n x r1 a1 n1) (hY : TY_law P S2 T2 B b g2 m x r2 b1 m1) : True ∧ ∃ P S T B S2 T2, RL0 P S T B S2 T2 a1 n1 b1 m1 := by
  obtain ⟨S', T', hx, kx⟩ := fx_law h.1 hX
  obtain ⟨S3, T3, hy, ky⟩ := fm_law h.2.1 hY
  exact ⟨trivial, P, S', T', B, S3, T3, rl_zw h hx kx hy ky⟩
theorem rl_feed {P S T B S2 T2 : Nat} {a a1 b b1 : Nat → Nat → Int32} {g g2 : Nat → Nat → Int64} {n n1 m m1 : Nat → Int32} {x : Int32} {u : Int64} {r1 r2 : Int32} (h : RL0 P S T B S2 T2 a n b m) (hX : TX_feed P S T B a g n x u r1 a1 n1) (hY : TY_feed P S2 T2 B b g2 m x u r2 b1 m1) : True ∧ ∃ P S T B S2 T2, RL0 P S T B S2 T2 a1 n1 b1 m1 := by
  obtain ⟨S', T', hx, k1, k2⟩ := fx_feedK h.1 hX
  obtain ⟨S3, T3, hy, ky⟩ := fm_feedK h.2.1 hY
  exact ⟨trivial, P, S', T', B, S3, T3, rl_zw h hx ⟨fun q hq => k1 q (by omega), k2⟩ hy ky⟩
theorem ln_P {P : Nat} {x : Int32} (h : ib x P) (hP : P ≤ 12) : ∃ p, p < P ∧ x = nI p := ib_nI h (by omega)
theorem ext1 {Pr : Nat → Int32 → Prop} {f : Nat → Int32} {B : Nat} {x : Int32} (h : ∀ l, l < B → Pr l (f l)) (hx : Pr B x) : ∀ l, l < B + 1 → Pr l (upd f B x l) := by
  intro l hl
  by_cases e : l = B
  · rw [e, upd_at]; exact hx
  · rw [upd_ne e]; exact h l (by omega)
theorem ext2 {Pr : Int32 → Int32 → Prop} {f f2 : Nat → Int32} {B : Nat} {x y : Int32} (h : ∀ l, l < B → Pr (f l) (f2 l)) (hx : Pr x y) : ∀ l, l < B + 1 → Pr (upd f B x l) (upd f2 B y l) := by
  intro l hl
  by_cases e : l = B
  · rw [e, upd_at, upd_at]; exact hx
  · rw [upd_ne e, upd_ne e]; exact h l (by omega)
theorem upd_id {f : Nat → Int32} {k : Nat} {x : Int32} (h : f k = x) : upd f k x = f := by
  funext i
  by_cases e : i = k
  · rw [e, upd_at, h]
  · rw [upd_ne e]
theorem ln_s {z : Int32} (h : 0 ≤ z ∧ z ≤ 6) : ∃ k, k < 7 ∧ z = nI k := (fx_le8 h (N := 6) rfl (by decide)).elim fun k q => ⟨k, by omega, q.2⟩
def LOKp (P B : Nat) (x z p9 q u : Int32) : Prop := ((0 ≤ z ∧ z ≤ 6) ∧ (ib p9 P ∧ (z = 6 → ib u P) ∧ (¬ z = 6 → (0 ≤ q ∧ q ≤ 63))) ∧ (0 ≤ x ∧ x ≤ 20000) ∧ ((z = 1 → 1 ≤ u ∧ u ≤ 5000) ∧ (z = 2 → 1 ≤ u ∧ u ≤ 160)) ∧ B < 120)
theorem ln_facts {P B : Nat} {x z p9 q u : Int32} (h : LOKp P B x z p9 q u) (hP : P ≤ 12) : B < 120 ∧ (∃ p, p < P ∧ p9 = nI p) ∧ (∃ k, k < 7 ∧ z = nI k) ∧ (z ≠ nI 6 → ∃ k, k < 64 ∧ q = nI k) ∧ (z = nI 6 → ∃ p, p < P ∧ u = nI p) ∧ (∃ d, d ≤ 20000 ∧ x = nI d) ∧ (z = nI 1 → ∃ d, d ≤ 5000 ∧ u = nI d) := by
  obtain ⟨h1, ⟨h2, h3, h4⟩, h5, ⟨h6, h7⟩, h8⟩ := h
  refine ⟨h8, ln_P h2 hP, ln_s h1, fun e => ?_, fun e => ln_P (h3 (by rw [e]; rfl)) hP, fx_le8 h5 (N := 20000) rfl (by decide), fun e => ?_⟩
  · exact (fx_le8 (h4 (fun e2 => e (by rw [e2]; rfl))) (N := 63) rfl (by decide)).elim fun k q => ⟨k, by omega, q.2⟩
  · have h9 := h6 (by rw [e]; rfl)
    exact fx_le8 ⟨Int32.le_trans (by decide : (0 : Int32) ≤ 1) h9.1, h9.2⟩ (N := 5000) rfl (by decide)
theorem rl_line {P S T B S2 T2 : Nat} {a a1 b b1 : Nat → Nat → Int32} {g g2 : Nat → Nat → Int64} {n n1 m m1 : Nat → Int32} {x : Int32} {z : Int32} {p9 : Int32} {q : Int32} {u : Int32} {r1 r2 : Int32} (h : RL0 P S T B S2 T2 a n b m) (hX : TX_line P S T B a g n x z p9 q u r1 a1 n1) (hY : TY_line P S2 T2 B b g2 m x z p9 q u r2 b1 m1) : r1 = r2 ∧ ∃ P S T B S2 T2, RL0 P S T B S2 T2 a1 n1 b1 m1 := by
  obtain ⟨h1, h2, h3, h4, h5, ⟨q1, q2, q3, q4, q5, q6⟩, h7, h8⟩ := h
  have hB : B ≤ 120 := h1.2.2.2.2.2.2.2.1
  have hP : P ≤ 12 := h1.2.1
  obtain ⟨e1, ⟨c1, k, hk, _, _, rfl, rfl⟩ | ⟨c1, rfl, rfl⟩⟩ := hX
  · obtain ⟨e2, ⟨c2, rfl, rfl⟩ | ⟨c2, rfl, rfl⟩⟩ := hY
    · obtain ⟨hB2, f1, f2, f3, f4, f5, f6⟩ := ln_facts (show LOKp P B x z p9 q u from c1) hP
      have eB : (nI B).toNatClampNeg = B := nI_clamp (by omega)
      have ek : (nI k).toNatClampNeg = k := nI_clamp (by omega)
      rw [eB, ek]
      refine ⟨by rw [e1, e2], P, S, T, B + 1, S2, T2, ?_, ?_, h3, h4, h5, ⟨?_, ?_, ?_, ?_, ?_, ?_⟩, ?_, h8⟩
      · obtain ⟨x0, xP, x1, xT, x3, xS, x4, xB, xLO, xBO, xW, xSo, xQ, xN⟩ := h1
        exact ⟨x0, xP, x1, xT, x3, xS, rfl, by omega, xLO, ins_bd xBO hk, ext1 (Pr := fun _ y => ∃ p, p < P ∧ y = nI p) xW f1, ext1 (Pr := fun _ y => ∃ p, p < 7 ∧ y = nI p) xSo f2, ext2 (Pr := fun y t => y ≠ nI 6 → ∃ q, q < 64 ∧ t = nI q) xQ f3, ext2 (Pr := fun y t => y = nI 6 → ∃ q, q < P ∧ t = nI q) xN f4⟩
      · obtain ⟨x0, xP, x1, xT, x3, xS, x4, xB, xW, xSo, xQ, xN, xD, xL⟩ := h2
        exact ⟨x0, xP, x1, xT, x3, xS, rfl, by omega, ext1 (Pr := fun _ y => ∃ p, p < P ∧ y = nI p) xW f1, ext1 (Pr := fun _ y => ∃ p, p < 7 ∧ y = nI p) xSo f2, ext2 (Pr := fun y t => y ≠ nI 6 → ∃ q, q < 64 ∧ t = nI q) xQ f3, ext2 (Pr := fun y t => y = nI 6 → ∃ q, q < P ∧ t = nI q) xN f4, ext1 (Pr := fun _ y => ∃ p, p ≤ 20000 ∧ y = nI p) xD f5, ext2 (Pr := fun y t => y = nI 1 → ∃ q, q ≤ 5000 ∧ t = nI q) xL f6⟩
      · show upd (a 18) B x = upd (b 8) B x
        rw [q1]
      · show upd (a 19) B z = upd (b 9) B z
        rw [q2]
      · show upd (a 20) B p9 = upd (b 10) B p9
        rw [q3]
      · show upd (a 21) B q = upd (b 11) B q
        rw [q4]
      · show upd (a 22) B u = upd (b 12) B u
        rw [q5]
      · show a 23 = upd (b 13) B (vp_nar .boolean 0)
        rw [← q6, upd_id (by rw [h7 B (Nat.le_refl B)]; rfl)]
      · exact fun l hl => h7 l (by omega)
    · exact absurd c1 c2
  · obtain ⟨e2, ⟨c2, rfl, rfl⟩ | ⟨c2, rfl, rfl⟩⟩ := hY
    · exact absurd c2 c1
    · exact ⟨by rw [e1, e2], P, S, T, B, S2, T2, h1, h2, h3, h4, h5, ⟨q1, q2, q3, q4, q5, q6⟩, h7, h8⟩
theorem FB_u {f : Nat → Int32} {t m z b o b2 o2 : Nat} (h : FB f t m z b o) (h2 : FB f t m z b2 o2) : b = b2 ∧ o = o2 := by
  obtain ⟨a1, a2, a3, a4, a5, a6, a7, a8⟩ := h
  obtain ⟨c1, c2, c3, c4, c5, c6, c7, c8⟩ := h2
  refine ⟨?_, ?_⟩
  · rcases Nat.lt_trichotomy b b2 with q | q | q
    · exact absurd (c4 b a1 q) a3
    · exact q
    · exact absurd (a4 b2 c1 q) c3
  · rcases Nat.lt_trichotomy o o2 with q | q | q
    · exact absurd (c8 o a5 q) a7
    · exact q
    · exact absurd (a8 o2 c5 q) c7
theorem LIE_u {f X Y : Nat → Int32} {ci cj : Nat} {x y x2 y2 : Int32} (h : LIE f X Y ci cj x y) (h2 : LIE f X Y ci cj x2 y2) : x = x2 ∧ y = y2 := by
  rcases h with ⟨k, rfl, rfl⟩ | ⟨k, b, o, F, rfl, rfl⟩ | ⟨k, N, b, o, F, rfl, rfl⟩
  · rcases h2 with ⟨_, rfl, rfl⟩ | ⟨k2, _⟩ | ⟨k2, _⟩
    · exact ⟨rfl, rfl⟩
    · exact absurd k2 k
    · exact absurd k2 k
  · rcases h2 with ⟨k2, _⟩ | ⟨_, b2, o2, F2, rfl, rfl⟩ | ⟨_, N2, _⟩
    · exact absurd k k2
    · obtain ⟨rfl, rfl⟩ := FB_u F F2
      exact ⟨rfl, rfl⟩
    · exact absurd F (N2 b o)
  · rcases h2 with ⟨k2, _⟩ | ⟨_, b2, o2, F2, _⟩ | ⟨_, _, b2, o2, F2, rfl, rfl⟩
    · exact absurd k k2
    · exact absurd F2 (N b2 o2)
    · obtain ⟨rfl, rfl⟩ := FB_u F F2
      exact ⟨rfl, rfl⟩
theorem NOL_no {f X Y : Nat → Int32} {ci cj : Nat} {x y : Int32} (h : NOL f ci cj) (h2 : LIE f X Y ci cj x y) : False := by
  rcases h2 with ⟨k2, _⟩ | ⟨_, b, o, F, _⟩ | ⟨_, _, b, o, F, _⟩
  · exact k2 h.1
  · exact h.2.1 b o F
  · exact h.2.2 b o F
theorem cs_eq (G H : Nat → Int64) (x0 y0 x1 y1 x2 y2 x3 y3 : Int32) : cs4 (ar4 G x0 x1 x2 x3) (ar4 H y0 y1 y2 y3) = cs5 x3 y3 x0 y0 x1 y1 x2 y2 x3 y3 := by
  show 0 + (x0.toInt64 * y1.toInt64 - x1.toInt64 * y0.toInt64) + (x1.toInt64 * y2.toInt64 - x2.toInt64 * y1.toInt64) + (x2.toInt64 * y3.toInt64 - x3.toInt64 * y2.toInt64) + (x3.toInt64 * y0.toInt64 - x0.toInt64 * y3.toInt64) = 0 + (x3.toInt64 * y0.toInt64 - x0.toInt64 * y3.toInt64) + (x0.toInt64 * y1.toInt64 - x1.toInt64 * y0.toInt64) + (x1.toInt64 * y2.toInt64 - x2.toInt64 * y1.toInt64) + (x2.toInt64 * y3.toInt64 - x3.toInt64 * y2.toInt64)
  rw [Int64.zero_add, Int64.zero_add, Int64.add_comm _ (x3.toInt64 * y0.toInt64 - x0.toInt64 * y3.toInt64), ← Int64.add_assoc, ← Int64.add_assoc]
theorem nI_inj {a b : Nat} (h : nI a = nI b) (ha : a < 2 ^ 31) (hb : b < 2 ^ 31) : a = b := fx_eqI h ha hb
theorem rl_area {P S T B S2 T2 : Nat} {a a1 b b1 : Nat → Nat → Int32} {g g2 : Nat → Nat → Int64} {n n1 m m1 : Nat → Int32} {q : Int32} {r1 r2 : Int64} (h : RL0 P S T B S2 T2 a n b m) (hX : TX_area P S T B a g n q r1 a1 n1) (hY : TY_area P S2 T2 B b g2 m q r2 b1 m1) : r1 = r2 ∧ ∃ P S T B S2 T2, RL0 P S T B S2 T2 a1 n1 b1 m1 := by
  have hk := rl_kk h hX.1 hY.1
  refine ⟨?_, P, S, T, B, S2, T2, hk⟩
  obtain ⟨_, _, _, _, _, _, _, ⟨q1, q2, q3⟩⟩ := h
  rcases hX.2 with ⟨c1, rfl⟩ | ⟨k, h1, rfl, hx⟩
  · rcases hY.2 with ⟨_, rfl⟩ | ⟨k2, h2, e2, _⟩
    · rfl
    · exact absurd ⟨by rw [e2]; exact Int32.not_lt.mp (nI_nneg (by omega)), by rw [e2]; exact (nI_leI (b := 63) (by omega) (by decide)).mpr h2⟩ c1
  · rcases hY.2 with ⟨c2, _⟩ | ⟨k2, h2, e2, hy⟩
    · exact absurd ⟨Int32.not_lt.mp (nI_nneg (by omega)), (nI_leI (b := 63) (by omega) (by decide)).mpr h1⟩ c2
    · obtain rfl := nI_inj e2 (by omega) (by omega)
      rw [q1, q2, q3] at hx
      rcases hx with ⟨x0, y0, x1, y1, x2, y2, x3, y3, L0, L1, L2, L3, rfl⟩ | ⟨N, rfl⟩
      · rcases hy with ⟨x, y, u0, v0, u1, v1, u2, v2, u3, v3, M, M0, M1, M2, M3, rfl⟩ | ⟨N, rfl⟩
        · obtain ⟨rfl, rfl⟩ := LIE_u L0 M0
          obtain ⟨rfl, rfl⟩ := LIE_u L1 M1
          obtain ⟨rfl, rfl⟩ := LIE_u L2 M2
          obtain ⟨rfl, rfl⟩ := LIE_u L3 M3
          obtain ⟨rfl, rfl⟩ := LIE_u L3 M
          exact cs_eq _ _ _ _ _ _ _ _ _ _
        · rcases N with N | N | N | N
          · exact (NOL_no N L0).elim
          · exact (NOL_no N L1).elim
          · exact (NOL_no N L2).elim
          · exact (NOL_no N L3).elim
      · rcases hy with ⟨x, y, u0, v0, u1, v1, u2, v2, u3, v3, M, M0, M1, M2, M3, rfl⟩ | ⟨_, rfl⟩
        · rcases N with N | N | N | N
          · exact (NOL_no N M0).elim
          · exact (NOL_no N M1).elim
          · exact (NOL_no N M2).elim
          · exact (NOL_no N M3).elim
        · rfl
theorem RL0_0 : RL0 0 0 0 0 0 0 fx_a0 fx_n0 fm_a0 fm_n0 := by
  refine ⟨⟨rfl, by omega, rfl, by omega, rfl, by omega, rfl, by omega, ?_, ?_, ?_, ?_, ?_, ?_⟩, ⟨rfl, by omega, rfl, by omega, rfl, by omega, rfl, by omega, ?_, ?_, ?_, ?_, ?_, ?_⟩, fun k hk => Or.inr (if_pos hk), rfl, ⟨rfl, rfl⟩, ⟨rfl, rfl, rfl, rfl, rfl, rfl⟩, fun _ _ => rfl, rfl, rfl, rfl⟩ <;> exact fun i hi => absurd hi (Nat.not_lt_zero _)
