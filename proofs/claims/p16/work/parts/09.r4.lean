/-- what the text and the laws want of the two states -/
def RL1 (P S T B S2 T2 : Nat) (a : Nat → Nat → Int32) (n : Nat → Int32) (b : Nat → Nat → Int32) (m : Nat → Int32) : Prop :=
  RL0 P S T B S2 T2 a n b m ∧ (S2 = S ∧ T2 = T ∧ n 2 = m 3 ∧ TXA (a 5) (b 3) T) ∧ LRW S a b ∧ ORD B (a 18) (a 24)
theorem RL1_0 : RL1 0 0 0 0 0 0 fx_a0 fx_n0 fm_a0 fm_n0 :=
  ⟨RL0_0, ⟨rfl, rfl, by decide, fun j h => absurd h (Nat.not_lt_zero j)⟩, ⟨fun i h => absurd h (Nat.not_lt_zero i), fun i h => absurd h (Nat.not_lt_zero i), by decide, ord_0⟩, ord_0⟩
theorem RL0_S {P S T B S2 T2 : Nat} {a b : Nat → Nat → Int32} {n m : Nat → Int32} (h : RL0 P S T B S2 T2 a n b m) : (n 3 = nI S ∧ S ≤ 8) ∧ (n 1 = nI T ∧ T ≤ 120) ∧ (n 4 = nI B ∧ B ≤ 120) ∧ (m 4 = nI S2 ∧ S2 ≤ 8) ∧ (m 2 = nI T2 ∧ T2 ≤ 120) := by
  obtain ⟨⟨x0, xP, x1, xT, x3, xS, x4, xB, _⟩, ⟨y0, yP, y2, yT, y4, yS, y5, yB, _⟩, _⟩ := h
  exact ⟨⟨x3, xS⟩, ⟨x1, xT⟩, ⟨x4, xB⟩, ⟨y4, yS⟩, ⟨y2, yT⟩⟩
/-- what a call keeps that has to do neither with text nor with laws -/
def KE (a : Nat → Nat → Int32) (n : Nat → Int32) (a1 : Nat → Nat → Int32) (n1 : Nat → Int32) : Prop := (∀ q, 4 < q → q < 17 → a1 q = a q) ∧ n1 1 = n 1 ∧ n1 2 = n 2 ∧ n1 3 = n 3
def KF (b : Nat → Nat → Int32) (m : Nat → Int32) (b1 : Nat → Nat → Int32) (m1 : Nat → Int32) : Prop := (∀ q, 2 < q → q < 7 → b1 q = b q) ∧ m1 2 = m 2 ∧ m1 3 = m 3 ∧ m1 4 = m 4
theorem KX.ke {a a1 : Nat → Nat → Int32} {n n1 : Nat → Int32} (h : KX a n a1 n1) : KE a n a1 n1 := ⟨fun q h1 h2 => h.1 q (by omega), h.2 1 (by omega), h.2 2 (by omega), h.2 3 (by omega)⟩
theorem KY.kf {a a1 : Nat → Nat → Int32} {n n1 : Nat → Int32} (h : KY a n a1 n1) : KF a n a1 n1 := ⟨fun q h1 h2 => h.1 q (by omega), h.2 2 (by omega), h.2 3 (by omega), h.2 4 (by omega)⟩
theorem lrw_k {S : Nat} {a b a1 b1 : Nat → Nat → Int32} (h : LRW S a b) (ha : ∀ q, 5 < q → q < 17 → a1 q = a q) (hb : ∀ q, 3 < q → q < 7 → b1 q = b q) (hS : S ≤ 8) : LRW S a1 b1 := by
  obtain ⟨h1, h2, h3, h4⟩ := h
  refine ⟨fun i hi => ?_, fun i hi q hq => ?_, fun q hq => ?_, ?_⟩
  · rw [ha 6 (by omega) (by omega), hb 4 (by omega) (by omega)]; exact h1 i hi
  · rw [ha (9 + i) (by omega) (by omega), hb 5 (by omega) (by omega)]; exact h2 i hi q hq
  · rw [hb 6 (by omega) (by omega)]; exact h3 q hq
  · rw [ha 6 (by omega) (by omega), ha 8 (by omega) (by omega)]; exact h4
theorem rl1_kp {P S T B S2 T2 P' S' T' B' S2' T2' : Nat} {a a1 b b1 : Nat → Nat → Int32} {n n1 m m1 : Nat → Int32} (h : RL1 P S T B S2 T2 a n b m) (h1 : RL0 P' S' T' B' S2' T2' a1 n1 b1 m1) (ka : KE a n a1 n1) (kb : KF b m b1 m1) (ho : ORD B' (a1 18) (a1 24)) : RL1 P' S' T' B' S2' T2' a1 n1 b1 m1 := by
  obtain ⟨h0, ⟨e1, e2, e3, e4⟩, e5, _⟩ := h
  obtain ⟨⟨s1, s2⟩, ⟨t1, t2⟩, _, ⟨u1, u2⟩, ⟨w1, w2⟩⟩ := RL0_S h0
  obtain ⟨⟨s3, s4⟩, ⟨t3, t4⟩, _, ⟨u3, u4⟩, ⟨w3, w4⟩⟩ := RL0_S h1
  obtain ⟨k1, k2, k3, k4⟩ := ka
  obtain ⟨l1, l2, l3, l4⟩ := kb
  obtain rfl := nI_inj (s3.symm.trans (k4.trans s1)) (by omega) (by omega)
  obtain rfl := nI_inj (t3.symm.trans (k2.trans t1)) (by omega) (by omega)
  obtain rfl := nI_inj (u3.symm.trans (l4.trans u1)) (by omega) (by omega)
  obtain rfl := nI_inj (w3.symm.trans (l2.trans w1)) (by omega) (by omega)
  refine ⟨h1, ⟨e1, e2, k3.trans (e3.trans l3.symm), ?_⟩, lrw_k e5 (fun q a b => k1 q (by omega) b) (fun q a b => l1 q (by omega) b) s2, ho⟩
  rw [k1 5 (by omega) (by omega), l1 3 (by omega) (by omega)]; exact e4
theorem rl1_ks {P S T B S2 T2 P' S' T' B' S2' T2' : Nat} {a a1 b b1 : Nat → Nat → Int32} {n n1 m m1 : Nat → Int32} (h : RL1 P S T B S2 T2 a n b m) (h1 : RL0 P' S' T' B' S2' T2' a1 n1 b1 m1) (ka : KE a n a1 n1) (kb : KF b m b1 m1) (k8 : a1 18 = a 18) (k24 : a1 24 = a 24) (k4 : n1 4 = n 4) : RL1 P' S' T' B' S2' T2' a1 n1 b1 m1 := by
  refine rl1_kp h h1 ka kb ?_
  obtain ⟨_, _, ⟨s1, s2⟩, _⟩ := RL0_S h.1
  obtain ⟨_, _, ⟨s3, s4⟩, _⟩ := RL0_S h1
  obtain rfl := nI_inj (s3.symm.trans (k4.trans s1)) (by omega) (by omega)
  rw [k8, k24]; exact h.2.2.2
theorem rl1_kk {P S T B S2 T2 : Nat} {a a1 b b1 : Nat → Nat → Int32} {n n1 m m1 : Nat → Int32} (h : RL1 P S T B S2 T2 a n b m) (hx : KX a n a1 n1) (hy : KY b m b1 m1) : RL1 P S T B S2 T2 a1 n1 b1 m1 := rl1_ks h (rl_kk h.1 hx hy) hx.ke hy.kf (hx.1 18 (by omega)) (hx.1 24 (by omega)) (hx.2 4 (by omega))
theorem rl1_sets {P S T B S2 T2 : Nat} {a a1 b b1 : Nat → Nat → Int32} {g g2 : Nat → Nat → Int64} {n n1 m m1 : Nat → Int32} {x : Int32} {y : Int32} {r1 r2 : Int32} (h : RL1 P S T B S2 T2 a n b m) (hX : TX_sets P S T B a g n x y r1 a1 n1) (hY : TY_sets P S2 T2 B b g2 m x y r2 b1 m1) : r1 = r2 ∧ ∃ P S T B S2 T2, RL1 P S T B S2 T2 a1 n1 b1 m1 := by
  obtain ⟨e1, rfl, rfl⟩ := hX
  obtain ⟨e2, rfl, rfl⟩ := hY
  refine ⟨?_, P, S, T, B, S2, T2, h⟩
  obtain ⟨h0, ⟨rfl, _⟩, hl, _⟩ := h
  obtain ⟨⟨_, s2⟩, _⟩ := RL0_S h0
  rw [e1, e2]
  by_cases c : x = -1 ∨ ib x S2
  · rw [if_pos c, if_pos c]
    by_cases d : 0 ≤ y ∧ y ≤ 9
    · rw [if_pos d, if_pos d]
      by_cases f : y = 9
      · rw [if_pos f, if_pos f]
        by_cases k : x = -1
        · rw [if_pos k, if_pos k]
        · rw [if_neg k, if_neg k]
          obtain ⟨j, hj, rfl⟩ := ib_nI (c.resolve_left k) (by omega)
          rw [nI_clamp (by omega)]
          exact hl.1 j hj
      · rw [if_neg f, if_neg f]
        obtain ⟨j, hj, rfl⟩ := fx_le8 d (N := 9) rfl (by decide)
        rw [nI_clamp (by omega)]
        exact vof_sbw s2 (Nat.lt_of_le_of_ne hj (fun e => f (by rw [e]; rfl))) hl c
    · rw [if_neg d, if_neg d]
  · rw [if_neg c, if_neg c]
theorem rl1_lawOf {P S T B S2 T2 : Nat} {a a1 b b1 : Nat → Nat → Int32} {g g2 : Nat → Nat → Int64} {n n1 m m1 : Nat → Int32} {x : Int32} {r1 r2 : Int32} (h : RL1 P S T B S2 T2 a n b m) (hX : TX_lawOf P S T B a g n x r1 a1 n1) (hY : TY_lawOf P S2 T2 B b g2 m x r2 b1 m1) : r1 = r2 ∧ ∃ P S T B S2 T2, RL1 P S T B S2 T2 a1 n1 b1 m1 := by
  obtain ⟨e1, rfl, rfl⟩ := hX
  obtain ⟨e2, rfl, rfl⟩ := hY
  refine ⟨?_, P, S, T, B, S2, T2, h⟩
  obtain ⟨h0, ⟨rfl, _⟩, hl, _⟩ := h
  obtain ⟨⟨_, s2⟩, _⟩ := RL0_S h0
  rw [e1, e2, iof_lfo s2 hl.2.2.2 hl.1]
theorem rl1_place {P S T B S2 T2 : Nat} {a a1 b b1 : Nat → Nat → Int32} {g g2 : Nat → Nat → Int64} {n n1 m m1 : Nat → Int32}  {r1 r2 : Int32} (h : RL1 P S T B S2 T2 a n b m) (hX : TX_place P S T B a g n  r1 a1 n1) (hY : TY_place P S2 T2 B b g2 m  r2 b1 m1) : r1 = r2 ∧ ∃ P S T B S2 T2, RL1 P S T B S2 T2 a1 n1 b1 m1 := by
  obtain ⟨e1, rfl, rfl⟩ := hX
  obtain ⟨e2, rfl, rfl⟩ := hY
  refine ⟨?_, P, S, T, B, S2, T2, h⟩
  rw [e1, e2]; exact h.2.1.2.2.1
theorem rl1_told {P S T B S2 T2 : Nat} {a a1 b b1 : Nat → Nat → Int32} {g g2 : Nat → Nat → Int64} {n n1 m m1 : Nat → Int32} {x : Int32} {y : Int32} {r1 r2 : Int32} (h : RL1 P S T B S2 T2 a n b m) (hX : TX_told P S T B a g n x y r1 a1 n1) (hY : TY_told P S2 T2 B b g2 m x y r2 b1 m1) : r1 = r2 ∧ ∃ P S T B S2 T2, RL1 P S T B S2 T2 a1 n1 b1 m1 := by
  refine ⟨(rl_told h.1 hX hY).1, P, S, T, B, S2, T2, ?_⟩
  obtain ⟨e1, rfl, rfl⟩ := hX
  obtain ⟨e2, rfl, rfl⟩ := hY
  exact h
theorem rl1_outcome {P S T B S2 T2 : Nat} {a a1 b b1 : Nat → Nat → Int32} {g g2 : Nat → Nat → Int64} {n n1 m m1 : Nat → Int32} {x : Int32} {y : Int32} {r1 r2 : Int32} (h : RL1 P S T B S2 T2 a n b m) (hX : TX_outcome P S T B a g n x y r1 a1 n1) (hY : TY_outcome P S2 T2 B b g2 m x y r2 b1 m1) : True ∧ ∃ P S T B S2 T2, RL1 P S T B S2 T2 a1 n1 b1 m1 := by
  exact ⟨trivial, P, S, T, B, S2, T2, rl1_kk h hX.1 hY.1⟩
theorem rl1_count {P S T B S2 T2 : Nat} {a a1 b b1 : Nat → Nat → Int32} {g g2 : Nat → Nat → Int64} {n n1 m m1 : Nat → Int32} {x : Int32} {r1 r2 : Int32} (h : RL1 P S T B S2 T2 a n b m) (hX : TX_count P S T B a g n x r1 a1 n1) (hY : TY_count P S2 T2 B b g2 m x r2 b1 m1) : True ∧ ∃ P S T B S2 T2, RL1 P S T B S2 T2 a1 n1 b1 m1 := by
  exact ⟨trivial, P, S, T, B, S2, T2, rl1_kk h hX.1 hY.1⟩
theorem rl1_holds {P S T B S2 T2 : Nat} {a a1 b b1 : Nat → Nat → Int32} {g g2 : Nat → Nat → Int64} {n n1 m m1 : Nat → Int32} {x : Int32} {y : Int32} {u : Int32} {q : Int32} {r1 r2 : Int32} (h : RL1 P S T B S2 T2 a n b m) (hX : TX_holds P S T B a g n x y u q r1 a1 n1) (hY : TY_holds P S2 T2 B b g2 m x y u q r2 b1 m1) : True ∧ ∃ P S T B S2 T2, RL1 P S T B S2 T2 a1 n1 b1 m1 := by
  exact ⟨trivial, P, S, T, B, S2, T2, rl1_kk h hX.1 hY.1⟩
theorem rl1_holdings {P S T B S2 T2 : Nat} {a a1 b b1 : Nat → Nat → Int32} {g g2 : Nat → Nat → Int64} {n n1 m m1 : Nat → Int32} {x : Int32} {y : Int32} {r1 r2 : Int32} (h : RL1 P S T B S2 T2 a n b m) (hX : TX_holdings P S T B a g n x y r1 a1 n1) (hY : TY_holdings P S2 T2 B b g2 m x y r2 b1 m1) : True ∧ ∃ P S T B S2 T2, RL1 P S T B S2 T2 a1 n1 b1 m1 := by
  exact ⟨trivial, P, S, T, B, S2, T2, rl1_kk h hX.1 hY.1⟩
theorem rl1_digest {P S T B S2 T2 : Nat} {a a1 b b1 : Nat → Nat → Int32} {g g2 : Nat → Nat → Int64} {n n1 m m1 : Nat → Int32} {x : Int32} {r1 r2 : Int32} (h : RL1 P S T B S2 T2 a n b m) (hX : TX_digest P S T B a g n x r1 a1 n1) (hY : TY_digest P S2 T2 B b g2 m x r2 b1 m1) : True ∧ ∃ P S T B S2 T2, RL1 P S T B S2 T2 a1 n1 b1 m1 := by
  exact ⟨trivial, P, S, T, B, S2, T2, rl1_kk h hX.1 hY.1⟩
theorem rl1_lies {P S T B S2 T2 : Nat} {a a1 b b1 : Nat → Nat → Int32} {g g2 : Nat → Nat → Int64} {n n1 m m1 : Nat → Int32} {i : Int32} {j : Int32} {q : Int32} {r1 r2 : Int32} (h : RL1 P S T B S2 T2 a n b m) (hX : TX_lies P S T B a g n i j q r1 a1 n1) (hY : TY_lies P S2 T2 B b g2 m i j q r2 b1 m1) : True ∧ ∃ P S T B S2 T2, RL1 P S T B S2 T2 a1 n1 b1 m1 := by
  exact ⟨trivial, P, S, T, B, S2, T2, rl1_kk h hX hY⟩
theorem rl1_area {P S T B S2 T2 : Nat} {a a1 b b1 : Nat → Nat → Int32} {g g2 : Nat → Nat → Int64} {n n1 m m1 : Nat → Int32} {q : Int32} {r1 r2 : Int64} (h : RL1 P S T B S2 T2 a n b m) (hX : TX_area P S T B a g n q r1 a1 n1) (hY : TY_area P S2 T2 B b g2 m q r2 b1 m1) : r1 = r2 ∧ ∃ P S T B S2 T2, RL1 P S T B S2 T2 a1 n1 b1 m1 := by
  exact ⟨(rl_area h.1 hX hY).1, P, S, T, B, S2, T2, rl1_kk h hX.1 hY.1⟩
theorem rl1_map {P S T B S2 T2 : Nat} {a a1 b b1 : Nat → Nat → Int32} {g g2 : Nat → Nat → Int64} {n n1 m m1 : Nat → Int32} {x : Int32} {r1 r2 : Int32} (h : RL1 P S T B S2 T2 a n b m) (hX : TX_map P S T B a g n x r1 a1 n1) (hY : TY_map P S2 T2 B b g2 m x r2 b1 m1) : r1 = r2 ∧ ∃ P S T B S2 T2, RL1 P S T B S2 T2 a1 n1 b1 m1 := by
  obtain ⟨e, P', S', T', B', S3, T3, h1⟩ := rl_map h.1 hX hY
  refine ⟨e, P', S', T', B', S3, T3, rl1_ks h h1 ?_ ?_ ?_ ?_ ?_⟩
  · obtain ⟨_, ⟨_, rfl, rfl⟩ | ⟨_, rfl, rfl⟩⟩ := hX
    · exact ⟨fun q u v => by first | rfl | (repeat rw [va_up_ne _ _ (by omega)]), rfl, rfl, rfl⟩
    · exact ⟨fun q u v => rfl, rfl, rfl, rfl⟩
  · obtain ⟨_, ⟨_, rfl, rfl⟩ | ⟨_, rfl, rfl⟩⟩ := hY
    · exact ⟨fun q u v => by first | rfl | (repeat rw [va_up_ne _ _ (by omega)]), rfl, rfl, rfl⟩
    · exact ⟨fun q u v => rfl, rfl, rfl, rfl⟩
  all_goals (obtain ⟨_, ⟨_, rfl, rfl⟩ | ⟨_, rfl, rfl⟩⟩ := hX <;> rfl)
theorem rl1_person {P S T B S2 T2 : Nat} {a a1 b b1 : Nat → Nat → Int32} {g g2 : Nat → Nat → Int64} {n n1 m m1 : Nat → Int32} {x : Int32} {y : Int32} {r1 r2 : Int32} (h : RL1 P S T B S2 T2 a n b m) (hX : TX_person P S T B a g n x y r1 a1 n1) (hY : TY_person P S2 T2 B b g2 m x y r2 b1 m1) : r1 = r2 ∧ ∃ P S T B S2 T2, RL1 P S T B S2 T2 a1 n1 b1 m1 := by
  obtain ⟨e, P', S', T', B', S3, T3, h1⟩ := rl_person h.1 hX hY
  refine ⟨e, P', S', T', B', S3, T3, rl1_ks h h1 ?_ ?_ ?_ ?_ ?_⟩
  · obtain ⟨_, ⟨_, rfl, rfl⟩ | ⟨_, rfl, rfl⟩⟩ := hX
    · exact ⟨fun q u v => by first | rfl | (repeat rw [va_up_ne _ _ (by omega)]), rfl, rfl, rfl⟩
    · exact ⟨fun q u v => rfl, rfl, rfl, rfl⟩
  · obtain ⟨_, ⟨_, rfl, rfl⟩ | ⟨_, rfl, rfl⟩⟩ := hY
    · exact ⟨fun q u v => by first | rfl | (repeat rw [va_up_ne _ _ (by omega)]), rfl, rfl, rfl⟩
    · exact ⟨fun q u v => rfl, rfl, rfl, rfl⟩
  all_goals (obtain ⟨_, ⟨_, rfl, rfl⟩ | ⟨_, rfl, rfl⟩⟩ := hX <;> rfl)
theorem rl1_strike {P S T B S2 T2 : Nat} {a a1 b b1 : Nat → Nat → Int32} {g g2 : Nat → Nat → Int64} {n n1 m m1 : Nat → Int32} {x : Int32} {y : Int32} {r1 r2 : Int32} (h : RL1 P S T B S2 T2 a n b m) (hX : TX_strike P S T B a g n x y r1 a1 n1) (hY : TY_strike P S2 T2 B b g2 m x y r2 b1 m1) : r1 = r2 ∧ ∃ P S T B S2 T2, RL1 P S T B S2 T2 a1 n1 b1 m1 := by
  obtain ⟨e, P', S', T', B', S3, T3, h1⟩ := rl_strike h.1 hX hY
  refine ⟨e, P', S', T', B', S3, T3, rl1_ks h h1 ?_ ?_ ?_ ?_ ?_⟩
  · obtain ⟨_, ⟨_, rfl, rfl⟩ | ⟨_, rfl, rfl⟩⟩ := hX
    · exact ⟨fun q u v => by first | rfl | (repeat rw [va_up_ne _ _ (by omega)]), rfl, rfl, rfl⟩
    · exact ⟨fun q u v => rfl, rfl, rfl, rfl⟩
  · obtain ⟨_, ⟨_, rfl, rfl⟩ | ⟨_, rfl, rfl⟩⟩ := hY
    · exact ⟨fun q u v => by first | rfl | (repeat rw [va_up_ne _ _ (by omega)]), rfl, rfl, rfl⟩
    · exact ⟨fun q u v => rfl, rfl, rfl, rfl⟩
  all_goals (obtain ⟨_, ⟨_, rfl, rfl⟩ | ⟨_, rfl, rfl⟩⟩ := hX <;> rfl)
theorem rl1_corner {P S T B S2 T2 : Nat} {a a1 b b1 : Nat → Nat → Int32} {g g2 : Nat → Nat → Int64} {n n1 m m1 : Nat → Int32} {i : Int32} {j : Int32} {x : Int32} {y : Int32} {r1 r2 : Int32} (h : RL1 P S T B S2 T2 a n b m) (hX : TX_corner P S T B a g n i j x y r1 a1 n1) (hY : TY_corner P S2 T2 B b g2 m i j x y r2 b1 m1) : r1 = r2 ∧ ∃ P S T B S2 T2, RL1 P S T B S2 T2 a1 n1 b1 m1 := by
  obtain ⟨e, P', S', T', B', S3, T3, h1⟩ := rl_corner h.1 hX hY
  refine ⟨e, P', S', T', B', S3, T3, rl1_ks h h1 ?_ ?_ ?_ ?_ ?_⟩
  · obtain ⟨_, ⟨_, rfl, rfl⟩ | ⟨_, rfl, rfl⟩⟩ := hX
    · exact ⟨fun q u v => by first | rfl | (repeat rw [va_up_ne _ _ (by omega)]), rfl, rfl, rfl⟩
    · exact ⟨fun q u v => rfl, rfl, rfl, rfl⟩
  · obtain ⟨_, ⟨_, rfl, rfl⟩ | ⟨_, rfl, rfl⟩⟩ := hY
    · exact ⟨fun q u v => by first | rfl | (repeat rw [va_up_ne _ _ (by omega)]), rfl, rfl, rfl⟩
    · exact ⟨fun q u v => rfl, rfl, rfl, rfl⟩
  all_goals (obtain ⟨_, ⟨_, rfl, rfl⟩ | ⟨_, rfl, rfl⟩⟩ := hX <;> rfl)
theorem rl1_lose {P S T B S2 T2 : Nat} {a a1 b b1 : Nat → Nat → Int32} {g g2 : Nat → Nat → Int64} {n n1 m m1 : Nat → Int32} {i : Int32} {j : Int32} {r1 r2 : Int32} (h : RL1 P S T B S2 T2 a n b m) (hX : TX_lose P S T B a g n i j r1 a1 n1) (hY : TY_lose P S2 T2 B b g2 m i j r2 b1 m1) : r1 = r2 ∧ ∃ P S T B S2 T2, RL1 P S T B S2 T2 a1 n1 b1 m1 := by
  obtain ⟨e, P', S', T', B', S3, T3, h1⟩ := rl_lose h.1 hX hY
  refine ⟨e, P', S', T', B', S3, T3, rl1_ks h h1 ?_ ?_ ?_ ?_ ?_⟩
  · obtain ⟨_, ⟨_, rfl, rfl⟩ | ⟨_, rfl, rfl⟩⟩ := hX
    · exact ⟨fun q u v => by first | rfl | (repeat rw [va_up_ne _ _ (by omega)]), rfl, rfl, rfl⟩
    · exact ⟨fun q u v => rfl, rfl, rfl, rfl⟩
  · obtain ⟨_, ⟨_, rfl, rfl⟩ | ⟨_, rfl, rfl⟩⟩ := hY
    · exact ⟨fun q u v => by first | rfl | (repeat rw [va_up_ne _ _ (by omega)]), rfl, rfl, rfl⟩
    · exact ⟨fun q u v => rfl, rfl, rfl, rfl⟩
  all_goals (obtain ⟨_, ⟨_, rfl, rfl⟩ | ⟨_, rfl, rfl⟩⟩ := hX <;> rfl)
theorem rl1_line {P S T B S2 T2 : Nat} {a a1 b b1 : Nat → Nat → Int32} {g g2 : Nat → Nat → Int64} {n n1 m m1 : Nat → Int32} {x : Int32} {z : Int32} {p9 : Int32} {q : Int32} {u : Int32} {r1 r2 : Int32} (h : RL1 P S T B S2 T2 a n b m) (hX : TX_line P S T B a g n x z p9 q u r1 a1 n1) (hY : TY_line P S2 T2 B b g2 m x z p9 q u r2 b1 m1) : r1 = r2 ∧ ∃ P S T B S2 T2, RL1 P S T B S2 T2 a1 n1 b1 m1 := by
  obtain ⟨e, P', S', T', B', S3, T3, h1⟩ := rl_line h.1 hX hY
  obtain ⟨_, _, ⟨s1, s2⟩, _⟩ := RL0_S h.1
  obtain ⟨_, _, ⟨s3, s4⟩, _⟩ := RL0_S h1
  refine ⟨e, P', S', T', B', S3, T3, rl1_kp h h1 ?_ ?_ ?_⟩
  · obtain ⟨_, ⟨_, k, _, _, _, rfl, rfl⟩ | ⟨_, rfl, rfl⟩⟩ := hX
    · exact ⟨fun q u v => by rw [va_up_ne _ _ (by omega), va_up_ne _ _ (by omega), va_up_ne _ _ (by omega), va_up_ne _ _ (by omega), va_up_ne _ _ (by omega), va_up_ne _ _ (by omega)], rfl, rfl, rfl⟩
    · exact ⟨fun q u v => rfl, rfl, rfl, rfl⟩
  · obtain ⟨_, ⟨_, rfl, rfl⟩ | ⟨_, rfl, rfl⟩⟩ := hY
    · exact ⟨fun q u v => by rw [va_up_ne _ _ (by omega), va_up_ne _ _ (by omega), va_up_ne _ _ (by omega), va_up_ne _ _ (by omega), va_up_ne _ _ (by omega), va_up_ne _ _ (by omega)], rfl, rfl, rfl⟩
    · exact ⟨fun q u v => rfl, rfl, rfl, rfl⟩
  · obtain ⟨_, ⟨_, k, hk, q1, q2, rfl, rfl⟩ | ⟨_, rfl, rfl⟩⟩ := hX
    · have eB : B' = B + 1 := nI_inj (s3.symm.trans (show (va_up n 4 (nI (B + 1))) 4 = nI (B + 1) from rfl)) (by omega) (by omega)
      rw [eB]
      show ORD (B + 1) (upd (a 18) (nI B).toNatClampNeg x) (upd (shf (a 24) B k) (nI k).toNatClampNeg (nI B))
      rw [nI_clamp (by omega), nI_clamp (by omega)]
      exact ord_ins h.2.2.2 hk (by omega) q1 q2
    · have eB : B' = B := nI_inj (s3.symm.trans s1) (by omega) (by omega)
      rw [eB]; exact h.2.2.2
theorem rl1_feed {P S T B S2 T2 : Nat} {a a1 b b1 : Nat → Nat → Int32} {g g2 : Nat → Nat → Int64} {n n1 m m1 : Nat → Int32} {x : Int32} {u : Int64} {r1 r2 : Int32} (h : RL1 P S T B S2 T2 a n b m) (hX : TX_feed P S T B a g n x u r1 a1 n1) (hY : TY_feed P S2 T2 B b g2 m x u r2 b1 m1) : r1 = r2 ∧ ∃ P S T B S2 T2, RL1 P S T B S2 T2 a1 n1 b1 m1 := by
  obtain ⟨_, P', S', T', B', S3, T3, h1⟩ := rl_feed h.1 hX hY
  obtain ⟨h0, ⟨rfl, rfl, e3, e4⟩, hl, ho⟩ := id h
  obtain ⟨⟨s1, s2⟩, ⟨t1, t2⟩, ⟨r1, r2⟩, ⟨u1, u2⟩, ⟨w1, w2⟩⟩ := RL0_S h0
  rcases hX with ⟨c1, rfl, rfl, rfl⟩ | ⟨k, hk, rfl, hk1, ⟨c1, rfl, rfl, rfl⟩ | ⟨c1, rfl, rfl, rfl⟩⟩
  · rcases hY with ⟨c2, rfl, rfl, rfl⟩ | ⟨k2, hk2, rfl, hk12, _⟩
    · exact ⟨rfl, P, S2, T2, B, S2, T2, h⟩
    · exact absurd ⟨hk12, (nI_leI (b := 8) (by omega) (by decide)).mpr hk2⟩ c1
  · rcases hY with ⟨c2, rfl, rfl, rfl⟩ | ⟨k2, hk2, e5, hk12, ⟨c2, rfl, rfl, rfl⟩ | ⟨c2, rfl, rfl, rfl⟩⟩
    · exact absurd ⟨hk1, (nI_leI (b := 8) (by omega) (by decide)).mpr hk⟩ c2
    · exact ⟨rfl, P, S2, T2, B, S2, T2, h⟩
    · obtain rfl := nI_inj e5 (by omega) (by omega)
      exact absurd c2 c1
  · rcases hY with ⟨c2, rfl, rfl, rfl⟩ | ⟨k2, hk2, e5, hk12, ⟨c2, rfl, rfl, rfl⟩ | ⟨c2, rfl, rfl, rfl⟩⟩
    · exact absurd ⟨hk1, (nI_leI (b := 8) (by omega) (by decide)).mpr hk⟩ c2
    · obtain rfl := nI_inj e5 (by omega) (by omega)
      exact absurd c1 c2
    · obtain rfl := nI_inj e5 (by omega) (by omega)
      obtain ⟨⟨s3, s4⟩, ⟨t3, t4⟩, ⟨r3, r4⟩, ⟨u3, u4⟩, ⟨w3, w4⟩⟩ := RL0_S h1
      obtain rfl := nI_inj (s3.symm.trans s1) (by omega) (by omega)
      obtain rfl := nI_inj (u3.symm.trans u1) (by omega) (by omega)
      obtain rfl := nI_inj (r3.symm.trans r1) (by omega) (by omega)
      have q1 : T' = T2 + k := nI_inj (t3.symm.trans (show (va_up n 1 (nI (T2 + k))) 1 = nI (T2 + k) from rfl)) (by omega) (by omega)
      have q2 : T3 = T2 + k := nI_inj (w3.symm.trans (show (va_up m 2 (nI (T2 + k))) 2 = nI (T2 + k) from rfl)) (by omega) (by omega)
      refine ⟨rfl, P', S3, T', B', S3, T3, h1, ⟨rfl, by omega, e3, ?_⟩, ?_, ho⟩
      · rw [q1]
        exact bR_ap _ _ T2 u k e4 k
      · exact lrw_k hl (fun q a b => va_up_ne _ _ (by omega)) (fun q a b => va_up_ne _ _ (by omega)) s2
theorem rl1_law {P S T B S2 T2 : Nat} {a a1 b b1 : Nat → Nat → Int32} {g : Nat → Nat → Int64} {n n1 m m1 : Nat → Int32} {x : Int32} {r1 r2 : Int32} (h : RL1 P S T B S2 T2 a n b m) (hX : TX_law P S T B a g n x r1 a1 n1) (hY : TY_law P S2 T2 B b fm_g0 m x r2 b1 m1) : r1 = r2 ∧ ∃ P S T B S2 T2, RL1 P S T B S2 T2 a1 n1 b1 m1 := by
  obtain ⟨_, P', S', T', B', S3, T3, h1⟩ := rl_law h.1 hX hY
  obtain ⟨h0, ⟨rfl, rfl, e3, e4⟩, hl, ho⟩ := id h
  obtain ⟨⟨s1, s2⟩, ⟨t1, t2⟩, ⟨r1, r2⟩, ⟨u1, u2⟩, ⟨w1, w2⟩⟩ := RL0_S h0
  rcases hX with ⟨c1, rfl, rfl, rfl⟩ | ⟨c1, d1, rfl, rfl, rfl⟩ | ⟨c1, d1, R, fa, c, hR, hE⟩
  · rcases hY with ⟨c2, rfl, rfl, rfl⟩ | ⟨c2, _⟩ | ⟨c2, _⟩
    · exact ⟨rfl, P, S2, T2, B, S2, T2, h⟩
    · exact absurd c2 c1
    · exact absurd c2 c1
  · rcases hY with ⟨c2, _⟩ | ⟨c2, d2, rfl, rfl, rfl⟩ | ⟨c2, d2, _⟩
    · exact absurd c1 c2
    · exact ⟨rfl, P, S2, T2, B, S2, T2, h⟩
    · exact absurd d2 d1
  · rcases hY with ⟨c2, _⟩ | ⟨c2, d2, _⟩ | ⟨c2, d2, z5, fa2, cc, hz, hM, hF⟩
    · exact absurd c1 c2
    · exact absurd d1 d2
    · obtain ⟨rfl, rfl, eR⟩ := rp_dt hR (mp_rp e4 hM)
      obtain ⟨⟨s3, s4⟩, ⟨t3, t4⟩, ⟨r3, r4⟩, ⟨u3, u4⟩, ⟨w3, w4⟩⟩ := RL0_S h1
      obtain ⟨l1, l2, l3, l4⟩ := hl
      rcases hE with ⟨f1, rfl, rfl, rfl⟩ | ⟨f1, rfl, ⟨k, hk, k1, k2, rfl⟩, rfl⟩
      · rcases hF with ⟨_, rfl, rfl, rfl⟩ | ⟨f2, _⟩
        · obtain rfl := nI_inj (s3.symm.trans s1) (by omega) (by omega)
          obtain rfl := nI_inj (u3.symm.trans u1) (by omega) (by omega)
          obtain rfl := nI_inj (r3.symm.trans r1) (by omega) (by omega)
          have q1 : T' = 0 := nI_inj (t3.symm.trans rfl) (by omega) (by omega)
          have q2 : T3 = 0 := nI_inj (w3.symm.trans rfl) (by omega) (by omega)
          refine ⟨rfl, P', S3, T', B', S3, T3, h1, ⟨rfl, by omega, rfl, fun j hj => absurd hj (by omega)⟩, ⟨?_, ?_, ?_, ?_⟩, ?_⟩
          · intro i hi
            rw [va_up_ne (k := 9 + S3) (j := 6) _ _ (by omega)]
            exact l1 i hi
          · intro i hi q hq
            rw [va_up_ne (k := 9 + S3) (j := 9 + i) _ _ (by omega), show (va_up b 5 z5) 5 = z5 from rfl, hz (9 * i + q) (by omega)]
            exact l2 i hi q hq
          · exact l3
          · rw [va_up_ne (k := 9 + S3) (j := 6) _ _ (by omega), va_up_ne (k := 9 + S3) (j := 8) _ _ (by omega)]
            exact l4
          · rw [va_up_ne (k := 9 + S3) (j := 18) _ _ (by omega), va_up_ne (k := 9 + S3) (j := 24) _ _ (by omega)]
            exact ho
        · exact absurd f2 f1
      · rcases hF with ⟨f2, _⟩ | ⟨_, rfl, rfl, rfl⟩
        · exact absurd f1 f2
        · have q3 : S' = S2 + 1 := nI_inj (s3.symm.trans rfl) (by omega) (by omega)
          have q4 : S3 = S2 + 1 := nI_inj (u3.symm.trans rfl) (by omega) (by omega)
          obtain rfl := nI_inj (r3.symm.trans r1) (by omega) (by omega)
          have q1 : T' = 0 := nI_inj (t3.symm.trans rfl) (by omega) (by omega)
          have q2 : T3 = 0 := nI_inj (w3.symm.trans rfl) (by omega) (by omega)
          have hrd : fa = -1 ∧ rdI R (-1) := by
            rcases hR with ⟨g1, _, g2⟩ | ⟨_, g2, _⟩ | ⟨_, _, _, g2, _⟩
            · exact ⟨g2, rs_in T2 (Nat.le_refl _) _ _ g1⟩
            · exact absurd (f1.symm.trans g2) (by decide)
            · exact absurd f1 g2
          have a6 : ∀ j, j < S2 → upd (a 6) S2 x j = a 6 j := fun j hj => upd_ne (by omega)
          refine ⟨rfl, P', S', T', B', S3, T3, h1, ⟨by omega, by omega, hrd.1, fun j hj => absurd hj (by omega)⟩, ⟨?_, ?_, ?_, ?_⟩, ?_⟩
          · intro i hi
            show upd (a 6) S2 x i = upd (b 4) S2 x i
            by_cases e : i = S2
            · rw [e, upd_at, upd_at]
            · rw [upd_ne e, upd_ne e]; exact l1 i (by omega)
          · intro i hi q hq
            rw [va_up_ne (k := 8) (j := 9 + i) _ _ (by omega), va_up_ne (k := 6) (j := 9 + i) _ _ (by omega), show (va_up (va_up b 5 z5) 4 (upd (b 4) S2 x)) 5 = z5 from rfl]
            by_cases e : i = S2
            · rw [e, va_up_self]
              exact ⟨eR f1 q hq, hrd.2.2 q hq⟩
            · rw [va_up_ne (k := 9 + S2) (j := 9 + i) _ _ (by omega), hz (9 * i + q) (by omega)]
              exact l2 i (by omega) q hq
          · exact l3
          · rw [q3]
            exact ord_ins l4 hk (by omega) k1 k2
          · rw [va_up_ne (k := 8) (j := 18) _ _ (by omega), va_up_ne (k := 6) (j := 18) _ _ (by omega), va_up_ne (k := 9 + S2) (j := 18) _ _ (by omega), va_up_ne (k := 8) (j := 24) _ _ (by omega), va_up_ne (k := 6) (j := 24) _ _ (by omega), va_up_ne (k := 9 + S2) (j := 24) _ _ (by omega)]
            exact ho
