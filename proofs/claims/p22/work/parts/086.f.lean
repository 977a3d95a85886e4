theorem nI_ib {k N : Nat} (h : k < N) (hN : N < 2 ^ 31) : ib (nI k) N := vp_in_iff.mp (vp_in_nI h hN)
theorem kn_y {B N : Nat} {y : Int32} (hB : B < 1000) (hN : N ≤ B) (hy : (y = -1 ∧ N = B) ∨ y = nI N) : -1 ≤ y ∧ y ≤ nI B := by
  have e1 : (-1 : Int32).toInt = -1 := by decide
  rw [le_i, le_i, e1, nI_toInt (by omega)]
  rcases hy with ⟨rfl, _⟩ | rfl
  · rw [e1]; omega
  · rw [nI_toInt (by omega)]; omega
theorem kn_N {B N N0 : Nat} {y : Int32} (hB : B < 1000) (hN : N ≤ B) (hy : (y = -1 ∧ N = B) ∨ y = nI N) (h : LNS B y N0) : N0 = N := by
  obtain ⟨h1, h2⟩ := h
  rcases hy with ⟨rfl, e⟩ | rfl
  · rw [if_pos rfl] at h2
    have := nI_inj h2 (by omega) (by omega)
    omega
  · have : ¬ nI N = -1 := fun w => by
      have e := congrArg Int32.toInt w
      rw [nI_toInt (by omega), show (-1 : Int32).toInt = -1 by decide] at e
      omega
    rw [if_neg this] at h2
    exact (nI_inj h2 (by omega) (by omega)).symm
theorem q_person {ad : Nat → Nat} {ty : Nat → ClassId} {P : Nat} {a : Nat → Nat → Int32} {g : Nat → Nat → Int64} {n : Nat → Int32} (hI : XI P 0 0 0 a n) (hP : P < 12) {v9 : Option Value} {w9 : va_W} (h9 : (fun v w => v = some (.int (if ((-20000 ≤ (-12000 : Int32) ∧ (-12000 : Int32) ≤ 20000) ∧ (-20000 ≤ (0 : Int32) ∧ (0 : Int32) ≤ 20001)) then (if P < 12 then nI P else -1004) else -1002)) ∧ w = if ((-20000 ≤ (-12000 : Int32) ∧ (-12000 : Int32) ≤ 20000) ∧ (-20000 ≤ (0 : Int32) ∧ (0 : Int32) ≤ 20001)) ∧ P < 12 then fx_w ad ty (va_up (va_up a 2 (upd (a 2) (nI P).toNatClampNeg (-12000 : Int32))) 3 (upd (a 3) (nI P).toNatClampNeg (0 : Int32))) g (va_up n 0 (nI (P + 1))) else fx_w ad ty a g n) v9 w9) : v9 = some (.int (nI P)) ∧ ∃ (a1 : Nat → Nat → Int32) (n1 : Nat → Int32), w9 = fx_w ad ty a1 g n1 ∧ XI (P + 1) 0 0 0 a1 n1 ∧ a1 2 = upd (a 2) P (-12000) ∧ a1 3 = upd (a 3) P 0 ∧ (∀ r, r ≠ 2 → r ≠ 3 → a1 r = a r) ∧ (∀ j, j ≠ 0 → n1 j = n j) := by
  obtain ⟨h1, h2⟩ := h9
  have c0 : ((-20000 : Int32) ≤ -12000 ∧ (-12000 : Int32) ≤ 20000) ∧ ((-20000 : Int32) ≤ 0 ∧ (0 : Int32) ≤ 20001) := by decide
  rw [if_pos c0, if_pos hP] at h1
  rw [if_pos ⟨c0, hP⟩, nI_clamp (by omega)] at h2
  obtain ⟨x0, xP, x1, xT, x3, xS, x4, xB, xLO, xBO, xW, xSo, xQ, xN⟩ := hI
  refine ⟨h1, _, _, h2, ⟨rfl, by omega, x1, xT, x3, xS, x4, xB, xLO, xBO, fun l hl => absurd hl (Nat.not_lt_zero l), xSo, xQ, fun l hl => absurd hl (Nat.not_lt_zero l)⟩, rfl, rfl, fun r r2 r3 => ?_, fun j hj => va_up_ne _ _ hj⟩
  rw [va_up_ne _ _ r3, va_up_ne _ _ r2]
theorem q_line {ad : Nat → Nat} {ty : Nat → ClassId} {P B : Nat} {a : Nat → Nat → Int32} {g : Nat → Nat → Int64} {n : Nat → Int32} {x z p9 q u : Int32} (hI : XI P 0 0 B a n) (ho : ORD B (a 18) (a 24)) (hok : LOKp P B x z p9 q u) {v9 : Option Value} {w9 : va_W} (h9 : (fun v w => v = some (.int (if ¬ (0 ≤ z ∧ z ≤ 6) then -1002 else if ¬ (ib p9 P ∧ (z = 6 → ib u P) ∧ (¬ z = 6 → (0 ≤ q ∧ q ≤ 63))) then -1001 else if ¬ ((0 ≤ x ∧ x ≤ 20000) ∧ ((z = 1 → 1 ≤ u ∧ u ≤ 5000) ∧ (z = 2 → 1 ≤ u ∧ u ≤ 160))) then -1002 else if B < 120 then nI B else -1004)) ∧ (((0 ≤ z ∧ z ≤ 6) ∧ (ib p9 P ∧ (z = 6 → ib u P) ∧ (¬ z = 6 → (0 ≤ q ∧ q ≤ 63))) ∧ (0 ≤ x ∧ x ≤ 20000) ∧ ((z = 1 → 1 ≤ u ∧ u ≤ 5000) ∧ (z = 2 → 1 ≤ u ∧ u ≤ 160)) ∧ B < 120) → ∃ k, k ≤ B ∧ (∀ i, k ≤ i → i < B → x < a 18 (a 24 i).toNatClampNeg) ∧ (k = 0 ∨ a 18 (a 24 (k - 1)).toNatClampNeg ≤ x) ∧ w = fx_w ad ty (va_up (va_up (va_up (va_up (va_up (va_up a 18 (upd (a 18) (nI B).toNatClampNeg x)) 19 (upd (a 19) (nI B).toNatClampNeg z)) 24 (upd (shf (a 24) B k) (nI k).toNatClampNeg (nI B))) 20 (upd (a 20) (nI B).toNatClampNeg p9)) 21 (upd (a 21) (nI B).toNatClampNeg q)) 22 (upd (a 22) (nI B).toNatClampNeg u)) g (va_up n 4 (nI (B + 1)))) ∧ (¬ ((0 ≤ z ∧ z ≤ 6) ∧ (ib p9 P ∧ (z = 6 → ib u P) ∧ (¬ z = 6 → (0 ≤ q ∧ q ≤ 63))) ∧ (0 ≤ x ∧ x ≤ 20000) ∧ ((z = 1 → 1 ≤ u ∧ u ≤ 5000) ∧ (z = 2 → 1 ≤ u ∧ u ≤ 160)) ∧ B < 120) → w = fx_w ad ty a g n)) v9 w9) : v9 = some (.int (nI B)) ∧ ∃ (a1 : Nat → Nat → Int32) (n1 : Nat → Int32), w9 = fx_w ad ty a1 g n1 ∧ LFX P B a n a1 n1 x z p9 q u := by
  obtain ⟨h1, h2, _⟩ := h9
  obtain ⟨k, hk, k1, k2, hw⟩ := h2 hok
  obtain ⟨c1, c2, c3, c4, c5⟩ := hok
  rw [if_neg (fun w => w c1), if_neg (fun w => w c2), if_neg (fun w => w ⟨c3, c4⟩), if_pos c5] at h1
  exact ⟨h1, _, _, hw, lfx_of hI ho ⟨c1, c2, c3, c4, c5⟩ hk k1 k2⟩
theorem q_out {ad : Nat → Nat} {ty : Nat → ClassId} {F G M B : Nat} {a : Nat → Nat → Int32} {g : Nat → Nat → Int64} {n Fm : Nat → Int32} {acr : Int32} (hk : BKF F G M B a n Fm acr) {x y : Int32} {k N : Nat} (hx : x = nI k) (hkB : k < B) (hM : M ≤ N) (hN : N ≤ B) (hy : (y = -1 ∧ N = B) ∨ y = nI N) {v9 : Option Value} {w9 : va_W} (h9 : (fun v w => (¬ ib x B ∧ v = some (.int (-1001)) ∧ w = fx_w ad ty a g n) ∨ (ib x B ∧ ¬ (-1 ≤ y ∧ y ≤ nI B) ∧ v = some (.int (-1002)) ∧ w = fx_w ad ty a g n) ∨ (ib x B ∧ (-1 ≤ y ∧ y ≤ nI B) ∧ ∃ N, LNS B y N ∧ ∃ (z : Nat → Nat → Int32) (u : Nat → Int32), THP 2 0 0 B a n N 20000 z u ∧ v = some (.int (z 26 x.toNatClampNeg)) ∧ w = fx_w ad ty z g u)) v9 w9) : ∃ (z : Nat → Nat → Int32) (u : Nat → Int32), RES F G M B N a z u Fm acr 20000 ∧ v9 = some (.int (z 26 k)) ∧ w9 = fx_w ad ty z g u := by
  have hB := bk_B hk.1
  have hM2 := bk_M hk.1
  have cx : ib x B := by rw [hx]; exact nI_ib hkB (by omega)
  have cy : -1 ≤ y ∧ y ≤ nI B := kn_y (by omega) hN hy
  rcases h9 with ⟨c, _⟩ | ⟨_, c, _⟩ | ⟨_, _, N0, hl, z, u, ht, rfl, rfl⟩
  · exact absurd cx c
  · exact absurd cy c
  · have eN := kn_N (by omega) hN hy hl
    rw [eN] at ht
    refine ⟨z, u, res22 hk hM hN ht, ?_, rfl⟩
    rw [hx, nI_clamp (by omega)]
theorem q_holds {ad : Nat → Nat} {ty : Nat → ClassId} {F G M B : Nat} {a : Nat → Nat → Int32} {g : Nat → Nat → Int64} {n Fm : Nat → Int32} {acr : Int32} (hk : BKF F G M B a n Fm acr) {y q : Int32} (hy : 0 ≤ y ∧ y ≤ 20000) (hq : 0 ≤ q ∧ q ≤ 5) {v9 : Option Value} {w9 : va_W} (h9 : (fun v w => (¬ (0 ≤ (9 : Int32) ∧ (9 : Int32) ≤ 63) ∧ v = some (.int (-1001)) ∧ w = fx_w ad ty a g n) ∨ ((0 ≤ (9 : Int32) ∧ (9 : Int32) ≤ 63) ∧ ¬ ((0 ≤ y ∧ y ≤ 20000) ∧ (-1 ≤ (-1 : Int32) ∧ (-1 : Int32) ≤ nI B) ∧ (0 ≤ q ∧ q ≤ 5)) ∧ v = some (.int (-1002)) ∧ w = fx_w ad ty a g n) ∨ (∃ k, k ≤ 63 ∧ (9 : Int32) = nI k ∧ ((0 ≤ y ∧ y ≤ 20000) ∧ (-1 ≤ (-1 : Int32) ∧ (-1 : Int32) ≤ nI B) ∧ (0 ≤ q ∧ q ≤ 5)) ∧ ∃ N, LNS B (-1 : Int32) N ∧ ∃ (z : Nat → Nat → Int32) (u1 u2 : Nat → Int32), THP 2 0 0 B a n N y z u1 ∧ (∀ j, j ≠ 6 → j ≠ 7 → u2 j = u1 j) ∧ ∃ r, HDA z u1 B k y q r ∧ v = some (.int r) ∧ w = fx_w ad ty z g u2)) v9 w9) : ∃ (z : Nat → Nat → Int32) (u u2 : Nat → Int32) (r : Int32), RES F G M B B a z u Fm acr y ∧ HDA z u B 9 y q r ∧ v9 = some (.int r) ∧ w9 = fx_w ad ty z g u2 ∧ BKF F G M B z u2 Fm acr ∧ z 23 = a 23 := by
  have hB := bk_B hk.1
  have hM2 := bk_M hk.1
  have cu : (-1 : Int32) ≤ -1 ∧ (-1 : Int32) ≤ nI B := kn_y (N := B) (by omega) (Nat.le_refl _) (Or.inl ⟨rfl, rfl⟩)
  rcases h9 with ⟨c, _⟩ | ⟨_, c, _⟩ | ⟨k, k63, ek, _, N0, hl, z, u1, u2, ht, hu, r, hd, rfl, rfl⟩
  · exact absurd (by decide) c
  · exact absurd ⟨hy, cu, hq⟩ c
  · have eN := kn_N (N := B) (by omega) (Nat.le_refl _) (Or.inl ⟨rfl, rfl⟩) hl
    rw [eN] at ht
    have e9 : k = 9 := nI_inj (ek.symm.trans (show (9 : Int32) = nI 9 from rfl)) (by omega) (by decide)
    rw [e9] at hd
    have hr := res22 hk hB.1 (Nat.le_refl _) ht
    exact ⟨z, u1, u2, r, hr, hd, rfl, rfl, bkf_cg (rs_bk hr).1 (fun _ _ => rfl) hu, (rs_bk hr).2⟩
theorem q_hold {ad : Nat → Nat} {ty : Nat → ClassId} {F G M B : Nat} {a : Nat → Nat → Int32} {g : Nat → Nat → Int64} {n Fm : Nat → Int32} {acr : Int32} (hk : BKF F G M B a n Fm acr) {x : Int32} (hx : x = 0 ∨ x = 1) {v9 : Option Value} {w9 : va_W} (h9 : (fun v w => (¬ ib x 2 ∧ v = some (.int (-1001)) ∧ w = fx_w ad ty a g n) ∨ (ib x 2 ∧ ¬ (-1 ≤ (-1 : Int32) ∧ (-1 : Int32) ≤ nI B) ∧ v = some (.int (-1002)) ∧ w = fx_w ad ty a g n) ∨ (ib x 2 ∧ (-1 ≤ (-1 : Int32) ∧ (-1 : Int32) ≤ nI B) ∧ ∃ N, LNS B (-1 : Int32) N ∧ ∃ (z : Nat → Nat → Int32) (u : Nat → Int32), THP 2 0 0 B a n N 20000 z u ∧ v = some (.int (nI (cnH z x 64))) ∧ w = fx_w ad ty z g u)) v9 w9) : ∃ (z : Nat → Nat → Int32) (u : Nat → Int32), RES F G M B B a z u Fm acr 20000 ∧ v9 = some (.int (nI (cnH z x 64))) ∧ w9 = fx_w ad ty z g u := by
  have hB := bk_B hk.1
  have hM2 := bk_M hk.1
  have cx : ib x 2 := by rcases hx with rfl | rfl <;> exact ⟨by decide, by decide⟩
  have cu : (-1 : Int32) ≤ -1 ∧ (-1 : Int32) ≤ nI B := kn_y (N := B) (by omega) (Nat.le_refl _) (Or.inl ⟨rfl, rfl⟩)
  rcases h9 with ⟨c, _⟩ | ⟨_, c, _⟩ | ⟨_, _, N0, hl, z, u, ht, rfl, rfl⟩
  · exact absurd cx c
  · exact absurd cu c
  · have eN := kn_N (N := B) (by omega) (Nat.le_refl _) (Or.inl ⟨rfl, rfl⟩) hl
    rw [eN] at ht
    exact ⟨z, u, res22 hk hB.1 (Nat.le_refl _) ht, rfl, rfl⟩
theorem q_count {ad : Nat → Nat} {ty : Nat → ClassId} {F G M B : Nat} {a : Nat → Nat → Int32} {g : Nat → Nat → Int64} {n Fm : Nat → Int32} {acr : Int32} (hk : BKF F G M B a n Fm acr) (h23 : ¬ a 23 1 = 0) {v9 : Option Value} {w9 : va_W} (h9 : (fun v w => ((5 : Int32) = 0 ∧ v = some (.int (nI 2)) ∧ w = fx_w ad ty a g n) ∨ ((5 : Int32) = 1 ∧ v = some (.int (nI 0)) ∧ w = fx_w ad ty a g n) ∨ ((5 : Int32) = 2 ∧ v = some (.int (nI B)) ∧ w = fx_w ad ty a g n) ∨ ((5 : Int32) = 3 ∧ v = some (.int (nI (cst (a 23) B))) ∧ w = fx_w ad ty a g n) ∨ ((5 : Int32) = 4 ∧ v = some (.int (nI 0)) ∧ w = fx_w ad ty a g n) ∨ (¬ (5 ≤ (5 : Int32) ∧ (5 : Int32) ≤ 10) ∧ ((5 : Int32).toInt < 0 ∨ 4 < (5 : Int32).toInt) ∧ v = some (.int (-1002)) ∧ w = fx_w ad ty a g n) ∨ ((5 ≤ (5 : Int32) ∧ (5 : Int32) ≤ 10) ∧ ∃ (z : Nat → Nat → Int32) (u : Nat → Int32), THP 2 0 0 B a n B 20000 z u ∧ ∃ r, CWA z B (5 : Int32) r ∧ v = some (.int r) ∧ w = fx_w ad ty z g u)) v9 w9) : v9 = some (.int 1) ∧ ∃ (z : Nat → Nat → Int32) (u : Nat → Int32), w9 = fx_w ad ty z g u := by
  have hB := bk_B hk.1
  have hF := bk_F hk.1
  rcases h9 with ⟨c, _⟩ | ⟨c, _⟩ | ⟨c, _⟩ | ⟨c, _⟩ | ⟨c, _⟩ | ⟨c, _⟩ | ⟨_, z, u, ht, r, hr, rfl, rfl⟩
  · exact absurd c (by decide)
  · exact absurd c (by decide)
  · exact absurd c (by decide)
  · exact absurd c (by decide)
  · exact absurd c (by decide)
  · exact absurd (by decide) c
  · refine ⟨?_, z, u, rfl⟩
    have e := rs_cnE (res22 hk hB.1 (Nat.le_refl _) ht) (by rw [show (20000 : Int32).toInt = 20000 by decide]; omega) h23
    rcases hr with ⟨_, rfl⟩ | ⟨c, _⟩ | ⟨c, _⟩ | ⟨c, _⟩ | ⟨c, _⟩ | ⟨c, _⟩
    · rw [e]
    · exact absurd c (by decide)
    · exact absurd c (by decide)
    · exact absurd c (by decide)
    · exact absurd c (by decide)
    · exact absurd c (by decide)
theorem q_strike {ad : Nat → Nat} {ty : Nat → ClassId} {F G M B : Nat} {a : Nat → Nat → Int32} {g : Nat → Nat → Int64} {n Fm : Nat → Int32} {acr : Int32} (hk : BKF F G M B a n Fm acr) (h23 : a 23 1 = 0) {v9 : Option Value} {w9 : va_W} (h9 : (fun v w => v = some (.int (if ib (1 : Int32) B then (if a 23 (1 : Int32).toNatClampNeg = 0 then 0 else 1) else -1001)) ∧ w = if ib (1 : Int32) B then fx_w ad ty (va_up a 23 (upd (a 23) (1 : Int32).toNatClampNeg (vp_nar .boolean (1 : Int32)))) g n else fx_w ad ty a g n) v9 w9) : v9 = some (.int 0) ∧ ∃ (a1 : Nat → Nat → Int32), w9 = fx_w ad ty a1 g n ∧ BKF F G M B a1 n Fm acr ∧ ¬ a1 23 1 = 0 := by
  have hB := bk_B hk.1
  have hM2 := bk_M hk.1
  obtain ⟨h1, h2⟩ := h9
  have cx : ib (1 : Int32) B := nI_ib (k := 1) (by omega) (by omega)
  rw [if_pos cx, cl_1, if_pos h23] at h1
  rw [if_pos cx, cl_1] at h2
  refine ⟨h1, _, h2, ?_, ?_⟩
  · obtain ⟨⟨xi, b2, b3, b4, b5, b6, b7, b8, b9, b10, b11, b12⟩, hF, hA⟩ := hk
    have eq : ∀ r l, ¬ (r = 23 ∧ l = 1) → va_up a 23 (upd (a 23) 1 (vp_nar .boolean 1)) r l = a r l := fun r l hr => by
      by_cases e : r = 23
      · rw [e, va_up_self, upd_ne (fun w => hr ⟨e, w⟩)]
      · rw [va_up_ne _ _ e]
    have e23 : ∀ l, 2 ≤ l → va_up a 23 (upd (a 23) 1 (vp_nar .boolean 1)) 23 l = a 23 l := fun l hl => eq 23 l (fun w => by omega)
    refine ⟨⟨xi, b2, b3, ⟨b4.1, b4.2.1, fun l hl => (e23 l hl).trans (b4.2.2 l hl)⟩, ⟨b5.1, b5.2.1, b5.2.2.1, b5.2.2.2.1, (eq 23 0 (by decide)).trans b5.2.2.2.2⟩, b6, fun l l2 lM => ?_, b8, b9, b10, b11, ?_⟩, hF, hA⟩
    · obtain ⟨y1, y2, y3, y4, y5, y6⟩ := b7 l l2 lM
      exact ⟨y1, y2, y3, y4, y5, (e23 l l2).trans y6⟩
    · rcases b12 with w | ⟨w, w1, w2, w3, w4, w5⟩
      · exact Or.inl w
      · exact Or.inr ⟨w, w1, w2, w3, w4, (e23 M (by omega)).trans w5⟩
  · show ¬ upd (a 23) 1 (vp_nar .boolean 1) 1 = 0
    rw [upd_at]; decide
/-! what holds tells -/
section HDA22
variable {F G M B : Nat} {a z : Nat → Nat → Int32} {n u Fm : Nat → Int32} {acr y r : Int32}
theorem hd_0 (h : HDA z u B 9 y 0 r) : r = HOL z 9 := by
  rcases h with ⟨_, e⟩ | ⟨c, _⟩ | ⟨c, _⟩ | ⟨c, _⟩ | ⟨c, _⟩ | ⟨c, _⟩
  · exact e
  all_goals exact absurd c (by decide)
theorem hd_1 (h : HDA z u B 9 y 1 r) : r = if z 33 9 = -1 then (if RLR (u 5) y 9 then 4 else 0) else if z 27 (z 33 9).toNatClampNeg = 2 ∧ z 31 (z 33 9).toNatClampNeg ≤ y then 3 else z 27 (z 33 9).toNatClampNeg := by
  rcases h with ⟨c, _⟩ | ⟨_, e⟩ | ⟨c, _⟩ | ⟨c, _⟩ | ⟨c, _⟩ | ⟨c, _⟩
  · exact absurd c (by decide)
  · exact e
  all_goals exact absurd c (by decide)
theorem hd_2 (h : HDA z u B 9 y 2 r) : r = z 33 9 := by
  rcases h with ⟨c, _⟩ | ⟨c, _⟩ | ⟨_, e⟩ | ⟨c, _⟩ | ⟨c, _⟩ | ⟨c, _⟩
  · exact absurd c (by decide)
  · exact absurd c (by decide)
  · exact e
  all_goals exact absurd c (by decide)
theorem hd_4 (h : HDA z u B 9 y 4 r) (h33 : z 33 9 = 0) (hB : B < 1000) : r = (lkF z 0 (z 18 0) y B).2.1 := by
  rcases h with ⟨c, _⟩ | ⟨c, _⟩ | ⟨c, _⟩ | ⟨c, _⟩ | ⟨_, ⟨c, _⟩ | ⟨e, t, he, e1, _, _, e2⟩⟩ | ⟨c, _⟩
  · exact absurd c (by decide)
  · exact absurd c (by decide)
  · exact absurd c (by decide)
  · exact absurd c (by decide)
  · rw [h33] at c; exact absurd c (by decide)
  · have : e = 0 := nI_inj (e1.symm.trans (h33.trans (show (0 : Int32) = nI 0 from rfl))) (by omega) (by decide)
    rw [this] at e2; exact e2
  · exact absurd c (by decide)
/-- the holder on a day from the filing on -/
theorem an_h0 (hr : RES F G M B B a z u Fm acr y) (hd : HDA z u B 9 y 0 r) (hy : (F : Int) ≤ y.toInt) : r = 0 := by
  obtain ⟨e9, e28, _⟩ := rs_33 hr hy
  rw [hd_0 hd]
  unfold HOL
  rw [e9, if_neg (by decide), cl_0]; exact e28
theorem an_hn (hr : RES F G M B B a z u Fm acr y) (hd : HDA z u B 9 y 0 r) (hy : y.toInt < F) : r = -1 := by
  rw [hd_0 hd]
  exact if_pos (rs_no hr hy)
theorem an_h2 (hr : RES F G M B B a z u Fm acr y) (hd : HDA z u B 9 y 2 r) (hy : (F : Int) ≤ y.toInt) : r = 0 := by rw [hd_2 hd]; exact (rs_33 hr hy).1
/-- how the quarter stands: open to be proved -/
theorem an_l (hr : RES F G M B B a z u Fm acr y) (hd : HDA z u B 9 y 1 r) (hy : (F : Int) ≤ y.toInt) (hl : y.toInt < G ∨ ¬ a 23 1 = 0 ∨ ¬ DUE F G Fm acr = 0) : r = 1 := by
  obtain ⟨e9, _, _⟩ := rs_33 hr hy
  have e27 := rs_27 hr hy hl
  rw [hd_1 hd, e9, if_neg (by decide), cl_0, e27, if_neg (fun w => absurd w.1 (by decide))]
theorem an_p (hr : RES F G M B B a z u Fm acr y) (hd : HDA z u B 9 y 1 r) (hy : (G : Int) ≤ y.toInt) (h23 : a 23 1 = 0) (hD : DUE F G Fm acr = 0) : r = if y.toInt < (G : Int) + 100 then 2 else 3 := by
  obtain ⟨hk, _⟩ := rs_bk hr
  have hF := bk_F hk.1
  obtain ⟨e9, _, _⟩ := rs_33 hr (by omega)
  obtain ⟨e27, e31⟩ := rs_pr hr hy h23 hD
  rw [hd_1 hd, e9, if_neg (by decide), cl_0, e27, e31]
  have t : (nI (G + 100)).toInt = (G : Int) + 100 := by rw [nI_toInt (by omega)]; omega
  by_cases c : y.toInt < (G : Int) + 100
  · rw [if_neg (fun w => by have := w.2; rw [le_i, t] at this; omega), if_pos c]
  · rw [if_pos ⟨rfl, by rw [le_i, t]; omega⟩, if_neg c]
theorem an_d (hr : RES F G M B B a z u Fm acr y) (hd : HDA z u B 9 y 4 r) (hFG : F < G) (hy : y.toInt = (G : Int) - 1) : r = nI (cL Fm F (G - F)) := by
  obtain ⟨hk, _⟩ := rs_bk hr
  have hB := bk_B hk.1
  have hM2 := bk_M hk.1
  obtain ⟨e9, _, _⟩ := rs_33 hr (by omega)
  rw [hd_4 hd e9 (by omega)]
  exact rs_days hr hB.1 hFG hy rfl
end HDA22
