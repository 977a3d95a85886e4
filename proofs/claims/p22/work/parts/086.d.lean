section PHR
variable {F G M B N s0 s1 i : Nat} {a z : Nat → Nat → Int32} {n u : Nat → Int32} {p : Nat → Nat} {h v c acr : Int32} {Fm : Nat → Int32}
theorem phi_run (hk : BKF F G M B a n Fm acr) (hp : PO B s0 s1 a p) (hN : M ≤ N) (hNB : N ≤ B) : ∀ i, i ≤ B → (i ≤ s0 → PHI M N p B G s0 i (THR a n 0 B (nI N) i) (-1) 0 (-1)) ∧ (s0 < i → (i ≤ s1 ∨ ¬ a 23 1 = 0) → PHI M N p B G s0 i (THR a n 0 B (nI N) i) 0 1 (-1)) ∧ (s1 < i → a 23 1 = 0 → PHI M N p B G s0 i (THR a n 0 B (nI N) i) 0 (if DUE F G Fm acr = 0 then 2 else 1) (DUE F G Fm acr)) := by
  have hb := hk.1
  have hM2 := bk_M hb
  have hB := bk_B hb
  have hFG := bk_F hb
  have hs01 := hp.2.2.2.2.2
  have hs1 := hp.2.2.2.2.1.1
  intro i
  induction i with
  | zero =>
    intro _
    refine ⟨fun _ => ?_, fun w => absurd w (Nat.not_lt_zero _), fun w => absurd w (Nat.not_lt_zero _)⟩
    rcases phi_0 (M := M) (N := N) (p := p) (B := B) (G := G) (s0 := s0) (f := a) with w | w
    · exact w
    · exact absurd ⟨by omega, fun s hs => (hp.1 s hs).1⟩ w
  | succ i ih =>
    intro hi
    obtain ⟨hA, hB2, hC⟩ := ih (by omega)
    have zq : ∀ q, q < 26 ∨ 37 < q → THR a n 0 B (nI N) i q = a q := fun q hq => THR_k hq i
    obtain ⟨hpi, e24⟩ := hp.1 i (by omega)
    have hkz := bkf_cg (u := n) hk zq (fun _ _ _ => rfl)
    have hpz := po_cg hp zq
    have hnN : ∀ k : Nat, k < 120 → (nI k < nI N ↔ k < N) := fun k hk9 => by
      rw [lt_i, nI_toInt (by omega), nI_toInt (by omega)]; omega
    by_cases k0 : p i = 0
    · have ei : i = s0 := po_inj hp (by omega) hp.2.2.2.1.1 (k0.trans hp.2.2.2.1.2.symm)
      have et : THR a n 0 B (nI N) (i + 1) = TST (THR a n 0 B (nI N) i) n 0 B 0 i := THR_s (m := n) rfl rfl (by rw [e24, k0]) (by decide) ((hnN 0 (by decide)).mpr (by omega)) (bk_0 hb).2.2.2.2
      rw [et]
      refine ⟨fun w => by omega, fun _ _ => phi_F hkz.1 hpz (by omega) k0 (hA (by omega)), fun w _ => by omega⟩
    · by_cases k1 : p i = 1
      · have ei : i = s1 := po_inj hp (by omega) hs1 (k1.trans hp.2.2.2.2.1.2.symm)
        by_cases sk : a 23 1 = 0
        · have et : THR a n 0 B (nI N) (i + 1) = TST (THR a n 0 B (nI N) i) n 0 B 1 i := THR_s (m := n) rfl rfl (by rw [e24, k1]) (by decide) ((hnN 1 (by decide)).mpr (by omega)) sk
          rw [et]
          refine ⟨fun w => by omega, fun _ w => ?_, fun _ _ => phi_P hkz.1 hpz hN (by omega) k1 hkz.2.1 hkz.2.2 (hB2 (by omega) (Or.inl (by omega)))⟩
          rcases w with w | w
          · omega
          · exact absurd sk w
        · have et : THR a n 0 B (nI N) (i + 1) = THR a n 0 B (nI N) i := THR_z rfl (by rw [e24, k1]) (by decide) (fun w => sk w.2)
          rw [et]
          exact ⟨fun w => by omega, fun _ _ => phi_skip (hB2 (by omega) (Or.inr sk)) (Or.inl (by omega)), fun _ w => absurd w sk⟩
      · by_cases kM : p i < M
        · have k23 : a 23 (p i) = 0 := (bk_ln hb (by omega) kM).2.2.2.2.2
          have et : THR a n 0 B (nI N) (i + 1) = TST (THR a n 0 B (nI N) i) n 0 B (p i) i := THR_s (m := n) rfl rfl e24 (by omega) ((hnN _ (by omega)).mpr (by omega)) k23
          rw [et]
          have is0 : i ≠ s0 := fun w => k0 (by rw [w]; exact hp.2.2.2.1.2)
          have is1 : i ≠ s1 := fun w => k1 (by rw [w]; exact hp.2.2.2.2.1.2)
          refine ⟨fun w => phi_L hkz.1 hpz hN (by omega) (by omega) kM (hA (by omega)), fun w w2 => phi_L hkz.1 hpz hN (by omega) (by omega) kM (hB2 (by omega) ?_), fun w w2 => phi_L hkz.1 hpz hN (by omega) (by omega) kM (hC (by omega) w2)⟩
          rcases w2 with w2 | w2
          · exact Or.inl (by omega)
          · exact Or.inr w2
        · rcases bk_L hb with e | ⟨e, m18, m19, m20, m21, m23⟩
          · omega
          · have eM : p i = M := by omega
            have h18 : (a 18 (p i)).toInt = 20000 := by rw [eM, m18]; exact nI_toInt (by decide)
            have is1 : s1 < i := by
              refine Classical.byContradiction fun w => ?_
              by_cases q : i = s1
              · rw [q, hp.2.2.2.2.1.2] at k1; exact k1 rfl
              · have := po_l1 hb hp (s := i) (by omega) (by omega)
                omega
            by_cases kN : p i < N
            · have et : THR a n 0 B (nI N) (i + 1) = TST (THR a n 0 B (nI N) i) n 0 B (p i) i := THR_s (m := n) rfl rfl e24 (by omega) ((hnN _ (by omega)).mpr kN) (by rw [eM]; exact m23)
              rw [et]
              refine ⟨fun w => by omega, fun w w2 => phi_M hkz.1 hpz kN (by omega) eM rfl (hB2 (by omega) ?_), fun w w2 => phi_M hkz.1 hpz kN (by omega) eM rfl (hC (by omega) w2)⟩
              rcases w2 with w2 | w2
              · omega
              · exact Or.inr w2
            · have et : THR a n 0 B (nI N) (i + 1) = THR a n 0 B (nI N) i := THR_z rfl e24 (by omega) (fun w => kN ((hnN _ (by omega)).mp w.1))
              rw [et]
              refine ⟨fun w => by omega, fun w w2 => phi_skip (hB2 (by omega) ?_) (Or.inr kN), fun w w2 => phi_skip (hC (by omega) w2) (Or.inr kN)⟩
              rcases w2 with w2 | w2
              · omega
              · exact Or.inr w2
/-- how the book stands when it is worked through for a question -/
def RES (F G M B N : Nat) (a z : Nat → Nat → Int32) (u Fm : Nat → Int32) (acr y : Int32) : Prop := ∃ p s0 s1 r h v c, PO B s0 s1 z p ∧ BKF F G M B z u Fm acr ∧ PHI M N p B G s0 r z h v c ∧ (∀ s, s < B → (s < r ↔ (z 18 (p s)).toInt ≤ y.toInt)) ∧ z 23 = a 23 ∧ ((y.toInt < F ∧ h = -1 ∧ v = 0 ∧ c = -1) ∨ ((F : Int) ≤ y.toInt ∧ h = 0 ∧ (((y.toInt < G ∨ ¬ a 23 1 = 0) ∧ v = 1 ∧ c = -1) ∨ ((G : Int) ≤ y.toInt ∧ a 23 1 = 0 ∧ c = DUE F G Fm acr ∧ v = if DUE F G Fm acr = 0 then 2 else 1))))
theorem res22 (hk : BKF F G M B a n Fm acr) (hN : M ≤ N) (hNB : N ≤ B) {y : Int32} (hX : THP 2 0 0 B a n N y z u) : RES F G M B N a z u Fm acr y := by
  have hb := hk.1
  have hM2 := bk_M hb
  have hB := bk_B hb
  obtain ⟨p, s0, s1, hp⟩ := bk_po hb
  obtain ⟨r, hr, hrB, hle, hz, hu, hq, hxi, _⟩ := hX
  have hkz := bkf_cg hk hq hu
  have hpz := po_cg hp hq
  obtain ⟨hA, hB2, hC⟩ := phi_run hk hp hN hNB r hr
  rw [← hz] at hA hB2 hC
  have e18 := hq 18 (by omega)
  have hr9 : ∀ s, s < B → (s < r ↔ (z 18 (p s)).toInt ≤ y.toInt) := fun s hs => by
    rw [e18]
    constructor
    · intro w
      have := hle s w
      rw [po_cl hb hp hs, le_i] at this
      exact this
    · intro w
      refine Classical.byContradiction fun q => ?_
      rcases hrB with e | e
      · omega
      · rw [po_cl hb hp (by omega), lt_i] at e
        by_cases e2 : s = r
        · rw [e2] at w; omega
        · have := bef_i.mp (hp.2.1 r s (by omega) hs)
          omega
  have h0 := hr9 s0 hp.2.2.2.1.1
  have h1 := hr9 s1 hp.2.2.2.2.1.1
  rw [hp.2.2.2.1.2, e18, t_F hb] at h0
  rw [hp.2.2.2.2.1.2, e18, t_G hb] at h1
  have hFG := bk_F hb
  by_cases c0 : (F : Int) ≤ y.toInt
  · by_cases c1 : (G : Int) ≤ y.toInt ∧ a 23 1 = 0
    · exact ⟨p, s0, s1, r, 0, _, _, hpz, hkz, hC (h1.mpr c1.1) c1.2, hr9, hq 23 (by omega), Or.inr ⟨c0, rfl, Or.inr ⟨c1.1, c1.2, rfl, rfl⟩⟩⟩
    · have d1 : y.toInt < G ∨ ¬ a 23 1 = 0 := by
        by_cases w : (G : Int) ≤ y.toInt
        · exact Or.inr fun w2 => c1 ⟨w, w2⟩
        · exact Or.inl (by omega)
      refine ⟨p, s0, s1, r, 0, 1, -1, hpz, hkz, hB2 (h0.mpr c0) ?_, hr9, hq 23 (by omega), Or.inr ⟨c0, rfl, Or.inl ⟨d1, rfl, rfl⟩⟩⟩
      rcases d1 with w | w
      · exact Or.inl (by omega)
      · exact Or.inr w
  · exact ⟨p, s0, s1, r, -1, 0, -1, hpz, hkz, hA (by omega), hr9, hq 23 (by omega), Or.inl ⟨by omega, rfl, rfl, rfl⟩⟩
/-! what the questions of the law are answered -/
theorem due_eqG (e : ¬ F < G) : ¬ DUE F G Fm acr = 0 := by
  have e0 : G - F = 0 := by omega
  unfold DUE
  rw [e0]
  by_cases q : (2600 : Int32) < nI G - nI F
  · rw [if_pos q]; decide
  · rw [if_neg q]
    show ¬ (if nI 0 < (1800 : Int32) then (13 : Int32) else _) = 0
    rw [if_pos (by decide)]; decide
theorem rs_bk {y : Int32} (h : RES F G M B N a z u Fm acr y) : BKF F G M B z u Fm acr ∧ z 23 = a 23 := by
  obtain ⟨p, s0, s1, r, h, v, c, h1, h2, h3, h4, h5, h6⟩ := h
  exact ⟨h2, h5⟩
theorem rs_out {y : Int32} (h : RES F G M B N a z u Fm acr y) (hy : (F : Int) ≤ y.toInt) : z 26 0 = 0 := by
  obtain ⟨p, s0, s1, r, h, v, c, h1, h2, h3, h4, h5, ⟨w, _⟩ | ⟨_, rfl, _⟩⟩ := h
  · omega
  · exact (h3.2.2.2.2.1 rfl).2.2.2.2
theorem rs_due {y : Int32} (h : RES F G M B N a z u Fm acr y) (hy : (G : Int) ≤ y.toInt) (h23 : a 23 1 = 0) : z 26 1 = DUE F G Fm acr := by
  obtain ⟨p, s0, s1, r, h, v, c, h1, h2, h3, h4, h5, h6⟩ := h
  have hFG := bk_F h2.1
  rcases h6 with ⟨w, _⟩ | ⟨_, rfl, ⟨w | w, _⟩ | ⟨_, _, rfl, _⟩⟩
  · omega
  · omega
  · exact absurd h23 w
  · exact h3.2.2.2.2.2.2.2.1
theorem rs_str {y : Int32} (h : RES F G M B N a z u Fm acr y) (h23 : ¬ a 23 1 = 0) : z 26 1 = -1 := by
  obtain ⟨p, s0, s1, r, h, v, c, h1, h2, h3, h4, h5, ⟨_, rfl, rfl, rfl⟩ | ⟨_, rfl, ⟨_, rfl, rfl⟩ | ⟨_, w, _⟩⟩⟩ := h
  · exact h3.2.2.2.2.2.2.2.1
  · exact h3.2.2.2.2.2.2.2.1
  · exact absurd w h23
theorem rs_33 {y : Int32} (h : RES F G M B N a z u Fm acr y) (hy : (F : Int) ≤ y.toInt) : z 33 9 = 0 ∧ z 28 0 = 0 ∧ (∀ q, q < 64 → q ≠ 9 → z 33 q = -1) := by
  obtain ⟨p, s0, s1, r, h, v, c, h1, h2, h3, h4, h5, ⟨w, _⟩ | ⟨_, rfl, _⟩⟩ := h
  · omega
  · exact ⟨h3.2.2.1.1, (h3.2.2.2.2.1 rfl).1, h3.2.2.1.2⟩
theorem rs_no {y : Int32} (h : RES F G M B N a z u Fm acr y) (hy : y.toInt < F) : z 33 9 = -1 := by
  obtain ⟨p, s0, s1, r, h, v, c, h1, h2, h3, h4, h5, ⟨_, rfl, rfl, rfl⟩ | ⟨w, _⟩⟩ := h
  · exact h3.2.2.1.1
  · omega
theorem rs_27 {y : Int32} (h : RES F G M B N a z u Fm acr y) (hy : (F : Int) ≤ y.toInt) (hl : y.toInt < G ∨ ¬ a 23 1 = 0 ∨ ¬ DUE F G Fm acr = 0) : z 27 0 = 1 := by
  obtain ⟨p, s0, s1, r, h, v, c, h1, h2, h3, h4, h5, ⟨w, _⟩ | ⟨_, rfl, ⟨_, rfl, rfl⟩ | ⟨w1, w2, _, rfl⟩⟩⟩ := h
  · omega
  · exact h3.2.2.2.1.1
  · rw [h3.2.2.2.1.1]
    rcases hl with w | w | w
    · omega
    · exact absurd w2 w
    · exact if_neg w
theorem rs_pr {y : Int32} (h : RES F G M B N a z u Fm acr y) (hy : (G : Int) ≤ y.toInt) (h23 : a 23 1 = 0) (hd : DUE F G Fm acr = 0) : z 27 0 = 2 ∧ z 31 0 = nI (G + 100) := by
  obtain ⟨p, s0, s1, r, h, v, c, h1, h2, h3, h4, h5, h6⟩ := h
  have hFG := bk_F h2.1
  rcases h6 with ⟨w, _⟩ | ⟨_, rfl, ⟨w | w, _⟩ | ⟨_, _, _, rfl⟩⟩
  · omega
  · omega
  · exact absurd h23 w
  · have e : (if DUE F G Fm acr = 0 then (2 : Int32) else 1) = 2 := if_pos hd
    rw [e] at h3
    exact ⟨h3.2.2.2.1.1, h3.2.2.2.2.2.2.1 rfl⟩
theorem rs_last {y : Int32} (h : RES F G M B N a z u Fm acr y) (hB : B = M + 1) (hy : y.toInt = 20000) : z 26 M = if M < N then 5 else -1 := by
  obtain ⟨p, s0, s1, r, h, v, c, h1, h2, h3, h4, h5, h6⟩ := h
  have hM2 := bk_M h2.1
  obtain ⟨s, hs, es⟩ := h1.2.2.1 M (by omega)
  have := h3.2.2.2.2.2.2.2.2 s hs (by omega)
  rw [es] at this
  rw [this]
  have hr : s < r := by
    refine (h4 s hs).mpr ?_
    rw [es]
    rcases bk_L h2.1 with e | ⟨_, e, _⟩
    · omega
    · rw [e, nI_toInt (by decide), hy]; decide
  by_cases w : M < N
  · rw [if_pos ⟨hr, w⟩, if_neg (Nat.lt_irrefl M), if_pos w]
  · rw [if_neg (fun q => w q.2), if_neg w]
/-- the days lived there up to the day ahead of the proof -/
theorem rs_days {y : Int32} (h : RES F G M B N a z u Fm acr y) (hN : M ≤ N) (hFG : F < G) (hy : y.toInt = (G : Int) - 1) {x : Int32} (hx : x = y) : (lkF z 0 (z 18 0) x B).2.1 = nI (cL Fm F (G - F)) := by
  obtain ⟨p, s0, s1, r, h, v, c, h1, h2, h3, h4, h5, ⟨w, _⟩ | ⟨_, rfl, _⟩⟩ := h
  · omega
  · have hF := bk_F h2.1
    have ey : x = nI G - 1 := Int32.toInt_inj.mp (by rw [hx, hy]; exact (pk_sub_toInt (a := G) (b := 1) (by omega) (by decide)).symm)
    rw [ey, (bk_0 h2.1).1]
    exact (lk_22 h2.1 h1 h2.2.1 (h3.2.2.2.2.1 rfl).2.1 (phi_h26 h2.1 h1 hN h3 (fun s hs _ _ => by rw [h4 s hs, hy]; omega))).1
theorem rs_cnE {y : Int32} (h : RES F G M B N a z u Fm acr y) (hy : (F : Int) ≤ y.toInt) (h23 : ¬ a 23 1 = 0) : nI (cnE (z 27) 1 B) + nI (cnE (z 27) 2 B) + nI (cnE (z 27) 3 B) = 1 := by
  have h27 := rs_27 h hy (Or.inr (Or.inl h23))
  obtain ⟨p, s0, s1, r, h, v, c, h1, h2, h3, h4, h5, h6⟩ := h
  have hB := bk_B h2.1
  have hM2 := bk_M h2.1
  have g27 := h3.2.2.2.1.2
  have key : ∀ (x : Int32) (d : Nat), d + 1 ≤ B → (x = 1 → cnE (z 27) x (d + 1) = 1) ∧ (x = 2 ∨ x = 3 → cnE (z 27) x (d + 1) = 0) := by
    intro x d
    induction d with
    | zero =>
      intro _
      refine ⟨fun e => ?_, fun e => ?_⟩
      · show 0 + (if z 27 0 = x then 1 else 0) = 1
        rw [if_pos (by rw [h27, e])]
      · show 0 + (if z 27 0 = x then 1 else 0) = 0
        rw [if_neg (by rw [h27]; rcases e with rfl | rfl <;> decide)]
    | succ d ih =>
      intro hd
      obtain ⟨i1, i2⟩ := ih (by omega)
      have gz := g27 (d + 1) (by omega) (by omega)
      refine ⟨fun e => ?_, fun e => ?_⟩
      · show cnE (z 27) x (d + 1) + (if z 27 (d + 1) = x then 1 else 0) = 1
        rw [i1 e, if_neg (by rw [gz, e]; decide)]
      · show cnE (z 27) x (d + 1) + (if z 27 (d + 1) = x then 1 else 0) = 0
        rw [i2 e, if_neg (by rw [gz]; rcases e with rfl | rfl <;> decide)]
  have eB : B = (B - 1) + 1 := by omega
  rw [eB, (key 1 (B - 1) (by omega)).1 rfl, (key 2 (B - 1) (by omega)).2 (Or.inl rfl), (key 3 (B - 1) (by omega)).2 (Or.inr rfl)]
  decide
theorem rs_cnH {y : Int32} (h : RES F G M B N a z u Fm acr y) (hy : (F : Int) ≤ y.toInt) : cnH z 0 64 = 1 ∧ cnH z 1 64 = 0 := by
  obtain ⟨e9, e28, ne⟩ := rs_33 h hy
  have h9 : HOL z 9 = 0 := by
    unfold HOL
    rw [e9, if_neg (by decide), cl_0]; exact e28
  have hn : ∀ q, q < 64 → q ≠ 9 → HOL z q = -1 := fun q hq hq9 => if_pos (ne q hq hq9)
  have key : ∀ d, d ≤ 64 → cnH z 0 d = (if 9 < d then 1 else 0) ∧ cnH z 1 d = 0 := by
    intro d
    induction d with
    | zero => intro _; exact ⟨rfl, rfl⟩
    | succ d ih =>
      intro hd
      obtain ⟨i1, i2⟩ := ih (by omega)
      by_cases e : d = 9
      · rw [e] at i1 i2 ⊢
        exact ⟨by rw [cnH_p h9, i1]; rfl, by rw [cnH_z (by rw [h9]; decide), i2]⟩
      · refine ⟨?_, ?_⟩
        · rw [cnH_z (by rw [hn d (by omega) e]; decide), i1]
          by_cases w : 9 < d
          · rw [if_pos w, if_pos (by omega)]
          · rw [if_neg w, if_neg (by omega)]
        · rw [cnH_z (by rw [hn d (by omega) e]; decide), i2]
  exact ⟨(key 64 (by decide)).1, (key 64 (by decide)).2⟩
end PHR
