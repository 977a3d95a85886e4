theorem nI_pl {a b : Nat} (h : a + b < 2 ^ 31) : nI a + nI b = nI (a + b) := Int32.toInt_inj.mp (by
  rw [Int32.toInt_add, nI_toInt (by omega), nI_toInt (by omega), nI_toInt h]
  exact (Int.bmod_eq_of_le (by omega) (by omega)).trans (by omega))
theorem mkF_sp {u : Nat → Nat → Int32} {e : Nat} : ∀ k d, d < 25200 → (¬ mkF u e k d = 0 ↔ ∃ j, j < k ∧ DBM u (u 17 j).toNatClampNeg 1 e ∧ (u 8 (u 17 j).toNatClampNeg).toNatClampNeg ≤ d ∧ d < (u 8 (u 17 j).toNatClampNeg + u 12 (u 17 j).toNatClampNeg).toNatClampNeg) := by
  intro k
  induction k with
  | zero =>
    intro d hd
    have e0 : mkF u e 0 d = 0 := if_pos hd
    rw [e0]
    exact ⟨fun h => absurd rfl h, fun ⟨j, hj, _⟩ => absurd hj (Nat.not_lt_zero j)⟩
  | succ k ih =>
    intro d hd
    have es : mkF u e (k + 1) = if DBM u (u 17 k).toNatClampNeg 1 e then rng (mkF u e k) (u 8 (u 17 k).toNatClampNeg).toNatClampNeg (u 8 (u 17 k).toNatClampNeg + u 12 (u 17 k).toNatClampNeg).toNatClampNeg else mkF u e k := rfl
    rw [es]
    by_cases c : DBM u (u 17 k).toNatClampNeg 1 e
    · rw [if_pos c]
      by_cases q : (u 8 (u 17 k).toNatClampNeg).toNatClampNeg ≤ d ∧ d < (u 8 (u 17 k).toNatClampNeg + u 12 (u 17 k).toNatClampNeg).toNatClampNeg
      · have ev : rng (mkF u e k) (u 8 (u 17 k).toNatClampNeg).toNatClampNeg (u 8 (u 17 k).toNatClampNeg + u 12 (u 17 k).toNatClampNeg).toNatClampNeg d = 1 := if_pos q
        rw [ev]
        exact ⟨fun _ => ⟨k, by omega, c, q⟩, fun _ => by decide⟩
      · have ev : rng (mkF u e k) (u 8 (u 17 k).toNatClampNeg).toNatClampNeg (u 8 (u 17 k).toNatClampNeg + u 12 (u 17 k).toNatClampNeg).toNatClampNeg d = mkF u e k d := if_neg q
        rw [ev, ih d hd]
        constructor
        · rintro ⟨j, hj, h⟩; exact ⟨j, by omega, h⟩
        · rintro ⟨j, hj, h⟩
          by_cases w : j = k
          · rw [w] at h; exact absurd h.2 q
          · exact ⟨j, by omega, h⟩
    · rw [if_neg c, ih d hd]
      constructor
      · rintro ⟨j, hj, h⟩; exact ⟨j, by omega, h⟩
      · rintro ⟨j, hj, h⟩
        by_cases w : j = k
        · rw [w] at h; exact absurd h.1 c
        · exact ⟨j, by omega, h⟩
section WRM
variable {P S B r i j E : Nat} {p : Nat → Nat} {t : Nat → Bool} {z u : Nat → Nat → Int32} {n m : Nat → Int32} {τ : Nat → Nat}
theorem iv_at (hx : CX P S B p t r z u n m) {l s : Nat} (hs : s < B) (h : DBH z (z 24 s).toNatClampNeg 1 l) : ∃ D N, IVL z l s D N := by
  obtain ⟨c1, ⟨d1, d2, d3, d4, d5⟩, ⟨_, _, hB, _⟩, c4, c5, ⟨y1, y2, y3, y4, y5, y6⟩, c7, hr, c8⟩ := id hx
  have ps := c4 s hs
  have es : (z 24 s).toNatClampNeg = p s := by rw [ps.2, nI_clamp (by omega)]
  obtain ⟨D, hD, eD⟩ := y5 (p s) ps.1
  obtain ⟨N, hN, eN⟩ := y6 (p s) ps.1 (by
    have := h.2.1
    rw [es, d2] at this
    rw [this]; rfl)
  exact ⟨D, N, h, by rw [es, d1]; exact eD, by rw [es, d5]; exact eN, hD, hN⟩
theorem iv_or (hx : CX P S B p t r z u n m) {l s s2 D N D2 N2 : Nat} (hs : s < s2) (hs2 : s2 < B) (h : IVL z l s D N) (h2 : IVL z l s2 D2 N2) : D ≤ D2 := by
  obtain ⟨c1, ⟨d1, d2, d3, d4, d5⟩, ⟨_, _, hB, _⟩, c4, c5, _⟩ := id hx
  have e1 : (z 24 s).toNatClampNeg = p s := by rw [(c4 s (by omega)).2, nI_clamp (by have := (c4 s (by omega)).1; omega)]
  have e2 : (z 24 s2).toNatClampNeg = p s2 := by rw [(c4 s2 hs2).2, nI_clamp (by have := (c4 s2 hs2).1; omega)]
  have := (c5 s s2 hs hs2).2
  have q1 := h.2.1
  have q2 := h2.2.1
  rw [e1, d1] at q1
  rw [e2, d1] at q2
  rw [q1, q2, nI_toInt (by have := h.2.2.2.1; omega), nI_toInt (by have := h2.2.2.2.1; omega)] at this
  omega
theorem mk_at (hx : CX P S B p t r z u n m) (hw : WR P S B p t i j z u E τ) (hj : j ≤ r) (hi : i ≤ r) {e : Nat} (he : e < E) {d : Nat} (hd : d < 25200) : ¬ mkF u e (kc t i) d = 0 ↔ ∃ s D N, s < B ∧ IVL z (p (τ e)) s D N ∧ D ≤ d ∧ d < D + N := by
  rw [mkF_sp (kc t i) d hd]
  obtain ⟨c1, ⟨d1, d2, d3, d4, d5⟩, ⟨_, _, hB, _⟩, c4, c5, c6, c7, hr, c8⟩ := id hx
  have con : ∀ s, s < B → ∀ D N, IVL z (p (τ e)) s D N → (u 8 (p s)).toNatClampNeg = D ∧ (u 8 (p s) + u 12 (p s)).toNatClampNeg = D + N := fun s hs D N h => by
    have e1 : (z 24 s).toNatClampNeg = p s := by rw [(c4 s hs).2, nI_clamp (by have := (c4 s hs).1; omega)]
    have q1 := h.2.1
    have q2 := h.2.2.1
    have q3 := h.2.2.2
    rw [e1, d1] at q1
    rw [e1, d5] at q2
    rw [q1, q2, nI_pl (by omega), nI_clamp (by omega), nI_clamp (by omega)]
    exact ⟨rfl, rfl⟩
  constructor
  · rintro ⟨k, hk, h1, h2, h3⟩
    obtain ⟨s, hs, ht, ek⟩ := kc_on (t := t) i k hk
    have eu : (u 17 k).toNatClampNeg = p s := by rw [← ek, c8 s (by omega) ht, nI_clamp (by have := (c4 s (by omega)).1; omega)]
    have hb := (db_at hx hw hj hi he (show s < B by omega) 1).mpr ⟨hs, ht, by rw [ek]; exact h1⟩
    obtain ⟨D, N, iv⟩ := iv_at hx (by omega) hb
    obtain ⟨q1, q2⟩ := con s (by omega) D N iv
    rw [eu] at h2 h3
    rw [q1] at h2
    rw [q2] at h3
    exact ⟨s, D, N, by omega, iv, h2, h3⟩
  · rintro ⟨s, D, N, hs, iv, h2, h3⟩
    obtain ⟨g1, g2, g3⟩ := (db_at hx hw hj hi he hs 1).mp iv.1
    have eu : (u 17 (kc t s)).toNatClampNeg = p s := by rw [c8 s (by omega) g2, nI_clamp (by have := (c4 s (by omega)).1; omega)]
    obtain ⟨q1, q2⟩ := con s hs D N iv
    exact ⟨kc t s, kc_lt g2 g1, g3, by rw [eu, q1]; exact h2, by rw [eu, q2]; exact h3⟩
/-- days lived and the longest gap, class and reference -/
theorem lv_wk (hx : CX P S B p t r z u n m) (hw : WR P S B p t i j z u E τ) (hj : j ≤ r) (hi : i ≤ r) {e : Nat} (he : e < E) {fr tu : Int32} (hfr : -200000 ≤ fr.toInt ∧ fr.toInt ≤ 20000) (htu : -1 ≤ tu.toInt ∧ tu.toInt ≤ 20001) {v d : Nat} (hv : (v : Int) = if fr.toInt < 0 then 0 else fr.toInt) (hd : UPT v tu d) : (lkF z (p (τ e)) fr tu B).2.1 = nI (cL (mkF u e (kc t i)) v d) ∧ (0 ≤ fr.toInt → lkG tu (lkF z (p (τ e)) fr tu B) = nI (lgN (mkF u e (kc t i)) v d)) ∧ d ≤ 25200 :=
  lk_all (fun s hs h => iv_at hx hs h) (fun s s2 D N D2 N2 a b c d => iv_or hx a b c d) (fun d hd => mk_at hx hw hj hi he hd) hfr htu hv hd
end WRM
theorem AF_bd : ∀ q, q < 9 → ∃ N, N < 100000 ∧ fx_AF q = nI N := by
  intro q hq
  have h : ∀ q, q < 9 → fx_AF q = nI (fx_AF q).toNatClampNeg ∧ (fx_AF q).toNatClampNeg < 100000 := by decide
  exact ⟨_, (h q hq).2, (h q hq).1⟩
theorem vof_bd {S q : Nat} {x : Int32} {a b : Nat → Nat → Int32} (hS : S ≤ 8) (hq : q < 9) (h : LRW S a b) : ∀ r, r ≤ S → ∀ on, ∃ N, N < 100000 ∧ vof a x q r on = nI N := by
  obtain ⟨h1, h2, h3, p, q1, _⟩ := h
  intro r
  induction r with
  | zero => intro _ on; exact AF_bd q hq
  | succ r ih =>
    intro hr on
    show ∃ N, N < 100000 ∧ (if (if a 8 r = x then (1 : Int32) else on) = 0 then vof a x q r (if a 8 r = x then 1 else on) else if a (9 + (a 8 r).toNatClampNeg) q = -1 then vof a x q r (if a 8 r = x then 1 else on) else a (9 + (a 8 r).toNatClampNeg) q) = nI N
    by_cases c : (if a 8 r = x then (1 : Int32) else on) = 0
    · rw [if_pos c]; exact ih (by omega) _
    · rw [if_neg c]
      by_cases d : a (9 + (a 8 r).toNatClampNeg) q = -1
      · rw [if_pos d]; exact ih (by omega) _
      · rw [if_neg d]
        have e : (a 8 r).toNatClampNeg = p r := by rw [(q1 r (by omega)).2, nI_clamp (by have := (q1 r (by omega)).1; omega)]
        rw [e] at d ⊢
        exact ((h2 (p r) (q1 r (by omega)).1 q hq).2).resolve_left d
theorem YL_ib {S : Nat} {x : Int32} (hS : S ≤ 8) (h : YL S x) : x = -1 ∨ ib x S := h.imp id (fun ⟨j, hj, e⟩ => by rw [e]; exact nI_ib hj (by omega))
/-- what a law says of a word, class and reference -/
theorem vs_at {P S B r : Nat} {p : Nat → Nat} {t : Nat → Bool} {z u : Nat → Nat → Int32} {n m : Nat → Int32} (hx : CX P S B p t r z u n m) {x : Int32} (h : YL S x) {q : Nat} (hq : q < 9) : vof z x q S 0 = sbw u S x q ∧ ∃ N, N < 100000 ∧ vof z x q S 0 = nI N :=
  ⟨vof_sbw hx.2.2.1.2.1 hq hx.2.2.1.1 (YL_ib hx.2.2.1.2.1 h), vof_bd hx.2.2.1.2.1 hq hx.2.2.1.1 S (Nat.le_refl _) 0⟩
theorem lfo_YL (u : Nat → Nat → Int32) (x : Int32) (S : Nat) (hS : S ≤ 8) : YL S (lfo u x S) := by
  rcases lst_lfo (b := u) (x := x) S (by omega) with ⟨e, _⟩ | ⟨j, hj, e, _⟩
  · exact Or.inl e
  · exact Or.inr ⟨j, hj, e⟩
theorem cF_cg {u v : Nat → Nat → Int32} {x : Int32} (h10 : v 10 = u 10) : ∀ E, (∀ e, e < E → v 20 e = u 20 e) → cF v x E = cF u x E := by
  intro E
  induction E with
  | zero => intro _; rfl
  | succ E ih =>
    intro h
    show cF v x E + (if v 10 (v 20 E).toNatClampNeg = x then 1 else 0) = cF u x E + (if u 10 (u 20 E).toNatClampNeg = x then 1 else 0)
    rw [ih (fun e he => h e (by omega)), h E (by omega), h10]
