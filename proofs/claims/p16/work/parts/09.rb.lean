theorem ite_cg {α : Type} {c c2 : Prop} [Decidable c] [Decidable c2] {a b b2 : α} (h : c ↔ c2) (hb : b = b2) : (if c then a else b) = if c2 then a else b2 := by
  by_cases q : c
  · rw [if_pos q, if_pos (h.mp q)]
  · rw [if_neg q, if_neg (fun w => q (h.mpr w)), hb]
section WRT
variable {P S B r i j E : Nat} {p : Nat → Nat} {t : Nat → Bool} {z u v : Nat → Nat → Int32} {n m : Nat → Int32} {τ : Nat → Nat}
theorem i32_sub {x y : Int32} (h : -2147483648 ≤ x.toInt - y.toInt) (h2 : x.toInt - y.toInt ≤ 2147483647) : (x - y).toInt = x.toInt - y.toInt := by
  rw [Int32.toInt_sub]
  exact Int.bmod_eq_of_le (by omega) (by omega)
theorem wf_eq (hx : CX P S B p t r z u n m) (hw : WR P S B p t i i z u E τ) (hi : i < r) {Q P1 : Nat} (hQ : Q < 64) (hP : P1 < 12) (k : Nat) : WFc z n S k Q P1 (iof z (z 18 k) S) (PFO z Q (z 18 k)) = MFd u m S E k Q P1 (lfo u (u 8 k) S) := by
  obtain ⟨⟨c1, c1'⟩, ⟨d1, d2, d3, d4, d5⟩, ⟨c3, hS, hB, _⟩, c4, c5, c6, c7, hr, c8⟩ := id hx
  have hl : iof z (z 18 k) S = lfo u (u 8 k) S := by rw [d1]; exact iof_lfo hS c3.2.2.2 c3.1
  have yl := lfo_YL u (u 8 k) S hS
  obtain ⟨pf1, pf2⟩ := pf_at hw.2.2.2.2.2.2.2.1 hQ (u 8 k)
  rw [hl]
  unfold WFc MFd
  rw [d1, c1, c1', c7, (vs_at hx yl (q := 0) (by decide)).1, (vs_at hx yl (q := 7) (by decide)).1, hw.2.2.2.2.2.2.2.2.1 P1 hP, pf1]
  refine ite_cg Iff.rfl (ite_cg Iff.rfl (ite_cg and_comm (ite_cg ?_ (ite_cg ?_ rfl))))
  · rcases en_at hx hw (Nat.le_of_lt hi) hQ with ⟨e1, e2, _⟩ | ⟨e, he, e1, _, e2, _, _, _, _, e4⟩
    · rw [e1, e2]; exact ⟨fun w => absurd rfl w, fun w => absurd (by decide) w⟩
    · rw [e1, e2]
      exact ⟨fun _ => nI_nn (by have := hw.1; omega), fun _ => nI_mm (by have := (enr_at hx (Nat.le_of_lt hi) e4).2.1; omega)⟩
  · rw [pf1] at pf2
    rcases pf2 with e | ⟨h, hh, e⟩
    · rw [e]; exact ⟨fun w => absurd rfl w.1, fun w => absurd (by decide) w.1⟩
    · rw [e]; exact ⟨fun w => ⟨nI_nn (by omega), w.2⟩, fun w => ⟨nI_mm (by omega), w.2⟩⟩
theorem wf_33 {k Q P1 : Nat} {lw pf : Int32} (h : WFc z n S k Q P1 lw pf = 0) : z 33 Q = -1 := by
  refine Classical.byContradiction fun q => ?_
  unfold WFc at h
  by_cases a : z 18 k - z 2 P1 < vof z lw 0 S 0
  · rw [if_pos a] at h; exact absurd h (by decide)
  · rw [if_neg a] at h
    by_cases b : z 18 k < z 3 P1
    · rw [if_pos b] at h; exact absurd h (by decide)
    · rw [if_neg b] at h
      by_cases c : RLR (n 5) (z 18 k) Q
      · rw [if_pos c] at h; exact absurd h (by decide)
      · rw [if_neg c, if_pos q] at h; exact absurd h (by decide)
/-- the deed of a line, class and reference -/
theorem wr_act (hx : CX P S B p t r z u n m) (hw : WR P S B p t i i z u E τ) (hi : i < r) (ht : t i = true) {c : Int32} {E2 : Nat} (hm : MLR u m S E (kc t i) (p i) c v E2) : ∃ τ', c = WLc z n S B (p i) ∧ WR P S B p t i (i + 1) (WLa z n S B (p i) i) v E2 τ' ∧ ∀ q, q < 18 → v q = u q := by
  obtain ⟨⟨c1, c1'⟩, ⟨d1, d2, d3, d4, d5⟩, ⟨c3, hS, hB, hP⟩, c4, c5, ⟨y1, y2, y3, y4, y5, y6⟩, c7, hr, c8⟩ := id hx
  have hir := Nat.le_of_lt hi
  obtain ⟨hk, e24⟩ := c4 i (by omega)
  obtain ⟨k, ek⟩ : ∃ k, k = p i := ⟨_, rfl⟩
  rw [← ek] at hm hk e24 ⊢
  obtain ⟨P1, hP1, eP⟩ := y1 k hk
  obtain ⟨D, hD, eD⟩ := y5 k hk
  have zP : (z 20 k).toNatClampNeg = P1 := by rw [d3, eP, nI_clamp (by omega)]
  have uP : (u 10 k).toNatClampNeg = P1 := by rw [eP, nI_clamp (by omega)]
  have w36 := hw.2.2.2.1.1 P1 (by omega)
  have hw2 := wr_mono hw (Nat.le_succ i)
  unfold WLc WLa
  rw [zP, w36]
  rcases hm with ⟨h1, rfl, rfl, rfl⟩ | ⟨h1, hm⟩
  · rw [uP] at h1
    rw [if_pos h1, if_pos h1]
    exact ⟨τ, rfl, hw2, fun _ _ => rfl⟩
  rw [uP] at h1
  have hd : ¬ ¬ u 19 P1 = 0 := fun w => w h1
  rw [if_neg hd, if_neg hd, d2]
  rcases hm with ⟨s, hc, hv⟩ | ⟨s, hc, rfl, rfl⟩ | ⟨s, hc, rfl⟩ | ⟨s, hc, rfl⟩ | ⟨s, hc, rfl, rfl⟩ | ⟨⟨s0, s3, s4, s5, s6⟩, rfl, rfl, rfl⟩
  · -- a filing
    rw [if_pos s, if_pos s]
    obtain ⟨Q, hQ, eQ⟩ := y3 k hk (by rw [s]; decide)
    have zQ : (z 21 k).toNatClampNeg = Q := by rw [d4, eQ, nI_clamp (by omega)]
    have uQ : (u 11 k).toNatClampNeg = Q := by rw [eQ, nI_clamp (by omega)]
    have ev := wf_eq hx hw hi hQ (show P1 < 12 by omega) k
    have ec : c = WFc z n S k Q P1 (iof z (z 18 k) S) (PFO z Q (z 18 k)) := by rw [hc, ev, uQ, uP]; rfl
    rw [zQ, ← ec]
    rcases hv with ⟨h0, rfl, rfl⟩ | ⟨h0, rfl, rfl⟩
    · rw [if_pos h0]
      have hl : iof z (z 18 k) S = lfo u (u 8 k) S := by rw [d1]; exact iof_lfo hS c3.2.2.2 c3.1
      refine ⟨fun e => if e = E then i else τ e, rfl, ?_, fun q hq => ?_⟩
      · rw [uP, hl]
        refine wr_file hx hw hi ht (h := P1) (q := Q) (lw := lfo u (u 8 k) S) (v := 1 <<< (nI P1 &&& 31)) hQ (by omega) (by rw [← ek]; exact eP) (by rw [← ek]; exact eQ) (wf_33 (ec.symm.trans h0)) (lfo_YL u _ S hS) (fun k2 a1 a2 a3 a4 a5 a6 a7 => ?_) ?_ ?_ ?_ ?_ ?_ ?_ rfl (fun k2 a => ?_) ?_ rfl rfl rfl rfl rfl rfl
        · unfold WFu
          rw [va_up_ne _ _ (by omega), va_up_ne _ _ (by omega), va_up_ne _ _ (by omega), va_up_ne _ _ (by omega), va_up_ne _ _ (by omega), va_up_ne _ _ (by omega), va_up_ne _ _ (by omega)]
        · rw [← ek]; rfl
        · rw [← ek]; rfl
        · rw [← ek]; rfl
        · rw [← ek]; rfl
        · rw [← ek]; rfl
        · rw [← ek]; rfl
        · unfold MFu
          rw [va_up_ne _ _ (by omega), va_up_ne _ _ (by omega), va_up_ne _ _ (by omega), va_up_ne _ _ (by omega), va_up_ne _ _ (by omega), va_up_ne _ _ (by omega), va_up_ne _ _ (by omega)]
        · rw [← ek]; rfl
      · unfold MFu
        rw [va_up_ne _ _ (by omega), va_up_ne _ _ (by omega), va_up_ne _ _ (by omega), va_up_ne _ _ (by omega), va_up_ne _ _ (by omega), va_up_ne _ _ (by omega), va_up_ne _ _ (by omega)]
    · rw [if_neg h0]
      exact ⟨τ, rfl, hw2, fun _ _ => rfl⟩
  · -- given up
    have n0 : ¬ u 9 k = 0 := by rw [s]; decide
    rw [if_neg n0, if_pos s, if_neg n0, if_pos s]
    obtain ⟨Q, hQ, eQ⟩ := y3 k hk (by rw [s]; decide)
    have zQ : (z 21 k).toNatClampNeg = Q := by rw [d4, eQ, nI_clamp (by omega)]
    have uQ : (u 11 k).toNatClampNeg = Q := by rw [eQ, nI_clamp (by omega)]
    rw [uQ] at hc ⊢
    rw [zQ]
    rcases op_at hx hw hir hQ with ⟨h, ho⟩ | ⟨e, he, h, h33, h33c, ho, hoc, h25, h27, hq2, hun, en⟩
    · have hg : ¬ MGO u Q E2 k := fun w => w.1 (by rw [ho]; decide)
      rw [if_neg hg] at hc ⊢
      rw [if_neg (fun w => h w.1), if_neg (fun w => h w.1)]
      exact ⟨τ, hc, hw2, fun _ _ => rfl⟩
    · have hE := hw.1
      have iff : (HLV z Q ∧ z 28 (z 33 Q).toNatClampNeg = z 20 k) ↔ MGO u Q E2 k := by
        unfold MGO
        rw [ho, hoc, h33c, d3, en.2.2.2.2.2.1]
        exact ⟨fun w => ⟨nI_nn (by omega), w.2⟩, fun w => ⟨h, w.2⟩⟩
      by_cases g : MGO u Q E2 k
      · rw [if_pos g] at hc ⊢
        rw [if_pos (iff.mpr g), if_pos (iff.mpr g)]
        refine ⟨τ, hc, wr_mono (wr_end hx hw hir (e := e) hQ he h33 hq2 hun (fun k2 a1 a2 a3 a4 => ?_) ?_ rfl (fun k2 a1 a2 a3 a4 => ?_) ?_ hw.2.2.2.2.2.2.2.1) (Nat.le_succ i), fun q hq => ?_⟩
        · unfold WEu; rw [va_up_ne _ _ (by omega), va_up_ne _ _ (by omega)]
        · show upd (z 27) (z 33 Q).toNatClampNeg 3 = _
          rw [h33c]
        · unfold MGu; rw [va_up_ne _ _ (by omega)]
        · show upd (u 25) (opO u (nI Q) E2).toNatClampNeg 0 = _
          rw [ho, hoc]
        · unfold MGu; rw [va_up_ne _ _ (by omega)]
      · rw [if_neg g] at hc ⊢
        rw [if_neg (fun w => g (iff.mp w)), if_neg (fun w => g (iff.mp w))]
        exact ⟨τ, hc, hw2, fun _ _ => rfl⟩
  · -- contested
    have n0 : ¬ u 9 k = 0 := by rw [s]; decide
    have n3 : ¬ u 9 k = 3 := by rw [s]; decide
    rw [if_neg n0, if_neg n3, if_pos s, if_neg n0, if_neg n3, if_pos s]
    obtain ⟨Q, hQ, eQ⟩ := y3 k hk (by rw [s]; decide)
    have zQ : (z 21 k).toNatClampNeg = Q := by rw [d4, eQ, nI_clamp (by omega)]
    have uQ : (u 11 k).toNatClampNeg = Q := by rw [eQ, nI_clamp (by omega)]
    rw [uQ] at hc
    rw [zQ]
    have hE := hw.1
    have eT : (u 8 k - 1).toInt = (D : Int) - 1 := by
      rw [eD, i32_sub (by rw [nI_toInt (by omega)]; show (-2147483648 : Int) ≤ (D : Int) - 1; omega) (by rw [nI_toInt (by omega)]; show (D : Int) - 1 ≤ 2147483647; omega), nI_toInt (by omega)]; rfl
    rcases op_at hx hw hir hQ with ⟨h, ho⟩ | ⟨e, he, h, h33, h33c, ho, hoc, h25, h27, hq2, hun, en⟩
    · have eC : WCc z S B k Q = 9 := by unfold WCc WCd; rw [if_pos h]
      rw [eC, if_neg (by decide)]
      rcases hc with ⟨_, rfl, rfl⟩ | ⟨e, he, ho2, _⟩
      · exact ⟨τ, rfl, hw2, fun _ _ => rfl⟩
      · exact absurd (ho2.symm.trans ho) (nI_mm (by omega))
    · have en20 := (enr_at hx hir en).2.2.1
      have h28 := en.2.2.2.2.2.1
      have h30 := en.2.2.2.2.2.2.2.1
      have yl := en.2.2.2.2.2.2.2.2.2.1
      obtain ⟨N5, hN5, e5⟩ := (vs_at hx yl (q := 5) (by decide)).2
      rw [(vs_at hx yl (q := 5) (by decide)).1] at e5
      have hnn : ¬ ¬ HLV z Q := fun w => w h
      have eC : WCc z S B k Q = if u 22 e = u 10 k then 10 else if u 8 k - sbw u S (u 24 e) 5 ≤ u 8 (p (τ e)) then 11 else if 0 < (lkF z (p (τ e)) (u 8 k - sbw u S (u 24 e) 5) (u 8 k - 1) B).2.1 then 11 else 0 := by
        rw [show WCc z S B k Q = WCd z S B k Q (z 33 Q).toNatClampNeg from rfl, h33c]
        unfold WCd
        rw [if_neg hnn, h28, h30, (vs_at hx yl (q := 5) (by decide)).1, d1, d3]
      rw [eC]
      have eF : (u 8 k - sbw u S (u 24 e) 5).toInt = (D : Int) - N5 := by
        rw [eD, e5, i32_sub (by rw [nI_toInt (by omega), nI_toInt (by omega)]; omega) (by rw [nI_toInt (by omega), nI_toInt (by omega)]; omega), nI_toInt (by omega), nI_toInt (by omega)]
      rcases hc with ⟨ho2, _⟩ | ⟨e2, he2, ho2, hc⟩
      · exact absurd ho2 (by rw [ho]; exact nI_nn (by omega))
      · obtain rfl := nI_inj (ho.symm.trans ho2) (by omega) (by omega)
        rw [en20] at hc
        rcases hc with ⟨g1, rfl, rfl⟩ | ⟨g1, hc⟩
        · rw [if_pos g1, if_neg (by decide)]
          exact ⟨τ, rfl, hw2, fun _ _ => rfl⟩
        · rw [if_neg g1]
          rcases hc with ⟨g2, rfl, rfl⟩ | ⟨g2, w, d, hw3, hd, hc⟩
          · rw [if_pos g2, if_neg (by decide)]
            exact ⟨τ, rfl, wr_29 hw2 _, fun q hq => va_up_ne _ _ (by omega)⟩
          · rw [if_neg g2]
            have hv : (w : Int) = if (u 8 k - sbw u S (u 24 e) 5).toInt < 0 then 0 else (u 8 k - sbw u S (u 24 e) 5).toInt := by
              obtain ⟨q1, q2⟩ := hw3
              have q3 := congrArg Int32.toInt q1
              rw [nI_toInt q2] at q3
              by_cases c0 : (u 8 k - sbw u S (u 24 e) 5) < 0
              · rw [if_pos c0] at q3
                have c9 : (u 8 k - sbw u S (u 24 e) 5).toInt < 0 := i32_lt.mp c0
                rw [if_pos c9]; exact q3
              · rw [if_neg c0] at q3
                have c9 : ¬ (u 8 k - sbw u S (u 24 e) 5).toInt < 0 := fun w => c0 (i32_lt.mpr w)
                rw [if_neg c9]; exact q3
            obtain ⟨lv, _, _⟩ := lv_wk hx hw hir hir he (fr := u 8 k - sbw u S (u 24 e) 5) (tu := u 8 k - 1) (by rw [eF]; omega) (by rw [eT]; omega) hv hd
            rw [lv]
            rcases hc with ⟨g3, rfl, rfl⟩ | ⟨g3, rfl, rfl⟩
            · rw [if_pos g3, if_neg (by decide)]
              exact ⟨τ, rfl, wr_29 hw2 _, fun q hq => va_up_ne _ _ (by omega)⟩
            · rw [if_neg g3, if_pos rfl]
              have k7 : ∀ q, q ≠ Q → (WCu z S k Q) 34 q = z 34 q ∧ (WCu z S k Q) 35 q = z 35 q := fun q hq => ⟨upd_ne hq, upd_ne hq⟩
              have hcx : LRW S (va_up (WEu z Q) 34 (upd (z 34) Q (z 20 k))) u := lrw_k c3 (fun q a b => by unfold WEu; rw [va_up_ne _ _ (by omega), va_up_ne _ _ (by omega), va_up_ne _ _ (by omega)]) (fun _ _ _ => rfl) hS
              have e6 : vof (va_up (WEu z Q) 34 (upd (z 34) Q (z 20 k))) (u 24 e) 6 S 0 = sbw u S (u 24 e) 6 := vof_sbw hS (by decide) hcx (YL_ib hS yl)
              refine ⟨τ, rfl, wr_mono (wr_end hx hw hir (e := e) hQ he h33 hq2 hun (fun k2 a1 a2 a3 a4 => ?_) ?_ rfl (fun k2 a1 a2 a3 a4 => ?_) rfl (fun q hq => ?_)) (Nat.le_succ i), fun q hq => ?_⟩
              · unfold WCu WCv WEu
                rw [va_up_ne _ _ (by omega), va_up_ne _ _ (by omega), va_up_ne _ _ (by omega), va_up_ne _ _ (by omega)]
              · show upd (z 27) (z 33 Q).toNatClampNeg 3 = _
                rw [h33c]
              · unfold MCu
                rw [va_up_ne _ _ (by omega), va_up_ne _ _ (by omega), va_up_ne _ _ (by omega), va_up_ne _ _ (by omega)]
              · show upd (z 34) Q (z 20 k) q = upd (u 27) Q (u 10 k) q ∧ (upd (z 34) Q (z 20 k) q = -1 ∨ ((∃ h, h < 12 ∧ upd (z 34) Q (z 20 k) q = nI h) ∧ upd (z 35) Q (z 18 k + vof (va_up (WEu z Q) 34 (upd (z 34) Q (z 20 k))) (z 30 (z 33 Q).toNatClampNeg) 6 S 0) q = upd (u 28) Q (u 8 k + sbw u S (u 24 e) 6) q))
                by_cases c0 : q = Q
                · rw [c0, upd_at, upd_at, upd_at, upd_at, h33c, h30, e6, d1, d3]
                  exact ⟨rfl, Or.inr ⟨⟨P1, by omega, eP⟩, rfl⟩⟩
                · rw [upd_ne c0, upd_ne c0, upd_ne c0, upd_ne c0]
                  exact hw.2.2.2.2.2.2.2.1 q hq
              · unfold MCu
                rw [va_up_ne _ _ (by omega), va_up_ne _ _ (by omega), va_up_ne _ _ (by omega), va_up_ne _ _ (by omega)]
  · -- proved
    have n0 : ¬ u 9 k = 0 := by rw [s]; decide
    have n3 : ¬ u 9 k = 3 := by rw [s]; decide
    have n4 : ¬ u 9 k = 4 := by rw [s]; decide
    rw [if_neg n0, if_neg n3, if_neg n4, if_pos s, if_neg n0, if_neg n3, if_neg n4, if_pos s]
    obtain ⟨Q, hQ, eQ⟩ := y3 k hk (by rw [s]; decide)
    have zQ : (z 21 k).toNatClampNeg = Q := by rw [d4, eQ, nI_clamp (by omega)]
    have uQ : (u 11 k).toNatClampNeg = Q := by rw [eQ, nI_clamp (by omega)]
    rw [uQ] at hc
    rw [zQ]
    have hE := hw.1
    have eT : (u 8 k - 1).toInt = (D : Int) - 1 := by
      rw [eD, i32_sub (by rw [nI_toInt (by omega)]; show (-2147483648 : Int) ≤ (D : Int) - 1; omega) (by rw [nI_toInt (by omega)]; show (D : Int) - 1 ≤ 2147483647; omega), nI_toInt (by omega)]; rfl
    rcases op_at hx hw hir hQ with ⟨h, ho⟩ | ⟨e, he, h, h33, h33c, ho, hoc, h25, h27, hq2, hun, en⟩
    · have eC : WPc z S B k Q = 8 := by unfold WPc WPd; exact if_pos (fun w => h w.1)
      rw [eC, if_neg (by decide)]
      rcases hc with ⟨_, rfl, rfl⟩ | ⟨e, he, ho2, _⟩
      · exact ⟨τ, rfl, hw2, fun _ _ => rfl⟩
      · exact absurd (ho2.symm.trans ho) (nI_mm (by omega))
    · have en20 := (enr_at hx hir en).2.2.1
      have hpt := (enr_at hx hir en).2.1
      have en21 := en.2.2.2.1
      have h32 := en.2.2.2.2.1
      have h28 := en.2.2.2.2.2.1
      have h30 := en.2.2.2.2.2.2.2.1
      have yl := en.2.2.2.2.2.2.2.2.2.1
      have hti := en.1
      have hkb := kc_b (t := t) (τ e)
      have c21 : (u 21 e).toNatClampNeg = kc t (τ e) := by rw [en21, nI_clamp (by omega)]
      obtain ⟨W, hW, eW⟩ := y5 (p (τ e)) hpt
      have iff : (HLV z Q ∧ z 28 (z 33 Q).toNatClampNeg = z 20 k) ↔ u 22 e = u 10 k := by
        rw [h33c, d3, h28]
        exact ⟨fun w => w.2, fun w => ⟨h, w⟩⟩
      have eA : (if z 33 Q = -1 then (0 : Int32) else acF z (z 33 Q).toNatClampNeg (z 32 (z 33 Q).toNatClampNeg).toNatClampNeg (B - (z 32 (z 33 Q).toNatClampNeg).toNatClampNeg)) = acM u e (kc t (τ e)) (kc t i - kc t (τ e)) := by
        rw [if_neg h.1, h33c, h32, nI_clamp (by omega)]
        rcases ac_at hx hw hir hir he (B - τ e) (by omega) with q | q
        · rw [q, if_neg (by omega)]
        · omega
      have hmg : u 22 e = u 10 k → MGO u Q E2 k := fun w => ⟨by rw [ho]; exact nI_nn (by omega), by rw [ho, hoc]; exact w⟩
      rcases hc with ⟨hg, rfl, rfl⟩ | ⟨e2, he2, ho2, g1, hc⟩
      · have hn := fun w => hg (hmg w)
        have eC : WPc z S B k Q = 8 := by unfold WPc WPd; exact if_pos (fun w => hn (iff.mp w))
        rw [eC, if_neg (by decide)]
        exact ⟨τ, rfl, hw2, fun _ _ => rfl⟩
      · obtain rfl := nI_inj (ho.symm.trans ho2) (by omega) (by omega)
        rw [en20, c21] at hc
        have hnn : ¬ ¬ (HLV z Q ∧ z 28 (z 33 Q).toNatClampNeg = z 20 k) := fun w => w (iff.mpr g1)
        have eC : WPc z S B k Q = if sbw u S (u 24 e) 4 < u 8 k - u 8 (p (τ e)) then 12 else if (lkF z (p (τ e)) (u 8 (p (τ e))) (u 8 k - 1) B).2.1 < sbw u S (u 24 e) 1 then 13 else if sbw u S (u 24 e) 2 < lkG (u 8 k - 1) (lkF z (p (τ e)) (u 8 (p (τ e))) (u 8 k - 1) B) then 14 else if acM u e (kc t (τ e)) (kc t i - kc t (τ e)) < sbw u S (u 24 e) 3 then 15 else 0 := by
          unfold WPc WPd
          rw [if_neg hnn, eA, h33c, h30, (vs_at hx yl (q := 4) (by decide)).1, (vs_at hx yl (q := 1) (by decide)).1, (vs_at hx yl (q := 2) (by decide)).1, (vs_at hx yl (q := 3) (by decide)).1, d1]
        rw [eC]
        rcases hc with ⟨g2, rfl, rfl⟩ | ⟨g2, w, d, eww, hww, hd, hc⟩
        · rw [if_pos g2, if_neg (by decide)]
          exact ⟨τ, rfl, hw2, fun _ _ => rfl⟩
        · rw [if_neg g2]
          have eFr : (u 8 (p (τ e))).toInt = w := by rw [eww, nI_toInt (by omega)]
          have hv : (w : Int) = if (u 8 (p (τ e))).toInt < 0 then 0 else (u 8 (p (τ e))).toInt := by rw [eFr, if_neg (by omega)]
          have lv := fun d hd => lv_wk hx hw hir hir he (fr := u 8 (p (τ e))) (tu := u 8 k - 1) (v := w) (d := d) (by rw [eFr]; omega) (by rw [eT]; omega) hv hd
          rw [(lv d hd).1]
          rcases hc with ⟨g3, rfl, rfl⟩ | ⟨g3, d2, hd2, hc⟩
          · rw [if_pos g3, if_neg (by decide)]
            exact ⟨τ, rfl, wr_29 hw2 _, fun q hq => va_up_ne _ _ (by omega)⟩
          · rw [if_neg g3, (lv d2 hd2).2.1 (by rw [eFr]; omega)]
            rcases hc with ⟨g4, rfl, rfl⟩ | ⟨g4, hc⟩
            · rw [if_pos g4, if_neg (by decide)]
              exact ⟨τ, rfl, wr_29 hw2 _, fun q hq => va_up_ne _ _ (by omega)⟩
            · rw [if_neg g4]
              rcases hc with ⟨g5, rfl, rfl⟩ | ⟨g5, rfl, rfl⟩
              · rw [if_pos g5, if_neg (by decide)]
                exact ⟨τ, rfl, wr_29 hw2 _, fun q hq => va_up_ne _ _ (by omega)⟩
              · rw [if_neg g5, if_pos rfl]
                have hcx : LRW S (va_up z 27 (upd (z 27) (p (τ e)) 2)) u := lrw_k c3 (fun q a b => va_up_ne _ _ (by omega)) (fun _ _ _ => rfl) hS
                have e8 : vof (va_up z 27 (upd (z 27) (p (τ e)) 2)) (u 24 e) 8 S 0 = sbw u S (u 24 e) 8 := vof_sbw hS (by decide) hcx (YL_ib hS yl)
                refine ⟨τ, rfl, wr_mono (wr_prove hx hw hir (e := e) he h25 (u 8 k + sbw u S (u 24 e) 8) (fun k2 a1 a2 => ?_) ?_ ?_ (fun k2 a1 a2 a3 => ?_) rfl rfl) (Nat.le_succ i), fun q hq => ?_⟩
                · unfold WPu WPv
                  rw [va_up_ne _ _ (by omega), va_up_ne _ _ (by omega)]
                · show upd (z 27) (z 33 Q).toNatClampNeg 2 = _
                  rw [h33c]
                · show upd (z 31) (z 33 Q).toNatClampNeg (z 18 k + vof (va_up z 27 (upd (z 27) (z 33 Q).toNatClampNeg 2)) (z 30 (z 33 Q).toNatClampNeg) 8 S 0) = _
                  rw [h33c, h30, e8, d1]
                · unfold MPu
                  rw [va_up_ne _ _ (by omega), va_up_ne _ _ (by omega), va_up_ne _ _ (by omega)]
                · unfold MPu
                  rw [va_up_ne _ _ (by omega), va_up_ne _ _ (by omega), va_up_ne _ _ (by omega)]
  · -- a death
    have n0 : ¬ u 9 k = 0 := by rw [s]; decide
    have n3 : ¬ u 9 k = 3 := by rw [s]; decide
    have n4 : ¬ u 9 k = 4 := by rw [s]; decide
    have n5 : ¬ u 9 k = 5 := by rw [s]; decide
    rw [if_neg n0, if_neg n3, if_neg n4, if_neg n5, if_pos s, if_neg n0, if_neg n3, if_neg n4, if_neg n5, if_pos s]
    obtain ⟨H, hH, eH⟩ := y4 k hk (by rw [s]; rfl)
    have zH : (z 22 k).toNatClampNeg = H := by rw [d5, eH, nI_clamp (by omega)]
    have uH : (u 12 k).toNatClampNeg = H := by rw [eH, nI_clamp (by omega)]
    rw [uP, uH] at hc ⊢
    rw [zH]
    have ed : WDc z P1 H = MDc u P1 H := by
      unfold WDc MDc
      rw [hw.2.2.2.1.1 H (by omega)]
    rw [ed]
    by_cases g : MDc u P1 H = 0
    · rw [if_pos g, if_pos g]
      refine ⟨τ, hc, wr_mono (wr_death hx hw hir (x := P1) (h := H) (by omega) (fun k2 a1 a2 a3 => ?_) ?_ rfl rfl (fun k2 a1 a2 a3 => ?_) ?_ rfl rfl) (Nat.le_succ i), fun q hq => ?_⟩
      · unfold WDu; rw [va_up_ne _ _ (by omega), va_up_ne _ _ (by omega), va_up_ne _ _ (by omega)]
      · rfl
      · unfold MDu; rw [va_up_ne _ _ (by omega), va_up_ne _ _ (by omega), va_up_ne _ _ (by omega)]
      · rfl
      · unfold MDu; rw [va_up_ne _ _ (by omega), va_up_ne _ _ (by omega), va_up_ne _ _ (by omega)]
    · rw [if_neg g, if_neg g]
      exact ⟨τ, hc, hw2, fun _ _ => rfl⟩
  · rw [if_neg s0, if_neg s3, if_neg s4, if_neg s5, if_neg s6, if_neg s0, if_neg s3, if_neg s4, if_neg s5, if_neg s6]
    exact ⟨τ, rfl, hw2, fun _ _ => rfl⟩
end WRT
