section WRN
variable {P S B r : Nat} {p : Nat → Nat} {t : Nat → Bool} {a b : Nat → Nat → Int32} {n m : Nat → Int32}
theorem wr_0 {f : Nat → Int32} : WR P S B p t 0 0 (CLR a) (MST b f) 0 (fun _ => 0) ∨ ¬ (B ≤ 120 ∧ ∀ s, s < B → p s < B) := by
  by_cases c : B ≤ 120 ∧ ∀ s, s < B → p s < B
  · refine Or.inl ⟨Nat.le_refl _, fun l hl => ?_, fun s hs _ => ?_, ⟨fun q hq => ?_, fun q _ hq => ?_⟩, fun e h => absurd h (Nat.not_lt_zero e), fun l hl _ => ?_, fun q hq => Or.inl ⟨?_, fun e h => absurd h (Nat.not_lt_zero e)⟩, fun q hq => ⟨?_, Or.inl ?_⟩, fun x hx => ?_, fun e f h => absurd h (Nat.not_lt_zero e)⟩
    · show fil (a 26) (-1) 120 l = fil (b 18) (-1) 120 l
      rw [fil, fil, if_pos hl, if_pos hl]
    · have := c.2 s hs
      show fil (a 26) (-1) 120 (p s) = -1
      exact if_pos (by omega)
    · show fil (a 36) 0 12 q = fil (b 19) 0 12 q
      rw [fil, fil, if_pos hq, if_pos hq]
    · show fil (a 36) 0 12 q = 0
      exact if_pos hq
    · show fil (a 27) 0 120 l = 0
      exact if_pos hl
    · show fil (a 33) (-1) 64 q = -1
      exact if_pos hq
    · show fil (a 34) (-1) 64 q = fil (b 27) (-1) 64 q
      rw [fil, fil, if_pos hq, if_pos hq]
    · show fil (a 34) (-1) 64 q = -1
      exact if_pos hq
    · show fil (a 37) 0 12 x = nI 0
      exact if_pos hx
  · exact Or.inr c
theorem wr_run {f : Nat → Int32} {ln : Int32} (hx : CX P S B p t r (CLR a) (MST b f) n m) (ht : ∀ s, s < r → (t s = true ↔ (nI (p s) < ln ∧ a 23 (p s) = 0))) (ha : ∀ s, s < B → a 24 s = nI (p s)) : ∀ i, i ≤ r → ∀ E u, MRN (MST b f) m S (kc t i) u E → ∃ τ, CX P S B p t r (THR a n S B ln i) u n m ∧ WR P S B p t i i (THR a n S B ln i) u E τ := by
  have hB := hx.2.2.1.2.2.1
  have hr := hx.2.2.2.2.2.2.2.1
  have hp := hx.2.2.2.1
  intro i
  induction i with
  | zero =>
    intro _ E u h
    obtain ⟨e1, e2⟩ := h
    rw [e1, e2]
    refine ⟨fun _ => 0, hx, ?_⟩
    rcases wr_0 (P := P) (S := S) (B := B) (p := p) (t := t) (a := a) (b := b) (f := f) with h | h
    · exact h
    · exact absurd ⟨hB, fun s hs => (hp s hs).1⟩ h
  | succ i ih =>
    intro hi E u h
    have hpi := (hp i (by omega)).1
    by_cases c : t i = true
    · rw [kc_s c] at h
      obtain ⟨u1, E1, c0, v, h1, h2, rfl⟩ := h
      obtain ⟨τ, cx, wr⟩ := ih (by omega) E1 u1 h1
      rw [cx.2.2.2.2.2.2.2.2 i (by omega) c, nI_clamp (by omega)] at h2 ⊢
      obtain ⟨τ2, ec, wr2, fr⟩ := wr_act cx wr (by omega) c h2
      have cx2 : CX P S B p t r (WLa (THR a n S B ln i) n S B (p i) i) v n m := cx_k cx (fun q hq => WLa_keep (Or.inl hq)) fr
      have hc := (ht i (by omega)).mp c
      rw [THR_s (m := n) rfl rfl (ha i (by omega)) (by omega) hc.1 hc.2]
      refine ⟨τ2, cx_k cx2 (fun q hq => by rw [TST_k (Or.inl hq), WLa_keep (Or.inl hq)]) (fun q hq => va_up_ne _ _ (by omega)), ?_⟩
      rw [ec]
      exact wr_out cx2 wr2 (by omega) c _
    · rw [kc_n c] at h
      obtain ⟨τ, cx, wr⟩ := ih (by omega) E u h
      rw [THR_z rfl (ha i (by omega)) (by omega) (fun w => c ((ht i (by omega)).mpr w))]
      exact ⟨τ, cx, wr_mono (wr_skip wr c) (Nat.le_succ i)⟩
end WRN
/-- the book worked through, class and reference -/
theorem thp_mth {P S T B S2 T2 N E M : Nat} {a b z zm : Nat → Nat → Int32} {n m u : Nat → Int32} {y : Int32} (h : RL1 P S T B S2 T2 a n b m) (hN : N ≤ B) (hX : THP P S T B a n N y z u) (hY : MTH S2 B b m N y zm E M) : ∃ p t r τ, CX P S B p t r z zm n m ∧ WR P S B p t r r z zm E τ ∧ M = kc t r ∧ u 5 = n 5 := by
  obtain ⟨⟨hXI, hYI, _, h5, ⟨h2, h3⟩, ⟨q1, q2, q3, q4, q5, q6⟩, _, _⟩, ⟨rfl, rfl, _, _⟩, hl, p, o1, o2, o3⟩ := h
  obtain ⟨x0, xP, x1, xT, x3, xS, x4, xB, _⟩ := hXI
  obtain ⟨y0, yP, y1, yT, y3, yS, y4, yB, yW, ySo, yQ, yN, yD, yL⟩ := hYI
  obtain ⟨r, hr, hc, hle, rfl, hu, _⟩ := hX
  obtain ⟨⟨f, hf, hrn⟩, _⟩ := hY
  have hcl : ∀ s, s < B → (a 24 s).toNatClampNeg = p s := fun s hs => by rw [(o1 s hs).2, nI_clamp (by have := (o1 s hs).1; omega)]
  obtain ⟨t, ht⟩ : ∃ t : Nat → Bool, ∀ s, t s = true ↔ (p s < N ∧ a 23 (p s) = 0) := ⟨fun s => decide (p s < N ∧ a 23 (p s) = 0), fun s => decide_eq_true_iff⟩
  have hlt : ∀ s, s < B → (nI (p s) < nI N ↔ p s < N) := fun s hs => by
    have := (o1 s hs).1
    rw [i32_lt, nI_toInt (by omega), nI_toInt (by omega)]; omega
  obtain ⟨eM, eF⟩ := pio_kc (t := t) (p := p) (B := B) (r := r) (by omega) hf (fun r s c d => by rw [← q1]; exact o2 r s c d) hr (fun s hs => by rw [ht, q6]) (fun s hs => by
    have := hle s hs
    rw [hcl s (by omega), q1] at this; exact this) (fun l h1 h2 => by
    obtain ⟨s, hs, es⟩ := o3 l (by omega)
    refine ⟨s, ?_, es⟩
    refine Classical.byContradiction fun hsr => ?_
    rcases hc with e | e
    · omega
    · rw [hcl r (by omega)] at e
      have e1 := i32_lt.mp e
      have e2 := le_i.mp h2
      rw [← es, ← q1] at e2
      by_cases w : s = r
      · rw [w] at e2; omega
      · have := bef_i.mp (o2 r s (by omega) hs)
        omega)
  have cx : CX P S2 B p t r (CLR a) (MST b f) n m := by
    unfold CX
    rw [CLR_k (r := 2) (by omega), CLR_k (r := 3) (by omega), CLR_k (r := 18) (by omega), CLR_k (r := 19) (by omega), CLR_k (r := 20) (by omega), CLR_k (r := 21) (by omega), CLR_k (r := 22) (by omega), CLR_k (r := 24) (by omega)]
    refine ⟨⟨h2, h3⟩, ⟨q1, q2, q3, q4, q5⟩, ⟨lrw_k hl (fun q _ _ => CLR_k (by omega)) (fun q _ _ => ?_) xS, xS, xB, xP⟩, o1, fun s s2 c d => ?_, ⟨yW, ySo, yQ, yN, yD, yL⟩, h5, hr, eF⟩
    · unfold MST
      rw [va_up_ne _ _ (by omega), va_up_ne _ _ (by omega), va_up_ne _ _ (by omega), va_up_ne _ _ (by omega)]
    · have w := o2 s s2 c d
      refine ⟨fun e => ?_, ?_⟩
      · rw [e] at w; exact bef_ir w
      · have := bef_i.mp w
        show (b 8 (p s)).toInt ≤ (b 8 (p s2)).toInt
        rw [← q1]; omega
  rw [eM] at hrn
  obtain ⟨τ, cx2, wr2⟩ := wr_run cx (ln := nI N) (fun s hs => by rw [ht, hlt s (by omega)]) (fun s hs => (o1 s hs).2) r (Nat.le_refl _) E zm hrn
  exact ⟨p, t, r, τ, cx2, wr2, eM, hu 5 (by decide) (by decide)⟩
