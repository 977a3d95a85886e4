section WRS
variable {P S B r i j E : Nat} {p : Nat → Nat} {t : Nat → Bool} {z u z' u' : Nat → Nat → Int32} {n m : Nat → Int32} {τ : Nat → Nat}
theorem wr_mono {j2 : Nat} (hw : WR P S B p t i j z u E τ) (h : j ≤ j2) : WR P S B p t i j2 z u E τ := by
  obtain ⟨w0, w1, w2, w3, w4, w5⟩ := hw
  exact ⟨by omega, w1, w2, w3, fun e he => ⟨by have := (w4 e he).1; omega, (w4 e he).2⟩, w5⟩
theorem wr_skip (hw : WR P S B p t i j z u E τ) (h : ¬ t i = true) : WR P S B p t (i + 1) j z u E τ := by
  obtain ⟨w0, w1, w2, w3⟩ := hw
  refine ⟨w0, w1, fun s hs q => w2 s hs ?_, w3⟩
  rcases q with q | q
  · exact Or.inl (by omega)
  · exact Or.inr q
theorem wr_out (hx : CX P S B p t r z u n m) (hw : WR P S B p t i j z u E τ) (hi : i < r) (ht : t i = true) (c : Int32) : WR P S B p t (i + 1) j (va_up z 26 (upd (z 26) (p i) c)) (va_up u 18 (upd (u 18) (p i) c)) E τ := by
  obtain ⟨w0, w1, w2, w3, w4, w5, w6, w7, w8, w9⟩ := hw
  have hr := hx.2.2.2.2.2.2.2.1
  refine ⟨w0, fun l hl => ?_, fun s hs q => ?_, w3, w4, w5, w6, w7, fun x hx => ?_, w9⟩
  · show upd (z 26) (p i) c l = upd (u 18) (p i) c l
    by_cases e : l = p i
    · rw [e, upd_at, upd_at]
    · rw [upd_ne e, upd_ne e]; exact w1 l hl
  · show upd (z 26) (p i) c (p s) = -1
    have hs2 : ¬ s = i := fun e => by
      rw [e] at q
      rcases q with q | q
      · omega
      · exact q ht
    rw [upd_ne (fun e => hs2 (cx_inj hx hs (by omega) e))]
    exact w2 s hs (q.imp (fun h => by omega) id)
  · rw [cF_cg (u := u) (v := va_up u 18 (upd (u 18) (p i) c)) rfl E (fun e _ => rfl)]; exact w8 x hx
theorem wr_29 (hw : WR P S B p t i j z u E τ) (f : Nat → Int32) : WR P S B p t i j z (va_up u 29 f) E τ := by
  obtain ⟨w0, w1, w2, w3, w4, w5, w6, w7, w8, w9⟩ := hw
  refine ⟨w0, w1, w2, w3, w4, w5, w6, w7, fun x hx => ?_, w9⟩
  rw [cF_cg (u := u) (v := va_up u 29 f) rfl E (fun e _ => rfl)]; exact w8 x hx
/-- an entry ends -/
theorem wr_end (hx : CX P S B p t r z u n m) (hw : WR P S B p t i j z u E τ) (hj : j ≤ r) {q e : Nat} (hq : q < 64) (he : e < E) (h33 : z 33 q = nI (p (τ e))) (hq2 : u 11 (p (τ e)) = nI q) (hun : ∀ f, f < E → ¬ u 25 f = 0 → u 11 (p (τ f)) = nI q → f = e) (hz : ∀ k, k ≠ 27 → k ≠ 33 → k ≠ 34 → k ≠ 35 → z' k = z k) (z27 : z' 27 = upd (z 27) (p (τ e)) 3) (z33 : z' 33 = upd (z 33) q (-1)) (hu : ∀ k, k ≠ 25 → k ≠ 27 → k ≠ 28 → k ≠ 29 → u' k = u k) (u25 : u' 25 = upd (u 25) e 0) (h7 : W7 z' u') : WR P S B p t i j z' u' E τ := by
  obtain ⟨w0, w1, w2, w3, w4, w5, w6, w7, w8, w9⟩ := hw
  have hr := hx.2.2.2.2.2.2.2.1
  refine ⟨w0, ?_, ?_, ?_, fun f hf => ?_, fun l hl h => ?_, fun q2 hq2' => ?_, h7, fun x hx => ?_, w9⟩
  · unfold W1; rw [hz 26 (by decide) (by decide) (by decide) (by decide), hu 18 (by decide) (by decide) (by decide) (by decide)]; exact w1
  · unfold W2; rw [hz 26 (by decide) (by decide) (by decide) (by decide)]; exact w2
  · unfold W3; rw [hz 36 (by decide) (by decide) (by decide) (by decide), hu 19 (by decide) (by decide) (by decide) (by decide)]; exact w3
  · have h := w4 f hf
    unfold ENR
    rw [hz 32 (by decide) (by decide) (by decide) (by decide), hz 28 (by decide) (by decide) (by decide) (by decide), hz 29 (by decide) (by decide) (by decide) (by decide), hz 30 (by decide) (by decide) (by decide) (by decide), hz 31 (by decide) (by decide) (by decide) (by decide), hu 20 (by decide) (by decide) (by decide) (by decide), hu 21 (by decide) (by decide) (by decide) (by decide), hu 22 (by decide) (by decide) (by decide) (by decide), hu 23 (by decide) (by decide) (by decide) (by decide), hu 24 (by decide) (by decide) (by decide) (by decide), hu 26 (by decide) (by decide) (by decide) (by decide), hu 11 (by decide) (by decide) (by decide) (by decide), z27, u25]
    obtain ⟨a1, a2, a3, a4, a5, a6, a7, a8, a9, a10, a11⟩ := h
    refine ⟨a1, a2, a3, a4, a5, a6, a7, a8, a9, a10, ?_⟩
    by_cases c : f = e
    · rw [c, upd_at, upd_at]; exact Or.inr (Or.inr ⟨rfl, rfl⟩)
    · rw [upd_ne c, upd_ne (fun h => c (w9 f e hf he (cx_inj hx (by omega) (by have := (w4 e he).1; omega) h)))]
      exact a11
  · rw [z27, upd_ne (fun w => h e he w.symm)]; exact w5 l hl h
  · rw [z33, u25, hu 11 (by decide) (by decide) (by decide) (by decide)]
    by_cases c : q2 = q
    · rw [c, upd_at]
      refine Or.inl ⟨rfl, fun f hf h => ?_⟩
      by_cases d : f = e
      · rw [d, upd_at] at h; exact absurd rfl h
      · rw [upd_ne d] at h
        exact fun w => d (hun f hf h w)
    · rw [upd_ne c]
      rcases w6 q2 hq2' with ⟨g1, g2⟩ | ⟨f, hf, g1, g2, g3, g4⟩
      · refine Or.inl ⟨g1, fun f hf h => ?_⟩
        by_cases d : f = e
        · rw [d, upd_at] at h; exact absurd rfl h
        · rw [upd_ne d] at h; exact g2 f hf h
      · have d : ¬ f = e := fun d => by
          rw [d, hq2] at g3
          exact c (nI_inj g3 (by omega) (by omega)).symm
        refine Or.inr ⟨f, hf, g1, by rw [upd_ne d]; exact g2, g3, fun f2 hf2 h => ?_⟩
        by_cases d2 : f2 = e
        · rw [d2, upd_at] at h; exact absurd rfl h
        · rw [upd_ne d2] at h; exact g4 f2 hf2 h
  · rw [hz 37 (by decide) (by decide) (by decide) (by decide), cF_cg (u := u) (v := u') (hu 10 (by decide) (by decide) (by decide) (by decide)) E (fun e _ => by rw [hu 20 (by decide) (by decide) (by decide) (by decide)])]
    exact w8 x hx
/-- an entry is proved -/
theorem wr_prove (hx : CX P S B p t r z u n m) (hw : WR P S B p t i j z u E τ) (hj : j ≤ r) {e : Nat} (he : e < E) (h25 : u 25 e = 1) (v : Int32) (hz : ∀ k, k ≠ 27 → k ≠ 31 → z' k = z k) (z27 : z' 27 = upd (z 27) (p (τ e)) 2) (z31 : z' 31 = upd (z 31) (p (τ e)) v) (hu : ∀ k, k ≠ 25 → k ≠ 26 → k ≠ 29 → u' k = u k) (u25 : u' 25 = upd (u 25) e 2) (u26 : u' 26 = upd (u 26) e v) : WR P S B p t i j z' u' E τ := by
  obtain ⟨w0, w1, w2, w3, w4, w5, w6, w7, w8, w9⟩ := hw
  have hr := hx.2.2.2.2.2.2.2.1
  have iff : ∀ f, f < E → (¬ upd (u 25) e 2 f = 0 ↔ ¬ u 25 f = 0) := fun f hf => by
    by_cases d : f = e
    · rw [d, upd_at, h25]; exact ⟨fun _ => by decide, fun _ => by decide⟩
    · rw [upd_ne d]
  refine ⟨w0, ?_, ?_, ?_, fun f hf => ?_, fun l hl h => ?_, fun q2 hq2' => ?_, ?_, fun x hx => ?_, w9⟩
  · unfold W1; rw [hz 26 (by decide) (by decide), hu 18 (by decide) (by decide) (by decide)]; exact w1
  · unfold W2; rw [hz 26 (by decide) (by decide)]; exact w2
  · unfold W3; rw [hz 36 (by decide) (by decide), hu 19 (by decide) (by decide) (by decide)]; exact w3
  · have h := w4 f hf
    unfold ENR
    rw [hz 32 (by decide) (by decide), hz 28 (by decide) (by decide), hz 29 (by decide) (by decide), hz 30 (by decide) (by decide), hu 20 (by decide) (by decide) (by decide), hu 21 (by decide) (by decide) (by decide), hu 22 (by decide) (by decide) (by decide), hu 23 (by decide) (by decide) (by decide), hu 24 (by decide) (by decide) (by decide), hu 11 (by decide) (by decide) (by decide), z27, z31, u25, u26]
    obtain ⟨a1, a2, a3, a4, a5, a6, a7, a8, a9, a10, a11⟩ := h
    refine ⟨a1, a2, a3, a4, a5, a6, a7, a8, a9, a10, ?_⟩
    by_cases c : f = e
    · rw [c, upd_at, upd_at, upd_at, upd_at]; exact Or.inr (Or.inl ⟨rfl, rfl, rfl⟩)
    · have d : ¬ p (τ f) = p (τ e) := fun h => c (w9 f e hf he (cx_inj hx (by omega) (by have := (w4 e he).1; omega) h))
      rw [upd_ne c, upd_ne c, upd_ne d, upd_ne d]
      exact a11
  · rw [z27, upd_ne (fun w => h e he w.symm)]; exact w5 l hl h
  · rw [hz 33 (by decide) (by decide), u25, hu 11 (by decide) (by decide) (by decide)]
    rcases w6 q2 hq2' with ⟨g1, g2⟩ | ⟨f, hf, g1, g2, g3, g4⟩
    · exact Or.inl ⟨g1, fun f hf h => g2 f hf ((iff f hf).mp h)⟩
    · exact Or.inr ⟨f, hf, g1, (iff f hf).mpr g2, g3, fun f2 hf2 h => g4 f2 hf2 ((iff f2 hf2).mp h)⟩
  · unfold W7; rw [hz 34 (by decide) (by decide), hz 35 (by decide) (by decide), hu 27 (by decide) (by decide) (by decide), hu 28 (by decide) (by decide) (by decide)]; exact w7
  · rw [hz 37 (by decide) (by decide), cF_cg (u := u) (v := u') (hu 10 (by decide) (by decide) (by decide)) E (fun e _ => by rw [hu 20 (by decide) (by decide) (by decide)])]
    exact w8 x hx
/-- an entry is made -/
theorem wr_file (hx : CX P S B p t r z u n m) (hw : WR P S B p t i i z u E τ) (hi : i < r) (ht : t i = true) {q h : Nat} (hq : q < 64) (hh : h < 12) (hp : u 10 (p i) = nI h) (hq2 : u 11 (p i) = nI q) (h33 : z 33 q = -1) {lw v : Int32} (hl : YL S lw) (hz : ∀ k, k ≠ 27 → k ≠ 28 → k ≠ 29 → k ≠ 30 → k ≠ 32 → k ≠ 33 → k ≠ 37 → z' k = z k) (z27 : z' 27 = upd (z 27) (p i) 1) (z28 : z' 28 = upd (z 28) (p i) (nI h)) (z29 : z' 29 = upd (z 29) (p i) v) (z30 : z' 30 = upd (z 30) (p i) lw) (z32 : z' 32 = upd (z 32) (p i) (nI i)) (z33 : z' 33 = upd (z 33) q (nI (p i))) (z37 : z' 37 = upd (z 37) h (z 37 h + 1)) (hu : ∀ k, (k < 20 ∨ 26 < k) → u' k = u k) (u20 : u' 20 = upd (u 20) E (nI (p i))) (u21 : u' 21 = upd (u 21) E (nI (kc t i))) (u22 : u' 22 = upd (u 22) E (nI h)) (u23 : u' 23 = upd (u 23) E v) (u24 : u' 24 = upd (u 24) E lw) (u25 : u' 25 = upd (u 25) E 1) (u26 : u' 26 = upd (u 26) E 0) : WR P S B p t i (i + 1) z' u' (E + 1) (fun e => if e = E then i else τ e) := by
  obtain ⟨w0, w1, w2, w3, w4, w5, w6, w7, w8, w9⟩ := hw
  have hr := hx.2.2.2.2.2.2.2.1
  have hB := hx.2.2.1.2.2.1
  have pi := hx.2.2.2.1 i (by omega)
  have tl : ∀ e, e < E → (if e = E then i else τ e) = τ e := fun e he => if_neg (by omega)
  have tE : (if E = E then i else τ E) = i := if_pos rfl
  have pn : ∀ e, e < E → ¬ p (τ e) = p i := fun e he w => by
    have := cx_inj hx (by have := (w4 e he).1; omega) (by omega) w
    have := (w4 e he).1
    omega
  have h6 : ∀ e, e < E → ¬ u 25 e = 0 → ¬ u 11 (p (τ e)) = nI q := by
    rcases w6 q hq with ⟨_, g⟩ | ⟨e, he, g, _⟩
    · exact g
    · exact absurd (g.symm.trans h33) (nI_mm (by have := (enr_at hx (Nat.le_of_lt hi) (w4 e he)).2.1; omega))
  refine ⟨by omega, ?_, ?_, ?_, fun f hf => ?_, fun l hl2 h => ?_, fun q2 hq2' => ?_, ?_, fun x hx2 => ?_, fun e f he hf h => ?_⟩
  · unfold W1; rw [hz 26 (by decide) (by decide) (by decide) (by decide) (by decide) (by decide) (by decide), hu 18 (by decide)]; exact w1
  · unfold W2; rw [hz 26 (by decide) (by decide) (by decide) (by decide) (by decide) (by decide) (by decide)]; exact w2
  · unfold W3; rw [hz 36 (by decide) (by decide) (by decide) (by decide) (by decide) (by decide) (by decide), hu 19 (by decide)]; exact w3
  · show ENR S p t (i + 1) z' u' (if f = E then i else τ f) f
    unfold ENR
    rw [hz 31 (by decide) (by decide) (by decide) (by decide) (by decide) (by decide) (by decide), hu 11 (by decide), z27, z28, z29, z30, z32, u20, u21, u22, u23, u24, u25, u26]
    by_cases c : f = E
    · rw [c, tE]
      exact ⟨by omega, ht, upd_at, upd_at, upd_at, upd_at.trans upd_at.symm, upd_at.trans upd_at.symm, upd_at.trans upd_at.symm, ⟨q, hq, hq2⟩, by rw [upd_at]; exact hl, Or.inl ⟨upd_at, upd_at⟩⟩
    · have hf2 : f < E := by omega
      rw [tl f hf2, upd_ne (pn f hf2), upd_ne (pn f hf2), upd_ne (pn f hf2), upd_ne (pn f hf2), upd_ne (pn f hf2), upd_ne c, upd_ne c, upd_ne c, upd_ne c, upd_ne c, upd_ne c, upd_ne c]
      obtain ⟨a1, a2⟩ := w4 f hf2
      exact ⟨by omega, a2⟩
  · have hE : ¬ p (if E = E then i else τ E) = l := h E (by omega)
    rw [tE] at hE
    rw [z27, upd_ne (fun w => hE w.symm)]
    exact w5 l hl2 (fun e he => by have h9 : ¬ p (if e = E then i else τ e) = l := h e (by omega); rw [tl e he] at h9; exact h9)
  · show (z' 33 q2 = -1 ∧ ∀ e, e < E + 1 → ¬ u' 25 e = 0 → ¬ u' 11 (p (if e = E then i else τ e)) = nI q2) ∨ (∃ e, e < E + 1 ∧ z' 33 q2 = nI (p (if e = E then i else τ e)) ∧ ¬ u' 25 e = 0 ∧ u' 11 (p (if e = E then i else τ e)) = nI q2 ∧ ∀ f, f < E + 1 → ¬ u' 25 f = 0 → u' 11 (p (if f = E then i else τ f)) = nI q2 → f = e)
    rw [z33, u25, hu 11 (by decide)]
    by_cases c : q2 = q
    · rw [c, upd_at]
      refine Or.inr ⟨E, by omega, by rw [tE], by rw [upd_at]; decide, by rw [tE]; exact hq2, fun f hf a b => ?_⟩
      by_cases d : f = E
      · exact d
      · rw [upd_ne d] at a
        rw [tl f (by omega)] at b
        exact absurd b (h6 f (by omega) a)
    · rw [upd_ne c]
      rcases w6 q2 hq2' with ⟨g1, g2⟩ | ⟨f, hf, g1, g2, g3, g4⟩
      · refine Or.inl ⟨g1, fun e he a b => ?_⟩
        by_cases d : e = E
        · rw [d, tE, hq2] at b
          exact c (nI_inj b (by omega) (by omega)).symm
        · rw [upd_ne d] at a
          rw [tl e (by omega)] at b
          exact g2 e (by omega) a b
      · refine Or.inr ⟨f, by omega, by rw [tl f hf]; exact g1, by rw [upd_ne (by omega)]; exact g2, by rw [tl f hf]; exact g3, fun e he a b => ?_⟩
        by_cases d : e = E
        · rw [d, tE, hq2] at b
          exact absurd (nI_inj b (by omega) (by omega)).symm c
        · rw [upd_ne d] at a
          rw [tl e (by omega)] at b
          exact g4 e (by omega) a b
  · unfold W7; rw [hz 34 (by decide) (by decide) (by decide) (by decide) (by decide) (by decide) (by decide), hz 35 (by decide) (by decide) (by decide) (by decide) (by decide) (by decide) (by decide), hu 27 (by decide), hu 28 (by decide)]; exact w7
  · have ec : cF u' (nI x) (E + 1) = cF u (nI x) E + if nI h = nI x then 1 else 0 := by
      show cF u' (nI x) E + (if u' 10 (u' 20 E).toNatClampNeg = nI x then 1 else 0) = _
      rw [cF_cg (u := u) (v := u') (hu 10 (by decide)) E (fun e he => by rw [u20, upd_ne (by omega)]), u20, upd_at, hu 10 (by decide), nI_clamp (by omega), hp]
    rw [z37, ec]
    by_cases c : x = h
    · rw [c, upd_at, if_pos rfl, w8 h hh]
      exact nI_1 _
    · rw [upd_ne c, if_neg (fun w => c (nI_inj w (by omega) (by omega)).symm)]
      exact w8 x hx2
  · have h2 : (if e = E then i else τ e) = (if f = E then i else τ f) := h
    by_cases c : e = E
    · by_cases d : f = E
      · rw [c, d]
      · rw [if_pos c, if_neg d] at h2
        have := (w4 f (by omega)).1
        omega
    · by_cases d : f = E
      · rw [if_neg c, if_pos d] at h2
        have := (w4 e (by omega)).1
        omega
      · rw [if_neg c, if_neg d] at h2
        exact w9 e f (by omega) (by omega) h2
end WRS
