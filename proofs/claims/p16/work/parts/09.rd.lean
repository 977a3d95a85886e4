theorem kc_cg {c d : Nat → Bool} : ∀ N, (∀ l, l < N → c l = d l) → kc c N = kc d N := by
  intro N
  induction N with
  | zero => intro _; rfl
  | succ N ih =>
    intro h
    show kc c N + (if c N = true then 1 else 0) = kc d N + (if d N = true then 1 else 0)
    rw [ih (fun l hl => h l (by omega)), h N (by omega)]
theorem kc_rm {c : Nat → Bool} {l0 : Nat} (h0 : c l0 = true) : ∀ N, l0 < N → kc c N = kc (fun l => c l && !decide (l = l0)) N + 1 := by
  intro N
  induction N with
  | zero => intro h; exact absurd h (Nat.not_lt_zero _)
  | succ N ih =>
    intro h
    show kc c N + (if c N = true then 1 else 0) = kc (fun l => c l && !decide (l = l0)) N + (if (c N && !decide (N = l0)) = true then 1 else 0) + 1
    by_cases e : N = l0
    · have h1 : kc c N = kc (fun l => c l && !decide (l = l0)) N := kc_cg N (fun l hl => by
        have : decide (l = l0) = false := decide_eq_false (by omega)
        show c l = (c l && !decide (l = l0))
        rw [this]; simp)
      have h2 : decide (N = l0) = true := decide_eq_true e
      rw [h1, h2, e, h0]; simp
    · have h2 : decide (N = l0) = false := decide_eq_false e
      rw [ih (by omega), h2]
      simp; omega
theorem kc_no {c : Nat → Bool} : ∀ N, (∀ l, l < N → ¬ c l = true) → kc c N = 0 := by
  intro N
  induction N with
  | zero => intro _; rfl
  | succ N ih => intro h; rw [kc_n (h N (by omega))]; exact ih (fun l hl => h l (by omega))
theorem kc_bij {B : Nat} {L : Nat → Nat} {g : Nat → Bool} : ∀ E, (∀ e, e < E → L e < B) → (∀ e f, e < E → f < E → L e = L f → e = f) → ∀ c : Nat → Bool, (∀ l, l < B → (c l = true ↔ ∃ e, e < E ∧ L e = l ∧ g e = true)) → kc c B = kc g E := by
  intro E
  induction E with
  | zero => intro _ _ c hc; exact kc_no B (fun l hl w => by obtain ⟨e, he, _⟩ := (hc l hl).mp w; exact absurd he (Nat.not_lt_zero e))
  | succ E ih =>
    intro hL hi c hc
    by_cases hg : g E = true
    · rw [kc_s hg]
      have h0 : c (L E) = true := (hc _ (hL E (by omega))).mpr ⟨E, by omega, rfl, hg⟩
      rw [kc_rm h0 B (hL E (by omega)), ih (fun e he => hL e (by omega)) (fun e f he hf => hi e f (by omega) (by omega)) (fun l => c l && !decide (l = L E)) (fun l hl => ?_)]
      show (c l && !decide (l = L E)) = true ↔ _
      rw [Bool.and_eq_true, hc l hl]
      constructor
      · rintro ⟨⟨e, he, e1, e2⟩, hn⟩
        refine ⟨e, ?_, e1, e2⟩
        by_cases w : e = E
        · rw [w] at e1
          rw [decide_eq_true e1.symm] at hn
          exact absurd hn (by decide)
        · omega
      · rintro ⟨e, he, e1, e2⟩
        refine ⟨⟨e, by omega, e1, e2⟩, ?_⟩
        have : ¬ l = L E := fun w => by
          have := hi e E (by omega) (by omega) (e1.trans w)
          omega
        rw [decide_eq_false this]; rfl
    · rw [kc_n hg]
      refine ih (fun e he => hL e (by omega)) (fun e f he hf => hi e f (by omega) (by omega)) c (fun l hl => ?_)
      rw [hc l hl]
      constructor
      · rintro ⟨e, he, e1, e2⟩
        refine ⟨e, ?_, e1, e2⟩
        by_cases w : e = E
        · rw [w] at e2; exact absurd e2 hg
        · omega
      · rintro ⟨e, he, e1⟩; exact ⟨e, by omega, e1⟩
theorem cnE_kc {f : Nat → Int32} {x : Int32} : ∀ N, cnE f x N = kc (fun l => decide (f l = x)) N := by
  intro N
  induction N with
  | zero => rfl
  | succ N ih =>
    show cnE f x N + (if f N = x then 1 else 0) = kc (fun l => decide (f l = x)) N + (if decide (f N = x) = true then 1 else 0)
    rw [ih]
    by_cases c : f N = x
    · rw [if_pos c, if_pos (decide_eq_true c)]
    · rw [if_neg c, if_neg (by rw [decide_eq_false c]; decide)]
theorem cst_cg {f g : Nat → Int32} : ∀ N, (∀ l, l < N → f l = g l) → cst f N = cst g N := by
  intro N
  induction N with
  | zero => intro _; rfl
  | succ N ih =>
    intro h
    show cst f N + (if f N = 0 then 0 else 1) = cst g N + (if g N = 0 then 0 else 1)
    rw [ih (fun l hl => h l (by omega)), h N (by omega)]
theorem cst_ex {f : Nat → Int32} {P : Nat} : ∀ d, (∀ l, P ≤ l → l < P + d → f l = 0) → cst f (P + d) = cst f P := by
  intro d
  induction d with
  | zero => intro _; rfl
  | succ d ih =>
    intro h
    show cst f (P + d) + (if f (P + d) = 0 then 0 else 1) = _
    rw [ih (fun l a b => h l a (by omega)), if_pos (h (P + d) (by omega) (by omega))]; rfl
theorem cnG_cg {f g : Nat → Int32} : ∀ N, (∀ l, l < N → f l = g l) → cnG f N = cnG g N := by
  intro N
  induction N with
  | zero => intro _; rfl
  | succ N ih =>
    intro h
    show cnG f N + (if 0 < f N then 1 else 0) = cnG g N + (if 0 < g N then 1 else 0)
    rw [ih (fun l hl => h l (by omega)), h N (by omega)]
theorem dgF_cg {f g : Nat → Int32} {d0 d1 : Int32} (h0 : d0 = d1) : ∀ N, (∀ l, l < N → f l = g l) → dgF f d0 N = dgF g d1 N := by
  intro N
  induction N with
  | zero => intro _; exact h0
  | succ N ih =>
    intro h
    show 31 * dgF f d0 N + f N = 31 * dgF g d1 N + g N
    rw [ih (fun l hl => h l (by omega)), h N (by omega)]
theorem cnE_3 {f : Nat → Int32} : ∀ N, (∀ l, l < N → f l = 1 ∨ f l = 2 ∨ f l = 0) → cnE f 1 N + cnE f 2 N + cnE f 0 N = N := by
  intro N
  induction N with
  | zero => intro _; rfl
  | succ N ih =>
    intro h
    have := ih (fun l hl => h l (by omega))
    show cnE f 1 N + (if f N = 1 then 1 else 0) + (cnE f 2 N + (if f N = 2 then 1 else 0)) + (cnE f 0 N + (if f N = 0 then 1 else 0)) = N + 1
    rcases h N (by omega) with e | e | e
    · rw [e, if_pos rfl, if_neg (by decide), if_neg (by decide)]; omega
    · rw [e, if_pos rfl, if_neg (by decide), if_neg (by decide)]; omega
    · rw [e, if_pos rfl, if_neg (by decide), if_neg (by decide)]; omega
theorem LNS_u {B N N2 : Nat} {x : Int32} (h : LNS B x N) (h2 : LNS B x N2) (hB : B ≤ 120) : N = N2 := nI_inj (h.2.symm.trans h2.2) (by have := h.1; omega) (by have := h2.1; omega)
section WRA
variable {P S B r E : Nat} {p : Nat → Nat} {t : Nat → Bool} {z u : Nat → Nat → Int32} {n m : Nat → Int32} {τ : Nat → Nat}
theorem cn_at (hx : CX P S B p t r z u n m) (hw : WR P S B p t r r z u E τ) {v s : Int32} (hv : ¬ v = 0) (hvs : (v = 1 ∧ s = 1) ∨ (v = 2 ∧ s = 2) ∨ (v = 3 ∧ s = 0)) : cnE (z 27) v B = cnE (u 25) s E := by
  obtain ⟨w0, w1, w2, w3, w4, w5, w6, w7, w8, w9⟩ := hw
  have hB := hx.2.2.1.2.2.1
  rw [cnE_kc, cnE_kc]
  refine kc_bij (L := fun e => p (τ e)) E (fun e he => (enr_at hx (Nat.le_refl r) (w4 e he)).2.1) (fun e f he hf h => w9 e f he hf (cx_inj hx (enr_at hx (Nat.le_refl r) (w4 e he)).1 (enr_at hx (Nat.le_refl r) (w4 f hf)).1 h)) _ (fun l hl => ?_)
  have st : ∀ e, e < E → (z 27 (p (τ e)) = v ↔ u 25 e = s) := fun e he => by
    rcases (w4 e he).2.2.2.2.2.2.2.2.2.2 with ⟨a, b⟩ | ⟨a, b, _⟩ | ⟨a, b⟩
    all_goals (rw [a, b]; rcases hvs with ⟨rfl, rfl⟩ | ⟨rfl, rfl⟩ | ⟨rfl, rfl⟩ <;> decide)
  rw [decide_eq_true_iff]
  constructor
  · intro h
    refine Classical.byContradiction fun hn => ?_
    have := w5 l (by omega) (fun e he w => hn ⟨e, he, w, decide_eq_true ((st e he).mp (by rw [w]; exact h))⟩)
    exact hv (h.symm.trans this)
  · rintro ⟨e, he, e1, e2⟩
    rw [← e1]
    exact (st e he).mpr (of_decide_eq_true e2)
theorem ho_at (hx : CX P S B p t r z u n m) (hw : WR P S B p t r r z u E τ) {k : Nat} (hk : k < 64) : HOL z k = HOm u E k := by
  have hB := hx.2.2.1.2.2.1
  have hr := hx.2.2.2.2.2.2.2.1
  have hE := hw.1
  unfold HOL HOm
  rcases en_at hx hw (Nat.le_refl r) hk with ⟨e1, e2, _⟩ | ⟨e, he, e1, e1c, e2, ec, h1, h2, h3, h4⟩
  · rw [e1, e2]; rfl
  · rw [e2, ec, e1c, e1, if_neg (nI_mm (by have := (enr_at hx (Nat.le_refl r) h4).2.1; omega)), if_neg (nI_nn (by omega))]
    exact h4.2.2.2.2.2.1
theorem cnH_cg (hx : CX P S B p t r z u n m) (hw : WR P S B p t r r z u E τ) (x : Int32) : ∀ k, k ≤ 64 → cnH z x k = cnM u E x k := by
  intro k
  induction k with
  | zero => intro _; rfl
  | succ k ih =>
    intro hk
    show cnH z x k + (if HOL z k = x then 1 else 0) = cnM u E x k + (if HOm u E k = x then 1 else 0)
    rw [ih (by omega), ho_at hx hw (by omega)]
end WRA
theorem rl2_outcome {P S T B S2 T2 : Nat} {a a1 b b1 : Nat → Nat → Int32} {g g2 : Nat → Nat → Int64} {n n1 m m1 : Nat → Int32} {x : Int32} {y : Int32} {r1 r2 : Int32} (h : RL1 P S T B S2 T2 a n b m) (hX : TX_outcome P S T B a g n x y r1 a1 n1) (hY : TY_outcome P S2 T2 B b g2 m x y r2 b1 m1) : r1 = r2 ∧ ∃ P S T B S2 T2, RL1 P S T B S2 T2 a1 n1 b1 m1 := by
  refine ⟨?_, P, S, T, B, S2, T2, rl1_kk h hX.1 hY.1⟩
  have hx2 := hX.2
  have hy2 := hY.2
  have hB : B ≤ 120 := (RL0_S h.1).2.2.1.2
  rcases hx2 with ⟨c1, rfl⟩ | ⟨c1, d1, rfl⟩ | ⟨c1, d1, N, l1, z, u, hT, rfl⟩
  · rcases hy2 with ⟨c2, rfl⟩ | ⟨c2, _⟩ | ⟨c2, _⟩
    · rfl
    · exact absurd c2 c1
    · exact absurd c2 c1
  · rcases hy2 with ⟨c2, rfl⟩ | ⟨c2, d2, rfl⟩ | ⟨c2, d2, _⟩
    · exact absurd c1 c2
    · rfl
    · exact absurd d2 d1
  · rcases hy2 with ⟨c2, rfl⟩ | ⟨c2, d2, rfl⟩ | ⟨c2, d2, N2, l2, zm, E, M, hM, rfl⟩
    · exact absurd c1 c2
    · exact absurd d1 d2
    · obtain rfl := LNS_u l1 l2 hB
      obtain ⟨p, t, r, τ, cx, wr, _, _⟩ := thp_mth h l1.1 hT hM
      obtain ⟨k, hk, rfl⟩ := ib_nI c1 (by omega)
      rw [nI_clamp (by omega)]
      exact wr.2.1 k (by omega)
theorem rl2_holdings {P S T B S2 T2 : Nat} {a a1 b b1 : Nat → Nat → Int32} {g g2 : Nat → Nat → Int64} {n n1 m m1 : Nat → Int32} {x : Int32} {y : Int32} {r1 r2 : Int32} (h : RL1 P S T B S2 T2 a n b m) (hX : TX_holdings P S T B a g n x y r1 a1 n1) (hY : TY_holdings P S2 T2 B b g2 m x y r2 b1 m1) : r1 = r2 ∧ ∃ P S T B S2 T2, RL1 P S T B S2 T2 a1 n1 b1 m1 := by
  refine ⟨?_, P, S, T, B, S2, T2, rl1_kk h hX.1 hY.1⟩
  have hx2 := hX.2
  have hy2 := hY.2
  have hB : B ≤ 120 := (RL0_S h.1).2.2.1.2
  rcases hx2 with ⟨c1, rfl⟩ | ⟨c1, d1, rfl⟩ | ⟨c1, d1, N, l1, z, u, hT, rfl⟩
  · rcases hy2 with ⟨c2, rfl⟩ | ⟨c2, _⟩ | ⟨c2, _⟩
    · rfl
    · exact absurd c2 c1
    · exact absurd c2 c1
  · rcases hy2 with ⟨c2, rfl⟩ | ⟨c2, d2, rfl⟩ | ⟨c2, d2, _⟩
    · exact absurd c1 c2
    · rfl
    · exact absurd d2 d1
  · rcases hy2 with ⟨c2, rfl⟩ | ⟨c2, d2, rfl⟩ | ⟨c2, d2, N2, l2, zm, E, M, hM, rfl⟩
    · exact absurd c1 c2
    · exact absurd d1 d2
    · obtain rfl := LNS_u l1 l2 hB
      obtain ⟨p, t, r, τ, cx, wr, _, _⟩ := thp_mth h l1.1 hT hM
      rw [cnH_cg cx wr x 64 (Nat.le_refl _)]
theorem rl2_digest {P S T B S2 T2 : Nat} {a a1 b b1 : Nat → Nat → Int32} {g g2 : Nat → Nat → Int64} {n n1 m m1 : Nat → Int32} {x : Int32} {r1 r2 : Int32} (h : RL1 P S T B S2 T2 a n b m) (hX : TX_digest P S T B a g n x r1 a1 n1) (hY : TY_digest P S2 T2 B b g2 m x r2 b1 m1) : r1 = r2 ∧ ∃ P S T B S2 T2, RL1 P S T B S2 T2 a1 n1 b1 m1 := by
  refine ⟨?_, P, S, T, B, S2, T2, rl1_kk h hX.1 hY.1⟩
  have hx2 := hX.2
  have hy2 := hY.2
  have hB : B ≤ 120 := (RL0_S h.1).2.2.1.2
  rcases hx2 with ⟨c1, rfl⟩ | ⟨c1, N, l1, z, u, hT, rfl⟩
  · rcases hy2 with ⟨c2, rfl⟩ | ⟨c2, _⟩
    · rfl
    · exact absurd c2 c1
  · rcases hy2 with ⟨c2, rfl⟩ | ⟨c2, N2, l2, zm, E, M, hM, rfl⟩
    · exact absurd c1 c2
    · obtain rfl := LNS_u l1 l2 hB
      obtain ⟨p, t, r, τ, cx, wr, _, _⟩ := thp_mth h l1.1 hT hM
      exact dgF_cg (dgF_cg rfl N (fun l hl => wr.2.1 l (by have := l1.1; omega))) 64 (fun k hk => ho_at cx wr hk)
theorem rl2_count {P S T B S2 T2 : Nat} {a a1 b b1 : Nat → Nat → Int32} {g g2 : Nat → Nat → Int64} {n n1 m m1 : Nat → Int32} {x : Int32} {r1 r2 : Int32} (h : RL1 P S T B S2 T2 a n b m) (hX : TX_count P S T B a g n x r1 a1 n1) (hY : TY_count P S2 T2 B b g2 m x r2 b1 m1) : r1 = r2 ∧ ∃ P S T B S2 T2, RL1 P S T B S2 T2 a1 n1 b1 m1 := by
  refine ⟨?_, P, S, T, B, S2, T2, rl1_kk h hX.1 hY.1⟩
  have hx2 := hX.2
  have hy2 := hY.2
  have hB : B ≤ 120 := (RL0_S h.1).2.2.1.2
  obtain ⟨zm, E, M, hM, hC⟩ := hy2
  have hz := hM.2.2.2
  obtain ⟨h0, ⟨rfl, rfl, _⟩, _⟩ := id h
  have q6 : a 23 = b 13 := h0.2.2.2.2.2.1.2.2.2.2.2
  rcases hx2 with ⟨e1, rfl⟩ | ⟨e1, rfl⟩ | ⟨e1, rfl⟩ | ⟨e1, rfl⟩ | ⟨e1, rfl⟩ | ⟨e1, e1', rfl⟩ | ⟨e0, z, u, hT, hW⟩
  · -- 0
    rcases hC with ⟨e2, rfl⟩ | ⟨e2, rfl⟩ | ⟨e2, rfl⟩ | ⟨e2, rfl⟩ | ⟨e2, rfl⟩ | ⟨e2, rfl⟩ | ⟨e2, rfl⟩ | ⟨e2, rfl⟩ | ⟨e2, rfl⟩ | ⟨e2, rfl⟩ | ⟨e2, rfl⟩ | ⟨e2, rfl⟩
    · rfl
    · exact absurd (e1.symm.trans e2) (by decide)
    · exact absurd (e1.symm.trans e2) (by decide)
    · exact absurd (e1.symm.trans e2) (by decide)
    · exact absurd (e1.symm.trans e2) (by decide)
    · exact absurd (e1.symm.trans e2) (by decide)
    · exact absurd (e1.symm.trans e2) (by decide)
    · exact absurd (e1.symm.trans e2) (by decide)
    · exact absurd (e1.symm.trans e2) (by decide)
    · exact absurd (e1.symm.trans e2) (by decide)
    · exact absurd (e1.symm.trans e2) (by decide)
    · rw [e1] at e2; exact absurd e2 (by decide)
  · -- 1
    rcases hC with ⟨e2, rfl⟩ | ⟨e2, rfl⟩ | ⟨e2, rfl⟩ | ⟨e2, rfl⟩ | ⟨e2, rfl⟩ | ⟨e2, rfl⟩ | ⟨e2, rfl⟩ | ⟨e2, rfl⟩ | ⟨e2, rfl⟩ | ⟨e2, rfl⟩ | ⟨e2, rfl⟩ | ⟨e2, rfl⟩
    · exact absurd (e1.symm.trans e2) (by decide)
    · rfl
    · exact absurd (e1.symm.trans e2) (by decide)
    · exact absurd (e1.symm.trans e2) (by decide)
    · exact absurd (e1.symm.trans e2) (by decide)
    · exact absurd (e1.symm.trans e2) (by decide)
    · exact absurd (e1.symm.trans e2) (by decide)
    · exact absurd (e1.symm.trans e2) (by decide)
    · exact absurd (e1.symm.trans e2) (by decide)
    · exact absurd (e1.symm.trans e2) (by decide)
    · exact absurd (e1.symm.trans e2) (by decide)
    · rw [e1] at e2; exact absurd e2 (by decide)
  · -- 2
    rcases hC with ⟨e2, rfl⟩ | ⟨e2, rfl⟩ | ⟨e2, rfl⟩ | ⟨e2, rfl⟩ | ⟨e2, rfl⟩ | ⟨e2, rfl⟩ | ⟨e2, rfl⟩ | ⟨e2, rfl⟩ | ⟨e2, rfl⟩ | ⟨e2, rfl⟩ | ⟨e2, rfl⟩ | ⟨e2, rfl⟩
    · exact absurd (e1.symm.trans e2) (by decide)
    · exact absurd (e1.symm.trans e2) (by decide)
    · rfl
    · exact absurd (e1.symm.trans e2) (by decide)
    · exact absurd (e1.symm.trans e2) (by decide)
    · exact absurd (e1.symm.trans e2) (by decide)
    · exact absurd (e1.symm.trans e2) (by decide)
    · exact absurd (e1.symm.trans e2) (by decide)
    · exact absurd (e1.symm.trans e2) (by decide)
    · exact absurd (e1.symm.trans e2) (by decide)
    · exact absurd (e1.symm.trans e2) (by decide)
    · rw [e1] at e2; exact absurd e2 (by decide)
  · -- 3
    rcases hC with ⟨e2, rfl⟩ | ⟨e2, rfl⟩ | ⟨e2, rfl⟩ | ⟨e2, rfl⟩ | ⟨e2, rfl⟩ | ⟨e2, rfl⟩ | ⟨e2, rfl⟩ | ⟨e2, rfl⟩ | ⟨e2, rfl⟩ | ⟨e2, rfl⟩ | ⟨e2, rfl⟩ | ⟨e2, rfl⟩
    · exact absurd (e1.symm.trans e2) (by decide)
    · exact absurd (e1.symm.trans e2) (by decide)
    · exact absurd (e1.symm.trans e2) (by decide)
    · rw [hz 13 (by decide), q6]
    · exact absurd (e1.symm.trans e2) (by decide)
    · exact absurd (e1.symm.trans e2) (by decide)
    · exact absurd (e1.symm.trans e2) (by decide)
    · exact absurd (e1.symm.trans e2) (by decide)
    · exact absurd (e1.symm.trans e2) (by decide)
    · exact absurd (e1.symm.trans e2) (by decide)
    · exact absurd (e1.symm.trans e2) (by decide)
    · rw [e1] at e2; exact absurd e2 (by decide)
  · -- 4
    rcases hC with ⟨e2, rfl⟩ | ⟨e2, rfl⟩ | ⟨e2, rfl⟩ | ⟨e2, rfl⟩ | ⟨e2, rfl⟩ | ⟨e2, rfl⟩ | ⟨e2, rfl⟩ | ⟨e2, rfl⟩ | ⟨e2, rfl⟩ | ⟨e2, rfl⟩ | ⟨e2, rfl⟩ | ⟨e2, rfl⟩
    · exact absurd (e1.symm.trans e2) (by decide)
    · exact absurd (e1.symm.trans e2) (by decide)
    · exact absurd (e1.symm.trans e2) (by decide)
    · exact absurd (e1.symm.trans e2) (by decide)
    · rfl
    · exact absurd (e1.symm.trans e2) (by decide)
    · exact absurd (e1.symm.trans e2) (by decide)
    · exact absurd (e1.symm.trans e2) (by decide)
    · exact absurd (e1.symm.trans e2) (by decide)
    · exact absurd (e1.symm.trans e2) (by decide)
    · exact absurd (e1.symm.trans e2) (by decide)
    · rw [e1] at e2; exact absurd e2 (by decide)
  · rcases hC with ⟨e2, rfl⟩ | ⟨e2, rfl⟩ | ⟨e2, rfl⟩ | ⟨e2, rfl⟩ | ⟨e2, rfl⟩ | ⟨e2, rfl⟩ | ⟨e2, rfl⟩ | ⟨e2, rfl⟩ | ⟨e2, rfl⟩ | ⟨e2, rfl⟩ | ⟨e2, rfl⟩ | ⟨e2, rfl⟩
    · rw [e2] at e1'; exact absurd e1' (by decide)
    · rw [e2] at e1'; exact absurd e1' (by decide)
    · rw [e2] at e1'; exact absurd e1' (by decide)
    · rw [e2] at e1'; exact absurd e1' (by decide)
    · rw [e2] at e1'; exact absurd e1' (by decide)
    · rw [e2] at e1; exact absurd e1 (by decide)
    · rw [e2] at e1; exact absurd e1 (by decide)
    · rw [e2] at e1; exact absurd e1 (by decide)
    · rw [e2] at e1; exact absurd e1 (by decide)
    · rw [e2] at e1; exact absurd e1 (by decide)
    · rw [e2] at e1; exact absurd e1 (by decide)
    · rfl
  · obtain ⟨p, t, r, τ, cx, wr, _, _⟩ := thp_mth h (Nat.le_refl B) hT hM
    have hE := wr.1
    have hr := cx.2.2.2.2.2.2.2.1
    have hP := cx.2.2.1.2.2.2
    have s3 : ∀ e, e < E → zm 25 e = 1 ∨ zm 25 e = 2 ∨ zm 25 e = 0 := fun e he => by
      rcases (wr.2.2.2.2.1 e he).2.2.2.2.2.2.2.2.2.2 with ⟨a, _⟩ | ⟨a, _⟩ | ⟨a, _⟩
      · exact Or.inl a
      · exact Or.inr (Or.inl a)
      · exact Or.inr (Or.inr a)
    have k1 : cnE (z 27) 1 B = cnE (zm 25) 1 E := cn_at cx wr (by decide) (Or.inl ⟨rfl, rfl⟩)
    have k2 : cnE (z 27) 2 B = cnE (zm 25) 2 E := cn_at cx wr (by decide) (Or.inr (Or.inl ⟨rfl, rfl⟩))
    have k3 : cnE (z 27) 3 B = cnE (zm 25) 0 E := cn_at cx wr (by decide) (Or.inr (Or.inr ⟨rfl, rfl⟩))
    have k4 := cnE_3 E s3
    rcases hW with ⟨e1, rfl⟩ | ⟨e1, rfl⟩ | ⟨e1, rfl⟩ | ⟨e1, rfl⟩ | ⟨e1, rfl⟩ | ⟨e1, rfl⟩
    · -- 5
      rcases hC with ⟨e2, rfl⟩ | ⟨e2, rfl⟩ | ⟨e2, rfl⟩ | ⟨e2, rfl⟩ | ⟨e2, rfl⟩ | ⟨e2, rfl⟩ | ⟨e2, rfl⟩ | ⟨e2, rfl⟩ | ⟨e2, rfl⟩ | ⟨e2, rfl⟩ | ⟨e2, rfl⟩ | ⟨e2, rfl⟩
      · exact absurd (e1.symm.trans e2) (by decide)
      · exact absurd (e1.symm.trans e2) (by decide)
      · exact absurd (e1.symm.trans e2) (by decide)
      · exact absurd (e1.symm.trans e2) (by decide)
      · exact absurd (e1.symm.trans e2) (by decide)
      · rw [k1, k2, k3, nI_pl (by omega), nI_pl (by omega), k4]
      · exact absurd (e1.symm.trans e2) (by decide)
      · exact absurd (e1.symm.trans e2) (by decide)
      · exact absurd (e1.symm.trans e2) (by decide)
      · exact absurd (e1.symm.trans e2) (by decide)
      · exact absurd (e1.symm.trans e2) (by decide)
      · rw [e1] at e2; exact absurd e2 (by decide)
    · -- 6
      rcases hC with ⟨e2, rfl⟩ | ⟨e2, rfl⟩ | ⟨e2, rfl⟩ | ⟨e2, rfl⟩ | ⟨e2, rfl⟩ | ⟨e2, rfl⟩ | ⟨e2, rfl⟩ | ⟨e2, rfl⟩ | ⟨e2, rfl⟩ | ⟨e2, rfl⟩ | ⟨e2, rfl⟩ | ⟨e2, rfl⟩
      · exact absurd (e1.symm.trans e2) (by decide)
      · exact absurd (e1.symm.trans e2) (by decide)
      · exact absurd (e1.symm.trans e2) (by decide)
      · exact absurd (e1.symm.trans e2) (by decide)
      · exact absurd (e1.symm.trans e2) (by decide)
      · exact absurd (e1.symm.trans e2) (by decide)
      · rw [k1]
      · exact absurd (e1.symm.trans e2) (by decide)
      · exact absurd (e1.symm.trans e2) (by decide)
      · exact absurd (e1.symm.trans e2) (by decide)
      · exact absurd (e1.symm.trans e2) (by decide)
      · rw [e1] at e2; exact absurd e2 (by decide)
    · -- 7
      rcases hC with ⟨e2, rfl⟩ | ⟨e2, rfl⟩ | ⟨e2, rfl⟩ | ⟨e2, rfl⟩ | ⟨e2, rfl⟩ | ⟨e2, rfl⟩ | ⟨e2, rfl⟩ | ⟨e2, rfl⟩ | ⟨e2, rfl⟩ | ⟨e2, rfl⟩ | ⟨e2, rfl⟩ | ⟨e2, rfl⟩
      · exact absurd (e1.symm.trans e2) (by decide)
      · exact absurd (e1.symm.trans e2) (by decide)
      · exact absurd (e1.symm.trans e2) (by decide)
      · exact absurd (e1.symm.trans e2) (by decide)
      · exact absurd (e1.symm.trans e2) (by decide)
      · exact absurd (e1.symm.trans e2) (by decide)
      · exact absurd (e1.symm.trans e2) (by decide)
      · rw [k2]
      · exact absurd (e1.symm.trans e2) (by decide)
      · exact absurd (e1.symm.trans e2) (by decide)
      · exact absurd (e1.symm.trans e2) (by decide)
      · rw [e1] at e2; exact absurd e2 (by decide)
    · -- 8
      rcases hC with ⟨e2, rfl⟩ | ⟨e2, rfl⟩ | ⟨e2, rfl⟩ | ⟨e2, rfl⟩ | ⟨e2, rfl⟩ | ⟨e2, rfl⟩ | ⟨e2, rfl⟩ | ⟨e2, rfl⟩ | ⟨e2, rfl⟩ | ⟨e2, rfl⟩ | ⟨e2, rfl⟩ | ⟨e2, rfl⟩
      · exact absurd (e1.symm.trans e2) (by decide)
      · exact absurd (e1.symm.trans e2) (by decide)
      · exact absurd (e1.symm.trans e2) (by decide)
      · exact absurd (e1.symm.trans e2) (by decide)
      · exact absurd (e1.symm.trans e2) (by decide)
      · exact absurd (e1.symm.trans e2) (by decide)
      · exact absurd (e1.symm.trans e2) (by decide)
      · exact absurd (e1.symm.trans e2) (by decide)
      · rw [k3]
      · exact absurd (e1.symm.trans e2) (by decide)
      · exact absurd (e1.symm.trans e2) (by decide)
      · rw [e1] at e2; exact absurd e2 (by decide)
    · -- 9
      rcases hC with ⟨e2, rfl⟩ | ⟨e2, rfl⟩ | ⟨e2, rfl⟩ | ⟨e2, rfl⟩ | ⟨e2, rfl⟩ | ⟨e2, rfl⟩ | ⟨e2, rfl⟩ | ⟨e2, rfl⟩ | ⟨e2, rfl⟩ | ⟨e2, rfl⟩ | ⟨e2, rfl⟩ | ⟨e2, rfl⟩
      · exact absurd (e1.symm.trans e2) (by decide)
      · exact absurd (e1.symm.trans e2) (by decide)
      · exact absurd (e1.symm.trans e2) (by decide)
      · exact absurd (e1.symm.trans e2) (by decide)
      · exact absurd (e1.symm.trans e2) (by decide)
      · exact absurd (e1.symm.trans e2) (by decide)
      · exact absurd (e1.symm.trans e2) (by decide)
      · exact absurd (e1.symm.trans e2) (by decide)
      · exact absurd (e1.symm.trans e2) (by decide)
      · rw [show (12 : Nat) = P + (12 - P) by omega, cst_ex (12 - P) (fun l a b => wr.2.2.2.1.2 l a (by omega)), cst_cg P (fun l hl => wr.2.2.2.1.1 l (by omega))]
      · exact absurd (e1.symm.trans e2) (by decide)
      · rw [e1] at e2; exact absurd e2 (by decide)
    · -- 10
      rcases hC with ⟨e2, rfl⟩ | ⟨e2, rfl⟩ | ⟨e2, rfl⟩ | ⟨e2, rfl⟩ | ⟨e2, rfl⟩ | ⟨e2, rfl⟩ | ⟨e2, rfl⟩ | ⟨e2, rfl⟩ | ⟨e2, rfl⟩ | ⟨e2, rfl⟩ | ⟨e2, rfl⟩ | ⟨e2, rfl⟩
      · exact absurd (e1.symm.trans e2) (by decide)
      · exact absurd (e1.symm.trans e2) (by decide)
      · exact absurd (e1.symm.trans e2) (by decide)
      · exact absurd (e1.symm.trans e2) (by decide)
      · exact absurd (e1.symm.trans e2) (by decide)
      · exact absurd (e1.symm.trans e2) (by decide)
      · exact absurd (e1.symm.trans e2) (by decide)
      · exact absurd (e1.symm.trans e2) (by decide)
      · exact absurd (e1.symm.trans e2) (by decide)
      · exact absurd (e1.symm.trans e2) (by decide)
      · rw [cnG_cg B (fun l hl => wr.2.1 l (by omega))]
      · rw [e1] at e2; exact absurd e2 (by decide)
theorem rl2_holds {P S T B S2 T2 : Nat} {a a1 b b1 : Nat → Nat → Int32} {g g2 : Nat → Nat → Int64} {n n1 m m1 : Nat → Int32} {x : Int32} {y : Int32} {u : Int32} {q : Int32} {r1 r2 : Int32} (h : RL1 P S T B S2 T2 a n b m) (hX : TX_holds P S T B a g n x y u q r1 a1 n1) (hY : TY_holds P S2 T2 B b g2 m x y u q r2 b1 m1) : r1 = r2 ∧ ∃ P S T B S2 T2, RL1 P S T B S2 T2 a1 n1 b1 m1 := by
  refine ⟨?_, P, S, T, B, S2, T2, rl1_kk h hX.1 hY.1⟩
  have hx2 := hX.2
  have hy2 := hY.2
  have hB : B ≤ 120 := (RL0_S h.1).2.2.1.2
  rcases hx2 with ⟨c1, rfl⟩ | ⟨c1, d1, rfl⟩ | ⟨k, hk, rfl, ⟨d1, d1', d1''⟩, N, l1, z, w, hT, hW⟩
  · rcases hy2 with ⟨c2, rfl⟩ | ⟨c2, _⟩ | ⟨k, hk, rfl, _⟩
    · rfl
    · exact absurd c2 c1
    · exact absurd ⟨Int32.not_lt.mp (nI_nneg (by omega)), (nI_leI (b := 63) (by omega) (by decide)).mpr hk⟩ c1
  · rcases hy2 with ⟨c2, rfl⟩ | ⟨c2, d2, rfl⟩ | ⟨k, hk, rfl, d2, _⟩
    · exact absurd c1 c2
    · rfl
    · exact absurd d2 d1
  · rcases hy2 with ⟨c2, rfl⟩ | ⟨c2, d2, rfl⟩ | ⟨k2, hk2, ek, d2, N2, l2, zm, E, M, hM, hC⟩
    · exact absurd ⟨Int32.not_lt.mp (nI_nneg (by omega)), (nI_leI (b := 63) (by omega) (by decide)).mpr hk⟩ c2
    · exact absurd ⟨d1, d1', d1''⟩ d2
    · obtain rfl := nI_inj ek (by omega) (by omega)
      obtain rfl := LNS_u l1 l2 hB
      have hM6 := hM.2.2.1
      obtain ⟨p, t, r, τ, cx, wr, eM, w5⟩ := thp_mth h l1.1 hT hM
      have hE := wr.1
      have hr := cx.2.2.2.2.2.2.2.1
      have h5 := h.1.2.2.2.1
      have y1 := le_i.mp d1.1
      have y2 := le_i.mp d1.2
      have hn1 : ∀ N, N < 120 → ¬ nI N = -1 := fun N h => nI_mm (by omega)
      rcases en_at cx wr (Nat.le_refl r) (show k < 64 by omega) with ⟨e1, e2, _⟩ | ⟨e, he, e1, e1c, e2, ec, g1, g2, g3, en⟩
      · -- nobody holds
        have em : ¬ ¬ enO zm (nI k) E < 0 := fun w => w (by rw [e2]; decide)
        have ep : enO zm (nI k) E < 0 := by rw [e2]; decide
        rcases hW with ⟨a1, rfl⟩ | ⟨a1, rfl⟩ | ⟨a1, rfl⟩ | ⟨a1, rfl⟩ | ⟨a1, a2⟩ | ⟨a1, rfl⟩
        · -- 0
          rcases hC with ⟨b1, rfl⟩ | ⟨b1, rfl⟩ | ⟨b1, rfl⟩ | ⟨b1, rfl⟩ | ⟨b1, b2⟩ | ⟨b1, rfl⟩
          · exact ho_at cx wr (by omega)
          · exact absurd (a1.symm.trans b1) (by decide)
          · exact absurd (a1.symm.trans b1) (by decide)
          · exact absurd (a1.symm.trans b1) (by decide)
          · exact absurd (a1.symm.trans b1) (by decide)
          · exact absurd (a1.symm.trans b1) (by decide)
        · -- 1
          rcases hC with ⟨b1, rfl⟩ | ⟨b1, rfl⟩ | ⟨b1, rfl⟩ | ⟨b1, rfl⟩ | ⟨b1, b2⟩ | ⟨b1, rfl⟩
          · exact absurd (a1.symm.trans b1) (by decide)
          · unfold STm
            rw [if_pos e1, if_pos ep, w5, h5]
            exact ite_cg and_comm rfl
          · exact absurd (a1.symm.trans b1) (by decide)
          · exact absurd (a1.symm.trans b1) (by decide)
          · exact absurd (a1.symm.trans b1) (by decide)
          · exact absurd (a1.symm.trans b1) (by decide)
        · -- 2
          rcases hC with ⟨b1, rfl⟩ | ⟨b1, rfl⟩ | ⟨b1, rfl⟩ | ⟨b1, rfl⟩ | ⟨b1, b2⟩ | ⟨b1, rfl⟩
          · exact absurd (a1.symm.trans b1) (by decide)
          · exact absurd (a1.symm.trans b1) (by decide)
          · rw [if_pos ep, e1]
          · exact absurd (a1.symm.trans b1) (by decide)
          · exact absurd (a1.symm.trans b1) (by decide)
          · exact absurd (a1.symm.trans b1) (by decide)
        · -- 3
          rcases hC with ⟨b1, rfl⟩ | ⟨b1, rfl⟩ | ⟨b1, rfl⟩ | ⟨b1, rfl⟩ | ⟨b1, b2⟩ | ⟨b1, rfl⟩
          · exact absurd (a1.symm.trans b1) (by decide)
          · exact absurd (a1.symm.trans b1) (by decide)
          · exact absurd (a1.symm.trans b1) (by decide)
          · exact (pf_at wr.2.2.2.2.2.2.2.1 (show k < 64 by omega) y).1
          · exact absurd (a1.symm.trans b1) (by decide)
          · exact absurd (a1.symm.trans b1) (by decide)
        · -- 4
          rcases hC with ⟨b1, rfl⟩ | ⟨b1, rfl⟩ | ⟨b1, rfl⟩ | ⟨b1, rfl⟩ | ⟨b1, b2⟩ | ⟨b1, rfl⟩
          · exact absurd (a1.symm.trans b1) (by decide)
          · exact absurd (a1.symm.trans b1) (by decide)
          · exact absurd (a1.symm.trans b1) (by decide)
          · exact absurd (a1.symm.trans b1) (by decide)
          · rcases a2 with ⟨_, rfl⟩ | ⟨e, t2, he, ee, _⟩
            · rcases b2 with ⟨_, rfl⟩ | ⟨e, he, ee, _⟩
              · rfl
              · exact absurd (ee.symm.trans e2) (nI_mm (by omega))
            · exact absurd (ee.symm.trans e1) (hn1 e (by omega))
          · exact absurd (a1.symm.trans b1) (by decide)
        · -- 5
          rcases hC with ⟨b1, rfl⟩ | ⟨b1, rfl⟩ | ⟨b1, rfl⟩ | ⟨b1, rfl⟩ | ⟨b1, b2⟩ | ⟨b1, rfl⟩
          · exact absurd (a1.symm.trans b1) (by decide)
          · exact absurd (a1.symm.trans b1) (by decide)
          · exact absurd (a1.symm.trans b1) (by decide)
          · exact absurd (a1.symm.trans b1) (by decide)
          · exact absurd (a1.symm.trans b1) (by decide)
          · rw [if_pos e1, if_pos ep]
      · -- somebody holds
        have en20 := (enr_at cx (Nat.le_refl r) en).2.2.1
        have hpt := (enr_at cx (Nat.le_refl r) en).2.1
        have h32 := en.2.2.2.2.1
        have hti := en.1
        have hkb := kc_b (t := t) (τ e)
        have c21 : (zm 21 e).toNatClampNeg = kc t (τ e) := by rw [en.2.2.2.1, nI_clamp (by omega)]
        have em : ¬ enO zm (nI k) E < 0 := by rw [e2]; exact nI_nn (by omega)
        have e33 : ¬ z 33 k = -1 := by rw [e1]; exact nI_mm (by omega)
        rcases hW with ⟨a1, rfl⟩ | ⟨a1, rfl⟩ | ⟨a1, rfl⟩ | ⟨a1, rfl⟩ | ⟨a1, a2⟩ | ⟨a1, rfl⟩
        · -- 0
          rcases hC with ⟨b1, rfl⟩ | ⟨b1, rfl⟩ | ⟨b1, rfl⟩ | ⟨b1, rfl⟩ | ⟨b1, b2⟩ | ⟨b1, rfl⟩
          · exact ho_at cx wr (by omega)
          · exact absurd (a1.symm.trans b1) (by decide)
          · exact absurd (a1.symm.trans b1) (by decide)
          · exact absurd (a1.symm.trans b1) (by decide)
          · exact absurd (a1.symm.trans b1) (by decide)
          · exact absurd (a1.symm.trans b1) (by decide)
        · -- 1
          rcases hC with ⟨b1, rfl⟩ | ⟨b1, rfl⟩ | ⟨b1, rfl⟩ | ⟨b1, rfl⟩ | ⟨b1, b2⟩ | ⟨b1, rfl⟩
          · exact absurd (a1.symm.trans b1) (by decide)
          · unfold STm
            rw [if_neg e33, if_neg em, e1c, e2, ec]
            rcases en.2.2.2.2.2.2.2.2.2.2 with ⟨s1, s2⟩ | ⟨s1, s2, s3⟩ | ⟨s1, _⟩
            · rw [s1, s2, if_pos rfl, if_neg (fun w => absurd w.1 (by decide))]
            · rw [s1, s2, s3, if_neg (show ¬ (2 : Int32) = 1 by decide)]
              exact ite_cg ⟨fun w => w.2, fun w => ⟨rfl, w⟩⟩ rfl
            · exact absurd s1 g1
          · exact absurd (a1.symm.trans b1) (by decide)
          · exact absurd (a1.symm.trans b1) (by decide)
          · exact absurd (a1.symm.trans b1) (by decide)
          · exact absurd (a1.symm.trans b1) (by decide)
        · -- 2
          rcases hC with ⟨b1, rfl⟩ | ⟨b1, rfl⟩ | ⟨b1, rfl⟩ | ⟨b1, rfl⟩ | ⟨b1, b2⟩ | ⟨b1, rfl⟩
          · exact absurd (a1.symm.trans b1) (by decide)
          · exact absurd (a1.symm.trans b1) (by decide)
          · rw [if_neg em, e2, ec, e1, en.2.2.1]
          · exact absurd (a1.symm.trans b1) (by decide)
          · exact absurd (a1.symm.trans b1) (by decide)
          · exact absurd (a1.symm.trans b1) (by decide)
        · -- 3
          rcases hC with ⟨b1, rfl⟩ | ⟨b1, rfl⟩ | ⟨b1, rfl⟩ | ⟨b1, rfl⟩ | ⟨b1, b2⟩ | ⟨b1, rfl⟩
          · exact absurd (a1.symm.trans b1) (by decide)
          · exact absurd (a1.symm.trans b1) (by decide)
          · exact absurd (a1.symm.trans b1) (by decide)
          · exact (pf_at wr.2.2.2.2.2.2.2.1 (show k < 64 by omega) y).1
          · exact absurd (a1.symm.trans b1) (by decide)
          · exact absurd (a1.symm.trans b1) (by decide)
        · -- 4
          rcases hC with ⟨b1, rfl⟩ | ⟨b1, rfl⟩ | ⟨b1, rfl⟩ | ⟨b1, rfl⟩ | ⟨b1, b2⟩ | ⟨b1, rfl⟩
          · exact absurd (a1.symm.trans b1) (by decide)
          · exact absurd (a1.symm.trans b1) (by decide)
          · exact absurd (a1.symm.trans b1) (by decide)
          · exact absurd (a1.symm.trans b1) (by decide)
          · rcases a2 with ⟨f1, _⟩ | ⟨l, t2, hl, el, ht2, _, rfl⟩
            · exact absurd f1 e33
            · rcases b2 with ⟨f1, _⟩ | ⟨f, hf, ef, v, d, ev, hv, hd, rfl⟩
              · exact absurd f1 em
              · obtain rfl := nI_inj (e2.symm.trans ef) (by omega) (by omega)
                obtain rfl := nI_inj (e1.symm.trans el) (by omega) (by omega)
                rw [en20] at ev
                have d18 : z 18 = zm 8 := cx.2.1.1
                rw [eM, d18]
                have eFr : (zm 8 (p (τ e))).toInt = v := by rw [ev, nI_toInt (by omega)]
                exact (lv_wk cx wr (Nat.le_refl r) (Nat.le_refl r) he (fr := zm 8 (p (τ e))) (tu := y) (by rw [eFr]; omega) (by have z1 : (20000 : Int32).toInt = 20000 := rfl; have z0 : (0 : Int32).toInt = 0 := rfl; omega) (by rw [eFr, if_neg (by omega)]) hd).1
          · exact absurd (a1.symm.trans b1) (by decide)
        · -- 5
          rcases hC with ⟨b1, rfl⟩ | ⟨b1, rfl⟩ | ⟨b1, rfl⟩ | ⟨b1, rfl⟩ | ⟨b1, b2⟩ | ⟨b1, rfl⟩
          · exact absurd (a1.symm.trans b1) (by decide)
          · exact absurd (a1.symm.trans b1) (by decide)
          · exact absurd (a1.symm.trans b1) (by decide)
          · exact absurd (a1.symm.trans b1) (by decide)
          · exact absurd (a1.symm.trans b1) (by decide)
          · rw [if_neg e33, if_neg em, e1c, e2, ec, c21, h32, nI_clamp (by omega), eM]
            rcases ac_at cx wr (Nat.le_refl r) (Nat.le_refl r) he (B - τ e) (by omega) with g | g
            · rw [g]
              by_cases c0 : τ e + (B - τ e) ≤ r
              · rw [if_pos c0, show τ e + (B - τ e) = r by omega]
              · rw [if_neg c0]
            · omega
