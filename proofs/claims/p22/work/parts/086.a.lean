/-- a sum -/
def smW (w : Nat → Int32) : Nat → Int32
  | 0 => 0
  | k + 1 => smW w k + w k
theorem smW_cg {w v : Nat → Int32} : ∀ N, (∀ l, l < N → w l = v l) → smW w N = smW v N := by
  intro N
  induction N with
  | zero => intro _; rfl
  | succ N ih =>
    intro h
    show smW w N + w N = smW v N + v N
    rw [ih (fun l hl => h l (by omega)), h N (by omega)]
theorem smW_no {w : Nat → Int32} : ∀ N, (∀ l, l < N → w l = 0) → smW w N = 0 := by
  intro N
  induction N with
  | zero => intro _; rfl
  | succ N ih =>
    intro h
    show smW w N + w N = 0
    rw [ih (fun l hl => h l (by omega)), h N (by omega)]; rfl
theorem smW_rm {w : Nat → Int32} {c : Nat → Bool} {l0 : Nat} (h0 : c l0 = true) : ∀ N, l0 < N → smW (fun l => if c l = true then w l else 0) N = smW (fun l => if (c l && !decide (l = l0)) = true then w l else 0) N + w l0 := by
  intro N
  induction N with
  | zero => intro h; exact absurd h (Nat.not_lt_zero _)
  | succ N ih =>
    intro h
    show smW (fun l => if c l = true then w l else 0) N + (if c N = true then w N else 0) = smW (fun l => if (c l && !decide (l = l0)) = true then w l else 0) N + (if (c N && !decide (N = l0)) = true then w N else 0) + w l0
    by_cases e : N = l0
    · have h1 : smW (fun l => if c l = true then w l else 0) N = smW (fun l => if (c l && !decide (l = l0)) = true then w l else 0) N := smW_cg N (fun l hl => by
        have : decide (l = l0) = false := decide_eq_false (by omega)
        show (if c l = true then w l else 0) = (if (c l && !decide (l = l0)) = true then w l else 0)
        rw [this]; simp)
      have h2 : decide (N = l0) = true := decide_eq_true e
      rw [h1, h2, e, h0]; simp
    · have h2 : decide (N = l0) = false := decide_eq_false e
      rw [ih (by omega), h2]
      simp only [Bool.not_false, Bool.and_true]
      rw [Int32.add_assoc, Int32.add_assoc, Int32.add_comm (w l0)]
theorem smW_bij {B : Nat} {p : Nat → Nat} {w : Nat → Int32} : ∀ E, (∀ e, e < E → p e < B) → (∀ e f, e < E → f < E → p e = p f → e = f) → ∀ c : Nat → Bool, (∀ l, l < B → (c l = true ↔ ∃ e, e < E ∧ p e = l)) → smW (fun s => w (p s)) E = smW (fun l => if c l = true then w l else 0) B := by
  intro E
  induction E with
  | zero => intro _ _ c hc; exact (smW_no B (fun l hl => if_neg (fun h => by obtain ⟨e, he, _⟩ := (hc l hl).mp h; exact absurd he (Nat.not_lt_zero e)))).symm
  | succ E ih =>
    intro hL hi c hc
    have h0 : c (p E) = true := (hc _ (hL E (by omega))).mpr ⟨E, by omega, rfl⟩
    show smW (fun s => w (p s)) E + w (p E) = _
    rw [smW_rm h0 B (hL E (by omega)), ih (fun e he => hL e (by omega)) (fun e f he hf => hi e f (by omega) (by omega)) (fun l => c l && !decide (l = p E)) (fun l hl => ?_)]
    show (c l && !decide (l = p E)) = true ↔ _
    rw [Bool.and_eq_true, hc l hl]
    constructor
    · rintro ⟨⟨e, he, e1⟩, hn⟩
      refine ⟨e, ?_, e1⟩
      by_cases q : e = E
      · rw [q] at e1
        rw [decide_eq_true e1.symm] at hn
        exact absurd hn (by decide)
      · omega
    · rintro ⟨e, he, e1⟩
      refine ⟨⟨e, by omega, e1⟩, ?_⟩
      have : ¬ l = p E := fun q => by
        have := hi e E (by omega) (by omega) (e1.trans q)
        omega
      rw [decide_eq_false this]; rfl
/-- the order in which it is added is all one -/
theorem smW_perm {B : Nat} {p : Nat → Nat} {w : Nat → Int32} (h1 : ∀ e, e < B → p e < B) (h2 : ∀ e f, e < B → f < B → p e = p f → e = f) (h3 : ∀ l, l < B → ∃ e, e < B ∧ p e = l) : smW (fun s => w (p s)) B = smW w B := by
  rw [smW_bij B h1 h2 (fun _ => true) (fun l hl => ⟨fun _ => h3 l hl, fun _ => rfl⟩)]
  exact smW_cg B (fun l hl => if_pos rfl)
/-- acres as a sum -/
theorem acF_sm {a : Nat → Nat → Int32} {i t : Nat} : ∀ d, acF a i t d = smW (fun s => if DBH a (a 24 (t + s)).toNatClampNeg 2 i then a 22 (a 24 (t + s)).toNatClampNeg else 0) d := by
  intro d
  induction d with
  | zero => rfl
  | succ d ih =>
    show (if DBH a (a 24 (t + d)).toNatClampNeg 2 i then acF a i t d + a 22 (a 24 (t + d)).toNatClampNeg else acF a i t d) = smW _ d + (if DBH a (a 24 (t + d)).toNatClampNeg 2 i then a 22 (a 24 (t + d)).toNatClampNeg else 0)
    rw [← ih]
    by_cases c : DBH a (a 24 (t + d)).toNatClampNeg 2 i
    · rw [if_pos c, if_pos c]
    · rw [if_neg c, if_neg c, Int32.add_zero]
theorem smW_add {w : Nat → Int32} {t : Nat} : ∀ d, smW w (t + d) = smW w t + smW (fun s => w (t + s)) d := by
  intro d
  induction d with
  | zero => show smW w t = smW w t + 0; rw [Int32.add_zero]
  | succ d ih =>
    show smW w (t + d) + w (t + d) = smW w t + (smW (fun s => w (t + s)) d + w (t + d))
    rw [ih, Int32.add_assoc]
