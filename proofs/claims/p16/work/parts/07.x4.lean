/-- what holds while the reference works the book: how many are in order, entries, worked -/
def YW (S B M6 E7 W8 : Nat) (a : Nat → Nat → Int32) (n : Nat → Int32) : Prop :=
  n 6 = nI M6 ∧ M6 ≤ 120 ∧ n 7 = nI E7 ∧ n 8 = nI W8 ∧ E7 ≤ W8 ∧ W8 ≤ M6 ∧ (∀ i, i < M6 → ∃ j, j < B ∧ a 17 i = nI j) ∧ (∀ e, e < E7 → ∃ j, j < B ∧ a 20 e = nI j) ∧ (∀ e, e < E7 → ∃ t, t ≤ W8 ∧ a 21 e = nI t) ∧ (∀ e, e < E7 → YL S (a 24 e))
theorem YI_keep {P S T B : Nat} {a b : Nat → Nat → Int32} {n m : Nat → Int32} (I : YI P S T B a n) (h : ∀ q, q < 17 → b q = a q) (hm : ∀ j, j < 6 → m j = n j) : YI P S T B b m := by
  rw [YI, h 8 (by omega), h 9 (by omega), h 10 (by omega), h 11 (by omega), h 12 (by omega), hm 0 (by omega), hm 2 (by omega), hm 4 (by omega), hm 5 (by omega)]
  exact I
/-- the lines in order: the first l looked at -/
def PIO (a : Nat → Nat → Int32) (f0 : Nat → Int32) (y : Int32) : Nat → (Nat → Int32) → Nat → Prop
  | 0, f, M => f = f0 ∧ M = 0
  | l + 1, f, M => ∃ f1 M1, PIO a f0 y l f1 M1 ∧ ((¬ (a 13 l = 0 ∧ a 8 l ≤ y) ∧ f = f1 ∧ M = M1) ∨ (a 13 l = 0 ∧ a 8 l ≤ y ∧ M = M1 + 1 ∧ ∃ k, k ≤ M1 ∧ (∀ i, k ≤ i → i < M1 → a 8 l < a 8 (f1 i).toNatClampNeg) ∧ (k = 0 ∨ a 8 (f1 (k - 1)).toNatClampNeg ≤ a 8 l) ∧ f = upd (shf f1 M1 k) k (nI l)))
theorem ins_bd {f : Nat → Int32} {M k l : Nat} (h : ∀ i, i < M → ∃ j, j < l ∧ f i = nI j) (hk : k ≤ M) : ∀ i, i < M + 1 → ∃ j, j < l + 1 ∧ upd (shf f M k) k (nI l) i = nI j := by
  intro i hi
  by_cases e : i = k
  · exact ⟨l, by omega, by rw [upd, if_pos e]⟩
  · rw [upd, if_neg e, shf]
    by_cases q : k < i ∧ i ≤ M
    · rw [if_pos q]
      obtain ⟨j, h1, h2⟩ := h (i - 1) (by omega)
      exact ⟨j, by omega, h2⟩
    · rw [if_neg q]
      obtain ⟨j, h1, h2⟩ := h i (by omega)
      exact ⟨j, by omega, h2⟩
/-- the entry that holds a quarter -/
def enO (a : Nat → Nat → Int32) (x : Int32) : Nat → Int32
  | 0 => -1
  | e + 1 => if ¬ a 25 e = 0 ∧ a 11 (a 20 e).toNatClampNeg = x then nI e else enO a x e
theorem enO_p {a : Nat → Nat → Int32} {x : Int32} {e j : Nat} (h1 : ¬ a 25 e = 0) (h2 : a 20 e = nI j) (hj : j < 2 ^ 31) (h3 : a 11 j = x) : enO a x (e + 1) = nI e := by
  rw [enO, h2, nI_clamp hj]; exact if_pos ⟨h1, h3⟩
theorem enO_z {a : Nat → Nat → Int32} {x : Int32} {e : Nat} (h1 : a 25 e = 0) : enO a x (e + 1) = enO a x e := by
  rw [enO]; exact if_neg (fun z => z.1 h1)
theorem enO_y {a : Nat → Nat → Int32} {x : Int32} {e j : Nat} (h2 : a 20 e = nI j) (hj : j < 2 ^ 31) (h3 : ¬ a 11 j = x) : enO a x (e + 1) = enO a x e := by
  rw [enO, h2, nI_clamp hj]; exact if_neg (fun z => h3 z.2)
theorem enO_in (a : Nat → Nat → Int32) (x : Int32) : ∀ E, enO a x E = -1 ∨ ∃ e, e < E ∧ enO a x E = nI e := by
  intro E
  induction E with
  | zero => exact Or.inl rfl
  | succ E ih =>
    rw [enO]
    by_cases q : ¬ a 25 E = 0 ∧ a 11 (a 20 E).toNatClampNeg = x
    · rw [if_pos q]; exact Or.inr ⟨E, by omega, rfl⟩
    · rw [if_neg q]; exact ih.imp id (fun ⟨j, h1, h2⟩ => ⟨j, by omega, h2⟩)
def opO (a : Nat → Nat → Int32) (x : Int32) (E : Nat) : Int32 := if ¬ enO a x E < 0 ∧ a 25 (enO a x E).toNatClampNeg = 1 then enO a x E else -1
theorem opO_in (a : Nat → Nat → Int32) (x : Int32) (E : Nat) : opO a x E = -1 ∨ ∃ e, e < E ∧ opO a x E = nI e := by
  rw [opO]
  by_cases q : ¬ enO a x E < 0 ∧ a 25 (enO a x E).toNatClampNeg = 1
  · rw [if_pos q]; exact enO_in a x E
  · rw [if_neg q]; exact Or.inl rfl
/-- a line of a sort, done, by one who has been the entry's holder -/
abbrev DBM (a : Nat → Nat → Int32) (k : Nat) (z : Int32) (i : Nat) : Prop := a 9 k = z ∧ a 18 k = 0 ∧ a 11 k = a 11 (a 20 i).toNatClampNeg ∧ (a 23 i >>> (a 10 k &&& 31)) &&& 1 = 1
def rng (f : Nat → Int32) (u v : Nat) : Nat → Int32 := fun i => if u ≤ i ∧ i < v then 1 else f i
theorem rng_0 (f : Nat → Int32) (u : Nat) : rng f u u = f := by
  funext i
  exact if_neg (by omega)
theorem rng_s {f : Nat → Int32} {u c : Nat} : upd (rng f u (u + c)) (u + c) 1 = rng f u (u + (c + 1)) := by
  funext i
  by_cases e : i = u + c
  · rw [upd, if_pos e, rng, if_pos (by omega)]
  · rw [upd, if_neg e, rng, rng]
    by_cases q : u ≤ i ∧ i < u + c
    · rw [if_pos q, if_pos (by omega)]
    · rw [if_neg q, if_neg (by omega)]
/-- the days marked -/
def mkF (a : Nat → Nat → Int32) (i : Nat) : Nat → Nat → Int32
  | 0 => fil (a 29) 0 25200
  | k + 1 => if DBM a (a 17 k).toNatClampNeg 1 i then rng (mkF a i k) (a 8 (a 17 k).toNatClampNeg).toNatClampNeg (a 8 (a 17 k).toNatClampNeg + a 12 (a 17 k).toNatClampNeg).toNatClampNeg else mkF a i k
theorem mkF_s {a : Nat → Nat → Int32} {i k j u v : Nat} {f : Nat → Int32} (hm : mkF a i k = f) (e : a 17 k = nI j) (hj : j < 2 ^ 31) (q : DBM a j 1 i) (e1 : a 8 j = nI u) (e2 : a 12 j = nI v) (hu : u + v < 2 ^ 31) : mkF a i (k + 1) = rng f u (u + v) := by
  rw [mkF, e, nI_clamp hj, if_pos q, e1, e2, nI_add, nI_clamp (by omega), nI_clamp hu, hm]
theorem mkF_z {a : Nat → Nat → Int32} {i k j : Nat} {f : Nat → Int32} (hm : mkF a i k = f) (e : a 17 k = nI j) (hj : j < 2 ^ 31) (q : ¬ DBM a j 1 i) : mkF a i (k + 1) = f := by
  rw [mkF, e, nI_clamp hj, if_neg q, hm]
def cL (f : Nat → Int32) (u : Nat) : Nat → Nat
  | 0 => 0
  | d + 1 => cL f u d + if f (u + d) = 0 then 0 else 1
theorem cL_p {f : Nat → Int32} {u d : Nat} (h : ¬ f (u + d) = 0) : cL f u (d + 1) = cL f u d + 1 := by simp [cL, h]
theorem cL_z {f : Nat → Int32} {u d : Nat} (h : f (u + d) = 0) : cL f u (d + 1) = cL f u d := by simp [cL, h]
def gpN (f : Nat → Int32) (u : Nat) : Nat → Nat
  | 0 => 0
  | d + 1 => if f (u + d) = 0 then gpN f u d + 1 else 0
theorem gpN_z {f : Nat → Int32} {u d : Nat} (h : f (u + d) = 0) : gpN f u (d + 1) = gpN f u d + 1 := by simp [gpN, h]
theorem gpN_p {f : Nat → Int32} {u d : Nat} (h : ¬ f (u + d) = 0) : gpN f u (d + 1) = 0 := by simp [gpN, h]
theorem gpN_le (f : Nat → Int32) (u : Nat) : ∀ d, gpN f u d ≤ d := by
  intro d
  induction d with
  | zero => exact Nat.le_refl 0
  | succ d ih => simp only [gpN]; split <;> omega
def lgN (f : Nat → Int32) (u : Nat) : Nat → Nat
  | 0 => 0
  | d + 1 => if lgN f u d < gpN f u (d + 1) then gpN f u (d + 1) else lgN f u d
theorem lgN_le (f : Nat → Int32) (u : Nat) : ∀ d, lgN f u d ≤ d := by
  intro d
  induction d with
  | zero => exact Nat.le_refl 0
  | succ d ih =>
    simp only [lgN]
    have := gpN_le f u (d + 1)
    split <;> omega
/-- of the days from u on up to y so many -/
def UPT (u : Nat) (y : Int32) (d : Nat) : Prop := ¬ nI (u + d) ≤ y ∧ (∀ j, j < d → nI (u + j) ≤ y) ∧ (d = 0 ∨ u + d ≤ 25200)
def acM (a : Nat → Nat → Int32) (i t : Nat) : Nat → Int32
  | 0 => 0
  | d + 1 => if DBM a (a 17 (t + d)).toNatClampNeg 2 i then acM a i t d + a 12 (a 17 (t + d)).toNatClampNeg else acM a i t d
theorem acM_p {a : Nat → Nat → Int32} {i t d j : Nat} (h : a 17 (t + d) = nI j) (hj : j < 2 ^ 31) (q : DBM a j 2 i) : acM a i t d + a 12 j = acM a i t (d + 1) := by
  rw [acM, h, nI_clamp hj, if_pos q]
theorem acM_z {a : Nat → Nat → Int32} {i t d j : Nat} (h : a 17 (t + d) = nI j) (hj : j < 2 ^ 31) (q : ¬ DBM a j 2 i) : acM a i t d + 0 = acM a i t (d + 1) := by
  rw [acM, h, nI_clamp hj, if_neg q, Int32.add_zero]
abbrev PFM (a : Nat → Nat → Int32) (q : Nat) (x : Int32) : Int32 := if ¬ a 27 q < 0 ∧ x ≤ a 28 q then a 27 q else -1
def cF (a : Nat → Nat → Int32) (x : Int32) : Nat → Nat
  | 0 => 0
  | e + 1 => cF a x e + if a 10 (a 20 e).toNatClampNeg = x then 1 else 0
theorem cF_p {a : Nat → Nat → Int32} {x : Int32} {e j : Nat} (h : a 20 e = nI j) (hj : j < 2 ^ 31) (q : a 10 j = x) : cF a x (e + 1) = cF a x e + 1 := by rw [cF, h, nI_clamp hj, if_pos q]
theorem cF_z {a : Nat → Nat → Int32} {x : Int32} {e j : Nat} (h : a 20 e = nI j) (hj : j < 2 ^ 31) (q : ¬ a 10 j = x) : cF a x (e + 1) = cF a x e := by rw [cF, h, nI_clamp hj, if_neg q, Nat.add_zero]
theorem cF_le (a : Nat → Nat → Int32) (x : Int32) : ∀ d, cF a x d ≤ d := by
  intro d
  induction d with
  | zero => exact Nat.le_refl 0
  | succ d ih => simp only [cF]; split <;> omega
set_option maxHeartbeats 4000000 in
set_option maxRecDepth 100000 in
theorem d_X6_putInOrder (l : Launch) (D : va_G) (ty : Nat → ClassId) (t0 : Nat → Nat) (bd : Nat → Nat) (a : Nat → Nat → Int32) (g : Nat → Nat → Int64) (n : Nat → Int32) (P : Nat) (S : Nat) (T : Nat) (B : Nat) (I : YI P S T B a n) (x : Int32) (y : Int32) (N : Nat) (eN : x = nI N) (hNB : N ≤ B) : fc l yX6_putInOrder wsX6_putInOrder (fj_rm 0 0 0 0) D ty t0 [.ref (bd 0), .int x, .int y] (fm_w bd ty a g n) 0 0 (fun v w => v = none ∧ ∃ f M, PIO a (a 17) y N f M ∧ M ≤ N ∧ (∀ i, i < M → ∃ j, j < N ∧ f i = nI j) ∧ w = fm_w bd ty (va_up a 17 f) g (va_up n 6 (nI M))) := by
  subst eN
  refine fc_start (own := RX6) (cc := cX6_putInOrder) (maxL := 5) (ret := none) (by decide) rfl (Nat.le_of_ble_eq_true rfl) rfl ?_
  intro p e s m args below meth c Q A C hmn E9
  obtain ⟨hn0, hP, hn2, hT, hn4, hS, hn5, hB, yWho, ySort, yQ, yN, yD, yL⟩ := id I
  have iX6 : ∀ w ∈ u_ws RX6 TX6 44, w ∈ wsX6_putInOrder := ptX6_putInOrder_wsX60
  have kX6_203 : Cond.fieldLink RX6 203 "FreeLandModel" "orderMany" "I" ∈ wsX6_putInOrder := ptX6_putInOrder_woX6_putInOrder _ (by decide +kernel)
  have kX6_54 : Cond.fieldLink RX6 54 "FreeLandModel" "struck" "[Z" ∈ wsX6_putInOrder := ptX6_putInOrder_woX6_putInOrder _ (by decide +kernel)
  have kX6_39 : Cond.fieldLink RX6 39 "FreeLandModel" "days" "[I" ∈ wsX6_putInOrder := ptX6_putInOrder_woX6_putInOrder _ (by decide +kernel)
  have kX6_67 : Cond.fieldLink RX6 67 "FreeLandModel" "order" "[I" ∈ wsX6_putInOrder := ptX6_putInOrder_woX6_putInOrder _ (by decide +kernel)
  refine fj_lv (lv' := [(0, .ref (bd 0)), (1, .int (nI N)), (2, .int y)]) [0, 1, 2] rfl ?_
  refine fj_aload_n C 0 dX6_putInOrder_0 rfl rfl ?_
  refine fj_iconst (v := 0) C dX6_putInOrder_1 (by decide) ?_
  refine fj_put (Cn := RX6) (T := TX6) (N := 44) (ci := 6) C iX6 tyX6 tyX6_ok nmX6 0 (fm_at0 _ _ _ _ _) rfl 23 (by decide) kX6_203 rfl rfl rfl (Nat.le_of_ble_eq_true rfl) dX6_putInOrder_2 (fm_si0_23 _ _ _ _ _ _) ?_
  refine fj_iconst (v := 0) C dX6_putInOrder_5 (by decide) ?_
  refine fj_istore_n (lv' := [(3, .int 0), (0, .ref (bd 0)), (1, .int (nI N)), (2, .int y)]) C dX6_putInOrder_6 rfl (by decide) rfl ?_
  refine fj_lv (lv' := [(0, .ref (bd 0)), (1, .int (nI N)), (2, .int y), (3, .int 0)]) [1, 2, 3, 0] rfl ?_
  have lp7 : ∀ (l5 : Nat) (f : Nat → Int32) (M6 : Nat), (l5 ≤ N) → (PIO a (a 17) y l5 f M6) → (M6 ≤ l5) → (∀ i, i < M6 → ∃ j, j < l5 ∧ f i = nI j) → fj p l e (fj_rm 0 0 0 0) s m args below meth c Q A D 5 0 0 (fm_w bd ty (va_up a 17 f) g (va_up n 6 (nI M6))) [(0, .ref (bd 0)), (1, .int (nI N)), (2, .int y), (3, .int (nI l5))] 7 [] := by
    have key : ∀ zz : Nat × (Nat → Int32) × Nat, (fun (zz : Nat × (Nat → Int32) × Nat) => match zz with | (l5, f, M6) => (l5 ≤ N) → (PIO a (a 17) y l5 f M6) → (M6 ≤ l5) → (∀ i, i < M6 → ∃ j, j < l5 ∧ f i = nI j) → fj p l e (fj_rm 0 0 0 0) s m args below meth c Q A D 5 0 0 (fm_w bd ty (va_up a 17 f) g (va_up n 6 (nI M6))) [(0, .ref (bd 0)), (1, .int (nI N)), (2, .int y), (3, .int (nI l5))] 7 []) zz := by
      refine fx_ind (fun (zz : Nat × (Nat → Int32) × Nat) => match zz with | (l5, f, M6) => N - l5) _ ?_
      rintro ⟨l5, f, M6⟩ ih7 hl hPO hML hbd
      refine fj_iload_n C 3 dX6_putInOrder_7 rfl rfl ?_
      refine fj_iload_n C 1 dX6_putInOrder_8 rfl rfl ?_
      refine fj_icmp_ge (tgt := 111) C dX6_putInOrder_9 (by decide) (fun h9 => ?_) (fun h9 => ?_)
      · have hge : N ≤ l5 := Nat.le_of_not_lt fun q => absurd (Int32.not_lt.mpr h9) (not_not_intro ((nI_ltI (by omega) (by omega)).mpr q))
        exact fj_vret C E9 dX6_putInOrder_111 ⟨rfl, f, M6, (by rw [show N = l5 by omega]; exact hPO), by omega, (fun i hi => (hbd i hi).elim fun j q => ⟨j, by omega, q.2⟩), rfl⟩
      · have hlt : l5 < N := (nI_ltI (by omega) (by omega)).mp (Int32.not_le.mp h9)
        refine fj_aload_n C 0 dX6_putInOrder_12 rfl rfl ?_
        refine fj_get (Cn := RX6) (T := TX6) (N := 44) (ci := 6) (v := .ref (bd 13)) C iX6 0 (fm_at0 _ _ _ _ _) rfl 18 (by decide) kX6_54 rfl dX6_putInOrder_13 ?_
        refine fj_iload_n C 3 dX6_putInOrder_16 rfl rfl ?_
        refine fj_zald (f := (a 13)) C 13 (fm_at13 _ _ _ _ _) (vp_in_nI (by omega) (by decide)) dX6_putInOrder_17 ?_
        refine fj_at (y := a 13 l5) (by rw [nI_clamp (by omega)]) ?_
        refine fj_if_ne (tgt := 105) C dX6_putInOrder_18 (by decide) (fun h18 => ?_) (fun h18 => ?_)
        · refine fj_iinc (v := nI (l5 + 1)) (lv' := [(3, .int (nI (l5 + 1))), (0, .ref (bd 0)), (1, .int (nI N)), (2, .int y)]) C 3 dX6_putInOrder_105 rfl (nI_1 l5) (by decide) rfl ?_
          refine fj_goto (tgt := 7) C dX6_putInOrder_108 (by decide) ?_
          refine fj_lv (lv' := [(0, .ref (bd 0)), (1, .int (nI N)), (2, .int y), (3, .int (nI (l5 + 1)))]) [1, 2, 3, 0] rfl ?_
          exact ih7 ⟨l5 + 1, f, M6⟩ (by show N - (l5 + 1) < N - l5; omega) (by omega) (⟨f, M6, hPO, Or.inl ⟨fun z => by first | exact h18 z.1 | exact absurd h28 (Int32.not_lt.mpr z.2), rfl, rfl⟩⟩) (by omega) (fun i hi => (hbd i hi).elim fun j q => ⟨j, by omega, q.2⟩)
        · refine fj_aload_n C 0 dX6_putInOrder_21 rfl rfl ?_
          refine fj_get (Cn := RX6) (T := TX6) (N := 44) (ci := 6) (v := .ref (bd 8)) C iX6 0 (fm_at0 _ _ _ _ _) rfl 13 (by decide) kX6_39 rfl dX6_putInOrder_22 ?_
          refine fj_iload_n C 3 dX6_putInOrder_25 rfl rfl ?_
          refine fj_iald (f := (a 8)) C 8 (fm_at8 _ _ _ _ _) (vp_in_nI (by omega) (by decide)) dX6_putInOrder_26 ?_
          refine fj_at (y := a 8 l5) (by rw [nI_clamp (by omega)]) ?_
          refine fj_iload_n C 2 dX6_putInOrder_27 rfl rfl ?_
          refine fj_icmp_gt (tgt := 105) C dX6_putInOrder_28 (by decide) (fun h28 => ?_) (fun h28 => ?_)
          · refine fj_iinc (v := nI (l5 + 1)) (lv' := [(3, .int (nI (l5 + 1))), (0, .ref (bd 0)), (1, .int (nI N)), (2, .int y)]) C 3 dX6_putInOrder_105 rfl (nI_1 l5) (by decide) rfl ?_
            refine fj_goto (tgt := 7) C dX6_putInOrder_108 (by decide) ?_
            refine fj_lv (lv' := [(0, .ref (bd 0)), (1, .int (nI N)), (2, .int y), (3, .int (nI (l5 + 1)))]) [1, 2, 3, 0] rfl ?_
            exact ih7 ⟨l5 + 1, f, M6⟩ (by show N - (l5 + 1) < N - l5; omega) (by omega) (⟨f, M6, hPO, Or.inl ⟨fun z => by first | exact h18 z.1 | exact absurd h28 (Int32.not_lt.mpr z.2), rfl, rfl⟩⟩) (by omega) (fun i hi => (hbd i hi).elim fun j q => ⟨j, by omega, q.2⟩)
          · refine fj_aload_n C 0 dX6_putInOrder_31 rfl rfl ?_
            refine fj_get (Cn := RX6) (T := TX6) (N := 44) (ci := 6) (v := .int (nI M6)) C iX6 0 (fm_at0 _ _ _ _ _) rfl 23 (by decide) kX6_203 rfl dX6_putInOrder_32 ?_
            refine fj_istore (lv' := [(4, .int (nI M6)), (0, .ref (bd 0)), (1, .int (nI N)), (2, .int y), (3, .int (nI l5))]) C dX6_putInOrder_35 (by decide) rfl ?_
            refine fj_lv (lv' := [(0, .ref (bd 0)), (1, .int (nI N)), (2, .int y), (3, .int (nI l5)), (4, .int (nI M6))]) [1, 2, 3, 4, 0] rfl ?_
            have lp37 : ∀ (k : Nat), (k ≤ M6) → (∀ i, k ≤ i → i < M6 → a 8 l5 < a 8 (f i).toNatClampNeg) → fj p l e (fj_rm 0 0 0 0) s m args below meth c Q A D 5 0 0 (fm_w bd ty (va_up a 17 (shf f M6 k)) g (va_up n 6 (nI M6))) [(0, .ref (bd 0)), (1, .int (nI N)), (2, .int y), (3, .int (nI l5)), (4, .int (nI k))] 37 [] := by
              have key : ∀ zz : Nat, (fun (k : Nat) => (k ≤ M6) → (∀ i, k ≤ i → i < M6 → a 8 l5 < a 8 (f i).toNatClampNeg) → fj p l e (fj_rm 0 0 0 0) s m args below meth c Q A D 5 0 0 (fm_w bd ty (va_up a 17 (shf f M6 k)) g (va_up n 6 (nI M6))) [(0, .ref (bd 0)), (1, .int (nI N)), (2, .int y), (3, .int (nI l5)), (4, .int (nI k))] 37 []) zz := by
                refine fx_ind (fun (k : Nat) => k) _ ?_
                rintro k ih37 hk hd
                refine fj_iload C 4 dX6_putInOrder_37 rfl ?_
                refine fj_if_le (tgt := 87) C dX6_putInOrder_39 (by decide) (fun h39 => ?_) (fun h39 => ?_)
                · have e0 : k = 0 := Nat.eq_zero_of_not_pos (fun q => nI_nle q (by omega) h39)
                  refine fj_aload_n C 0 dX6_putInOrder_87 rfl rfl ?_
                  refine fj_get (Cn := RX6) (T := TX6) (N := 44) (ci := 6) (v := .ref (bd 17)) C iX6 0 (fm_at0 _ _ _ _ _) rfl 22 (by decide) kX6_67 rfl dX6_putInOrder_88 ?_
                  refine fj_iload C 4 dX6_putInOrder_91 rfl ?_
                  refine fj_iload_n C 3 dX6_putInOrder_93 rfl rfl ?_
                  refine fj_iast (f := (shf f M6 k)) C 17 (fm_at17 _ _ _ _ _) (vp_in_nI (by omega) (by decide)) dX6_putInOrder_94 (fm_st17 _ _ _ _ _ _) ?_
                  refine fj_ws (ws' := (fm_w bd ty (va_up a 17 (upd (shf f M6 k) (nI k).toNatClampNeg (nI l5))) g (va_up n 6 (nI M6)))) rfl ?_
                  refine fj_ws (ws' := (fm_w bd ty (va_up a 17 (upd (shf f M6 k) k (nI l5))) g (va_up n 6 (nI M6)))) (by rw [nI_clamp (by omega)]) ?_
                  refine fj_aload_n C 0 dX6_putInOrder_95 rfl rfl ?_
                  refine fj_dup C dX6_putInOrder_96 rfl ?_
                  refine fj_get (Cn := RX6) (T := TX6) (N := 44) (ci := 6) (v := .int (nI M6)) C iX6 0 (fm_at0 _ _ _ _ _) rfl 23 (by decide) kX6_203 rfl dX6_putInOrder_97 ?_
                  refine fj_iconst (v := 1) C dX6_putInOrder_100 (by decide) ?_
                  refine fj_iadd C dX6_putInOrder_101 ?_
                  refine fj_at (y := nI (M6 + 1)) (nI_1 M6) ?_
                  refine fj_put (Cn := RX6) (T := TX6) (N := 44) (ci := 6) C iX6 tyX6 tyX6_ok nmX6 0 (fm_at0 _ _ _ _ _) rfl 23 (by decide) kX6_203 rfl rfl rfl (Nat.le_of_ble_eq_true rfl) dX6_putInOrder_102 (fm_si0_23 _ _ _ _ _ _) ?_
                  refine fj_ws (ws' := (fm_w bd ty (va_up a 17 (upd (shf f M6 k) k (nI l5))) g (va_up n 6 (nI (M6 + 1))))) rfl ?_
                  refine fj_iinc (v := nI (l5 + 1)) (lv' := [(3, .int (nI (l5 + 1))), (0, .ref (bd 0)), (1, .int (nI N)), (2, .int y), (4, .int (nI k))]) C 3 dX6_putInOrder_105 rfl (nI_1 l5) (by decide) rfl ?_
                  refine fj_goto (tgt := 7) C dX6_putInOrder_108 (by decide) ?_
                  refine fj_lv (lv' := [(0, .ref (bd 0)), (1, .int (nI N)), (2, .int y), (3, .int (nI (l5 + 1)))]) [1, 2, 3, 0] rfl ?_
                  exact ih7 ⟨l5 + 1, upd (shf f M6 k) k (nI l5), M6 + 1⟩ (by show N - (l5 + 1) < N - l5; omega) (by omega) (⟨f, M6, hPO, Or.inr ⟨h18, Int32.not_lt.mp h28, rfl, k, hk, hd, (by first | exact Or.inl e0 | exact Or.inr h62), rfl⟩⟩) (by omega) (ins_bd hbd hk)
                · obtain ⟨k, rfl⟩ : ∃ z, k = z + 1 := ⟨k - 1, by have : k ≠ 0 := fun e => h39 (by rw [e]; decide); omega⟩
                  refine fj_aload_n C 0 dX6_putInOrder_42 rfl rfl ?_
                  refine fj_get (Cn := RX6) (T := TX6) (N := 44) (ci := 6) (v := .ref (bd 8)) C iX6 0 (fm_at0 _ _ _ _ _) rfl 13 (by decide) kX6_39 rfl dX6_putInOrder_43 ?_
                  refine fj_aload_n C 0 dX6_putInOrder_46 rfl rfl ?_
                  refine fj_get (Cn := RX6) (T := TX6) (N := 44) (ci := 6) (v := .ref (bd 17)) C iX6 0 (fm_at0 _ _ _ _ _) rfl 22 (by decide) kX6_67 rfl dX6_putInOrder_47 ?_
                  refine fj_iload C 4 dX6_putInOrder_50 rfl ?_
                  refine fj_iconst (v := 1) C dX6_putInOrder_52 (by decide) ?_
                  refine fj_isub C dX6_putInOrder_53 ?_
                  refine fj_at (y := nI k) (nI_pred k) ?_
                  refine fj_iald (f := (shf f M6 (k + 1))) C 17 (fm_at17 _ _ _ _ _) (vp_in_nI (by omega) (by decide)) dX6_putInOrder_54 ?_
                  obtain ⟨j, hj, ej⟩ := hbd k (by omega)
                  refine fj_at (y := f k) (by rw [nI_clamp (by omega)]; exact shf_lo (by omega)) ?_
                  refine fj_iald (f := (a 8)) C 8 (fm_at8 _ _ _ _ _) (by rw [ej]; exact vp_in_nI (by omega) (by decide)) dX6_putInOrder_55 ?_
                  refine fj_aload_n C 0 dX6_putInOrder_56 rfl rfl ?_
                  refine fj_get (Cn := RX6) (T := TX6) (N := 44) (ci := 6) (v := .ref (bd 8)) C iX6 0 (fm_at0 _ _ _ _ _) rfl 13 (by decide) kX6_39 rfl dX6_putInOrder_57 ?_
                  refine fj_iload_n C 3 dX6_putInOrder_60 rfl rfl ?_
                  refine fj_iald (f := (a 8)) C 8 (fm_at8 _ _ _ _ _) (vp_in_nI (by omega) (by decide)) dX6_putInOrder_61 ?_
                  refine fj_at (y := a 8 l5) (by rw [nI_clamp (by omega)]) ?_
                  refine fj_icmp_le (tgt := 87) C dX6_putInOrder_62 (by decide) (fun h62 => ?_) (fun h62 => ?_)
                  · refine fj_aload_n C 0 dX6_putInOrder_87 rfl rfl ?_
                    refine fj_get (Cn := RX6) (T := TX6) (N := 44) (ci := 6) (v := .ref (bd 17)) C iX6 0 (fm_at0 _ _ _ _ _) rfl 22 (by decide) kX6_67 rfl dX6_putInOrder_88 ?_
                    refine fj_iload C 4 dX6_putInOrder_91 rfl ?_
                    refine fj_iload_n C 3 dX6_putInOrder_93 rfl rfl ?_
                    refine fj_iast (f := (shf f M6 (k + 1))) C 17 (fm_at17 _ _ _ _ _) (vp_in_nI (by omega) (by decide)) dX6_putInOrder_94 (fm_st17 _ _ _ _ _ _) ?_
                    refine fj_ws (ws' := (fm_w bd ty (va_up a 17 (upd (shf f M6 (k + 1)) (nI (k + 1)).toNatClampNeg (nI l5))) g (va_up n 6 (nI M6)))) rfl ?_
                    refine fj_ws (ws' := (fm_w bd ty (va_up a 17 (upd (shf f M6 (k + 1)) (k + 1) (nI l5))) g (va_up n 6 (nI M6)))) (by rw [nI_clamp (by omega)]) ?_
                    refine fj_aload_n C 0 dX6_putInOrder_95 rfl rfl ?_
                    refine fj_dup C dX6_putInOrder_96 rfl ?_
                    refine fj_get (Cn := RX6) (T := TX6) (N := 44) (ci := 6) (v := .int (nI M6)) C iX6 0 (fm_at0 _ _ _ _ _) rfl 23 (by decide) kX6_203 rfl dX6_putInOrder_97 ?_
                    refine fj_iconst (v := 1) C dX6_putInOrder_100 (by decide) ?_
                    refine fj_iadd C dX6_putInOrder_101 ?_
                    refine fj_at (y := nI (M6 + 1)) (nI_1 M6) ?_
                    refine fj_put (Cn := RX6) (T := TX6) (N := 44) (ci := 6) C iX6 tyX6 tyX6_ok nmX6 0 (fm_at0 _ _ _ _ _) rfl 23 (by decide) kX6_203 rfl rfl rfl (Nat.le_of_ble_eq_true rfl) dX6_putInOrder_102 (fm_si0_23 _ _ _ _ _ _) ?_
                    refine fj_ws (ws' := (fm_w bd ty (va_up a 17 (upd (shf f M6 (k + 1)) (k + 1) (nI l5))) g (va_up n 6 (nI (M6 + 1))))) rfl ?_
                    refine fj_iinc (v := nI (l5 + 1)) (lv' := [(3, .int (nI (l5 + 1))), (0, .ref (bd 0)), (1, .int (nI N)), (2, .int y), (4, .int (nI (k + 1)))]) C 3 dX6_putInOrder_105 rfl (nI_1 l5) (by decide) rfl ?_
                    refine fj_goto (tgt := 7) C dX6_putInOrder_108 (by decide) ?_
                    refine fj_lv (lv' := [(0, .ref (bd 0)), (1, .int (nI N)), (2, .int y), (3, .int (nI (l5 + 1)))]) [1, 2, 3, 0] rfl ?_
                    exact ih7 ⟨l5 + 1, upd (shf f M6 (k + 1)) (k + 1) (nI l5), M6 + 1⟩ (by show N - (l5 + 1) < N - l5; omega) (by omega) (⟨f, M6, hPO, Or.inr ⟨h18, Int32.not_lt.mp h28, rfl, (k + 1), hk, hd, (by first | exact Or.inl e0 | exact Or.inr h62), rfl⟩⟩) (by omega) (ins_bd hbd hk)
                  · refine fj_aload_n C 0 dX6_putInOrder_65 rfl rfl ?_
                    refine fj_get (Cn := RX6) (T := TX6) (N := 44) (ci := 6) (v := .ref (bd 17)) C iX6 0 (fm_at0 _ _ _ _ _) rfl 22 (by decide) kX6_67 rfl dX6_putInOrder_66 ?_
                    refine fj_iload C 4 dX6_putInOrder_69 rfl ?_
                    refine fj_aload_n C 0 dX6_putInOrder_71 rfl rfl ?_
                    refine fj_get (Cn := RX6) (T := TX6) (N := 44) (ci := 6) (v := .ref (bd 17)) C iX6 0 (fm_at0 _ _ _ _ _) rfl 22 (by decide) kX6_67 rfl dX6_putInOrder_72 ?_
                    refine fj_iload C 4 dX6_putInOrder_75 rfl ?_
                    refine fj_iconst (v := 1) C dX6_putInOrder_77 (by decide) ?_
                    refine fj_isub C dX6_putInOrder_78 ?_
                    refine fj_at (y := nI k) (nI_pred k) ?_
                    refine fj_iald (f := (shf f M6 (k + 1))) C 17 (fm_at17 _ _ _ _ _) (vp_in_nI (by omega) (by decide)) dX6_putInOrder_79 ?_
                    refine fj_at (y := f k) (by rw [nI_clamp (by omega)]; exact shf_lo (by omega)) ?_
                    refine fj_iast (f := (shf f M6 (k + 1))) C 17 (fm_at17 _ _ _ _ _) (vp_in_nI (by omega) (by decide)) dX6_putInOrder_80 (fm_st17 _ _ _ _ _ _) ?_
                    refine fj_ws (ws' := (fm_w bd ty (va_up a 17 (upd (shf f M6 (k + 1)) (nI (k + 1)).toNatClampNeg (f k))) g (va_up n 6 (nI M6)))) rfl ?_
                    refine fj_ws (ws' := (fm_w bd ty (va_up a 17 (shf f M6 k)) g (va_up n 6 (nI M6)))) (by rw [nI_clamp (show k + 1 < 2 ^ 31 by omega), shf_s (by omega)]) ?_
                    refine fj_iinc (v := nI k) (lv' := [(4, .int (nI k)), (0, .ref (bd 0)), (1, .int (nI N)), (2, .int y), (3, .int (nI l5))]) C 4 dX6_putInOrder_81 rfl (fx_dec k) (by decide) rfl ?_
                    refine fj_goto (tgt := 37) C dX6_putInOrder_84 (by decide) ?_
                    refine fj_lv (lv' := [(0, .ref (bd 0)), (1, .int (nI N)), (2, .int y), (3, .int (nI l5)), (4, .int (nI k))]) [1, 2, 3, 4, 0] rfl ?_
                    exact ih37 k (by show k < k + 1; omega) (by omega) (fun i h1 h2 => (Nat.eq_or_lt_of_le h1).elim (fun e => e ▸ Int32.not_le.mp h62) (fun q => hd i q h2))
              intro k
              exact key k
            refine fj_ws (ws' := (fm_w bd ty (va_up a 17 (shf f M6 M6)) g (va_up n 6 (nI M6)))) (by rw [shf_0]) ?_
            exact lp37 M6 (Nat.le_refl _) (fun i h1 h2 => absurd h1 (by omega))
    intro l5 f M6
    exact key ⟨l5, f, M6⟩
  refine fj_ws (ws' := (fm_w bd ty (va_up a 17 (a 17)) g (va_up n 6 (nI 0)))) rfl ?_
  exact lp7 0 (a 17) 0 (Nat.zero_le _) (⟨rfl, rfl⟩) (Nat.le_refl _) (fun i q => absurd q (Nat.not_lt_zero _))

set_option maxHeartbeats 4000000 in
set_option maxRecDepth 100000 in
theorem d_X6_entryOf (l : Launch) (D : va_G) (ty : Nat → ClassId) (t0 : Nat → Nat) (bd : Nat → Nat) (a : Nat → Nat → Int32) (g : Nat → Nat → Int64) (n : Nat → Int32) (P : Nat) (S : Nat) (T : Nat) (B : Nat) (I : YI P S T B a n) (M6 : Nat) (E7 : Nat) (W8 : Nat) (Y : YW S B M6 E7 W8 a n) (x : Int32)  : fc l yX6_entryOf wsX6_entryOf (fj_rm 0 0 0 0) D ty t0 [.ref (bd 0), .int x] (fm_w bd ty a g n) 0 0 (fun v w => v = some (.int (enO a x E7)) ∧ w = fm_w bd ty a g n) := by
  refine fc_start (own := RX6) (cc := cX6_entryOf) (maxL := 4) (ret := (some .int)) (by decide) rfl (Nat.le_of_ble_eq_true rfl) rfl ?_
  intro p e s m args below meth c Q A C hmn E9
  obtain ⟨hn0, hP, hn2, hT, hn4, hS, hn5, hB, yWho, ySort, yQ, yN, yD, yL⟩ := id I
  obtain ⟨hn6, hM6, hn7, hn8, hEW, hWM, yO, yEL, yEA, yLW⟩ := id Y
  have iX6 : ∀ w ∈ u_ws RX6 TX6 44, w ∈ wsX6_entryOf := ptX6_entryOf_wsX60
  have kX6_206 : Cond.fieldLink RX6 206 "FreeLandModel" "entries" "I" ∈ wsX6_entryOf := ptX6_entryOf_woX6_entryOf _ (by decide +kernel)
  have kX6_91 : Cond.fieldLink RX6 91 "FreeLandModel" "entryState" "[I" ∈ wsX6_entryOf := ptX6_entryOf_woX6_entryOf _ (by decide +kernel)
  have kX6_48 : Cond.fieldLink RX6 48 "FreeLandModel" "quarters" "[I" ∈ wsX6_entryOf := ptX6_entryOf_woX6_entryOf _ (by decide +kernel)
  have kX6_76 : Cond.fieldLink RX6 76 "FreeLandModel" "entryLine" "[I" ∈ wsX6_entryOf := ptX6_entryOf_woX6_entryOf _ (by decide +kernel)
  refine fj_lv (lv' := [(0, .ref (bd 0)), (1, .int x)]) [0, 1] rfl ?_
  refine fj_iconst (v := (-1)) C dX6_entryOf_0 (by decide) ?_
  refine fj_istore_n (lv' := [(2, .int (-1)), (0, .ref (bd 0)), (1, .int x)]) C dX6_entryOf_1 rfl (by decide) rfl ?_
  refine fj_iconst (v := 0) C dX6_entryOf_2 (by decide) ?_
  refine fj_istore_n (lv' := [(3, .int 0), (2, .int (-1)), (0, .ref (bd 0)), (1, .int x)]) C dX6_entryOf_3 rfl (by decide) rfl ?_
  refine fj_lv (lv' := [(0, .ref (bd 0)), (1, .int x), (2, .int (-1)), (3, .int 0)]) [2, 3, 1, 0] rfl ?_
  have lp4 : ∀ (k : Nat), (k ≤ E7) → fj p l e (fj_rm 0 0 0 0) s m args below meth c Q A D 4 0 0 (fm_w bd ty a g n) [(0, .ref (bd 0)), (1, .int x), (2, .int (enO a x k)), (3, .int (nI k))] 4 [] := by
    have key : ∀ zz : Nat, (fun (k : Nat) => (k ≤ E7) → fj p l e (fj_rm 0 0 0 0) s m args below meth c Q A D 4 0 0 (fm_w bd ty a g n) [(0, .ref (bd 0)), (1, .int x), (2, .int (enO a x k)), (3, .int (nI k))] 4 []) zz := by
      refine fx_ind (fun (k : Nat) => E7 - k) _ ?_
      rintro k ih4 hk
      refine fj_iload_n C 3 dX6_entryOf_4 rfl rfl ?_
      refine fj_aload_n C 0 dX6_entryOf_5 rfl rfl ?_
      refine fj_get (Cn := RX6) (T := TX6) (N := 44) (ci := 6) (v := .int (n 7)) C iX6 0 (fm_at0 _ _ _ _ _) rfl 26 (by decide) kX6_206 rfl dX6_entryOf_6 ?_
      refine fj_at (y := nI E7) hn7 ?_
      refine fj_icmp_ge (tgt := 48) C dX6_entryOf_9 (by decide) (fun h9 => ?_) (fun h9 => ?_)
      · have hge : E7 ≤ k := Nat.le_of_not_lt fun q => absurd (Int32.not_lt.mpr h9) (not_not_intro ((nI_ltI (by omega) (by omega)).mpr q))
        refine fj_iload_n C 2 dX6_entryOf_48 rfl rfl ?_
        exact fj_iret C E9 dX6_entryOf_49 ⟨by rw [show k = E7 by omega], rfl⟩
      · have hlt : k < E7 := (nI_ltI (by omega) (by omega)).mp (Int32.not_le.mp h9)
        refine fj_aload_n C 0 dX6_entryOf_12 rfl rfl ?_
        refine fj_get (Cn := RX6) (T := TX6) (N := 44) (ci := 6) (v := .ref (bd 25)) C iX6 0 (fm_at0 _ _ _ _ _) rfl 32 (by decide) kX6_91 rfl dX6_entryOf_13 ?_
        refine fj_iload_n C 3 dX6_entryOf_16 rfl rfl ?_
        refine fj_iald (f := (a 25)) C 25 (fm_at25 _ _ _ _ _) (vp_in_nI (by omega) (by decide)) dX6_entryOf_17 ?_
        refine fj_at (y := a 25 k) (by rw [nI_clamp (by omega)]) ?_
        refine fj_if_eq (tgt := 40) C dX6_entryOf_18 (by decide) (fun h18 => ?_) (fun h18 => ?_)
        · refine fj_iload_n C 2 dX6_entryOf_40 rfl rfl ?_
          refine fj_istore_n (lv' := [(2, .int (enO a x k)), (0, .ref (bd 0)), (1, .int x), (3, .int (nI k))]) C dX6_entryOf_41 rfl (by decide) rfl ?_
          refine fj_iinc (v := nI (k + 1)) (lv' := [(3, .int (nI (k + 1))), (2, .int (enO a x k)), (0, .ref (bd 0)), (1, .int x)]) C 3 dX6_entryOf_42 rfl (nI_1 k) (by decide) rfl ?_
          refine fj_goto (tgt := 4) C dX6_entryOf_45 (by decide) ?_
          refine fj_lv (lv' := [(0, .ref (bd 0)), (1, .int x), (2, .int (enO a x k)), (3, .int (nI (k + 1)))]) [2, 3, 1, 0] rfl ?_
          refine fj_lv (lv' := [(0, .ref (bd 0)), (1, .int x), (2, .int (enO a x (k + 1))), (3, .int (nI (k + 1)))]) [0, 1, 2, 3] (by first | (rw [enO_p h18 el5 (by omega) h33]; rfl) | (rw [enO_z h18]; rfl) | (rw [enO_y el5 (by omega) h33]; rfl)) ?_
          exact ih4 (k + 1) (by show E7 - (k + 1) < E7 - k; omega) (by omega)
        · refine fj_aload_n C 0 dX6_entryOf_21 rfl rfl ?_
          refine fj_get (Cn := RX6) (T := TX6) (N := 44) (ci := 6) (v := .ref (bd 11)) C iX6 0 (fm_at0 _ _ _ _ _) rfl 16 (by decide) kX6_48 rfl dX6_entryOf_22 ?_
          refine fj_aload_n C 0 dX6_entryOf_25 rfl rfl ?_
          refine fj_get (Cn := RX6) (T := TX6) (N := 44) (ci := 6) (v := .ref (bd 20)) C iX6 0 (fm_at0 _ _ _ _ _) rfl 27 (by decide) kX6_76 rfl dX6_entryOf_26 ?_
          refine fj_iload_n C 3 dX6_entryOf_29 rfl rfl ?_
          refine fj_iald (f := (a 20)) C 20 (fm_at20 _ _ _ _ _) (vp_in_nI (by omega) (by decide)) dX6_entryOf_30 ?_
          obtain ⟨l5, hl5, el5⟩ := yEL k hlt
          refine fj_at (y := nI l5) (by rw [nI_clamp (by omega), el5]) ?_
          refine fj_iald (f := (a 11)) C 11 (fm_at11 _ _ _ _ _) (vp_in_nI (by omega) (by decide)) dX6_entryOf_31 ?_
          refine fj_at (y := a 11 l5) (by rw [nI_clamp (by omega)]) ?_
          refine fj_iload_n C 1 dX6_entryOf_32 rfl rfl ?_
          refine fj_icmp_ne (tgt := 40) C dX6_entryOf_33 (by decide) (fun h33 => ?_) (fun h33 => ?_)
          · refine fj_iload_n C 2 dX6_entryOf_40 rfl rfl ?_
            refine fj_istore_n (lv' := [(2, .int (enO a x k)), (0, .ref (bd 0)), (1, .int x), (3, .int (nI k))]) C dX6_entryOf_41 rfl (by decide) rfl ?_
            refine fj_iinc (v := nI (k + 1)) (lv' := [(3, .int (nI (k + 1))), (2, .int (enO a x k)), (0, .ref (bd 0)), (1, .int x)]) C 3 dX6_entryOf_42 rfl (nI_1 k) (by decide) rfl ?_
            refine fj_goto (tgt := 4) C dX6_entryOf_45 (by decide) ?_
            refine fj_lv (lv' := [(0, .ref (bd 0)), (1, .int x), (2, .int (enO a x k)), (3, .int (nI (k + 1)))]) [2, 3, 1, 0] rfl ?_
            refine fj_lv (lv' := [(0, .ref (bd 0)), (1, .int x), (2, .int (enO a x (k + 1))), (3, .int (nI (k + 1)))]) [0, 1, 2, 3] (by first | (rw [enO_p h18 el5 (by omega) h33]; rfl) | (rw [enO_z h18]; rfl) | (rw [enO_y el5 (by omega) h33]; rfl)) ?_
            exact ih4 (k + 1) (by show E7 - (k + 1) < E7 - k; omega) (by omega)
          · refine fj_iload_n C 3 dX6_entryOf_36 rfl rfl ?_
            refine fj_goto (tgt := 41) C dX6_entryOf_37 (by decide) ?_
            refine fj_istore_n (lv' := [(2, .int (nI k)), (0, .ref (bd 0)), (1, .int x), (3, .int (nI k))]) C dX6_entryOf_41 rfl (by decide) rfl ?_
            refine fj_iinc (v := nI (k + 1)) (lv' := [(3, .int (nI (k + 1))), (2, .int (nI k)), (0, .ref (bd 0)), (1, .int x)]) C 3 dX6_entryOf_42 rfl (nI_1 k) (by decide) rfl ?_
            refine fj_goto (tgt := 4) C dX6_entryOf_45 (by decide) ?_
            refine fj_lv (lv' := [(0, .ref (bd 0)), (1, .int x), (2, .int (nI k)), (3, .int (nI (k + 1)))]) [2, 3, 1, 0] rfl ?_
            refine fj_lv (lv' := [(0, .ref (bd 0)), (1, .int x), (2, .int (enO a x (k + 1))), (3, .int (nI (k + 1)))]) [0, 1, 2, 3] (by first | (rw [enO_p h18 el5 (by omega) h33]; rfl) | (rw [enO_z h18]; rfl) | (rw [enO_y el5 (by omega) h33]; rfl)) ?_
            exact ih4 (k + 1) (by show E7 - (k + 1) < E7 - k; omega) (by omega)
    intro k
    exact key k
  exact lp4 0 (Nat.zero_le _)

set_option maxHeartbeats 4000000 in
set_option maxRecDepth 100000 in
theorem d_X6_openOf (l : Launch) (D : va_G) (ty : Nat → ClassId) (t0 : Nat → Nat) (bd : Nat → Nat) (a : Nat → Nat → Int32) (g : Nat → Nat → Int64) (n : Nat → Int32) (P : Nat) (S : Nat) (T : Nat) (B : Nat) (I : YI P S T B a n) (M6 : Nat) (E7 : Nat) (W8 : Nat) (Y : YW S B M6 E7 W8 a n) (x : Int32)  : fc l yX6_openOf wsX6_openOf (fj_rm 1 23 0 0) D ty t0 [.ref (bd 0), .int x] (fm_w bd ty a g n) 0 0 (fun v w => v = some (.int (opO a x E7)) ∧ w = fm_w bd ty a g n) := by
  refine fc_start (own := RX6) (cc := cX6_openOf) (maxL := 3) (ret := (some .int)) (by decide) rfl (Nat.le_of_ble_eq_true rfl) rfl ?_
  intro p e s m args below meth c Q A C hmn E9
  obtain ⟨hn0, hP, hn2, hT, hn4, hS, hn5, hB, yWho, ySort, yQ, yN, yD, yL⟩ := id I
  obtain ⟨hn6, hM6, hn7, hn8, hEW, hWM, yO, yEL, yEA, yLW⟩ := id Y
  have iX6 : ∀ w ∈ u_ws RX6 TX6 44, w ∈ wsX6_openOf := ptX6_openOf_wsX60
  have kX6_91 : Cond.fieldLink RX6 91 "FreeLandModel" "entryState" "[I" ∈ wsX6_openOf := ptX6_openOf_woX6_openOf _ (by decide +kernel)
  refine fj_lv (lv' := [(0, .ref (bd 0)), (1, .int x)]) [0, 1] rfl ?_
  refine fj_aload_n C 0 dX6_openOf_0 rfl rfl ?_
  refine fj_iload_n C 1 dX6_openOf_1 rfl rfl ?_
  refine fj_callVw (As := [.int x]) (rest := []) C (d_X6_entryOf l D ty t0 bd a g n P S T B I M6 E7 W8 Y x) (cwV 1 C.2.2.2.2.1 gX6_openOf_X6_entryOf rfl rfl rfl (by decide +kernel) ⟨Nat.le_of_ble_eq_true rfl, Nat.le_of_ble_eq_true rfl⟩) ⟨0, 6, _, _, fm_at0 _ _ _ _ _, rfl, rfl⟩ rfl (Nat.le_of_ble_eq_true rfl) dX6_openOf_2 ⟨Nat.zero_le _, Nat.zero_le _⟩ (fun v9 w9 hp9 => ?_)
  obtain ⟨rfl, rfl⟩ := hp9
  refine fj_st (st' := .int (enO a x E7) :: []) rfl ?_
  refine fj_topi (fun r9 e_r9 => ?_)
  refine fj_istore_n (lv' := [(2, .int r9), (0, .ref (bd 0)), (1, .int x)]) C dX6_openOf_5 rfl (by decide) rfl ?_
  refine fj_iload_n C 0 dX6_openOf_6 rfl rfl ?_
  refine fj_if_lt (tgt := 24) C dX6_openOf_7 (by decide) (fun h7 => ?_) (fun h7 => ?_)
  · refine fj_iconst (v := (-1)) C dX6_openOf_24 (by decide) ?_
    exact fj_iret C E9 dX6_openOf_25 ⟨by rw [opO, ← e_r9]; first | (rw [if_neg (fun z => z.1 h7)]; done) | (rw [nI_clamp (by omega)]; first | (rw [if_pos ⟨h7, h17⟩]; done) | (rw [if_neg (fun z => h17 z.2)]; done)), rfl⟩
  · obtain ⟨e5, he5, rfl⟩ := (show r9 = -1 ∨ ∃ e5, e5 < E7 ∧ r9 = nI e5 by rw [e_r9]; exact enO_in a x E7).resolve_left (fun q => h7 (by rw [q]; decide))
    refine fj_aload_n C 1 dX6_openOf_10 rfl rfl ?_
    refine fj_get (Cn := RX6) (T := TX6) (N := 44) (ci := 6) (v := .ref (bd 25)) C iX6 0 (fm_at0 _ _ _ _ _) rfl 32 (by decide) kX6_91 rfl dX6_openOf_11 ?_
    refine fj_iload_n C 0 dX6_openOf_14 rfl rfl ?_
    refine fj_iald (f := (a 25)) C 25 (fm_at25 _ _ _ _ _) (vp_in_nI (by omega) (by decide)) dX6_openOf_15 ?_
    refine fj_at (y := a 25 e5) (by rw [nI_clamp (by omega)]) ?_
    refine fj_iconst (v := 1) C dX6_openOf_16 (by decide) ?_
    refine fj_icmp_ne (tgt := 24) C dX6_openOf_17 (by decide) (fun h17 => ?_) (fun h17 => ?_)
    · refine fj_iconst (v := (-1)) C dX6_openOf_24 (by decide) ?_
      exact fj_iret C E9 dX6_openOf_25 ⟨by rw [opO, ← e_r9]; first | (rw [if_neg (fun z => z.1 h7)]; done) | (rw [nI_clamp (by omega)]; first | (rw [if_pos ⟨h7, h17⟩]; done) | (rw [if_neg (fun z => h17 z.2)]; done)), rfl⟩
    · refine fj_iload_n C 0 dX6_openOf_20 rfl rfl ?_
      refine fj_goto (tgt := 25) C dX6_openOf_21 (by decide) ?_
      exact fj_iret C E9 dX6_openOf_25 ⟨by rw [opO, ← e_r9]; first | (rw [if_neg (fun z => z.1 h7)]; done) | (rw [nI_clamp (by omega)]; first | (rw [if_pos ⟨h7, h17⟩]; done) | (rw [if_neg (fun z => h17 z.2)]; done)), rfl⟩

set_option maxHeartbeats 4000000 in
set_option maxRecDepth 100000 in
theorem d_X6_markLived (l : Launch) (D : va_G) (ty : Nat → ClassId) (t0 : Nat → Nat) (bd : Nat → Nat) (a : Nat → Nat → Int32) (g : Nat → Nat → Int64) (n : Nat → Int32) (P : Nat) (S : Nat) (T : Nat) (B : Nat) (I : YI P S T B a n) (M6 : Nat) (E7 : Nat) (W8 : Nat) (Y : YW S B M6 E7 W8 a n) (x : Int32) (e5 : Nat) (ee5 : x = nI e5) (he5 : e5 < E7) : fc l yX6_markLived wsX6_markLived (fj_rm 0 0 0 0) D ty t0 [.ref (bd 0), .int x] (fm_w bd ty a g n) 0 0 (fun v w => v = none ∧ w = fm_w bd ty (va_up a 29 (mkF a e5 W8)) g n) := by
  subst ee5
  refine fc_start (own := RX6) (cc := cX6_markLived) (maxL := 6) (ret := none) (by decide) rfl (Nat.le_of_ble_eq_true rfl) rfl ?_
  intro p e s m args below meth c Q A C hmn E9
  obtain ⟨hn0, hP, hn2, hT, hn4, hS, hn5, hB, yWho, ySort, yQ, yN, yD, yL⟩ := id I
  obtain ⟨hn6, hM6, hn7, hn8, hEW, hWM, yO, yEL, yEA, yLW⟩ := id Y
  obtain ⟨l6, hl6, el6⟩ := yEL e5 he5
  have he6 : (a 20 e5).toNatClampNeg = l6 := by rw [el6, nI_clamp (by omega)]
  have iX6 : ∀ w ∈ u_ws RX6 TX6 44, w ∈ wsX6_markLived := ptX6_markLived_wsX60
  have kX6_212 : Cond.fieldLink RX6 212 "FreeLandModel" "worked" "I" ∈ wsX6_markLived := ptX6_markLived_woX6_markLived _ (by decide +kernel)
  have kX6_67 : Cond.fieldLink RX6 67 "FreeLandModel" "order" "[I" ∈ wsX6_markLived := ptX6_markLived_woX6_markLived _ (by decide +kernel)
  have kX6_42 : Cond.fieldLink RX6 42 "FreeLandModel" "sorts" "[I" ∈ wsX6_markLived := ptX6_markLived_woX6_markLived _ (by decide +kernel)
  have kX6_39 : Cond.fieldLink RX6 39 "FreeLandModel" "days" "[I" ∈ wsX6_markLived := ptX6_markLived_woX6_markLived _ (by decide +kernel)
  have kX6_70 : Cond.fieldLink RX6 70 "FreeLandModel" "outcomes" "[I" ∈ wsX6_markLived := ptX6_markLived_woX6_markLived _ (by decide +kernel)
  have kX6_48 : Cond.fieldLink RX6 48 "FreeLandModel" "quarters" "[I" ∈ wsX6_markLived := ptX6_markLived_woX6_markLived _ (by decide +kernel)
  have kX6_76 : Cond.fieldLink RX6 76 "FreeLandModel" "entryLine" "[I" ∈ wsX6_markLived := ptX6_markLived_woX6_markLived _ (by decide +kernel)
  have kX6_85 : Cond.fieldLink RX6 85 "FreeLandModel" "heldBy" "[I" ∈ wsX6_markLived := ptX6_markLived_woX6_markLived _ (by decide +kernel)
  have kX6_45 : Cond.fieldLink RX6 45 "FreeLandModel" "people" "[I" ∈ wsX6_markLived := ptX6_markLived_woX6_markLived _ (by decide +kernel)
  have kX6_51 : Cond.fieldLink RX6 51 "FreeLandModel" "numbers" "[I" ∈ wsX6_markLived := ptX6_markLived_woX6_markLived _ (by decide +kernel)
  have kX6_103 : Cond.fieldLink RX6 103 "FreeLandModel" "lived" "[Z" ∈ wsX6_markLived := ptX6_markLived_woX6_markLived _ (by decide +kernel)
  refine fj_lv (lv' := [(0, .ref (bd 0)), (1, .int (nI e5))]) [0, 1] rfl ?_
  refine fj_iconst (v := 0) C dX6_markLived_0 (by decide) ?_
  refine fj_istore_n (lv' := [(2, .int 0), (0, .ref (bd 0)), (1, .int (nI e5))]) C dX6_markLived_1 rfl (by decide) rfl ?_
  refine fj_lv (lv' := [(0, .ref (bd 0)), (1, .int (nI e5)), (2, .int 0)]) [1, 2, 0] rfl ?_
  have lp2 : ∀ (i : Nat), (i ≤ 25200) → fj p l e (fj_rm 0 0 0 0) s m args below meth c Q A D 6 0 0 (fm_w bd ty (va_up a 29 (fil (a 29) 0 i)) g n) [(0, .ref (bd 0)), (1, .int (nI e5)), (2, .int (nI i))] 2 [] := by
    have key : ∀ zz : Nat, (fun (i : Nat) => (i ≤ 25200) → fj p l e (fj_rm 0 0 0 0) s m args below meth c Q A D 6 0 0 (fm_w bd ty (va_up a 29 (fil (a 29) 0 i)) g n) [(0, .ref (bd 0)), (1, .int (nI e5)), (2, .int (nI i))] 2 []) zz := by
      refine fx_ind (fun (i : Nat) => 25200 - i) _ ?_
      rintro i ih2 hi
      refine fj_iload_n C 2 dX6_markLived_2 rfl rfl ?_
      refine fj_sipush (v := 25200) C dX6_markLived_3 (by decide) ?_
      refine fj_icmp_ge (tgt := 22) C dX6_markLived_6 (by decide) (fun h6 => ?_) (fun h6 => ?_)
      · obtain rfl : i = 25200 := by have := (nI_leI (a := 25200) (by decide) (by omega)).mp h6; omega
        refine fj_iconst (v := 0) C dX6_markLived_22 (by decide) ?_
        refine fj_istore_n (lv' := [(2, .int 0), (0, .ref (bd 0)), (1, .int (nI e5))]) C dX6_markLived_23 rfl (by decide) rfl ?_
        refine fj_lv (lv' := [(0, .ref (bd 0)), (1, .int (nI e5)), (2, .int 0)]) [1, 2, 0] rfl ?_
        have lp24 : ∀ (k : Nat) (f : Nat → Int32), (k ≤ W8) → (mkF a e5 k = f) → fj p l e (fj_rm 0 0 0 0) s m args below meth c Q A D 6 0 0 (fm_w bd ty (va_up a 29 f) g n) [(0, .ref (bd 0)), (1, .int (nI e5)), (2, .int (nI k))] 24 [] := by
          have key : ∀ zz : Nat × (Nat → Int32), (fun (zz : Nat × (Nat → Int32)) => match zz with | (k, f) => (k ≤ W8) → (mkF a e5 k = f) → fj p l e (fj_rm 0 0 0 0) s m args below meth c Q A D 6 0 0 (fm_w bd ty (va_up a 29 f) g n) [(0, .ref (bd 0)), (1, .int (nI e5)), (2, .int (nI k))] 24 []) zz := by
            refine fx_ind (fun (zz : Nat × (Nat → Int32)) => match zz with | (k, f) => W8 - k) _ ?_
            rintro ⟨k, f⟩ ih24 hk hmk
            refine fj_iload_n C 2 dX6_markLived_24 rfl rfl ?_
            refine fj_aload_n C 0 dX6_markLived_25 rfl rfl ?_
            refine fj_get (Cn := RX6) (T := TX6) (N := 44) (ci := 6) (v := .int (n 8)) C iX6 0 (fm_at0 _ _ _ _ _) rfl 36 (by decide) kX6_212 rfl dX6_markLived_26 ?_
            refine fj_at (y := nI W8) hn8 ?_
            refine fj_icmp_ge (tgt := 155) C dX6_markLived_29 (by decide) (fun h29 => ?_) (fun h29 => ?_)
            · have hge : W8 ≤ k := Nat.le_of_not_lt fun q => absurd (Int32.not_lt.mpr h29) (not_not_intro ((nI_ltI (by omega) (by omega)).mpr q))
              exact fj_vret C E9 dX6_markLived_155 ⟨rfl, by rw [show W8 = k by omega, hmk]⟩
            · have hlt : k < W8 := (nI_ltI (by omega) (by omega)).mp (Int32.not_le.mp h29)
              refine fj_aload_n C 0 dX6_markLived_32 rfl rfl ?_
              refine fj_get (Cn := RX6) (T := TX6) (N := 44) (ci := 6) (v := .ref (bd 17)) C iX6 0 (fm_at0 _ _ _ _ _) rfl 22 (by decide) kX6_67 rfl dX6_markLived_33 ?_
              refine fj_iload_n C 2 dX6_markLived_36 rfl rfl ?_
              refine fj_iald (f := (a 17)) C 17 (fm_at17 _ _ _ _ _) (vp_in_nI (by omega) (by decide)) dX6_markLived_37 ?_
              obtain ⟨l5, hl5, el5⟩ := yO k (by omega)
              refine fj_at (y := nI l5) (by rw [nI_clamp (by omega), el5]) ?_
              refine fj_istore_n (lv' := [(3, .int (nI l5)), (0, .ref (bd 0)), (1, .int (nI e5)), (2, .int (nI k))]) C dX6_markLived_38 rfl (by decide) rfl ?_
              refine fj_aload_n C 1 dX6_markLived_39 rfl rfl ?_
              refine fj_get (Cn := RX6) (T := TX6) (N := 44) (ci := 6) (v := .ref (bd 9)) C iX6 0 (fm_at0 _ _ _ _ _) rfl 14 (by decide) kX6_42 rfl dX6_markLived_40 ?_
              refine fj_iload_n C 0 dX6_markLived_43 rfl rfl ?_
              refine fj_iald (f := (a 9)) C 9 (fm_at9 _ _ _ _ _) (vp_in_nI (by omega) (by decide)) dX6_markLived_44 ?_
              refine fj_at (y := a 9 l5) (by rw [nI_clamp (by omega)]) ?_
              refine fj_iconst (v := 1) C dX6_markLived_45 (by decide) ?_
              refine fj_icmp_ne (tgt := 101) C dX6_markLived_46 (by decide) (fun h46 => ?_) (fun h46 => ?_)
              · refine fj_iconst (v := 0) C dX6_markLived_101 (by decide) ?_
                refine fj_istore (lv' := [(4, .int 0), (3, .int (nI l5)), (0, .ref (bd 0)), (1, .int (nI e5)), (2, .int (nI k))]) C dX6_markLived_102 (by decide) rfl ?_
                refine fj_aload_n C 2 dX6_markLived_104 rfl rfl ?_
                refine fj_get (Cn := RX6) (T := TX6) (N := 44) (ci := 6) (v := .ref (bd 8)) C iX6 0 (fm_at0 _ _ _ _ _) rfl 13 (by decide) kX6_39 rfl dX6_markLived_105 ?_
                refine fj_iload_n C 1 dX6_markLived_108 rfl rfl ?_
                refine fj_iald (f := (a 8)) C 8 (fm_at8 _ _ _ _ _) (vp_in_nI (by omega) (by decide)) dX6_markLived_109 ?_
                obtain ⟨s0, hs0, es0⟩ := yD l5 hl5
                refine fj_at (y := nI s0) (by rw [nI_clamp (by omega), es0]) ?_
                refine fj_istore (lv' := [(5, .int (nI s0)), (4, .int 0), (3, .int (nI l5)), (0, .ref (bd 0)), (1, .int (nI e5)), (2, .int (nI k))]) C dX6_markLived_110 (by decide) rfl ?_
                refine fj_iload C 1 dX6_markLived_112 rfl ?_
                refine fj_if_eq (tgt := 149) C dX6_markLived_114 (by decide) (fun _ => ?_) (fun h => absurd (by decide) h)
                refine fj_iinc (v := nI (k + 1)) (lv' := [(2, .int (nI (k + 1))), (5, .int (nI s0)), (4, .int 0), (3, .int (nI l5)), (0, .ref (bd 0)), (1, .int (nI e5))]) C 5 dX6_markLived_149 rfl (nI_1 k) (by decide) rfl ?_
                refine fj_goto (tgt := 24) C dX6_markLived_152 (by decide) ?_
                refine fj_lv (lv' := [(0, .ref (bd 0)), (1, .int (nI e5)), (2, .int (nI (k + 1)))]) [4, 5, 0] rfl ?_
                exact ih24 ⟨k + 1, f⟩ (by show W8 - (k + 1) < W8 - k; omega) (by omega) (by first | exact mkF_s hmk el5 (by omega) ⟨h46, h55, (by rw [he6]; exact h75), h94⟩ es0 en0 (by omega) | exact mkF_z hmk el5 (by omega) (fun z => h46 z.1) | exact mkF_z hmk el5 (by omega) (fun z => h55 z.2.1) | exact mkF_z hmk el5 (by omega) (fun z => h75 (by rw [← he6]; exact z.2.2.1)) | exact mkF_z hmk el5 (by omega) (fun z => h94 z.2.2.2))
              · refine fj_aload_n C 1 dX6_markLived_49 rfl rfl ?_
                refine fj_get (Cn := RX6) (T := TX6) (N := 44) (ci := 6) (v := .ref (bd 18)) C iX6 0 (fm_at0 _ _ _ _ _) rfl 24 (by decide) kX6_70 rfl dX6_markLived_50 ?_
                refine fj_iload_n C 0 dX6_markLived_53 rfl rfl ?_
                refine fj_iald (f := (a 18)) C 18 (fm_at18 _ _ _ _ _) (vp_in_nI (by omega) (by decide)) dX6_markLived_54 ?_
                refine fj_at (y := a 18 l5) (by rw [nI_clamp (by omega)]) ?_
                refine fj_if_ne (tgt := 101) C dX6_markLived_55 (by decide) (fun h55 => ?_) (fun h55 => ?_)
                · refine fj_iconst (v := 0) C dX6_markLived_101 (by decide) ?_
                  refine fj_istore (lv' := [(4, .int 0), (3, .int (nI l5)), (0, .ref (bd 0)), (1, .int (nI e5)), (2, .int (nI k))]) C dX6_markLived_102 (by decide) rfl ?_
                  refine fj_aload_n C 2 dX6_markLived_104 rfl rfl ?_
                  refine fj_get (Cn := RX6) (T := TX6) (N := 44) (ci := 6) (v := .ref (bd 8)) C iX6 0 (fm_at0 _ _ _ _ _) rfl 13 (by decide) kX6_39 rfl dX6_markLived_105 ?_
                  refine fj_iload_n C 1 dX6_markLived_108 rfl rfl ?_
                  refine fj_iald (f := (a 8)) C 8 (fm_at8 _ _ _ _ _) (vp_in_nI (by omega) (by decide)) dX6_markLived_109 ?_
                  obtain ⟨s0, hs0, es0⟩ := yD l5 hl5
                  refine fj_at (y := nI s0) (by rw [nI_clamp (by omega), es0]) ?_
                  refine fj_istore (lv' := [(5, .int (nI s0)), (4, .int 0), (3, .int (nI l5)), (0, .ref (bd 0)), (1, .int (nI e5)), (2, .int (nI k))]) C dX6_markLived_110 (by decide) rfl ?_
                  refine fj_iload C 1 dX6_markLived_112 rfl ?_
                  refine fj_if_eq (tgt := 149) C dX6_markLived_114 (by decide) (fun _ => ?_) (fun h => absurd (by decide) h)
                  refine fj_iinc (v := nI (k + 1)) (lv' := [(2, .int (nI (k + 1))), (5, .int (nI s0)), (4, .int 0), (3, .int (nI l5)), (0, .ref (bd 0)), (1, .int (nI e5))]) C 5 dX6_markLived_149 rfl (nI_1 k) (by decide) rfl ?_
                  refine fj_goto (tgt := 24) C dX6_markLived_152 (by decide) ?_
                  refine fj_lv (lv' := [(0, .ref (bd 0)), (1, .int (nI e5)), (2, .int (nI (k + 1)))]) [4, 5, 0] rfl ?_
                  exact ih24 ⟨k + 1, f⟩ (by show W8 - (k + 1) < W8 - k; omega) (by omega) (by first | exact mkF_s hmk el5 (by omega) ⟨h46, h55, (by rw [he6]; exact h75), h94⟩ es0 en0 (by omega) | exact mkF_z hmk el5 (by omega) (fun z => h46 z.1) | exact mkF_z hmk el5 (by omega) (fun z => h55 z.2.1) | exact mkF_z hmk el5 (by omega) (fun z => h75 (by rw [← he6]; exact z.2.2.1)) | exact mkF_z hmk el5 (by omega) (fun z => h94 z.2.2.2))
                · refine fj_aload_n C 1 dX6_markLived_58 rfl rfl ?_
                  refine fj_get (Cn := RX6) (T := TX6) (N := 44) (ci := 6) (v := .ref (bd 11)) C iX6 0 (fm_at0 _ _ _ _ _) rfl 16 (by decide) kX6_48 rfl dX6_markLived_59 ?_
                  refine fj_iload_n C 0 dX6_markLived_62 rfl rfl ?_
                  refine fj_iald (f := (a 11)) C 11 (fm_at11 _ _ _ _ _) (vp_in_nI (by omega) (by decide)) dX6_markLived_63 ?_
                  refine fj_at (y := a 11 l5) (by rw [nI_clamp (by omega)]) ?_
                  refine fj_aload_n C 1 dX6_markLived_64 rfl rfl ?_
                  refine fj_get (Cn := RX6) (T := TX6) (N := 44) (ci := 6) (v := .ref (bd 11)) C iX6 0 (fm_at0 _ _ _ _ _) rfl 16 (by decide) kX6_48 rfl dX6_markLived_65 ?_
                  refine fj_aload_n C 1 dX6_markLived_68 rfl rfl ?_
                  refine fj_get (Cn := RX6) (T := TX6) (N := 44) (ci := 6) (v := .ref (bd 20)) C iX6 0 (fm_at0 _ _ _ _ _) rfl 27 (by decide) kX6_76 rfl dX6_markLived_69 ?_
                  refine fj_iload_n C 2 dX6_markLived_72 rfl rfl ?_
                  refine fj_iald (f := (a 20)) C 20 (fm_at20 _ _ _ _ _) (vp_in_nI (by omega) (by decide)) dX6_markLived_73 ?_
                  refine fj_at (y := nI l6) (by rw [nI_clamp (by omega), el6]) ?_
                  refine fj_iald (f := (a 11)) C 11 (fm_at11 _ _ _ _ _) (vp_in_nI (by omega) (by decide)) dX6_markLived_74 ?_
                  refine fj_at (y := a 11 l6) (by rw [nI_clamp (by omega)]) ?_
                  refine fj_icmp_ne (tgt := 101) C dX6_markLived_75 (by decide) (fun h75 => ?_) (fun h75 => ?_)
                  · refine fj_iconst (v := 0) C dX6_markLived_101 (by decide) ?_
                    refine fj_istore (lv' := [(4, .int 0), (3, .int (nI l5)), (0, .ref (bd 0)), (1, .int (nI e5)), (2, .int (nI k))]) C dX6_markLived_102 (by decide) rfl ?_
                    refine fj_aload_n C 2 dX6_markLived_104 rfl rfl ?_
                    refine fj_get (Cn := RX6) (T := TX6) (N := 44) (ci := 6) (v := .ref (bd 8)) C iX6 0 (fm_at0 _ _ _ _ _) rfl 13 (by decide) kX6_39 rfl dX6_markLived_105 ?_
                    refine fj_iload_n C 1 dX6_markLived_108 rfl rfl ?_
                    refine fj_iald (f := (a 8)) C 8 (fm_at8 _ _ _ _ _) (vp_in_nI (by omega) (by decide)) dX6_markLived_109 ?_
                    obtain ⟨s0, hs0, es0⟩ := yD l5 hl5
                    refine fj_at (y := nI s0) (by rw [nI_clamp (by omega), es0]) ?_
                    refine fj_istore (lv' := [(5, .int (nI s0)), (4, .int 0), (3, .int (nI l5)), (0, .ref (bd 0)), (1, .int (nI e5)), (2, .int (nI k))]) C dX6_markLived_110 (by decide) rfl ?_
                    refine fj_iload C 1 dX6_markLived_112 rfl ?_
                    refine fj_if_eq (tgt := 149) C dX6_markLived_114 (by decide) (fun _ => ?_) (fun h => absurd (by decide) h)
                    refine fj_iinc (v := nI (k + 1)) (lv' := [(2, .int (nI (k + 1))), (5, .int (nI s0)), (4, .int 0), (3, .int (nI l5)), (0, .ref (bd 0)), (1, .int (nI e5))]) C 5 dX6_markLived_149 rfl (nI_1 k) (by decide) rfl ?_
                    refine fj_goto (tgt := 24) C dX6_markLived_152 (by decide) ?_
                    refine fj_lv (lv' := [(0, .ref (bd 0)), (1, .int (nI e5)), (2, .int (nI (k + 1)))]) [4, 5, 0] rfl ?_
                    exact ih24 ⟨k + 1, f⟩ (by show W8 - (k + 1) < W8 - k; omega) (by omega) (by first | exact mkF_s hmk el5 (by omega) ⟨h46, h55, (by rw [he6]; exact h75), h94⟩ es0 en0 (by omega) | exact mkF_z hmk el5 (by omega) (fun z => h46 z.1) | exact mkF_z hmk el5 (by omega) (fun z => h55 z.2.1) | exact mkF_z hmk el5 (by omega) (fun z => h75 (by rw [← he6]; exact z.2.2.1)) | exact mkF_z hmk el5 (by omega) (fun z => h94 z.2.2.2))
                  · refine fj_aload_n C 1 dX6_markLived_78 rfl rfl ?_
                    refine fj_get (Cn := RX6) (T := TX6) (N := 44) (ci := 6) (v := .ref (bd 23)) C iX6 0 (fm_at0 _ _ _ _ _) rfl 30 (by decide) kX6_85 rfl dX6_markLived_79 ?_
                    refine fj_iload_n C 2 dX6_markLived_82 rfl rfl ?_
                    refine fj_iald (f := (a 23)) C 23 (fm_at23 _ _ _ _ _) (vp_in_nI (by omega) (by decide)) dX6_markLived_83 ?_
                    refine fj_at (y := a 23 e5) (by rw [nI_clamp (by omega)]) ?_
                    refine fj_aload_n C 1 dX6_markLived_84 rfl rfl ?_
                    refine fj_get (Cn := RX6) (T := TX6) (N := 44) (ci := 6) (v := .ref (bd 10)) C iX6 0 (fm_at0 _ _ _ _ _) rfl 15 (by decide) kX6_45 rfl dX6_markLived_85 ?_
                    refine fj_iload_n C 0 dX6_markLived_88 rfl rfl ?_
                    refine fj_iald (f := (a 10)) C 10 (fm_at10 _ _ _ _ _) (vp_in_nI (by omega) (by decide)) dX6_markLived_89 ?_
                    refine fj_at (y := a 10 l5) (by rw [nI_clamp (by omega)]) ?_
                    refine fj_ishr C dX6_markLived_90 ?_
                    refine fj_iconst (v := 1) C dX6_markLived_91 (by decide) ?_
                    refine fj_iand C dX6_markLived_92 ?_
                    refine fj_iconst (v := 1) C dX6_markLived_93 (by decide) ?_
                    refine fj_icmp_ne (tgt := 101) C dX6_markLived_94 (by decide) (fun h94 => ?_) (fun h94 => ?_)
                    · refine fj_iconst (v := 0) C dX6_markLived_101 (by decide) ?_
                      refine fj_istore (lv' := [(4, .int 0), (3, .int (nI l5)), (0, .ref (bd 0)), (1, .int (nI e5)), (2, .int (nI k))]) C dX6_markLived_102 (by decide) rfl ?_
                      refine fj_aload_n C 2 dX6_markLived_104 rfl rfl ?_
                      refine fj_get (Cn := RX6) (T := TX6) (N := 44) (ci := 6) (v := .ref (bd 8)) C iX6 0 (fm_at0 _ _ _ _ _) rfl 13 (by decide) kX6_39 rfl dX6_markLived_105 ?_
                      refine fj_iload_n C 1 dX6_markLived_108 rfl rfl ?_
                      refine fj_iald (f := (a 8)) C 8 (fm_at8 _ _ _ _ _) (vp_in_nI (by omega) (by decide)) dX6_markLived_109 ?_
                      obtain ⟨s0, hs0, es0⟩ := yD l5 hl5
                      refine fj_at (y := nI s0) (by rw [nI_clamp (by omega), es0]) ?_
                      refine fj_istore (lv' := [(5, .int (nI s0)), (4, .int 0), (3, .int (nI l5)), (0, .ref (bd 0)), (1, .int (nI e5)), (2, .int (nI k))]) C dX6_markLived_110 (by decide) rfl ?_
                      refine fj_iload C 1 dX6_markLived_112 rfl ?_
                      refine fj_if_eq (tgt := 149) C dX6_markLived_114 (by decide) (fun _ => ?_) (fun h => absurd (by decide) h)
                      refine fj_iinc (v := nI (k + 1)) (lv' := [(2, .int (nI (k + 1))), (5, .int (nI s0)), (4, .int 0), (3, .int (nI l5)), (0, .ref (bd 0)), (1, .int (nI e5))]) C 5 dX6_markLived_149 rfl (nI_1 k) (by decide) rfl ?_
                      refine fj_goto (tgt := 24) C dX6_markLived_152 (by decide) ?_
                      refine fj_lv (lv' := [(0, .ref (bd 0)), (1, .int (nI e5)), (2, .int (nI (k + 1)))]) [4, 5, 0] rfl ?_
                      exact ih24 ⟨k + 1, f⟩ (by show W8 - (k + 1) < W8 - k; omega) (by omega) (by first | exact mkF_s hmk el5 (by omega) ⟨h46, h55, (by rw [he6]; exact h75), h94⟩ es0 en0 (by omega) | exact mkF_z hmk el5 (by omega) (fun z => h46 z.1) | exact mkF_z hmk el5 (by omega) (fun z => h55 z.2.1) | exact mkF_z hmk el5 (by omega) (fun z => h75 (by rw [← he6]; exact z.2.2.1)) | exact mkF_z hmk el5 (by omega) (fun z => h94 z.2.2.2))
                    · obtain ⟨n0, hn0L, en0⟩ := yL l5 hl5 (by rw [h46]; rfl)
                      refine fj_iconst (v := 1) C dX6_markLived_97 (by decide) ?_
                      refine fj_goto (tgt := 102) C dX6_markLived_98 (by decide) ?_
                      refine fj_istore (lv' := [(4, .int 1), (3, .int (nI l5)), (0, .ref (bd 0)), (1, .int (nI e5)), (2, .int (nI k))]) C dX6_markLived_102 (by decide) rfl ?_
                      refine fj_aload_n C 2 dX6_markLived_104 rfl rfl ?_
                      refine fj_get (Cn := RX6) (T := TX6) (N := 44) (ci := 6) (v := .ref (bd 8)) C iX6 0 (fm_at0 _ _ _ _ _) rfl 13 (by decide) kX6_39 rfl dX6_markLived_105 ?_
                      refine fj_iload_n C 1 dX6_markLived_108 rfl rfl ?_
                      refine fj_iald (f := (a 8)) C 8 (fm_at8 _ _ _ _ _) (vp_in_nI (by omega) (by decide)) dX6_markLived_109 ?_
                      obtain ⟨s0, hs0, es0⟩ := yD l5 hl5
                      refine fj_at (y := nI s0) (by rw [nI_clamp (by omega), es0]) ?_
                      refine fj_istore (lv' := [(5, .int (nI s0)), (4, .int 1), (3, .int (nI l5)), (0, .ref (bd 0)), (1, .int (nI e5)), (2, .int (nI k))]) C dX6_markLived_110 (by decide) rfl ?_
                      refine fj_lv (lv' := [(0, .ref (bd 0)), (1, .int (nI e5)), (2, .int (nI k)), (3, .int (nI l5)), (4, .int 1), (5, .int (nI s0))]) [3, 4, 5, 2, 1, 0] rfl ?_
                      have lp112 : ∀ (c5 : Nat), (c5 ≤ n0) → fj p l e (fj_rm 0 0 0 0) s m args below meth c Q A D 6 0 0 (fm_w bd ty (va_up a 29 (rng f s0 (s0 + c5))) g n) [(0, .ref (bd 0)), (1, .int (nI e5)), (2, .int (nI k)), (3, .int (nI l5)), (4, .int 1), (5, .int (nI (s0 + c5)))] 112 [] := by
                        have key : ∀ zz : Nat, (fun (c5 : Nat) => (c5 ≤ n0) → fj p l e (fj_rm 0 0 0 0) s m args below meth c Q A D 6 0 0 (fm_w bd ty (va_up a 29 (rng f s0 (s0 + c5))) g n) [(0, .ref (bd 0)), (1, .int (nI e5)), (2, .int (nI k)), (3, .int (nI l5)), (4, .int 1), (5, .int (nI (s0 + c5)))] 112 []) zz := by
                          refine fx_ind (fun (c5 : Nat) => n0 - c5) _ ?_
                          rintro c5 ih112 hc5
                          refine fj_iload C 4 dX6_markLived_112 rfl ?_
                          refine fj_if_eq (tgt := 149) C dX6_markLived_114 (by decide) (fun h => absurd h (by decide)) (fun _ => ?_)
                          refine fj_iload C 5 dX6_markLived_117 rfl ?_
                          refine fj_aload_n C 0 dX6_markLived_119 rfl rfl ?_
                          refine fj_get (Cn := RX6) (T := TX6) (N := 44) (ci := 6) (v := .ref (bd 8)) C iX6 0 (fm_at0 _ _ _ _ _) rfl 13 (by decide) kX6_39 rfl dX6_markLived_120 ?_
                          refine fj_iload_n C 3 dX6_markLived_123 rfl rfl ?_
                          refine fj_iald (f := (a 8)) C 8 (fm_at8 _ _ _ _ _) (vp_in_nI (by omega) (by decide)) dX6_markLived_124 ?_
                          refine fj_at (y := nI s0) (by rw [nI_clamp (by omega), es0]) ?_
                          refine fj_aload_n C 0 dX6_markLived_125 rfl rfl ?_
                          refine fj_get (Cn := RX6) (T := TX6) (N := 44) (ci := 6) (v := .ref (bd 12)) C iX6 0 (fm_at0 _ _ _ _ _) rfl 17 (by decide) kX6_51 rfl dX6_markLived_126 ?_
                          refine fj_iload_n C 3 dX6_markLived_129 rfl rfl ?_
                          refine fj_iald (f := (a 12)) C 12 (fm_at12 _ _ _ _ _) (vp_in_nI (by omega) (by decide)) dX6_markLived_130 ?_
                          refine fj_at (y := nI n0) (by rw [nI_clamp (by omega), en0]) ?_
                          refine fj_iadd C dX6_markLived_131 ?_
                          refine fj_at (y := nI (s0 + n0)) (nI_add s0 n0) ?_
                          refine fj_icmp_ge (tgt := 149) C dX6_markLived_132 (by decide) (fun h132 => ?_) (fun h132 => ?_)
                          · obtain rfl : n0 = c5 := by have := (nI_leI (a := s0 + n0) (by omega) (by omega)).mp h132; omega
                            refine fj_iinc (v := nI (k + 1)) (lv' := [(2, .int (nI (k + 1))), (0, .ref (bd 0)), (1, .int (nI e5)), (3, .int (nI l5)), (4, .int 1), (5, .int (nI (s0 + n0)))]) C 2 dX6_markLived_149 rfl (nI_1 k) (by decide) rfl ?_
                            refine fj_goto (tgt := 24) C dX6_markLived_152 (by decide) ?_
                            refine fj_lv (lv' := [(0, .ref (bd 0)), (1, .int (nI e5)), (2, .int (nI (k + 1)))]) [1, 2, 0] rfl ?_
                            exact ih24 ⟨k + 1, rng f s0 (s0 + n0)⟩ (by show W8 - (k + 1) < W8 - k; omega) (by omega) (by first | exact mkF_s hmk el5 (by omega) ⟨h46, h55, (by rw [he6]; exact h75), h94⟩ es0 en0 (by omega) | exact mkF_z hmk el5 (by omega) (fun z => h46 z.1) | exact mkF_z hmk el5 (by omega) (fun z => h55 z.2.1) | exact mkF_z hmk el5 (by omega) (fun z => h75 (by rw [← he6]; exact z.2.2.1)) | exact mkF_z hmk el5 (by omega) (fun z => h94 z.2.2.2))
                          · have hlt8 : c5 < n0 := Nat.lt_of_not_le fun q => h132 ((nI_leI (a := s0 + n0) (b := s0 + c5) (by omega) (by omega)).mpr (by omega))
                            refine fj_aload_n C 0 dX6_markLived_135 rfl rfl ?_
                            refine fj_get (Cn := RX6) (T := TX6) (N := 44) (ci := 6) (v := .ref (bd 29)) C iX6 0 (fm_at0 _ _ _ _ _) rfl 37 (by decide) kX6_103 rfl dX6_markLived_136 ?_
                            refine fj_iload C 5 dX6_markLived_139 rfl ?_
                            refine fj_iconst (v := 1) C dX6_markLived_141 (by decide) ?_
                            refine fj_zast (f := (rng f s0 (s0 + c5))) C 29 (fm_at29 _ _ _ _ _) (vp_in_nI (by omega) (by decide)) dX6_markLived_142 (fm_st29 _ _ _ _ _ _) ?_
                            refine fj_ws (ws' := (fm_w bd ty (va_up a 29 (upd (rng f s0 (s0 + c5)) (nI (s0 + c5)).toNatClampNeg (vp_nar .boolean 1))) g n)) rfl ?_
                            refine fj_ws (ws' := (fm_w bd ty (va_up a 29 (rng f s0 (s0 + (c5 + 1)))) g n)) (by rw [nI_clamp (by omega), show vp_nar .boolean 1 = 1 from rfl, rng_s]) ?_
                            refine fj_iinc (v := nI (s0 + (c5 + 1))) (lv' := [(5, .int (nI (s0 + (c5 + 1)))), (0, .ref (bd 0)), (1, .int (nI e5)), (2, .int (nI k)), (3, .int (nI l5)), (4, .int 1)]) C 5 dX6_markLived_143 rfl (nI_1 (s0 + c5)) (by decide) rfl ?_
                            refine fj_goto (tgt := 112) C dX6_markLived_146 (by decide) ?_
                            refine fj_lv (lv' := [(0, .ref (bd 0)), (1, .int (nI e5)), (2, .int (nI k)), (3, .int (nI l5)), (4, .int 1), (5, .int (nI (s0 + (c5 + 1))))]) [1, 2, 3, 4, 5, 0] rfl ?_
                            exact ih112 (c5 + 1) (by show n0 - (c5 + 1) < n0 - c5; omega) (by omega)
                        intro c5
                        exact key c5
                      refine fj_ws (ws' := (fm_w bd ty (va_up a 29 (rng f s0 (s0 + 0))) g n)) (by rw [Nat.add_zero, rng_0]) ?_
                      exact lp112 0 (Nat.zero_le _)
          intro k f
          exact key ⟨k, f⟩
        exact lp24 0 (fil (a 29) 0 25200) (Nat.zero_le _) rfl
      · have hlt9 : i < 25200 := Nat.lt_of_not_le fun q => h6 ((nI_leI (a := 25200) (by decide) (by omega)).mpr q)
        refine fj_aload_n C 0 dX6_markLived_9 rfl rfl ?_
        refine fj_get (Cn := RX6) (T := TX6) (N := 44) (ci := 6) (v := .ref (bd 29)) C iX6 0 (fm_at0 _ _ _ _ _) rfl 37 (by decide) kX6_103 rfl dX6_markLived_10 ?_
        refine fj_iload_n C 2 dX6_markLived_13 rfl rfl ?_
        refine fj_iconst (v := 0) C dX6_markLived_14 (by decide) ?_
        refine fj_zast (f := (fil (a 29) 0 i)) C 29 (fm_at29 _ _ _ _ _) (vp_in_nI (by omega) (by decide)) dX6_markLived_15 (fm_st29 _ _ _ _ _ _) ?_
        refine fj_ws (ws' := (fm_w bd ty (va_up a 29 (upd (fil (a 29) 0 i) (nI i).toNatClampNeg (vp_nar .boolean 0))) g n)) rfl ?_
        refine fj_ws (ws' := (fm_w bd ty (va_up a 29 (fil (a 29) 0 (i + 1))) g n)) (by rw [nI_clamp (by omega), show vp_nar .boolean 0 = 0 from rfl, fil_s]) ?_
        refine fj_iinc (v := nI (i + 1)) (lv' := [(2, .int (nI (i + 1))), (0, .ref (bd 0)), (1, .int (nI e5))]) C 2 dX6_markLived_16 rfl (nI_1 i) (by decide) rfl ?_
        refine fj_goto (tgt := 2) C dX6_markLived_19 (by decide) ?_
        refine fj_lv (lv' := [(0, .ref (bd 0)), (1, .int (nI e5)), (2, .int (nI (i + 1)))]) [1, 2, 0] rfl ?_
        exact ih2 (i + 1) (by show 25200 - (i + 1) < 25200 - i; omega) (by omega)
    intro i
    exact key i
  refine fj_ws (ws' := (fm_w bd ty (va_up a 29 (fil (a 29) 0 0)) g n)) (by rw [fil_0]; rfl) ?_
  exact lp2 0 (Nat.zero_le _)

set_option maxHeartbeats 4000000 in
set_option maxRecDepth 100000 in
theorem d_X6_livedDays (l : Launch) (D : va_G) (ty : Nat → ClassId) (t0 : Nat → Nat) (bd : Nat → Nat) (a : Nat → Nat → Int32) (g : Nat → Nat → Int64) (n : Nat → Int32)  (x : Int32) (y : Int32) (u5 : Nat) (eu5 : x = nI u5) (hu5 : u5 < 2 ^ 31) (hto : ∀ k, k < 2 ^ 31 → nI k ≤ y → k < 25200) : fc l yX6_livedDays wsX6_livedDays (fj_rm 0 0 0 0) D ty t0 [.ref (bd 0), .int x, .int y] (fm_w bd ty a g n) 0 0 (fun v w => ∃ d, UPT u5 y d ∧ v = some (.int (nI (cL (a 29) u5 d))) ∧ w = fm_w bd ty a g n) := by
  subst eu5
  refine fc_start (own := RX6) (cc := cX6_livedDays) (maxL := 5) (ret := (some .int)) (by decide) rfl (Nat.le_of_ble_eq_true rfl) rfl ?_
  intro p e s m args below meth c Q A C hmn E9
  have iX6 : ∀ w ∈ u_ws RX6 TX6 44, w ∈ wsX6_livedDays := ptX6_livedDays_wsX60
  have kX6_103 : Cond.fieldLink RX6 103 "FreeLandModel" "lived" "[Z" ∈ wsX6_livedDays := ptX6_livedDays_woX6_livedDays _ (by decide +kernel)
  refine fj_lv (lv' := [(0, .ref (bd 0)), (1, .int (nI u5)), (2, .int y)]) [0, 1, 2] rfl ?_
  refine fj_iconst (v := 0) C dX6_livedDays_0 (by decide) ?_
  refine fj_istore_n (lv' := [(3, .int 0), (0, .ref (bd 0)), (1, .int (nI u5)), (2, .int y)]) C dX6_livedDays_1 rfl (by decide) rfl ?_
  refine fj_iload_n C 2 dX6_livedDays_2 rfl rfl ?_
  refine fj_istore (lv' := [(4, .int (nI u5)), (3, .int 0), (0, .ref (bd 0)), (1, .int (nI u5)), (2, .int y)]) C dX6_livedDays_3 (by decide) rfl ?_
  refine fj_lv (lv' := [(0, .ref (bd 0)), (1, .int (nI u5)), (2, .int y), (3, .int 0), (4, .int (nI u5))]) [2, 3, 4, 1, 0] rfl ?_
  have lp5 : ∀ (d : Nat), (d = 0 ∨ u5 + d ≤ 25200) → (∀ j, j < d → nI (u5 + j) ≤ y) → fj p l e (fj_rm 0 0 0 0) s m args below meth c Q A D 5 0 0 (fm_w bd ty a g n) [(0, .ref (bd 0)), (1, .int (nI u5)), (2, .int y), (3, .int (nI (cL (a 29) u5 d))), (4, .int (nI (u5 + d)))] 5 [] := by
    have key : ∀ zz : Nat, (fun (d : Nat) => (d = 0 ∨ u5 + d ≤ 25200) → (∀ j, j < d → nI (u5 + j) ≤ y) → fj p l e (fj_rm 0 0 0 0) s m args below meth c Q A D 5 0 0 (fm_w bd ty a g n) [(0, .ref (bd 0)), (1, .int (nI u5)), (2, .int y), (3, .int (nI (cL (a 29) u5 d))), (4, .int (nI (u5 + d)))] 5 []) zz := by
      refine fx_ind (fun (d : Nat) => 25200 - (u5 + d)) _ ?_
      rintro d ih5 hd hle
      refine fj_iload C 4 dX6_livedDays_5 rfl ?_
      refine fj_iload_n C 2 dX6_livedDays_7 rfl rfl ?_
      refine fj_icmp_gt (tgt := 35) C dX6_livedDays_8 (by decide) (fun h8 => ?_) (fun h8 => ?_)
      · refine fj_iload_n C 3 dX6_livedDays_35 rfl rfl ?_
        exact fj_iret C E9 dX6_livedDays_36 ⟨d, ⟨Int32.not_le.mpr h8, hle, hd⟩, rfl, rfl⟩
      · have hlt : u5 + d < 25200 := hto _ (by omega) (Int32.not_lt.mp h8)
        refine fj_iload_n C 3 dX6_livedDays_11 rfl rfl ?_
        refine fj_aload_n C 0 dX6_livedDays_12 rfl rfl ?_
        refine fj_get (Cn := RX6) (T := TX6) (N := 44) (ci := 6) (v := .ref (bd 29)) C iX6 0 (fm_at0 _ _ _ _ _) rfl 37 (by decide) kX6_103 rfl dX6_livedDays_13 ?_
        refine fj_iload C 4 dX6_livedDays_16 rfl ?_
        refine fj_zald (f := (a 29)) C 29 (fm_at29 _ _ _ _ _) (vp_in_nI (by omega) (by decide)) dX6_livedDays_18 ?_
        refine fj_at (y := a 29 (u5 + d)) (by rw [nI_clamp (by omega)]) ?_
        refine fj_if_eq (tgt := 26) C dX6_livedDays_19 (by decide) (fun h19 => ?_) (fun h19 => ?_)
        · refine fj_iconst (v := 0) C dX6_livedDays_26 (by decide) ?_
          refine fj_iadd C dX6_livedDays_27 ?_
          refine fj_at (y := nI (cL (a 29) u5 (d + 1))) (by first | (rw [cL_p h19]; exact nI_1 _) | (rw [cL_z h19]; exact Int32.add_zero _)) ?_
          refine fj_istore_n (lv' := [(3, .int (nI (cL (a 29) u5 (d + 1)))), (0, .ref (bd 0)), (1, .int (nI u5)), (2, .int y), (4, .int (nI (u5 + d)))]) C dX6_livedDays_28 rfl (by decide) rfl ?_
          refine fj_iinc (v := nI (u5 + (d + 1))) (lv' := [(4, .int (nI (u5 + (d + 1)))), (3, .int (nI (cL (a 29) u5 (d + 1)))), (0, .ref (bd 0)), (1, .int (nI u5)), (2, .int y)]) C 4 dX6_livedDays_29 rfl (nI_1 (u5 + d)) (by decide) rfl ?_
          refine fj_goto (tgt := 5) C dX6_livedDays_32 (by decide) ?_
          refine fj_lv (lv' := [(0, .ref (bd 0)), (1, .int (nI u5)), (2, .int y), (3, .int (nI (cL (a 29) u5 (d + 1)))), (4, .int (nI (u5 + (d + 1))))]) [2, 3, 4, 1, 0] rfl ?_
          exact ih5 (d + 1) (by show 25200 - (u5 + (d + 1)) < 25200 - (u5 + d); omega) (Or.inr (by omega)) (fun j h9 => (Nat.eq_or_lt_of_le (Nat.le_of_lt_succ h9)).elim (fun e9 => e9 ▸ Int32.not_lt.mp h8) (fun q9 => hle j q9))
        · refine fj_iconst (v := 1) C dX6_livedDays_22 (by decide) ?_
          refine fj_goto (tgt := 27) C dX6_livedDays_23 (by decide) ?_
          refine fj_iadd C dX6_livedDays_27 ?_
          refine fj_at (y := nI (cL (a 29) u5 (d + 1))) (by first | (rw [cL_p h19]; exact nI_1 _) | (rw [cL_z h19]; exact Int32.add_zero _)) ?_
          refine fj_istore_n (lv' := [(3, .int (nI (cL (a 29) u5 (d + 1)))), (0, .ref (bd 0)), (1, .int (nI u5)), (2, .int y), (4, .int (nI (u5 + d)))]) C dX6_livedDays_28 rfl (by decide) rfl ?_
          refine fj_iinc (v := nI (u5 + (d + 1))) (lv' := [(4, .int (nI (u5 + (d + 1)))), (3, .int (nI (cL (a 29) u5 (d + 1)))), (0, .ref (bd 0)), (1, .int (nI u5)), (2, .int y)]) C 4 dX6_livedDays_29 rfl (nI_1 (u5 + d)) (by decide) rfl ?_
          refine fj_goto (tgt := 5) C dX6_livedDays_32 (by decide) ?_
          refine fj_lv (lv' := [(0, .ref (bd 0)), (1, .int (nI u5)), (2, .int y), (3, .int (nI (cL (a 29) u5 (d + 1)))), (4, .int (nI (u5 + (d + 1))))]) [2, 3, 4, 1, 0] rfl ?_
          exact ih5 (d + 1) (by show 25200 - (u5 + (d + 1)) < 25200 - (u5 + d); omega) (Or.inr (by omega)) (fun j h9 => (Nat.eq_or_lt_of_le (Nat.le_of_lt_succ h9)).elim (fun e9 => e9 ▸ Int32.not_lt.mp h8) (fun q9 => hle j q9))
    intro d
    exact key d
  exact lp5 0 (Or.inl rfl) (fun j q => absurd q (Nat.not_lt_zero _))

set_option maxHeartbeats 4000000 in
set_option maxRecDepth 100000 in
theorem d_X6_longestGap (l : Launch) (D : va_G) (ty : Nat → ClassId) (t0 : Nat → Nat) (bd : Nat → Nat) (a : Nat → Nat → Int32) (g : Nat → Nat → Int64) (n : Nat → Int32)  (x : Int32) (y : Int32) (u5 : Nat) (eu5 : x = nI u5) (hu5 : u5 < 2 ^ 31) (hto : ∀ k, k < 2 ^ 31 → nI k ≤ y → k < 25200) : fc l yX6_longestGap wsX6_longestGap (fj_rm 0 0 0 0) D ty t0 [.ref (bd 0), .int x, .int y] (fm_w bd ty a g n) 0 0 (fun v w => ∃ d, UPT u5 y d ∧ v = some (.int (nI (lgN (a 29) u5 d))) ∧ w = fm_w bd ty a g n) := by
  subst eu5
  refine fc_start (own := RX6) (cc := cX6_longestGap) (maxL := 6) (ret := (some .int)) (by decide) rfl (Nat.le_of_ble_eq_true rfl) rfl ?_
  intro p e s m args below meth c Q A C hmn E9
  have iX6 : ∀ w ∈ u_ws RX6 TX6 44, w ∈ wsX6_longestGap := ptX6_longestGap_wsX60
  have kX6_103 : Cond.fieldLink RX6 103 "FreeLandModel" "lived" "[Z" ∈ wsX6_longestGap := ptX6_longestGap_woX6_longestGap _ (by decide +kernel)
  refine fj_lv (lv' := [(0, .ref (bd 0)), (1, .int (nI u5)), (2, .int y)]) [0, 1, 2] rfl ?_
  refine fj_iconst (v := 0) C dX6_longestGap_0 (by decide) ?_
  refine fj_istore_n (lv' := [(3, .int 0), (0, .ref (bd 0)), (1, .int (nI u5)), (2, .int y)]) C dX6_longestGap_1 rfl (by decide) rfl ?_
  refine fj_iconst (v := 0) C dX6_longestGap_2 (by decide) ?_
  refine fj_istore (lv' := [(4, .int 0), (3, .int 0), (0, .ref (bd 0)), (1, .int (nI u5)), (2, .int y)]) C dX6_longestGap_3 (by decide) rfl ?_
  refine fj_iload_n C 3 dX6_longestGap_5 rfl rfl ?_
  refine fj_istore (lv' := [(5, .int (nI u5)), (4, .int 0), (3, .int 0), (0, .ref (bd 0)), (1, .int (nI u5)), (2, .int y)]) C dX6_longestGap_6 (by decide) rfl ?_
  refine fj_lv (lv' := [(0, .ref (bd 0)), (1, .int (nI u5)), (2, .int y), (3, .int 0), (4, .int 0), (5, .int (nI u5))]) [3, 4, 5, 2, 1, 0] rfl ?_
  have lp8 : ∀ (d : Nat), (d = 0 ∨ u5 + d ≤ 25200) → (∀ j, j < d → nI (u5 + j) ≤ y) → fj p l e (fj_rm 0 0 0 0) s m args below meth c Q A D 6 0 0 (fm_w bd ty a g n) [(0, .ref (bd 0)), (1, .int (nI u5)), (2, .int y), (3, .int (nI (lgN (a 29) u5 d))), (4, .int (nI (gpN (a 29) u5 d))), (5, .int (nI (u5 + d)))] 8 [] := by
    have key : ∀ zz : Nat, (fun (d : Nat) => (d = 0 ∨ u5 + d ≤ 25200) → (∀ j, j < d → nI (u5 + j) ≤ y) → fj p l e (fj_rm 0 0 0 0) s m args below meth c Q A D 6 0 0 (fm_w bd ty a g n) [(0, .ref (bd 0)), (1, .int (nI u5)), (2, .int y), (3, .int (nI (lgN (a 29) u5 d))), (4, .int (nI (gpN (a 29) u5 d))), (5, .int (nI (u5 + d)))] 8 []) zz := by
      refine fx_ind (fun (d : Nat) => 25200 - (u5 + d)) _ ?_
      rintro d ih8 hd hle
      refine fj_iload C 5 dX6_longestGap_8 rfl ?_
      refine fj_iload_n C 2 dX6_longestGap_10 rfl rfl ?_
      refine fj_icmp_gt (tgt := 53) C dX6_longestGap_11 (by decide) (fun h11 => ?_) (fun h11 => ?_)
      · refine fj_iload_n C 3 dX6_longestGap_53 rfl rfl ?_
        exact fj_iret C E9 dX6_longestGap_54 ⟨d, ⟨Int32.not_le.mpr h11, hle, hd⟩, rfl, rfl⟩
      · have hlt : u5 + d < 25200 := hto _ (by omega) (Int32.not_lt.mp h11)
        refine fj_aload_n C 0 dX6_longestGap_14 rfl rfl ?_
        refine fj_get (Cn := RX6) (T := TX6) (N := 44) (ci := 6) (v := .ref (bd 29)) C iX6 0 (fm_at0 _ _ _ _ _) rfl 37 (by decide) kX6_103 rfl dX6_longestGap_15 ?_
        refine fj_iload C 5 dX6_longestGap_18 rfl ?_
        refine fj_zald (f := (a 29)) C 29 (fm_at29 _ _ _ _ _) (vp_in_nI (by omega) (by decide)) dX6_longestGap_20 ?_
        refine fj_at (y := a 29 (u5 + d)) (by rw [nI_clamp (by omega)]) ?_
        refine fj_if_eq (tgt := 28) C dX6_longestGap_21 (by decide) (fun h21 => ?_) (fun h21 => ?_)
        · refine fj_iload C 4 dX6_longestGap_28 rfl ?_
          refine fj_iconst (v := 1) C dX6_longestGap_30 (by decide) ?_
          refine fj_iadd C dX6_longestGap_31 ?_
          refine fj_at (y := nI (gpN (a 29) u5 (d + 1))) (by rw [gpN_z h21]; exact nI_1 _) ?_
          refine fj_istore (lv' := [(4, .int (nI (gpN (a 29) u5 (d + 1)))), (0, .ref (bd 0)), (1, .int (nI u5)), (2, .int y), (3, .int (nI (lgN (a 29) u5 d))), (5, .int (nI (u5 + d)))]) C dX6_longestGap_32 (by decide) rfl ?_
          have hg1 := gpN_le (a 29) u5 (d + 1)
          have hg2 := lgN_le (a 29) u5 d
          refine fj_iload C 0 dX6_longestGap_34 rfl ?_
          refine fj_iload_n C 4 dX6_longestGap_36 rfl rfl ?_
          refine fj_icmp_le (tgt := 45) C dX6_longestGap_37 (by decide) (fun h37 => ?_) (fun h37 => ?_)
          · refine fj_iload_n C 4 dX6_longestGap_45 rfl rfl ?_
            refine fj_istore_n (lv' := [(3, .int (nI (lgN (a 29) u5 d))), (4, .int (nI (gpN (a 29) u5 (d + 1)))), (0, .ref (bd 0)), (1, .int (nI u5)), (2, .int y), (5, .int (nI (u5 + d)))]) C dX6_longestGap_46 rfl (by decide) rfl ?_
            refine fj_iinc (v := nI (u5 + (d + 1))) (lv' := [(5, .int (nI (u5 + (d + 1)))), (3, .int (nI (lgN (a 29) u5 d))), (4, .int (nI (gpN (a 29) u5 (d + 1)))), (0, .ref (bd 0)), (1, .int (nI u5)), (2, .int y)]) C 5 dX6_longestGap_47 rfl (nI_1 (u5 + d)) (by decide) rfl ?_
            refine fj_goto (tgt := 8) C dX6_longestGap_50 (by decide) ?_
            refine fj_lv (lv' := [(0, .ref (bd 0)), (1, .int (nI u5)), (2, .int y), (3, .int (nI (lgN (a 29) u5 d))), (4, .int (nI (gpN (a 29) u5 (d + 1)))), (5, .int (nI (u5 + (d + 1))))]) [3, 4, 5, 1, 2, 0] rfl ?_
            refine fj_lv (lv' := [(0, .ref (bd 0)), (1, .int (nI u5)), (2, .int y), (3, .int (nI (lgN (a 29) u5 (d + 1)))), (4, .int (nI (gpN (a 29) u5 (d + 1)))), (5, .int (nI (u5 + (d + 1))))]) [0, 1, 2, 3, 4, 5] (by first | (rw [lgN, if_pos (Nat.lt_of_not_le fun q => h37 ((nI_leI (by omega) (by omega)).mpr q))]; rfl) | (rw [lgN, if_neg (Nat.not_lt.mpr ((nI_leI (by omega) (by omega)).mp h37))]; rfl)) ?_
            exact ih8 (d + 1) (by show 25200 - (u5 + (d + 1)) < 25200 - (u5 + d); omega) (Or.inr (by omega)) (fun j h9 => (Nat.eq_or_lt_of_le (Nat.le_of_lt_succ h9)).elim (fun e9 => e9 ▸ Int32.not_lt.mp h11) (fun q9 => hle j q9))
          · refine fj_iload C 0 dX6_longestGap_40 rfl ?_
            refine fj_goto (tgt := 46) C dX6_longestGap_42 (by decide) ?_
            refine fj_istore_n (lv' := [(3, .int (nI (gpN (a 29) u5 (d + 1)))), (4, .int (nI (gpN (a 29) u5 (d + 1)))), (0, .ref (bd 0)), (1, .int (nI u5)), (2, .int y), (5, .int (nI (u5 + d)))]) C dX6_longestGap_46 rfl (by decide) rfl ?_
            refine fj_iinc (v := nI (u5 + (d + 1))) (lv' := [(5, .int (nI (u5 + (d + 1)))), (3, .int (nI (gpN (a 29) u5 (d + 1)))), (4, .int (nI (gpN (a 29) u5 (d + 1)))), (0, .ref (bd 0)), (1, .int (nI u5)), (2, .int y)]) C 5 dX6_longestGap_47 rfl (nI_1 (u5 + d)) (by decide) rfl ?_
            refine fj_goto (tgt := 8) C dX6_longestGap_50 (by decide) ?_
            refine fj_lv (lv' := [(0, .ref (bd 0)), (1, .int (nI u5)), (2, .int y), (3, .int (nI (gpN (a 29) u5 (d + 1)))), (4, .int (nI (gpN (a 29) u5 (d + 1)))), (5, .int (nI (u5 + (d + 1))))]) [3, 4, 5, 1, 2, 0] rfl ?_
            refine fj_lv (lv' := [(0, .ref (bd 0)), (1, .int (nI u5)), (2, .int y), (3, .int (nI (lgN (a 29) u5 (d + 1)))), (4, .int (nI (gpN (a 29) u5 (d + 1)))), (5, .int (nI (u5 + (d + 1))))]) [0, 1, 2, 3, 4, 5] (by first | (rw [lgN, if_pos (Nat.lt_of_not_le fun q => h37 ((nI_leI (by omega) (by omega)).mpr q))]; rfl) | (rw [lgN, if_neg (Nat.not_lt.mpr ((nI_leI (by omega) (by omega)).mp h37))]; rfl)) ?_
            exact ih8 (d + 1) (by show 25200 - (u5 + (d + 1)) < 25200 - (u5 + d); omega) (Or.inr (by omega)) (fun j h9 => (Nat.eq_or_lt_of_le (Nat.le_of_lt_succ h9)).elim (fun e9 => e9 ▸ Int32.not_lt.mp h11) (fun q9 => hle j q9))
        · refine fj_iconst (v := 0) C dX6_longestGap_24 (by decide) ?_
          refine fj_at (y := nI (gpN (a 29) u5 (d + 1))) (by rw [gpN_p h21]; rfl) ?_
          refine fj_goto (tgt := 32) C dX6_longestGap_25 (by decide) ?_
          refine fj_istore (lv' := [(4, .int (nI (gpN (a 29) u5 (d + 1)))), (0, .ref (bd 0)), (1, .int (nI u5)), (2, .int y), (3, .int (nI (lgN (a 29) u5 d))), (5, .int (nI (u5 + d)))]) C dX6_longestGap_32 (by decide) rfl ?_
          have hg1 := gpN_le (a 29) u5 (d + 1)
          have hg2 := lgN_le (a 29) u5 d
          refine fj_iload C 0 dX6_longestGap_34 rfl ?_
          refine fj_iload_n C 4 dX6_longestGap_36 rfl rfl ?_
          refine fj_icmp_le (tgt := 45) C dX6_longestGap_37 (by decide) (fun h37 => ?_) (fun h37 => ?_)
          · refine fj_iload_n C 4 dX6_longestGap_45 rfl rfl ?_
            refine fj_istore_n (lv' := [(3, .int (nI (lgN (a 29) u5 d))), (4, .int (nI (gpN (a 29) u5 (d + 1)))), (0, .ref (bd 0)), (1, .int (nI u5)), (2, .int y), (5, .int (nI (u5 + d)))]) C dX6_longestGap_46 rfl (by decide) rfl ?_
            refine fj_iinc (v := nI (u5 + (d + 1))) (lv' := [(5, .int (nI (u5 + (d + 1)))), (3, .int (nI (lgN (a 29) u5 d))), (4, .int (nI (gpN (a 29) u5 (d + 1)))), (0, .ref (bd 0)), (1, .int (nI u5)), (2, .int y)]) C 5 dX6_longestGap_47 rfl (nI_1 (u5 + d)) (by decide) rfl ?_
            refine fj_goto (tgt := 8) C dX6_longestGap_50 (by decide) ?_
            refine fj_lv (lv' := [(0, .ref (bd 0)), (1, .int (nI u5)), (2, .int y), (3, .int (nI (lgN (a 29) u5 d))), (4, .int (nI (gpN (a 29) u5 (d + 1)))), (5, .int (nI (u5 + (d + 1))))]) [3, 4, 5, 1, 2, 0] rfl ?_
            refine fj_lv (lv' := [(0, .ref (bd 0)), (1, .int (nI u5)), (2, .int y), (3, .int (nI (lgN (a 29) u5 (d + 1)))), (4, .int (nI (gpN (a 29) u5 (d + 1)))), (5, .int (nI (u5 + (d + 1))))]) [0, 1, 2, 3, 4, 5] (by first | (rw [lgN, if_pos (Nat.lt_of_not_le fun q => h37 ((nI_leI (by omega) (by omega)).mpr q))]; rfl) | (rw [lgN, if_neg (Nat.not_lt.mpr ((nI_leI (by omega) (by omega)).mp h37))]; rfl)) ?_
            exact ih8 (d + 1) (by show 25200 - (u5 + (d + 1)) < 25200 - (u5 + d); omega) (Or.inr (by omega)) (fun j h9 => (Nat.eq_or_lt_of_le (Nat.le_of_lt_succ h9)).elim (fun e9 => e9 ▸ Int32.not_lt.mp h11) (fun q9 => hle j q9))
          · refine fj_iload C 0 dX6_longestGap_40 rfl ?_
            refine fj_goto (tgt := 46) C dX6_longestGap_42 (by decide) ?_
            refine fj_istore_n (lv' := [(3, .int (nI (gpN (a 29) u5 (d + 1)))), (4, .int (nI (gpN (a 29) u5 (d + 1)))), (0, .ref (bd 0)), (1, .int (nI u5)), (2, .int y), (5, .int (nI (u5 + d)))]) C dX6_longestGap_46 rfl (by decide) rfl ?_
            refine fj_iinc (v := nI (u5 + (d + 1))) (lv' := [(5, .int (nI (u5 + (d + 1)))), (3, .int (nI (gpN (a 29) u5 (d + 1)))), (4, .int (nI (gpN (a 29) u5 (d + 1)))), (0, .ref (bd 0)), (1, .int (nI u5)), (2, .int y)]) C 5 dX6_longestGap_47 rfl (nI_1 (u5 + d)) (by decide) rfl ?_
            refine fj_goto (tgt := 8) C dX6_longestGap_50 (by decide) ?_
            refine fj_lv (lv' := [(0, .ref (bd 0)), (1, .int (nI u5)), (2, .int y), (3, .int (nI (gpN (a 29) u5 (d + 1)))), (4, .int (nI (gpN (a 29) u5 (d + 1)))), (5, .int (nI (u5 + (d + 1))))]) [3, 4, 5, 1, 2, 0] rfl ?_
            refine fj_lv (lv' := [(0, .ref (bd 0)), (1, .int (nI u5)), (2, .int y), (3, .int (nI (lgN (a 29) u5 (d + 1)))), (4, .int (nI (gpN (a 29) u5 (d + 1)))), (5, .int (nI (u5 + (d + 1))))]) [0, 1, 2, 3, 4, 5] (by first | (rw [lgN, if_pos (Nat.lt_of_not_le fun q => h37 ((nI_leI (by omega) (by omega)).mpr q))]; rfl) | (rw [lgN, if_neg (Nat.not_lt.mpr ((nI_leI (by omega) (by omega)).mp h37))]; rfl)) ?_
            exact ih8 (d + 1) (by show 25200 - (u5 + (d + 1)) < 25200 - (u5 + d); omega) (Or.inr (by omega)) (fun j h9 => (Nat.eq_or_lt_of_le (Nat.le_of_lt_succ h9)).elim (fun e9 => e9 ▸ Int32.not_lt.mp h11) (fun q9 => hle j q9))
    intro d
    exact key d
  exact lp8 0 (Or.inl rfl) (fun j q => absurd q (Nat.not_lt_zero _))

set_option maxHeartbeats 4000000 in
set_option maxRecDepth 100000 in
theorem d_X6_acres (l : Launch) (D : va_G) (ty : Nat → ClassId) (t0 : Nat → Nat) (bd : Nat → Nat) (a : Nat → Nat → Int32) (g : Nat → Nat → Int64) (n : Nat → Int32) (P : Nat) (S : Nat) (T : Nat) (B : Nat) (I : YI P S T B a n) (M6 : Nat) (E7 : Nat) (W8 : Nat) (Y : YW S B M6 E7 W8 a n) (x : Int32) (e5 : Nat) (ee5 : x = nI e5) (he5 : e5 < E7) : fc l yX6_acres wsX6_acres (fj_rm 0 0 0 0) D ty t0 [.ref (bd 0), .int x] (fm_w bd ty a g n) 0 0 (fun v w => v = some (.int (acM a e5 (a 21 e5).toNatClampNeg (W8 - (a 21 e5).toNatClampNeg))) ∧ w = fm_w bd ty a g n) := by
  subst ee5
  refine fc_start (own := RX6) (cc := cX6_acres) (maxL := 6) (ret := (some .int)) (by decide) rfl (Nat.le_of_ble_eq_true rfl) rfl ?_
  intro p e s m args below meth c Q A C hmn E9
  obtain ⟨hn0, hP, hn2, hT, hn4, hS, hn5, hB, yWho, ySort, yQ, yN, yD, yL⟩ := id I
  obtain ⟨hn6, hM6, hn7, hn8, hEW, hWM, yO, yEL, yEA, yLW⟩ := id Y
  obtain ⟨l6, hl6, el6⟩ := yEL e5 he5
  have he6 : (a 20 e5).toNatClampNeg = l6 := by rw [el6, nI_clamp (by omega)]
  have iX6 : ∀ w ∈ u_ws RX6 TX6 44, w ∈ wsX6_acres := ptX6_acres_wsX60
  have kX6_79 : Cond.fieldLink RX6 79 "FreeLandModel" "entryAt" "[I" ∈ wsX6_acres := ptX6_acres_woX6_acres _ (by decide +kernel)
  have kX6_212 : Cond.fieldLink RX6 212 "FreeLandModel" "worked" "I" ∈ wsX6_acres := ptX6_acres_woX6_acres _ (by decide +kernel)
  have kX6_67 : Cond.fieldLink RX6 67 "FreeLandModel" "order" "[I" ∈ wsX6_acres := ptX6_acres_woX6_acres _ (by decide +kernel)
  have kX6_42 : Cond.fieldLink RX6 42 "FreeLandModel" "sorts" "[I" ∈ wsX6_acres := ptX6_acres_woX6_acres _ (by decide +kernel)
  have kX6_70 : Cond.fieldLink RX6 70 "FreeLandModel" "outcomes" "[I" ∈ wsX6_acres := ptX6_acres_woX6_acres _ (by decide +kernel)
  have kX6_48 : Cond.fieldLink RX6 48 "FreeLandModel" "quarters" "[I" ∈ wsX6_acres := ptX6_acres_woX6_acres _ (by decide +kernel)
  have kX6_76 : Cond.fieldLink RX6 76 "FreeLandModel" "entryLine" "[I" ∈ wsX6_acres := ptX6_acres_woX6_acres _ (by decide +kernel)
  have kX6_85 : Cond.fieldLink RX6 85 "FreeLandModel" "heldBy" "[I" ∈ wsX6_acres := ptX6_acres_woX6_acres _ (by decide +kernel)
  have kX6_45 : Cond.fieldLink RX6 45 "FreeLandModel" "people" "[I" ∈ wsX6_acres := ptX6_acres_woX6_acres _ (by decide +kernel)
  have kX6_51 : Cond.fieldLink RX6 51 "FreeLandModel" "numbers" "[I" ∈ wsX6_acres := ptX6_acres_woX6_acres _ (by decide +kernel)
  refine fj_lv (lv' := [(0, .ref (bd 0)), (1, .int (nI e5))]) [0, 1] rfl ?_
  refine fj_iconst (v := 0) C dX6_acres_0 (by decide) ?_
  refine fj_istore_n (lv' := [(2, .int 0), (0, .ref (bd 0)), (1, .int (nI e5))]) C dX6_acres_1 rfl (by decide) rfl ?_
  refine fj_aload_n C 1 dX6_acres_2 rfl rfl ?_
  refine fj_get (Cn := RX6) (T := TX6) (N := 44) (ci := 6) (v := .ref (bd 21)) C iX6 0 (fm_at0 _ _ _ _ _) rfl 28 (by decide) kX6_79 rfl dX6_acres_3 ?_
  refine fj_iload_n C 2 dX6_acres_6 rfl rfl ?_
  refine fj_iald (f := (a 21)) C 21 (fm_at21 _ _ _ _ _) (vp_in_nI (by omega) (by decide)) dX6_acres_7 ?_
  obtain ⟨t9, ht9, et9⟩ := yEA e5 he5
  refine fj_at (y := nI t9) (by rw [nI_clamp (by omega), et9]) ?_
  refine fj_istore_n (lv' := [(3, .int (nI t9)), (2, .int 0), (0, .ref (bd 0)), (1, .int (nI e5))]) C dX6_acres_8 rfl (by decide) rfl ?_
  refine fj_lv (lv' := [(0, .ref (bd 0)), (1, .int (nI e5)), (2, .int 0), (3, .int (nI t9))]) [2, 3, 1, 0] rfl ?_
  have lp9 : ∀ (d : Nat), (t9 + d ≤ W8) → fj p l e (fj_rm 0 0 0 0) s m args below meth c Q A D 6 0 0 (fm_w bd ty a g n) [(0, .ref (bd 0)), (1, .int (nI e5)), (2, .int (acM a e5 t9 d)), (3, .int (nI (t9 + d)))] 9 [] := by
    have key : ∀ zz : Nat, (fun (d : Nat) => (t9 + d ≤ W8) → fj p l e (fj_rm 0 0 0 0) s m args below meth c Q A D 6 0 0 (fm_w bd ty a g n) [(0, .ref (bd 0)), (1, .int (nI e5)), (2, .int (acM a e5 t9 d)), (3, .int (nI (t9 + d)))] 9 []) zz := by
      refine fx_ind (fun (d : Nat) => W8 - (t9 + d)) _ ?_
      rintro d ih9 hd
      refine fj_iload_n C 3 dX6_acres_9 rfl rfl ?_
      refine fj_aload_n C 0 dX6_acres_10 rfl rfl ?_
      refine fj_get (Cn := RX6) (T := TX6) (N := 44) (ci := 6) (v := .int (n 8)) C iX6 0 (fm_at0 _ _ _ _ _) rfl 36 (by decide) kX6_212 rfl dX6_acres_11 ?_
      refine fj_at (y := nI W8) hn8 ?_
      refine fj_icmp_ge (tgt := 119) C dX6_acres_14 (by decide) (fun h14 => ?_) (fun h14 => ?_)
      · have hge : W8 ≤ t9 + d := Nat.le_of_not_lt fun q => absurd (Int32.not_lt.mpr h14) (not_not_intro ((nI_ltI (by omega) (by omega)).mpr q))
        refine fj_iload_n C 2 dX6_acres_119 rfl rfl ?_
        exact fj_iret C E9 dX6_acres_120 ⟨by rw [et9, nI_clamp (by omega : t9 < 2 ^ 31), show d = W8 - t9 by omega], rfl⟩
      · have hlt : t9 + d < W8 := (nI_ltI (by omega) (by omega)).mp (Int32.not_le.mp h14)
        refine fj_aload_n C 0 dX6_acres_17 rfl rfl ?_
        refine fj_get (Cn := RX6) (T := TX6) (N := 44) (ci := 6) (v := .ref (bd 17)) C iX6 0 (fm_at0 _ _ _ _ _) rfl 22 (by decide) kX6_67 rfl dX6_acres_18 ?_
        refine fj_iload_n C 3 dX6_acres_21 rfl rfl ?_
        refine fj_iald (f := (a 17)) C 17 (fm_at17 _ _ _ _ _) (vp_in_nI (by omega) (by decide)) dX6_acres_22 ?_
        obtain ⟨l5, hl5, el5⟩ := yO (t9 + d) (by omega)
        refine fj_at (y := nI l5) (by rw [nI_clamp (by omega), el5]) ?_
        refine fj_istore (lv' := [(4, .int (nI l5)), (0, .ref (bd 0)), (1, .int (nI e5)), (2, .int (acM a e5 t9 d)), (3, .int (nI (t9 + d)))]) C dX6_acres_23 (by decide) rfl ?_
        refine fj_aload_n C 1 dX6_acres_25 rfl rfl ?_
        refine fj_get (Cn := RX6) (T := TX6) (N := 44) (ci := 6) (v := .ref (bd 9)) C iX6 0 (fm_at0 _ _ _ _ _) rfl 14 (by decide) kX6_42 rfl dX6_acres_26 ?_
        refine fj_iload C 0 dX6_acres_29 rfl ?_
        refine fj_iald (f := (a 9)) C 9 (fm_at9 _ _ _ _ _) (vp_in_nI (by omega) (by decide)) dX6_acres_31 ?_
        refine fj_at (y := a 9 l5) (by rw [nI_clamp (by omega)]) ?_
        refine fj_iconst (v := 2) C dX6_acres_32 (by decide) ?_
        refine fj_icmp_ne (tgt := 71) C dX6_acres_33 (by decide) (fun h33 => ?_) (fun h33 => ?_)
        · refine fj_iconst (v := 0) C dX6_acres_71 (by decide) ?_
          refine fj_istore (lv' := [(5, .int 0), (4, .int (nI l5)), (0, .ref (bd 0)), (1, .int (nI e5)), (2, .int (acM a e5 t9 d)), (3, .int (nI (t9 + d)))]) C dX6_acres_72 (by decide) rfl ?_
          refine fj_iload_n C 4 dX6_acres_74 rfl rfl ?_
          refine fj_iload C 0 dX6_acres_75 rfl ?_
          refine fj_if_eq (tgt := 110) C dX6_acres_77 (by decide) (fun _ => ?_) (fun h => absurd (by decide) h)
          refine fj_iconst (v := 0) C dX6_acres_110 (by decide) ?_
          refine fj_iadd C dX6_acres_111 ?_
          refine fj_at (y := acM a e5 t9 (d + 1)) (by first | exact acM_p el5 (by omega) ⟨h33, h43, (by rw [he6]; exact h64), h97⟩ | exact acM_z el5 (by omega) (fun z => h33 z.1) | exact acM_z el5 (by omega) (fun z => h43 z.2.1) | exact acM_z el5 (by omega) (fun z => h64 (by rw [← he6]; exact z.2.2.1)) | exact acM_z el5 (by omega) (fun z => h97 z.2.2.2)) ?_
          refine fj_istore_n (lv' := [(2, .int (acM a e5 t9 (d + 1))), (5, .int 0), (4, .int (nI l5)), (0, .ref (bd 0)), (1, .int (nI e5)), (3, .int (nI (t9 + d)))]) C dX6_acres_112 rfl (by decide) rfl ?_
          refine fj_iinc (v := nI (t9 + (d + 1))) (lv' := [(3, .int (nI (t9 + (d + 1)))), (2, .int (acM a e5 t9 (d + 1))), (5, .int 0), (4, .int (nI l5)), (0, .ref (bd 0)), (1, .int (nI e5))]) C 5 dX6_acres_113 rfl (nI_1 (t9 + d)) (by decide) rfl ?_
          refine fj_goto (tgt := 9) C dX6_acres_116 (by decide) ?_
          refine fj_lv (lv' := [(0, .ref (bd 0)), (1, .int (nI e5)), (2, .int (acM a e5 t9 (d + 1))), (3, .int (nI (t9 + (d + 1))))]) [4, 5, 1, 0] rfl ?_
          exact ih9 (d + 1) (by show W8 - (t9 + (d + 1)) < W8 - (t9 + d); omega) (by omega)
        · refine fj_aload_n C 1 dX6_acres_36 rfl rfl ?_
          refine fj_get (Cn := RX6) (T := TX6) (N := 44) (ci := 6) (v := .ref (bd 18)) C iX6 0 (fm_at0 _ _ _ _ _) rfl 24 (by decide) kX6_70 rfl dX6_acres_37 ?_
          refine fj_iload C 0 dX6_acres_40 rfl ?_
          refine fj_iald (f := (a 18)) C 18 (fm_at18 _ _ _ _ _) (vp_in_nI (by omega) (by decide)) dX6_acres_42 ?_
          refine fj_at (y := a 18 l5) (by rw [nI_clamp (by omega)]) ?_
          refine fj_if_ne (tgt := 71) C dX6_acres_43 (by decide) (fun h43 => ?_) (fun h43 => ?_)
          · refine fj_iconst (v := 0) C dX6_acres_71 (by decide) ?_
            refine fj_istore (lv' := [(5, .int 0), (4, .int (nI l5)), (0, .ref (bd 0)), (1, .int (nI e5)), (2, .int (acM a e5 t9 d)), (3, .int (nI (t9 + d)))]) C dX6_acres_72 (by decide) rfl ?_
            refine fj_iload_n C 4 dX6_acres_74 rfl rfl ?_
            refine fj_iload C 0 dX6_acres_75 rfl ?_
            refine fj_if_eq (tgt := 110) C dX6_acres_77 (by decide) (fun _ => ?_) (fun h => absurd (by decide) h)
            refine fj_iconst (v := 0) C dX6_acres_110 (by decide) ?_
            refine fj_iadd C dX6_acres_111 ?_
            refine fj_at (y := acM a e5 t9 (d + 1)) (by first | exact acM_p el5 (by omega) ⟨h33, h43, (by rw [he6]; exact h64), h97⟩ | exact acM_z el5 (by omega) (fun z => h33 z.1) | exact acM_z el5 (by omega) (fun z => h43 z.2.1) | exact acM_z el5 (by omega) (fun z => h64 (by rw [← he6]; exact z.2.2.1)) | exact acM_z el5 (by omega) (fun z => h97 z.2.2.2)) ?_
            refine fj_istore_n (lv' := [(2, .int (acM a e5 t9 (d + 1))), (5, .int 0), (4, .int (nI l5)), (0, .ref (bd 0)), (1, .int (nI e5)), (3, .int (nI (t9 + d)))]) C dX6_acres_112 rfl (by decide) rfl ?_
            refine fj_iinc (v := nI (t9 + (d + 1))) (lv' := [(3, .int (nI (t9 + (d + 1)))), (2, .int (acM a e5 t9 (d + 1))), (5, .int 0), (4, .int (nI l5)), (0, .ref (bd 0)), (1, .int (nI e5))]) C 5 dX6_acres_113 rfl (nI_1 (t9 + d)) (by decide) rfl ?_
            refine fj_goto (tgt := 9) C dX6_acres_116 (by decide) ?_
            refine fj_lv (lv' := [(0, .ref (bd 0)), (1, .int (nI e5)), (2, .int (acM a e5 t9 (d + 1))), (3, .int (nI (t9 + (d + 1))))]) [4, 5, 1, 0] rfl ?_
            exact ih9 (d + 1) (by show W8 - (t9 + (d + 1)) < W8 - (t9 + d); omega) (by omega)
          · refine fj_aload_n C 1 dX6_acres_46 rfl rfl ?_
            refine fj_get (Cn := RX6) (T := TX6) (N := 44) (ci := 6) (v := .ref (bd 11)) C iX6 0 (fm_at0 _ _ _ _ _) rfl 16 (by decide) kX6_48 rfl dX6_acres_47 ?_
            refine fj_iload C 0 dX6_acres_50 rfl ?_
            refine fj_iald (f := (a 11)) C 11 (fm_at11 _ _ _ _ _) (vp_in_nI (by omega) (by decide)) dX6_acres_52 ?_
            refine fj_at (y := a 11 l5) (by rw [nI_clamp (by omega)]) ?_
            refine fj_aload_n C 1 dX6_acres_53 rfl rfl ?_
            refine fj_get (Cn := RX6) (T := TX6) (N := 44) (ci := 6) (v := .ref (bd 11)) C iX6 0 (fm_at0 _ _ _ _ _) rfl 16 (by decide) kX6_48 rfl dX6_acres_54 ?_
            refine fj_aload_n C 1 dX6_acres_57 rfl rfl ?_
            refine fj_get (Cn := RX6) (T := TX6) (N := 44) (ci := 6) (v := .ref (bd 20)) C iX6 0 (fm_at0 _ _ _ _ _) rfl 27 (by decide) kX6_76 rfl dX6_acres_58 ?_
            refine fj_iload_n C 2 dX6_acres_61 rfl rfl ?_
            refine fj_iald (f := (a 20)) C 20 (fm_at20 _ _ _ _ _) (vp_in_nI (by omega) (by decide)) dX6_acres_62 ?_
            refine fj_at (y := nI l6) (by rw [nI_clamp (by omega), el6]) ?_
            refine fj_iald (f := (a 11)) C 11 (fm_at11 _ _ _ _ _) (vp_in_nI (by omega) (by decide)) dX6_acres_63 ?_
            refine fj_at (y := a 11 l6) (by rw [nI_clamp (by omega)]) ?_
            refine fj_icmp_ne (tgt := 71) C dX6_acres_64 (by decide) (fun h64 => ?_) (fun h64 => ?_)
            · refine fj_iconst (v := 0) C dX6_acres_71 (by decide) ?_
              refine fj_istore (lv' := [(5, .int 0), (4, .int (nI l5)), (0, .ref (bd 0)), (1, .int (nI e5)), (2, .int (acM a e5 t9 d)), (3, .int (nI (t9 + d)))]) C dX6_acres_72 (by decide) rfl ?_
              refine fj_iload_n C 4 dX6_acres_74 rfl rfl ?_
              refine fj_iload C 0 dX6_acres_75 rfl ?_
              refine fj_if_eq (tgt := 110) C dX6_acres_77 (by decide) (fun _ => ?_) (fun h => absurd (by decide) h)
              refine fj_iconst (v := 0) C dX6_acres_110 (by decide) ?_
              refine fj_iadd C dX6_acres_111 ?_
              refine fj_at (y := acM a e5 t9 (d + 1)) (by first | exact acM_p el5 (by omega) ⟨h33, h43, (by rw [he6]; exact h64), h97⟩ | exact acM_z el5 (by omega) (fun z => h33 z.1) | exact acM_z el5 (by omega) (fun z => h43 z.2.1) | exact acM_z el5 (by omega) (fun z => h64 (by rw [← he6]; exact z.2.2.1)) | exact acM_z el5 (by omega) (fun z => h97 z.2.2.2)) ?_
              refine fj_istore_n (lv' := [(2, .int (acM a e5 t9 (d + 1))), (5, .int 0), (4, .int (nI l5)), (0, .ref (bd 0)), (1, .int (nI e5)), (3, .int (nI (t9 + d)))]) C dX6_acres_112 rfl (by decide) rfl ?_
              refine fj_iinc (v := nI (t9 + (d + 1))) (lv' := [(3, .int (nI (t9 + (d + 1)))), (2, .int (acM a e5 t9 (d + 1))), (5, .int 0), (4, .int (nI l5)), (0, .ref (bd 0)), (1, .int (nI e5))]) C 5 dX6_acres_113 rfl (nI_1 (t9 + d)) (by decide) rfl ?_
              refine fj_goto (tgt := 9) C dX6_acres_116 (by decide) ?_
              refine fj_lv (lv' := [(0, .ref (bd 0)), (1, .int (nI e5)), (2, .int (acM a e5 t9 (d + 1))), (3, .int (nI (t9 + (d + 1))))]) [4, 5, 1, 0] rfl ?_
              exact ih9 (d + 1) (by show W8 - (t9 + (d + 1)) < W8 - (t9 + d); omega) (by omega)
            · refine fj_iconst (v := 1) C dX6_acres_67 (by decide) ?_
              refine fj_goto (tgt := 72) C dX6_acres_68 (by decide) ?_
              refine fj_istore (lv' := [(5, .int 1), (4, .int (nI l5)), (0, .ref (bd 0)), (1, .int (nI e5)), (2, .int (acM a e5 t9 d)), (3, .int (nI (t9 + d)))]) C dX6_acres_72 (by decide) rfl ?_
              refine fj_iload_n C 4 dX6_acres_74 rfl rfl ?_
              refine fj_iload C 0 dX6_acres_75 rfl ?_
              refine fj_if_eq (tgt := 110) C dX6_acres_77 (by decide) (fun h => absurd h (by decide)) (fun _ => ?_)
              refine fj_aload_n C 2 dX6_acres_80 rfl rfl ?_
              refine fj_get (Cn := RX6) (T := TX6) (N := 44) (ci := 6) (v := .ref (bd 23)) C iX6 0 (fm_at0 _ _ _ _ _) rfl 30 (by decide) kX6_85 rfl dX6_acres_81 ?_
              refine fj_iload_n C 3 dX6_acres_84 rfl rfl ?_
              refine fj_iald (f := (a 23)) C 23 (fm_at23 _ _ _ _ _) (vp_in_nI (by omega) (by decide)) dX6_acres_85 ?_
              refine fj_at (y := a 23 e5) (by rw [nI_clamp (by omega)]) ?_
              refine fj_aload_n C 2 dX6_acres_86 rfl rfl ?_
              refine fj_get (Cn := RX6) (T := TX6) (N := 44) (ci := 6) (v := .ref (bd 10)) C iX6 0 (fm_at0 _ _ _ _ _) rfl 15 (by decide) kX6_45 rfl dX6_acres_87 ?_
              refine fj_iload C 1 dX6_acres_90 rfl ?_
              refine fj_iald (f := (a 10)) C 10 (fm_at10 _ _ _ _ _) (vp_in_nI (by omega) (by decide)) dX6_acres_92 ?_
              refine fj_at (y := a 10 l5) (by rw [nI_clamp (by omega)]) ?_
              refine fj_ishr C dX6_acres_93 ?_
              refine fj_iconst (v := 1) C dX6_acres_94 (by decide) ?_
              refine fj_iand C dX6_acres_95 ?_
              refine fj_iconst (v := 1) C dX6_acres_96 (by decide) ?_
              refine fj_icmp_ne (tgt := 110) C dX6_acres_97 (by decide) (fun h97 => ?_) (fun h97 => ?_)
              · refine fj_iconst (v := 0) C dX6_acres_110 (by decide) ?_
                refine fj_iadd C dX6_acres_111 ?_
                refine fj_at (y := acM a e5 t9 (d + 1)) (by first | exact acM_p el5 (by omega) ⟨h33, h43, (by rw [he6]; exact h64), h97⟩ | exact acM_z el5 (by omega) (fun z => h33 z.1) | exact acM_z el5 (by omega) (fun z => h43 z.2.1) | exact acM_z el5 (by omega) (fun z => h64 (by rw [← he6]; exact z.2.2.1)) | exact acM_z el5 (by omega) (fun z => h97 z.2.2.2)) ?_
                refine fj_istore_n (lv' := [(2, .int (acM a e5 t9 (d + 1))), (5, .int 1), (4, .int (nI l5)), (0, .ref (bd 0)), (1, .int (nI e5)), (3, .int (nI (t9 + d)))]) C dX6_acres_112 rfl (by decide) rfl ?_
                refine fj_iinc (v := nI (t9 + (d + 1))) (lv' := [(3, .int (nI (t9 + (d + 1)))), (2, .int (acM a e5 t9 (d + 1))), (5, .int 1), (4, .int (nI l5)), (0, .ref (bd 0)), (1, .int (nI e5))]) C 5 dX6_acres_113 rfl (nI_1 (t9 + d)) (by decide) rfl ?_
                refine fj_goto (tgt := 9) C dX6_acres_116 (by decide) ?_
                refine fj_lv (lv' := [(0, .ref (bd 0)), (1, .int (nI e5)), (2, .int (acM a e5 t9 (d + 1))), (3, .int (nI (t9 + (d + 1))))]) [4, 5, 1, 0] rfl ?_
                exact ih9 (d + 1) (by show W8 - (t9 + (d + 1)) < W8 - (t9 + d); omega) (by omega)
              · refine fj_aload_n C 2 dX6_acres_100 rfl rfl ?_
                refine fj_get (Cn := RX6) (T := TX6) (N := 44) (ci := 6) (v := .ref (bd 12)) C iX6 0 (fm_at0 _ _ _ _ _) rfl 17 (by decide) kX6_51 rfl dX6_acres_101 ?_
                refine fj_iload C 1 dX6_acres_104 rfl ?_
                refine fj_iald (f := (a 12)) C 12 (fm_at12 _ _ _ _ _) (vp_in_nI (by omega) (by decide)) dX6_acres_106 ?_
                refine fj_at (y := a 12 l5) (by rw [nI_clamp (by omega)]) ?_
                refine fj_goto (tgt := 111) C dX6_acres_107 (by decide) ?_
                refine fj_iadd C dX6_acres_111 ?_
                refine fj_at (y := acM a e5 t9 (d + 1)) (by first | exact acM_p el5 (by omega) ⟨h33, h43, (by rw [he6]; exact h64), h97⟩ | exact acM_z el5 (by omega) (fun z => h33 z.1) | exact acM_z el5 (by omega) (fun z => h43 z.2.1) | exact acM_z el5 (by omega) (fun z => h64 (by rw [← he6]; exact z.2.2.1)) | exact acM_z el5 (by omega) (fun z => h97 z.2.2.2)) ?_
                refine fj_istore_n (lv' := [(2, .int (acM a e5 t9 (d + 1))), (5, .int 1), (4, .int (nI l5)), (0, .ref (bd 0)), (1, .int (nI e5)), (3, .int (nI (t9 + d)))]) C dX6_acres_112 rfl (by decide) rfl ?_
                refine fj_iinc (v := nI (t9 + (d + 1))) (lv' := [(3, .int (nI (t9 + (d + 1)))), (2, .int (acM a e5 t9 (d + 1))), (5, .int 1), (4, .int (nI l5)), (0, .ref (bd 0)), (1, .int (nI e5))]) C 5 dX6_acres_113 rfl (nI_1 (t9 + d)) (by decide) rfl ?_
                refine fj_goto (tgt := 9) C dX6_acres_116 (by decide) ?_
                refine fj_lv (lv' := [(0, .ref (bd 0)), (1, .int (nI e5)), (2, .int (acM a e5 t9 (d + 1))), (3, .int (nI (t9 + (d + 1))))]) [4, 5, 1, 0] rfl ?_
                exact ih9 (d + 1) (by show W8 - (t9 + (d + 1)) < W8 - (t9 + d); omega) (by omega)
    intro d
    exact key d
  exact lp9 0 (by omega)

set_option maxHeartbeats 4000000 in
set_option maxRecDepth 100000 in
theorem d_X6_preferredOn (l : Launch) (D : va_G) (ty : Nat → ClassId) (t0 : Nat → Nat) (bd : Nat → Nat) (a : Nat → Nat → Int32) (g : Nat → Nat → Int64) (n : Nat → Int32)  (x : Int32) (y : Int32) (k : Nat) (ek : x = nI k) (hk : k < 64) : fc l yX6_preferredOn wsX6_preferredOn (fj_rm 0 0 0 0) D ty t0 [.ref (bd 0), .int x, .int y] (fm_w bd ty a g n) 0 0 (fun v w => v = some (.int (PFM a k y)) ∧ w = fm_w bd ty a g n) := by
  subst ek
  refine fc_start (own := RX6) (cc := cX6_preferredOn) (maxL := 3) (ret := (some .int)) (by decide) rfl (Nat.le_of_ble_eq_true rfl) rfl ?_
  intro p e s m args below meth c Q A C hmn E9
  have iX6 : ∀ w ∈ u_ws RX6 TX6 44, w ∈ wsX6_preferredOn := ptX6_preferredOn_wsX60
  have kX6_97 : Cond.fieldLink RX6 97 "FreeLandModel" "preferred" "[I" ∈ wsX6_preferredOn := ptX6_preferredOn_woX6_preferredOn _ (by decide +kernel)
  have kX6_100 : Cond.fieldLink RX6 100 "FreeLandModel" "preferDay" "[I" ∈ wsX6_preferredOn := ptX6_preferredOn_woX6_preferredOn _ (by decide +kernel)
  refine fj_lv (lv' := [(0, .ref (bd 0)), (1, .int (nI k)), (2, .int y)]) [0, 1, 2] rfl ?_
  refine fj_aload_n C 0 dX6_preferredOn_0 rfl rfl ?_
  refine fj_get (Cn := RX6) (T := TX6) (N := 44) (ci := 6) (v := .ref (bd 27)) C iX6 0 (fm_at0 _ _ _ _ _) rfl 34 (by decide) kX6_97 rfl dX6_preferredOn_1 ?_
  refine fj_iload_n C 1 dX6_preferredOn_4 rfl rfl ?_
  refine fj_iald (f := (a 27)) C 27 (fm_at27 _ _ _ _ _) (vp_in_nI (by omega) (by decide)) dX6_preferredOn_5 ?_
  refine fj_at (y := a 27 k) (by rw [nI_clamp (by omega)]) ?_
  refine fj_if_lt (tgt := 28) C dX6_preferredOn_6 (by decide) (fun h6 => ?_) (fun h6 => ?_)
  · refine fj_iconst (v := (-1)) C dX6_preferredOn_28 (by decide) ?_
    exact fj_iret C E9 dX6_preferredOn_29 ⟨by first | (rw [PFM, if_neg (fun z => z.1 h6)]; done) | (rw [PFM, if_neg (fun z => absurd h16 (Int32.not_lt.mpr z.2))]; done) | (rw [PFM, if_pos ⟨h6, Int32.not_lt.mp h16⟩]; done), rfl⟩
  · refine fj_iload_n C 2 dX6_preferredOn_9 rfl rfl ?_
    refine fj_aload_n C 0 dX6_preferredOn_10 rfl rfl ?_
    refine fj_get (Cn := RX6) (T := TX6) (N := 44) (ci := 6) (v := .ref (bd 28)) C iX6 0 (fm_at0 _ _ _ _ _) rfl 35 (by decide) kX6_100 rfl dX6_preferredOn_11 ?_
    refine fj_iload_n C 1 dX6_preferredOn_14 rfl rfl ?_
    refine fj_iald (f := (a 28)) C 28 (fm_at28 _ _ _ _ _) (vp_in_nI (by omega) (by decide)) dX6_preferredOn_15 ?_
    refine fj_at (y := a 28 k) (by rw [nI_clamp (by omega)]) ?_
    refine fj_icmp_gt (tgt := 28) C dX6_preferredOn_16 (by decide) (fun h16 => ?_) (fun h16 => ?_)
    · refine fj_iconst (v := (-1)) C dX6_preferredOn_28 (by decide) ?_
      exact fj_iret C E9 dX6_preferredOn_29 ⟨by first | (rw [PFM, if_neg (fun z => z.1 h6)]; done) | (rw [PFM, if_neg (fun z => absurd h16 (Int32.not_lt.mpr z.2))]; done) | (rw [PFM, if_pos ⟨h6, Int32.not_lt.mp h16⟩]; done), rfl⟩
    · refine fj_aload_n C 0 dX6_preferredOn_19 rfl rfl ?_
      refine fj_get (Cn := RX6) (T := TX6) (N := 44) (ci := 6) (v := .ref (bd 27)) C iX6 0 (fm_at0 _ _ _ _ _) rfl 34 (by decide) kX6_97 rfl dX6_preferredOn_20 ?_
      refine fj_iload_n C 1 dX6_preferredOn_23 rfl rfl ?_
      refine fj_iald (f := (a 27)) C 27 (fm_at27 _ _ _ _ _) (vp_in_nI (by omega) (by decide)) dX6_preferredOn_24 ?_
      refine fj_at (y := a 27 k) (by rw [nI_clamp (by omega)]) ?_
      refine fj_goto (tgt := 29) C dX6_preferredOn_25 (by decide) ?_
      exact fj_iret C E9 dX6_preferredOn_29 ⟨by first | (rw [PFM, if_neg (fun z => z.1 h6)]; done) | (rw [PFM, if_neg (fun z => absurd h16 (Int32.not_lt.mpr z.2))]; done) | (rw [PFM, if_pos ⟨h6, Int32.not_lt.mp h16⟩]; done), rfl⟩

set_option maxHeartbeats 4000000 in
set_option maxRecDepth 100000 in
theorem d_X6_filedBy (l : Launch) (D : va_G) (ty : Nat → ClassId) (t0 : Nat → Nat) (bd : Nat → Nat) (a : Nat → Nat → Int32) (g : Nat → Nat → Int64) (n : Nat → Int32) (P : Nat) (S : Nat) (T : Nat) (B : Nat) (I : YI P S T B a n) (M6 : Nat) (E7 : Nat) (W8 : Nat) (Y : YW S B M6 E7 W8 a n) (x : Int32)  : fc l yX6_filedBy wsX6_filedBy (fj_rm 0 0 0 0) D ty t0 [.ref (bd 0), .int x] (fm_w bd ty a g n) 0 0 (fun v w => v = some (.int (nI (cF a x E7))) ∧ w = fm_w bd ty a g n) := by
  refine fc_start (own := RX6) (cc := cX6_filedBy) (maxL := 4) (ret := (some .int)) (by decide) rfl (Nat.le_of_ble_eq_true rfl) rfl ?_
  intro p e s m args below meth c Q A C hmn E9
  obtain ⟨hn0, hP, hn2, hT, hn4, hS, hn5, hB, yWho, ySort, yQ, yN, yD, yL⟩ := id I
  obtain ⟨hn6, hM6, hn7, hn8, hEW, hWM, yO, yEL, yEA, yLW⟩ := id Y
  have iX6 : ∀ w ∈ u_ws RX6 TX6 44, w ∈ wsX6_filedBy := ptX6_filedBy_wsX60
  have kX6_206 : Cond.fieldLink RX6 206 "FreeLandModel" "entries" "I" ∈ wsX6_filedBy := ptX6_filedBy_woX6_filedBy _ (by decide +kernel)
  have kX6_45 : Cond.fieldLink RX6 45 "FreeLandModel" "people" "[I" ∈ wsX6_filedBy := ptX6_filedBy_woX6_filedBy _ (by decide +kernel)
  have kX6_76 : Cond.fieldLink RX6 76 "FreeLandModel" "entryLine" "[I" ∈ wsX6_filedBy := ptX6_filedBy_woX6_filedBy _ (by decide +kernel)
  refine fj_lv (lv' := [(0, .ref (bd 0)), (1, .int x)]) [0, 1] rfl ?_
  refine fj_iconst (v := 0) C dX6_filedBy_0 (by decide) ?_
  refine fj_istore_n (lv' := [(2, .int 0), (0, .ref (bd 0)), (1, .int x)]) C dX6_filedBy_1 rfl (by decide) rfl ?_
  refine fj_iconst (v := 0) C dX6_filedBy_2 (by decide) ?_
  refine fj_istore_n (lv' := [(3, .int 0), (2, .int 0), (0, .ref (bd 0)), (1, .int x)]) C dX6_filedBy_3 rfl (by decide) rfl ?_
  refine fj_lv (lv' := [(0, .ref (bd 0)), (1, .int x), (2, .int 0), (3, .int 0)]) [2, 3, 1, 0] rfl ?_
  have lp4 : ∀ (k : Nat), (k ≤ E7) → fj p l e (fj_rm 0 0 0 0) s m args below meth c Q A D 4 0 0 (fm_w bd ty a g n) [(0, .ref (bd 0)), (1, .int x), (2, .int (nI (cF a x k))), (3, .int (nI k))] 4 [] := by
    have key : ∀ zz : Nat, (fun (k : Nat) => (k ≤ E7) → fj p l e (fj_rm 0 0 0 0) s m args below meth c Q A D 4 0 0 (fm_w bd ty a g n) [(0, .ref (bd 0)), (1, .int x), (2, .int (nI (cF a x k))), (3, .int (nI k))] 4 []) zz := by
      refine fx_ind (fun (k : Nat) => E7 - k) _ ?_
      rintro k ih4 hk
      refine fj_iload_n C 3 dX6_filedBy_4 rfl rfl ?_
      refine fj_aload_n C 0 dX6_filedBy_5 rfl rfl ?_
      refine fj_get (Cn := RX6) (T := TX6) (N := 44) (ci := 6) (v := .int (n 7)) C iX6 0 (fm_at0 _ _ _ _ _) rfl 26 (by decide) kX6_206 rfl dX6_filedBy_6 ?_
      refine fj_at (y := nI E7) hn7 ?_
      refine fj_icmp_ge (tgt := 41) C dX6_filedBy_9 (by decide) (fun h9 => ?_) (fun h9 => ?_)
      · have hge : E7 ≤ k := Nat.le_of_not_lt fun q => absurd (Int32.not_lt.mpr h9) (not_not_intro ((nI_ltI (by omega) (by omega)).mpr q))
        refine fj_iload_n C 2 dX6_filedBy_41 rfl rfl ?_
        exact fj_iret C E9 dX6_filedBy_42 ⟨by rw [show k = E7 by omega], rfl⟩
      · have hlt : k < E7 := (nI_ltI (by omega) (by omega)).mp (Int32.not_le.mp h9)
        refine fj_iload_n C 2 dX6_filedBy_12 rfl rfl ?_
        refine fj_aload_n C 0 dX6_filedBy_13 rfl rfl ?_
        refine fj_get (Cn := RX6) (T := TX6) (N := 44) (ci := 6) (v := .ref (bd 10)) C iX6 0 (fm_at0 _ _ _ _ _) rfl 15 (by decide) kX6_45 rfl dX6_filedBy_14 ?_
        refine fj_aload_n C 0 dX6_filedBy_17 rfl rfl ?_
        refine fj_get (Cn := RX6) (T := TX6) (N := 44) (ci := 6) (v := .ref (bd 20)) C iX6 0 (fm_at0 _ _ _ _ _) rfl 27 (by decide) kX6_76 rfl dX6_filedBy_18 ?_
        refine fj_iload_n C 3 dX6_filedBy_21 rfl rfl ?_
        refine fj_iald (f := (a 20)) C 20 (fm_at20 _ _ _ _ _) (vp_in_nI (by omega) (by decide)) dX6_filedBy_22 ?_
        obtain ⟨l5, hl5, el5⟩ := yEL k hlt
        refine fj_at (y := nI l5) (by rw [nI_clamp (by omega), el5]) ?_
        refine fj_iald (f := (a 10)) C 10 (fm_at10 _ _ _ _ _) (vp_in_nI (by omega) (by decide)) dX6_filedBy_23 ?_
        refine fj_at (y := a 10 l5) (by rw [nI_clamp (by omega)]) ?_
        refine fj_iload_n C 1 dX6_filedBy_24 rfl rfl ?_
        refine fj_icmp_ne (tgt := 32) C dX6_filedBy_25 (by decide) (fun h25 => ?_) (fun h25 => ?_)
        · refine fj_iconst (v := 0) C dX6_filedBy_32 (by decide) ?_
          refine fj_iadd C dX6_filedBy_33 ?_
          refine fj_at (y := nI (cF a x (k + 1))) (by first | (rw [cF_p el5 (by omega) h25]; exact nI_1 _) | (rw [cF_z el5 (by omega) h25]; exact Int32.add_zero _)) ?_
          refine fj_istore_n (lv' := [(2, .int (nI (cF a x (k + 1)))), (0, .ref (bd 0)), (1, .int x), (3, .int (nI k))]) C dX6_filedBy_34 rfl (by decide) rfl ?_
          refine fj_iinc (v := nI (k + 1)) (lv' := [(3, .int (nI (k + 1))), (2, .int (nI (cF a x (k + 1)))), (0, .ref (bd 0)), (1, .int x)]) C 3 dX6_filedBy_35 rfl (nI_1 k) (by decide) rfl ?_
          refine fj_goto (tgt := 4) C dX6_filedBy_38 (by decide) ?_
          refine fj_lv (lv' := [(0, .ref (bd 0)), (1, .int x), (2, .int (nI (cF a x (k + 1)))), (3, .int (nI (k + 1)))]) [2, 3, 1, 0] rfl ?_
          exact ih4 (k + 1) (by show E7 - (k + 1) < E7 - k; omega) (by omega)
        · refine fj_iconst (v := 1) C dX6_filedBy_28 (by decide) ?_
          refine fj_goto (tgt := 33) C dX6_filedBy_29 (by decide) ?_
          refine fj_iadd C dX6_filedBy_33 ?_
          refine fj_at (y := nI (cF a x (k + 1))) (by first | (rw [cF_p el5 (by omega) h25]; exact nI_1 _) | (rw [cF_z el5 (by omega) h25]; exact Int32.add_zero _)) ?_
          refine fj_istore_n (lv' := [(2, .int (nI (cF a x (k + 1)))), (0, .ref (bd 0)), (1, .int x), (3, .int (nI k))]) C dX6_filedBy_34 rfl (by decide) rfl ?_
          refine fj_iinc (v := nI (k + 1)) (lv' := [(3, .int (nI (k + 1))), (2, .int (nI (cF a x (k + 1)))), (0, .ref (bd 0)), (1, .int x)]) C 3 dX6_filedBy_35 rfl (nI_1 k) (by decide) rfl ?_
          refine fj_goto (tgt := 4) C dX6_filedBy_38 (by decide) ?_
          refine fj_lv (lv' := [(0, .ref (bd 0)), (1, .int x), (2, .int (nI (cF a x (k + 1)))), (3, .int (nI (k + 1)))]) [2, 3, 1, 0] rfl ?_
          exact ih4 (k + 1) (by show E7 - (k + 1) < E7 - k; omega) (by omega)
    intro k
    exact key k
  exact lp4 0 (Nat.zero_le _)
