/-- a text read by the reference up to k without a fault -/
def MDS (f : Nat → Int32) (h : Nat → Int64) (T : Nat) : Nat → (Nat → Int32) → Int32 → Prop
  | 0, R, aw => (∀ i, i < 9 → R i = -1) ∧ aw = -1
  | k + 1, R, aw => ∃ R0 aw0, MDS f h T k R0 aw0 ∧ ((¬ bgT f k ∧ R = R0 ∧ aw = aw0) ∨ (bgT f k ∧ ∃ z, enT f T k z ∧ ((aw0 < 0 ∧ MDR f h k z aw ∧ ¬ aw < 0 ∧ R0 aw.toNatClampNeg < 0 ∧ R = R0) ∨ (¬ aw0 < 0 ∧ dgs f k z ∧ z - k ≤ 5 ∧ R = upd R0 aw0.toNatClampNeg (num f k (z - k)) ∧ aw = -1))))
def MDE (f : Nat → Int32) (h : Nat → Int64) (T k : Nat) (c : Int32) : Prop := ∃ R aw, MDS f h T k R aw ∧ bgT f k ∧ ∃ z, enT f T k z ∧ ((aw < 0 ∧ ((∃ r, MDR f h k z r ∧ r = -1 ∧ c = 1) ∨ ∃ r, MDR f h k z r ∧ ¬ r < 0 ∧ ¬ R r.toNatClampNeg < 0 ∧ c = 3)) ∨ (¬ aw < 0 ∧ ((¬ dgs f k z ∧ c = 1) ∨ (dgs f k z ∧ ¬ z - k ≤ 5 ∧ c = 2))))
def MDP (f : Nat → Int32) (h : Nat → Int64) (T : Nat) (R : Nat → Int32) (fa c : Int32) : Prop := (MDS f h T T R (-1) ∧ c = 0 ∧ fa = -1) ∨ ((∃ aw, MDS f h T T R aw ∧ ¬ aw < 0) ∧ c = 1 ∧ fa = nI T) ∨ (∃ k, k < T ∧ MDE f h T k c ∧ ¬ c = 0 ∧ fa = nI k)
theorem MDS_skip {f : Nat → Int32} {h : Nat → Int64} {T k : Nat} {R : Nat → Int32} {aw : Int32} (q : MDS f h T k R aw) (hb : ¬ bgT f k) : MDS f h T (k + 1) R aw := ⟨R, aw, q, Or.inl ⟨hb, rfl, rfl⟩⟩
theorem MDS_run {f : Nat → Int32} {h : Nat → Int64} {T k z : Nat} {R : Nat → Int32} {aw : Int32} (hen : enT f T k z) : ∀ d, k + 1 + d ≤ z → MDS f h T (k + 1) R aw → MDS f h T (k + 1 + d) R aw := by
  intro d
  induction d with
  | zero => intro _ q; exact q
  | succ d ih =>
    intro hd q
    have q2 := ih (by omega) q
    refine MDS_skip (k := k + 1 + d) q2 (fun b => ?_)
    rcases b.2 with e | e
    · omega
    · exact hen.2.2.1 (k + 1 + d - 1) (by omega) (by omega) e
theorem MDS_end {f : Nat → Int32} {h : Nat → Int64} {T k d : Nat} {R : Nat → Int32} {aw : Int32} (hen : enT f T k (k + d)) (hd : 1 ≤ d) (q : MDS f h T (k + 1) R aw) : MDS f h T (k + d) R aw := by
  have := MDS_run hen (d - 1) (by omega) q
  rwa [show k + 1 + (d - 1) = k + d by omega] at this
theorem MDS_word {f : Nat → Int32} {h : Nat → Int64} {T k d : Nat} {R : Nat → Int32} {aw r : Int32} (q : MDS f h T k R aw) (hbg : bgT f k) (hen : enT f T k (k + d)) (hd : 1 ≤ d) (h0 : aw < 0) (hM : MDR f h k (k + d) r) (h1 : ¬ r < 0) (h2 : R r.toNatClampNeg < 0) : MDS f h T (k + d) R r := MDS_end hen hd ⟨R, aw, q, Or.inr ⟨hbg, _, hen, Or.inl ⟨h0, hM, h1, h2, rfl⟩⟩⟩
theorem upd_row {z5 : Nat → Int32} {S w8 : Nat} {val : Int32} : (fun w => upd z5 (9 * S + w8) val (9 * S + w)) = upd (fun w => z5 (9 * S + w)) w8 val := by
  funext w
  by_cases e : w = w8
  · rw [e, upd, if_pos rfl, upd, if_pos rfl]
  · rw [upd, if_neg (by omega), upd, if_neg e]
theorem MDS_num {f : Nat → Int32} {h : Nat → Int64} {T k d S w8 : Nat} {z5 : Nat → Int32} {val : Int32} (q : MDS f h T k (fun w => z5 (9 * S + w)) (nI w8)) (hbg : bgT f k) (hen : enT f T k (k + d)) (hd : 1 ≤ d) (hw : w8 < 9) (h1 : dgs f k (k + d)) (h2 : d ≤ 5) (hv : val = num f k d) : MDS f h T (k + d) (fun w => upd z5 (9 * S + w8) val (9 * S + w)) (-1) := by
  refine MDS_end hen hd ⟨_, _, q, Or.inr ⟨hbg, _, hen, Or.inr ⟨nI_nneg (by omega), h1, by omega, ?_, rfl⟩⟩⟩
  rw [upd_row, nI_clamp (by omega), show k + d - k = d by omega, hv]
/-- the row of a law cleared -/
def flR (f : Nat → Int32) (S k : Nat) : Nat → Int32 := fun i => if 9 * S ≤ i ∧ i < 9 * S + k then -1 else f i
theorem flR_0 (f : Nat → Int32) (S : Nat) : flR f S 0 = f := by
  funext i
  exact if_neg (by omega)
theorem flR_s (f : Nat → Int32) (S k : Nat) : upd (flR f S k) (9 * S + k) (-1) = flR f S (k + 1) := by
  funext i
  by_cases e : i = 9 * S + k
  · rw [upd, if_pos e, flR, if_pos (by omega)]
  · rw [upd, if_neg e, flR, flR]
    by_cases q : 9 * S ≤ i ∧ i < 9 * S + k
    · rw [if_pos q, if_pos (by omega)]
    · rw [if_neg q, if_neg (by omega)]
theorem fg_a {f : Nat → Int32} {i d : Nat} {fg val val' : Int32} (hfg : (fg = 1 ∧ dgs f i (i + d) ∧ (d ≤ 5 → val = num f i d)) ∨ (fg = 0 ∧ ¬ dgs f i (i + d))) (h : fg = 0) : ((0 : Int32) = 1 ∧ dgs f i (i + (d + 1)) ∧ (d + 1 ≤ 5 → val' = num f i (d + 1))) ∨ ((0 : Int32) = 0 ∧ ¬ dgs f i (i + (d + 1))) :=
  hfg.elim (fun q => absurd (q.1.symm.trans h) (by decide)) (fun q => Or.inr ⟨rfl, fun z => q.2 (fun j h1 h2 => z j h1 (by omega))⟩)
theorem fg_b {f : Nat → Int32} {i d : Nat} {val' : Int32} (h : ¬ (48 ≤ f (i + d) ∧ f (i + d) ≤ 57)) : ((0 : Int32) = 1 ∧ dgs f i (i + (d + 1)) ∧ (d + 1 ≤ 5 → val' = num f i (d + 1))) ∨ ((0 : Int32) = 0 ∧ ¬ dgs f i (i + (d + 1))) :=
  Or.inr ⟨rfl, fun z => h ⟨Int32.not_lt.mp (z (i + d) (by omega) (by omega)).1, (z (i + d) (by omega) (by omega)).2⟩⟩
theorem fg_s {f : Nat → Int32} {i d : Nat} {fg val : Int32} (hfg : (fg = 1 ∧ dgs f i (i + d) ∧ (d ≤ 5 → val = num f i d)) ∨ (fg = 0 ∧ ¬ dgs f i (i + d))) (h0 : ¬ fg = 0) (h : 48 ≤ f (i + d) ∧ f (i + d) ≤ 57) : dgs f i (i + (d + 1)) ∧ (d ≤ 5 → val = num f i d) := by
  rcases hfg with q | q
  · refine ⟨fun j h1 h2 => ?_, q.2.2⟩
    by_cases e : j = i + d
    · rw [e]; exact ⟨Int32.not_lt.mpr h.1, h.2⟩
    · exact q.2.1 j h1 (by omega)
  · exact absurd q.1 h0
theorem fg_c {f : Nat → Int32} {i d : Nat} {fg val : Int32} (hfg : (fg = 1 ∧ dgs f i (i + d) ∧ (d ≤ 5 → val = num f i d)) ∨ (fg = 0 ∧ ¬ dgs f i (i + d))) (h0 : ¬ fg = 0) (h : 48 ≤ f (i + d) ∧ f (i + d) ≤ 57) (h5 : d < 5) : ((1 : Int32) = 1 ∧ dgs f i (i + (d + 1)) ∧ (d + 1 ≤ 5 → 10 * val + f (i + d) - 48 = num f i (d + 1))) ∨ ((1 : Int32) = 0 ∧ ¬ dgs f i (i + (d + 1))) :=
  Or.inl ⟨rfl, (fg_s hfg h0 h).1, fun _ => by rw [num, (fg_s hfg h0 h).2 (by omega)]⟩
theorem fg_d {f : Nat → Int32} {i d : Nat} {fg val : Int32} (hfg : (fg = 1 ∧ dgs f i (i + d) ∧ (d ≤ 5 → val = num f i d)) ∨ (fg = 0 ∧ ¬ dgs f i (i + d))) (h0 : ¬ fg = 0) (h : 48 ≤ f (i + d) ∧ f (i + d) ≤ 57) (h5 : ¬ d < 5) : ((1 : Int32) = 1 ∧ dgs f i (i + (d + 1)) ∧ (d + 1 ≤ 5 → val = num f i (d + 1))) ∨ ((1 : Int32) = 0 ∧ ¬ dgs f i (i + (d + 1))) :=
  Or.inl ⟨rfl, (fg_s hfg h0 h).1, fun q => absurd q (by omega)⟩
set_option maxHeartbeats 4000000 in
set_option maxRecDepth 100000 in
theorem d_X6_law (l : Launch) (D : va_G) (ty : Nat → ClassId) (t0 : Nat → Nat) (bd : Nat → Nat) (a : Nat → Nat → Int32) (g : Nat → Nat → Int64) (n : Nat → Int32) (P : Nat) (S : Nat) (T : Nat) (B : Nat) (I : YI P S T B a n) (x : Int32)  : fc l yX6_law wsX6_law (fj_rm 2 52 0 0) D ty t0 [.ref (bd 0), .int x] (fm_w bd ty a g n) 0 0 (fun v w => (¬ (0 ≤ x ∧ x ≤ 20000) ∧ v = some (.int (-1002)) ∧ w = fm_w bd ty a g n) ∨ ((0 ≤ x ∧ x ≤ 20000) ∧ ¬ S < 8 ∧ v = some (.int (-1004)) ∧ w = fm_w bd ty a g n) ∨ ((0 ≤ x ∧ x ≤ 20000) ∧ S < 8 ∧ ∃ (z5 : Nat → Int32) (fa c : Int32), (∀ q, (q < 9 * S ∨ 9 * S + 9 ≤ q) → z5 q = a 5 q) ∧ MDP (a 3) (g 7) T (fun w => z5 (9 * S + w)) fa c ∧ ((¬ c = 0 ∧ v = some (.int (-10 - c)) ∧ w = fm_w bd ty (va_up a 5 z5) g (va_up (va_up n 2 0) 3 fa)) ∨ (c = 0 ∧ v = some (.int (nI S)) ∧ w = fm_w bd ty (va_up (va_up a 5 z5) 4 (upd (a 4) S x)) g (va_up (va_up (va_up n 2 0) 3 (-1)) 4 (nI (S + 1))))))) := by
  refine fc_start (own := RX6) (cc := cX6_law) (maxL := 9) (ret := (some .int)) (by decide) rfl (Nat.le_of_ble_eq_true rfl) rfl ?_
  intro p e s m args below meth c Q A C hmn E9
  obtain ⟨hn0, hP, hn2, hT, hn4, hS, hn5, hB, yWho, ySort, yQ, yN, yD, yL⟩ := id I
  have iX6 : ∀ w ∈ u_ws RX6 TX6 44, w ∈ wsX6_law := ptX6_law_wsX60
  have kX6_158 : Cond.fieldLink RX6 158 "FreeLandModel" "laws" "I" ∈ wsX6_law := ptX6_law_woX6_law _ (by decide +kernel)
  have kX6_145 : Cond.fieldLink RX6 145 "FreeLandModel" "texted" "I" ∈ wsX6_law := ptX6_law_woX6_law _ (by decide +kernel)
  have kX6_23 : Cond.fieldLink RX6 23 "FreeLandModel" "faultPlace" "I" ∈ wsX6_law := ptX6_law_woX6_law _ (by decide +kernel)
  have kX6_26 : Cond.fieldLink RX6 26 "FreeLandModel" "lawDays" "[I" ∈ wsX6_law := ptX6_law_woX6_law _ (by decide +kernel)
  have kX6_20 : Cond.fieldLink RX6 20 "FreeLandModel" "text" "[I" ∈ wsX6_law := ptX6_law_woX6_law _ (by decide +kernel)
  have kX6_29 : Cond.fieldLink RX6 29 "FreeLandModel" "lawSets" "[I" ∈ wsX6_law := ptX6_law_woX6_law _ (by decide +kernel)
  have kL161 : Cond.constantLong RX6 161 (48) ∈ wsX6_law := ptX6_law_woX6_law _ (by decide +kernel)
  have kL163 : Cond.constantLong RX6 163 (57) ∈ wsX6_law := ptX6_law_woX6_law _ (by decide +kernel)
  refine fj_lv (lv' := [(0, .ref (bd 0)), (1, .int x)]) [0, 1] rfl ?_
  refine fj_iload_n C 1 dX6_law_0 rfl rfl ?_
  refine fj_callSw (As := [.int x]) (rest := []) C (d_X6_isDay l D ty t0 (fm_w bd ty a g n) x) (va_cwS 1 C.2.2.2.2.1 gX6_law_X6_isDay rfl rfl rfl (by decide +kernel) ⟨Nat.le_of_ble_eq_true rfl, Nat.le_of_ble_eq_true rfl⟩)  rfl (Nat.le_of_ble_eq_true rfl) dX6_law_1 ⟨Nat.zero_le _, Nat.zero_le _⟩ (fun v9 w9 hp9 => ?_)
  obtain ⟨rfl, rfl⟩ := hp9
  refine fj_st (st' := .int (if (0 ≤ x ∧ x ≤ 20000) then 1 else 0) :: []) rfl ?_
  refine fj_ifb_ne (tgt := 11) C dX6_law_4 (by decide) (fun h4 => ?_) (fun h4 => ?_)
  · refine fj_aload_n C 0 dX6_law_11 rfl rfl ?_
    refine fj_get (Cn := RX6) (T := TX6) (N := 44) (ci := 6) (v := .int (n 4)) C iX6 0 (fm_at0 _ _ _ _ _) rfl 7 (by decide) kX6_158 rfl dX6_law_12 ?_
    refine fj_at (y := nI S) hn4 ?_
    refine fj_bipush (v := 8) C dX6_law_15 (by decide) ?_
    refine fj_icmp_ne (tgt := 24) C dX6_law_17 (by decide) (fun h17 => ?_) (fun h17 => ?_)
    · have hS8 : S < 8 := Nat.lt_of_le_of_ne hS fun e => h17 (by rw [e]; rfl)
      refine fj_aload_n C 0 dX6_law_24 rfl rfl ?_
      refine fj_get (Cn := RX6) (T := TX6) (N := 44) (ci := 6) (v := .int (n 2)) C iX6 0 (fm_at0 _ _ _ _ _) rfl 5 (by decide) kX6_145 rfl dX6_law_25 ?_
      refine fj_at (y := nI T) hn2 ?_
      refine fj_istore_n (lv' := [(2, .int (nI T)), (0, .ref (bd 0)), (1, .int x)]) C dX6_law_28 rfl (by decide) rfl ?_
      refine fj_aload_n C 1 dX6_law_29 rfl rfl ?_
      refine fj_iconst (v := 0) C dX6_law_30 (by decide) ?_
      refine fj_put (Cn := RX6) (T := TX6) (N := 44) (ci := 6) C iX6 tyX6 tyX6_ok nmX6 0 (fm_at0 _ _ _ _ _) rfl 5 (by decide) kX6_145 rfl rfl rfl (Nat.le_of_ble_eq_true rfl) dX6_law_31 (fm_si0_5 _ _ _ _ _ _) ?_
      refine fj_aload_n C 1 dX6_law_34 rfl rfl ?_
      refine fj_iconst (v := (-1)) C dX6_law_35 (by decide) ?_
      refine fj_put (Cn := RX6) (T := TX6) (N := 44) (ci := 6) C iX6 tyX6 tyX6_ok nmX6 0 (fm_at0 _ _ _ _ _) rfl 6 (by decide) kX6_23 rfl rfl rfl (Nat.le_of_ble_eq_true rfl) dX6_law_36 (fm_si0_6 _ _ _ _ _ _) ?_
      refine fj_aload_n C 1 dX6_law_39 rfl rfl ?_
      refine fj_get (Cn := RX6) (T := TX6) (N := 44) (ci := 6) (v := .int (n 4)) C iX6 0 (fm_at0 _ _ _ _ _) rfl 7 (by decide) kX6_158 rfl dX6_law_40 ?_
      refine fj_at (y := nI S) hn4 ?_
      refine fj_istore_n (lv' := [(3, .int (nI S)), (2, .int (nI T)), (0, .ref (bd 0)), (1, .int x)]) C dX6_law_43 rfl (by decide) rfl ?_
      refine fj_iconst (v := 0) C dX6_law_44 (by decide) ?_
      refine fj_istore (lv' := [(4, .int 0), (3, .int (nI S)), (2, .int (nI T)), (0, .ref (bd 0)), (1, .int x)]) C dX6_law_45 (by decide) rfl ?_
      refine fj_lv (lv' := [(0, .ref (bd 0)), (1, .int x), (2, .int (nI T)), (3, .int (nI S)), (4, .int 0)]) [3, 4, 2, 1, 0] rfl ?_
      have lp47 : ∀ (k : Nat), (k ≤ 9) → fj p l e (fj_rm 2 52 0 0) s m args below meth c Q A D 9 0 0 (fm_w bd ty (va_up a 5 (flR (a 5) S k)) g (va_up (va_up n 2 0) 3 (-1))) [(0, .ref (bd 0)), (1, .int x), (2, .int (nI T)), (3, .int (nI S)), (4, .int (nI k))] 47 [] := by
        have key : ∀ zz : Nat, (fun (k : Nat) => (k ≤ 9) → fj p l e (fj_rm 2 52 0 0) s m args below meth c Q A D 9 0 0 (fm_w bd ty (va_up a 5 (flR (a 5) S k)) g (va_up (va_up n 2 0) 3 (-1))) [(0, .ref (bd 0)), (1, .int x), (2, .int (nI T)), (3, .int (nI S)), (4, .int (nI k))] 47 []) zz := by
          refine fx_ind (fun (k : Nat) => 9 - k) _ ?_
          rintro k ih47 hk9
          refine fj_iload C 4 dX6_law_47 rfl ?_
          refine fj_bipush (v := 9) C dX6_law_49 (by decide) ?_
          refine fj_icmp_ge (tgt := 73) C dX6_law_51 (by decide) (fun h51 => ?_) (fun h51 => ?_)
          · obtain rfl : k = 9 := by have := (nI_leI (a := 9) (by decide) (by omega)).mp h51; omega
            refine fj_iconst (v := (-1)) C dX6_law_73 (by decide) ?_
            refine fj_istore (lv' := [(4, .int (-1)), (0, .ref (bd 0)), (1, .int x), (2, .int (nI T)), (3, .int (nI S))]) C dX6_law_74 (by decide) rfl ?_
            refine fj_iconst (v := 0) C dX6_law_76 (by decide) ?_
            refine fj_istore (lv' := [(5, .int 0), (4, .int (-1)), (0, .ref (bd 0)), (1, .int x), (2, .int (nI T)), (3, .int (nI S))]) C dX6_law_77 (by decide) rfl ?_
            refine fj_lv (lv' := [(0, .ref (bd 0)), (1, .int x), (2, .int (nI T)), (3, .int (nI S)), (4, .int (-1)), (5, .int 0)]) [2, 3, 4, 5, 1, 0] rfl ?_
            have lp79 : ∀ (i : Nat) (z5 : Nat → Int32) (aw : Int32), (i ≤ T) → (MDS (a 3) (g 7) T i (fun w => z5 (9 * S + w)) aw) → (i = 0 ∨ a 3 (i - 1) = 32 ∨ i = T ∨ a 3 i = 32) → (aw = -1 ∨ ∃ w8, w8 < 9 ∧ aw = nI w8) → (∀ q, (q < 9 * S ∨ 9 * S + 9 ≤ q) → z5 q = a 5 q) → fj p l e (fj_rm 2 52 0 0) s m args below meth c Q A D 9 0 0 (fm_w bd ty (va_up a 5 z5) g (va_up (va_up n 2 0) 3 (-1))) [(0, .ref (bd 0)), (1, .int x), (2, .int (nI T)), (3, .int (nI S)), (4, .int aw), (5, .int (nI i))] 79 [] := by
              have key : ∀ zz : Nat × (Nat → Int32) × Int32, (fun (zz : Nat × (Nat → Int32) × Int32) => match zz with | (i, z5, aw) => (i ≤ T) → (MDS (a 3) (g 7) T i (fun w => z5 (9 * S + w)) aw) → (i = 0 ∨ a 3 (i - 1) = 32 ∨ i = T ∨ a 3 i = 32) → (aw = -1 ∨ ∃ w8, w8 < 9 ∧ aw = nI w8) → (∀ q, (q < 9 * S ∨ 9 * S + 9 ≤ q) → z5 q = a 5 q) → fj p l e (fj_rm 2 52 0 0) s m args below meth c Q A D 9 0 0 (fm_w bd ty (va_up a 5 z5) g (va_up (va_up n 2 0) 3 (-1))) [(0, .ref (bd 0)), (1, .int x), (2, .int (nI T)), (3, .int (nI S)), (4, .int aw), (5, .int (nI i))] 79 []) zz := by
                refine fx_ind (fun (zz : Nat × (Nat → Int32) × Int32) => match zz with | (i, z5, aw) => T - i) _ ?_
                rintro ⟨i, z5, aw⟩ ih79 hi hM hb haw hz5
                refine fj_iload C 5 dX6_law_79 rfl ?_
                refine fj_iload_n C 2 dX6_law_81 rfl rfl ?_
                refine fj_icmp_ge (tgt := 103) C dX6_law_82 (by decide) (fun h82 => ?_) (fun h82 => ?_)
                · have hge : T ≤ i := Nat.le_of_not_lt fun q => absurd (Int32.not_lt.mpr h82) (not_not_intro ((nI_ltI (by omega) (by omega)).mpr q))
                  refine fj_iload C 5 dX6_law_103 rfl ?_
                  refine fj_iload_n C 2 dX6_law_105 rfl rfl ?_
                  refine fj_icmp_ne (tgt := 112) C dX6_law_106 (by decide) (fun h106 => ?_) (fun h106 => ?_)
                  · have hbg : i < T → ¬ a 3 i = 32 → bgT (a 3) i := fun y1 y2 => ⟨y2, hb.elim Or.inl (fun q => q.elim Or.inr (fun q => q.elim (fun e => absurd e (by omega)) (fun e => absurd e y2)))⟩
                    exact absurd (by rw [show i = T by omega]) h106
                  · have hiT : i = T := fx_eqI h106 (by omega) (by omega)
                    refine fj_goto (tgt := 316) C dX6_law_109 (by decide) ?_
                    refine fj_iload C 4 dX6_law_316 rfl ?_
                    refine fj_if_lt (tgt := 328) C dX6_law_318 (by decide) (fun h318 => ?_) (fun h318 => ?_)
                    · have haw1 : aw = -1 := haw.resolve_right (fun ⟨w8, hw8, e⟩ => by rw [e] at h318; exact absurd h318 (nI_nneg (by omega)))
                      refine fj_aload_n C 0 dX6_law_328 rfl rfl ?_
                      refine fj_get (Cn := RX6) (T := TX6) (N := 44) (ci := 6) (v := .ref (bd 4)) C iX6 0 (fm_at0 _ _ _ _ _) rfl 8 (by decide) kX6_26 rfl dX6_law_329 ?_
                      refine fj_iload_n C 3 dX6_law_332 rfl rfl ?_
                      refine fj_iload_n C 1 dX6_law_333 rfl rfl ?_
                      refine fj_iast (f := (a 4)) C 4 (fm_at4 _ _ _ _ _) (vp_in_nI (by omega) (by decide)) dX6_law_334 (fm_st4 _ _ _ _ _ _) ?_
                      refine fj_ws (ws' := (fm_w bd ty (va_up (va_up a 5 z5) 4 (upd (a 4) S x)) g (va_up (va_up n 2 0) 3 (-1)))) (by rw [nI_clamp (by omega)]) ?_
                      refine fj_aload_n C 0 dX6_law_335 rfl rfl ?_
                      refine fj_dup C dX6_law_336 rfl ?_
                      refine fj_get (Cn := RX6) (T := TX6) (N := 44) (ci := 6) (v := .int (n 4)) C iX6 0 (fm_at0 _ _ _ _ _) rfl 7 (by decide) kX6_158 rfl dX6_law_337 ?_
                      refine fj_at (y := nI S) hn4 ?_
                      refine fj_iconst (v := 1) C dX6_law_340 (by decide) ?_
                      refine fj_iadd C dX6_law_341 ?_
                      refine fj_at (y := nI (S + 1)) (nI_1 S) ?_
                      refine fj_put (Cn := RX6) (T := TX6) (N := 44) (ci := 6) C iX6 tyX6 tyX6_ok nmX6 0 (fm_at0 _ _ _ _ _) rfl 7 (by decide) kX6_158 rfl rfl rfl (Nat.le_of_ble_eq_true rfl) dX6_law_342 (fm_si0_7 _ _ _ _ _ _) ?_
                      refine fj_iload_n C 3 dX6_law_345 rfl rfl ?_
                      exact fj_iret C E9 dX6_law_346 (Or.inr (Or.inr ⟨h4, hS8, z5, -1, 0, hz5, Or.inl ⟨haw1 ▸ hiT ▸ hM, rfl, rfl⟩, Or.inr ⟨rfl, rfl, rfl⟩⟩))
                    · refine fj_aload_n C 0 dX6_law_321 rfl rfl ?_
                      refine fj_iconst (v := 1) C dX6_law_322 (by decide) ?_
                      refine fj_iload_n C 2 dX6_law_323 rfl rfl ?_
                      refine fj_callVw (As := [.int 1, .int (nI T)]) (rest := []) C (d_X6_fails l D ty t0 bd (va_up a 5 z5) g (va_up (va_up n 2 0) 3 (-1)) 1 (nI T)) (cwV 2 C.2.2.2.2.1 gX6_law_X6_fails rfl rfl rfl (by decide +kernel) ⟨Nat.le_of_ble_eq_true rfl, Nat.le_of_ble_eq_true rfl⟩) ⟨0, 6, _, _, fm_at0 _ _ _ _ _, rfl, rfl⟩ rfl (Nat.le_of_ble_eq_true rfl) dX6_law_324 ⟨Nat.zero_le _, Nat.zero_le _⟩ (fun v9 w9 hp9 => ?_)
                      obtain ⟨rfl, rfl⟩ := hp9
                      refine fj_st (st' := .int (-10 - 1) :: []) rfl ?_
                      exact fj_iret C E9 dX6_law_327 (Or.inr (Or.inr ⟨h4, hS8, z5, nI T, 1, hz5, Or.inr (Or.inl ⟨⟨aw, hiT ▸ hM, h318⟩, rfl, rfl⟩), Or.inl ⟨by decide, rfl, rfl⟩⟩))
                · have hlt : i < T := (nI_ltI (by omega) (by omega)).mp (Int32.not_le.mp h82)
                  refine fj_aload_n C 0 dX6_law_85 rfl rfl ?_
                  refine fj_get (Cn := RX6) (T := TX6) (N := 44) (ci := 6) (v := .ref (bd 3)) C iX6 0 (fm_at0 _ _ _ _ _) rfl 4 (by decide) kX6_20 rfl dX6_law_86 ?_
                  refine fj_iload C 5 dX6_law_89 rfl ?_
                  refine fj_iald (f := (a 3)) C 3 (fm_at3 _ _ _ _ _) (vp_in_nI (by omega) (by decide)) dX6_law_91 ?_
                  refine fj_at (y := a 3 i) (by rw [nI_clamp (by omega)]) ?_
                  refine fj_bipush (v := 32) C dX6_law_92 (by decide) ?_
                  refine fj_icmp_ne (tgt := 103) C dX6_law_94 (by decide) (fun h94 => ?_) (fun h94 => ?_)
                  · refine fj_iload C 5 dX6_law_103 rfl ?_
                    refine fj_iload_n C 2 dX6_law_105 rfl rfl ?_
                    refine fj_icmp_ne (tgt := 112) C dX6_law_106 (by decide) (fun h106 => ?_) (fun h106 => ?_)
                    · have hbg : i < T → ¬ a 3 i = 32 → bgT (a 3) i := fun y1 y2 => ⟨y2, hb.elim Or.inl (fun q => q.elim Or.inr (fun q => q.elim (fun e => absurd e (by omega)) (fun e => absurd e y2)))⟩
                      refine fj_iload C 5 dX6_law_112 rfl ?_
                      refine fj_istore (lv' := [(6, .int (nI i)), (0, .ref (bd 0)), (1, .int x), (2, .int (nI T)), (3, .int (nI S)), (4, .int aw), (5, .int (nI i))]) C dX6_law_114 (by decide) rfl ?_
                      refine fj_iconst (v := 0) C dX6_law_116 (by decide) ?_
                      refine fj_istore (lv' := [(7, .int 0), (6, .int (nI i)), (0, .ref (bd 0)), (1, .int x), (2, .int (nI T)), (3, .int (nI S)), (4, .int aw), (5, .int (nI i))]) C dX6_law_117 (by decide) rfl ?_
                      refine fj_iconst (v := 1) C dX6_law_119 (by decide) ?_
                      refine fj_istore (lv' := [(8, .int 1), (7, .int 0), (6, .int (nI i)), (0, .ref (bd 0)), (1, .int x), (2, .int (nI T)), (3, .int (nI S)), (4, .int aw), (5, .int (nI i))]) C dX6_law_120 (by decide) rfl ?_
                      refine fj_lv (lv' := [(0, .ref (bd 0)), (1, .int x), (2, .int (nI T)), (3, .int (nI S)), (4, .int aw), (5, .int (nI i)), (6, .int (nI i)), (7, .int 0), (8, .int 1)]) [3, 4, 5, 6, 7, 8, 2, 1, 0] rfl ?_
                      have lp122 : ∀ (d : Nat) (val : Int32) (fg : Int32), (i + d ≤ T) → (∀ j, i ≤ j → j < i + d → ¬ a 3 j = 32) → ((fg = 1 ∧ dgs (a 3) i (i + d) ∧ (d ≤ 5 → val = num (a 3) i d)) ∨ (fg = 0 ∧ ¬ dgs (a 3) i (i + d))) → fj p l e (fj_rm 2 52 0 0) s m args below meth c Q A D 9 0 0 (fm_w bd ty (va_up a 5 z5) g (va_up (va_up n 2 0) 3 (-1))) [(0, .ref (bd 0)), (1, .int x), (2, .int (nI T)), (3, .int (nI S)), (4, .int aw), (5, .int (nI (i + d))), (6, .int (nI i)), (7, .int val), (8, .int fg)] 122 [] := by
                        have key : ∀ zz : Nat × Int32 × Int32, (fun (zz : Nat × Int32 × Int32) => match zz with | (d, val, fg) => (i + d ≤ T) → (∀ j, i ≤ j → j < i + d → ¬ a 3 j = 32) → ((fg = 1 ∧ dgs (a 3) i (i + d) ∧ (d ≤ 5 → val = num (a 3) i d)) ∨ (fg = 0 ∧ ¬ dgs (a 3) i (i + d))) → fj p l e (fj_rm 2 52 0 0) s m args below meth c Q A D 9 0 0 (fm_w bd ty (va_up a 5 z5) g (va_up (va_up n 2 0) 3 (-1))) [(0, .ref (bd 0)), (1, .int x), (2, .int (nI T)), (3, .int (nI S)), (4, .int aw), (5, .int (nI (i + d))), (6, .int (nI i)), (7, .int val), (8, .int fg)] 122 []) zz := by
                          refine fx_ind (fun (zz : Nat × Int32 × Int32) => match zz with | (d, val, fg) => T - (i + d)) _ ?_
                          rintro ⟨d, val, fg⟩ ih122 hdT2 hno hfg
                          refine fj_iload C 5 dX6_law_122 rfl ?_
                          refine fj_iload_n C 2 dX6_law_124 rfl rfl ?_
                          refine fj_icmp_ge (tgt := 215) C dX6_law_125 (by decide) (fun h125 => ?_) (fun h125 => ?_)
                          · have hdT : T ≤ i + d := Nat.le_of_not_lt fun q => absurd (Int32.not_lt.mpr h125) (not_not_intro ((nI_ltI (by omega) (by omega)).mpr q))
                            have hd1 : 1 ≤ d := by omega
                            have hen : enT (a 3) T i (i + d) := ⟨by omega, by omega, hno, Or.inl (by omega)⟩
                            refine fj_iload C 4 dX6_law_215 rfl ?_
                            refine fj_if_ge (tgt := 266) C dX6_law_217 (by decide) (fun h217 => ?_) (fun h217 => ?_)
                            · obtain ⟨w8, hw8, rfl⟩ := haw.resolve_left (fun e => by rw [e] at h217; exact absurd h217 (by decide))
                              refine fj_iload C 8 dX6_law_266 rfl ?_
                              refine fj_if_ne (tgt := 279) C dX6_law_268 (by decide) (fun h268 => ?_) (fun h268 => ?_)
                              · have hdg : dgs (a 3) i (i + d) := hfg.elim (fun q => q.2.1) (fun q => absurd q.1 h268)
                                have hvl : d ≤ 5 → val = num (a 3) i d := hfg.elim (fun q => q.2.2) (fun q => absurd q.1 h268)
                                refine fj_iload C 5 dX6_law_279 rfl ?_
                                refine fj_iload C 6 dX6_law_281 rfl ?_
                                refine fj_isub C dX6_law_283 ?_
                                refine fj_at (y := nI d) (by rw [pk_sub (by omega)]; congr 1; omega) ?_
                                refine fj_iconst (v := 5) C dX6_law_284 (by decide) ?_
                                refine fj_icmp_le (tgt := 296) C dX6_law_285 (by decide) (fun h285 => ?_) (fun h285 => ?_)
                                · have hd5 : d ≤ 5 := (nI_leI (b := 5) (by omega) (by decide)).mp h285
                                  refine fj_aload_n C 0 dX6_law_296 rfl rfl ?_
                                  refine fj_get (Cn := RX6) (T := TX6) (N := 44) (ci := 6) (v := .ref (bd 5)) C iX6 0 (fm_at0 _ _ _ _ _) rfl 9 (by decide) kX6_29 rfl dX6_law_297 ?_
                                  refine fj_bipush (v := 9) C dX6_law_300 (by decide) ?_
                                  refine fj_iload_n C 3 dX6_law_302 rfl rfl ?_
                                  refine fj_imul C dX6_law_303 ?_
                                  refine fj_at (y := nI (9 * S)) (pk_mul 9 S) ?_
                                  refine fj_iload C 4 dX6_law_304 rfl ?_
                                  refine fj_iadd C dX6_law_306 ?_
                                  refine fj_at (y := nI (9 * S + w8)) (nI_add (9 * S) w8) ?_
                                  refine fj_iload C 7 dX6_law_307 rfl ?_
                                  refine fj_iast (f := z5) C 5 (fm_at5 _ _ _ _ _) (vp_in_nI (by omega) (by decide)) dX6_law_309 (fm_st5 _ _ _ _ _ _) ?_
                                  refine fj_ws (ws' := (fm_w bd ty (va_up a 5 (upd z5 (nI (9 * S + w8)).toNatClampNeg val)) g (va_up (va_up n 2 0) 3 (-1)))) rfl ?_
                                  refine fj_ws (ws' := (fm_w bd ty (va_up a 5 (upd z5 (9 * S + w8) val)) g (va_up (va_up n 2 0) 3 (-1)))) (by rw [nI_clamp (by omega)]) ?_
                                  refine fj_iconst (v := (-1)) C dX6_law_310 (by decide) ?_
                                  refine fj_istore (lv' := [(4, .int (-1)), (0, .ref (bd 0)), (1, .int x), (2, .int (nI T)), (3, .int (nI S)), (5, .int (nI (i + d))), (6, .int (nI i)), (7, .int val), (8, .int fg)]) C dX6_law_311 (by decide) rfl ?_
                                  refine fj_goto (tgt := 79) C dX6_law_313 (by decide) ?_
                                  refine fj_lv (lv' := [(0, .ref (bd 0)), (1, .int x), (2, .int (nI T)), (3, .int (nI S)), (4, .int (-1)), (5, .int (nI (i + d)))]) [1, 2, 3, 4, 0, 5] rfl ?_
                                  exact ih79 ⟨i + d, upd z5 (9 * S + w8) val, -1⟩ (by show T - (i + d) < T - i; omega) (by omega) (MDS_num hM (hbg hlt h94) hen hd1 hw8 hdg hd5 (hvl hd5)) (Or.inr (Or.inr hen.2.2.2)) (Or.inl rfl) (fun q hq => by rw [upd, if_neg (by omega)]; exact hz5 q hq)
                                · have hd5 : ¬ d ≤ 5 := fun q => h285 ((nI_leI (b := 5) (by omega) (by decide)).mpr q)
                                  refine fj_aload_n C 0 dX6_law_288 rfl rfl ?_
                                  refine fj_iconst (v := 2) C dX6_law_289 (by decide) ?_
                                  refine fj_iload C 6 dX6_law_290 rfl ?_
                                  refine fj_callVw (As := [.int 2, .int (nI i)]) (rest := []) C (d_X6_fails l D ty t0 bd (va_up a 5 z5) g (va_up (va_up n 2 0) 3 (-1)) 2 (nI i)) (cwV 2 C.2.2.2.2.1 gX6_law_X6_fails rfl rfl rfl (by decide +kernel) ⟨Nat.le_of_ble_eq_true rfl, Nat.le_of_ble_eq_true rfl⟩) ⟨0, 6, _, _, fm_at0 _ _ _ _ _, rfl, rfl⟩ rfl (Nat.le_of_ble_eq_true rfl) dX6_law_292 ⟨Nat.zero_le _, Nat.zero_le _⟩ (fun v9 w9 hp9 => ?_)
                                  obtain ⟨rfl, rfl⟩ := hp9
                                  refine fj_st (st' := .int (-10 - 2) :: []) rfl ?_
                                  exact fj_iret C E9 dX6_law_295 (Or.inr (Or.inr ⟨h4, hS8, z5, nI i, 2, hz5, Or.inr (Or.inr ⟨i, hlt, ⟨_, _, hM, hbg hlt h94, i + d, hen, Or.inr ⟨nI_nneg (by omega), Or.inr ⟨hdg, by omega, rfl⟩⟩⟩, by decide, rfl⟩), Or.inl ⟨by decide, rfl, rfl⟩⟩))
                              · have hnd : ¬ dgs (a 3) i (i + d) := hfg.elim (fun q => absurd (q.1.symm.trans h268) (by decide)) (fun q => q.2)
                                refine fj_aload_n C 0 dX6_law_271 rfl rfl ?_
                                refine fj_iconst (v := 1) C dX6_law_272 (by decide) ?_
                                refine fj_iload C 6 dX6_law_273 rfl ?_
                                refine fj_callVw (As := [.int 1, .int (nI i)]) (rest := []) C (d_X6_fails l D ty t0 bd (va_up a 5 z5) g (va_up (va_up n 2 0) 3 (-1)) 1 (nI i)) (cwV 2 C.2.2.2.2.1 gX6_law_X6_fails rfl rfl rfl (by decide +kernel) ⟨Nat.le_of_ble_eq_true rfl, Nat.le_of_ble_eq_true rfl⟩) ⟨0, 6, _, _, fm_at0 _ _ _ _ _, rfl, rfl⟩ rfl (Nat.le_of_ble_eq_true rfl) dX6_law_275 ⟨Nat.zero_le _, Nat.zero_le _⟩ (fun v9 w9 hp9 => ?_)
                                obtain ⟨rfl, rfl⟩ := hp9
                                refine fj_st (st' := .int (-10 - 1) :: []) rfl ?_
                                exact fj_iret C E9 dX6_law_278 (Or.inr (Or.inr ⟨h4, hS8, z5, nI i, 1, hz5, Or.inr (Or.inr ⟨i, hlt, ⟨_, _, hM, hbg hlt h94, i + d, hen, Or.inr ⟨nI_nneg (by omega), Or.inl ⟨hnd, rfl⟩⟩⟩, by decide, rfl⟩), Or.inl ⟨by decide, rfl, rfl⟩⟩))
                            · have haw0 : aw < 0 := Int32.not_le.mp h217
                              refine fj_aload_n C 0 dX6_law_220 rfl rfl ?_
                              refine fj_iload C 6 dX6_law_221 rfl ?_
                              refine fj_iload C 5 dX6_law_223 rfl ?_
                              refine fj_callVw (As := [.int (nI i), .int (nI (i + d))]) (rest := []) C (d_X6_wordAt l D ty t0 bd (va_up a 5 z5) g (va_up (va_up n 2 0) 3 (-1)) (nI i) (nI (i + d)) T hT i (i + d) rfl rfl (by omega) (by omega)) (cwV 2 C.2.2.2.2.1 gX6_law_X6_wordAt rfl rfl rfl (by decide +kernel) ⟨Nat.le_of_ble_eq_true rfl, Nat.le_of_ble_eq_true rfl⟩) ⟨0, 6, _, _, fm_at0 _ _ _ _ _, rfl, rfl⟩ rfl (Nat.le_of_ble_eq_true rfl) dX6_law_225 ⟨Nat.zero_le _, Nat.zero_le _⟩ (fun v9 w9 hp9 => ?_)
                              obtain ⟨r9, hM8, rfl, rfl⟩ := hp9
                              have hM9 : MDR (a 3) (g 7) i (i + d) r9 := hM8
                              refine fj_st (st' := .int r9 :: []) rfl ?_
                              refine fj_istore (lv' := [(4, .int r9), (0, .ref (bd 0)), (1, .int x), (2, .int (nI T)), (3, .int (nI S)), (5, .int (nI (i + d))), (6, .int (nI i)), (7, .int val), (8, .int fg)]) C dX6_law_228 (by decide) rfl ?_
                              refine fj_iload C 0 dX6_law_230 rfl ?_
                              refine fj_if_ge (tgt := 243) C dX6_law_232 (by decide) (fun h232 => ?_) (fun h232 => ?_)
                              · obtain ⟨i8, hi8, rfl⟩ := MDR_in hM9 h232
                                refine fj_aload_n C 1 dX6_law_243 rfl rfl ?_
                                refine fj_get (Cn := RX6) (T := TX6) (N := 44) (ci := 6) (v := .ref (bd 5)) C iX6 0 (fm_at0 _ _ _ _ _) rfl 9 (by decide) kX6_29 rfl dX6_law_244 ?_
                                refine fj_bipush (v := 9) C dX6_law_247 (by decide) ?_
                                refine fj_iload_n C 4 dX6_law_249 rfl rfl ?_
                                refine fj_imul C dX6_law_250 ?_
                                refine fj_at (y := nI (9 * S)) (pk_mul 9 S) ?_
                                refine fj_iload C 0 dX6_law_251 rfl ?_
                                refine fj_iadd C dX6_law_253 ?_
                                refine fj_at (y := nI (9 * S + i8)) (nI_add (9 * S) i8) ?_
                                refine fj_iald (f := z5) C 5 (fm_at5 _ _ _ _ _) (vp_in_nI (by omega) (by decide)) dX6_law_254 ?_
                                refine fj_at (y := z5 (9 * S + i8)) (by rw [nI_clamp (by omega)]) ?_
                                refine fj_if_lt (tgt := 313) C dX6_law_255 (by decide) (fun h255 => ?_) (fun h255 => ?_)
                                · refine fj_goto (tgt := 79) C dX6_law_313 (by decide) ?_
                                  refine fj_lv (lv' := [(0, .ref (bd 0)), (1, .int x), (2, .int (nI T)), (3, .int (nI S)), (4, .int (nI i8)), (5, .int (nI (i + d)))]) [1, 2, 3, 4, 0, 5] rfl ?_
                                  exact ih79 ⟨i + d, z5, nI i8⟩ (by show T - (i + d) < T - i; omega) (by omega) (MDS_word hM (hbg hlt h94) hen hd1 haw0 hM9 (nI_nneg (by omega)) (by show z5 (9 * S + (nI i8).toNatClampNeg) < 0; rw [nI_clamp (by omega)]; exact h255)) (Or.inr (Or.inr hen.2.2.2)) (Or.inr ⟨i8, hi8, rfl⟩) hz5
                                · refine fj_aload_n C 1 dX6_law_258 rfl rfl ?_
                                  refine fj_iconst (v := 3) C dX6_law_259 (by decide) ?_
                                  refine fj_iload C 6 dX6_law_260 rfl ?_
                                  refine fj_callVw (As := [.int 3, .int (nI i)]) (rest := []) C (d_X6_fails l D ty t0 bd (va_up a 5 z5) g (va_up (va_up n 2 0) 3 (-1)) 3 (nI i)) (cwV 2 C.2.2.2.2.1 gX6_law_X6_fails rfl rfl rfl (by decide +kernel) ⟨Nat.le_of_ble_eq_true rfl, Nat.le_of_ble_eq_true rfl⟩) ⟨0, 6, _, _, fm_at0 _ _ _ _ _, rfl, rfl⟩ rfl (Nat.le_of_ble_eq_true rfl) dX6_law_262 ⟨Nat.zero_le _, Nat.zero_le _⟩ (fun v9 w9 hp9 => ?_)
                                  obtain ⟨rfl, rfl⟩ := hp9
                                  refine fj_st (st' := .int (-10 - 3) :: []) rfl ?_
                                  exact fj_iret C E9 dX6_law_265 (Or.inr (Or.inr ⟨h4, hS8, z5, nI i, 3, hz5, Or.inr (Or.inr ⟨i, hlt, ⟨_, _, hM, hbg hlt h94, i + d, hen, Or.inl ⟨haw0, Or.inr ⟨nI i8, hM9, nI_nneg (by omega), (by show ¬ z5 (9 * S + (nI i8).toNatClampNeg) < 0; rw [nI_clamp (by omega)]; exact h255), rfl⟩⟩⟩, by decide, rfl⟩), Or.inl ⟨by decide, rfl, rfl⟩⟩))
                              · have hr1 := MDR_neg hM9 h232
                                refine fj_aload_n C 1 dX6_law_235 rfl rfl ?_
                                refine fj_iconst (v := 1) C dX6_law_236 (by decide) ?_
                                refine fj_iload C 6 dX6_law_237 rfl ?_
                                refine fj_callVw (As := [.int 1, .int (nI i)]) (rest := []) C (d_X6_fails l D ty t0 bd (va_up a 5 z5) g (va_up (va_up n 2 0) 3 (-1)) 1 (nI i)) (cwV 2 C.2.2.2.2.1 gX6_law_X6_fails rfl rfl rfl (by decide +kernel) ⟨Nat.le_of_ble_eq_true rfl, Nat.le_of_ble_eq_true rfl⟩) ⟨0, 6, _, _, fm_at0 _ _ _ _ _, rfl, rfl⟩ rfl (Nat.le_of_ble_eq_true rfl) dX6_law_239 ⟨Nat.zero_le _, Nat.zero_le _⟩ (fun v9 w9 hp9 => ?_)
                                obtain ⟨rfl, rfl⟩ := hp9
                                refine fj_st (st' := .int (-10 - 1) :: []) rfl ?_
                                exact fj_iret C E9 dX6_law_242 (Or.inr (Or.inr ⟨h4, hS8, z5, nI i, 1, hz5, Or.inr (Or.inr ⟨i, hlt, ⟨_, _, hM, hbg hlt h94, i + d, hen, Or.inl ⟨haw0, Or.inl ⟨r9, hM9, hr1, rfl⟩⟩⟩, by decide, rfl⟩), Or.inl ⟨by decide, rfl, rfl⟩⟩))
                          · have hlt2 : i + d < T := (nI_ltI (by omega) (by omega)).mp (Int32.not_le.mp h125)
                            refine fj_aload_n C 0 dX6_law_128 rfl rfl ?_
                            refine fj_get (Cn := RX6) (T := TX6) (N := 44) (ci := 6) (v := .ref (bd 3)) C iX6 0 (fm_at0 _ _ _ _ _) rfl 4 (by decide) kX6_20 rfl dX6_law_129 ?_
                            refine fj_iload C 5 dX6_law_132 rfl ?_
                            refine fj_iald (f := (a 3)) C 3 (fm_at3 _ _ _ _ _) (vp_in_nI (by omega) (by decide)) dX6_law_134 ?_
                            refine fj_at (y := a 3 (i + d)) (by rw [nI_clamp (by omega)]) ?_
                            refine fj_bipush (v := 32) C dX6_law_135 (by decide) ?_
                            refine fj_icmp_eq (tgt := 215) C dX6_law_137 (by decide) (fun h137 => ?_) (fun h137 => ?_)
                            · have hd1 : 1 ≤ d := Nat.pos_of_ne_zero (fun e => by subst e; exact h94 h137)
                              have hen : enT (a 3) T i (i + d) := ⟨by omega, by omega, hno, Or.inr h137⟩
                              refine fj_iload C 4 dX6_law_215 rfl ?_
                              refine fj_if_ge (tgt := 266) C dX6_law_217 (by decide) (fun h217 => ?_) (fun h217 => ?_)
                              · obtain ⟨w8, hw8, rfl⟩ := haw.resolve_left (fun e => by rw [e] at h217; exact absurd h217 (by decide))
                                refine fj_iload C 8 dX6_law_266 rfl ?_
                                refine fj_if_ne (tgt := 279) C dX6_law_268 (by decide) (fun h268 => ?_) (fun h268 => ?_)
                                · have hdg : dgs (a 3) i (i + d) := hfg.elim (fun q => q.2.1) (fun q => absurd q.1 h268)
                                  have hvl : d ≤ 5 → val = num (a 3) i d := hfg.elim (fun q => q.2.2) (fun q => absurd q.1 h268)
                                  refine fj_iload C 5 dX6_law_279 rfl ?_
                                  refine fj_iload C 6 dX6_law_281 rfl ?_
                                  refine fj_isub C dX6_law_283 ?_
                                  refine fj_at (y := nI d) (by rw [pk_sub (by omega)]; congr 1; omega) ?_
                                  refine fj_iconst (v := 5) C dX6_law_284 (by decide) ?_
                                  refine fj_icmp_le (tgt := 296) C dX6_law_285 (by decide) (fun h285 => ?_) (fun h285 => ?_)
                                  · have hd5 : d ≤ 5 := (nI_leI (b := 5) (by omega) (by decide)).mp h285
                                    refine fj_aload_n C 0 dX6_law_296 rfl rfl ?_
                                    refine fj_get (Cn := RX6) (T := TX6) (N := 44) (ci := 6) (v := .ref (bd 5)) C iX6 0 (fm_at0 _ _ _ _ _) rfl 9 (by decide) kX6_29 rfl dX6_law_297 ?_
                                    refine fj_bipush (v := 9) C dX6_law_300 (by decide) ?_
                                    refine fj_iload_n C 3 dX6_law_302 rfl rfl ?_
                                    refine fj_imul C dX6_law_303 ?_
                                    refine fj_at (y := nI (9 * S)) (pk_mul 9 S) ?_
                                    refine fj_iload C 4 dX6_law_304 rfl ?_
                                    refine fj_iadd C dX6_law_306 ?_
                                    refine fj_at (y := nI (9 * S + w8)) (nI_add (9 * S) w8) ?_
                                    refine fj_iload C 7 dX6_law_307 rfl ?_
                                    refine fj_iast (f := z5) C 5 (fm_at5 _ _ _ _ _) (vp_in_nI (by omega) (by decide)) dX6_law_309 (fm_st5 _ _ _ _ _ _) ?_
                                    refine fj_ws (ws' := (fm_w bd ty (va_up a 5 (upd z5 (nI (9 * S + w8)).toNatClampNeg val)) g (va_up (va_up n 2 0) 3 (-1)))) rfl ?_
                                    refine fj_ws (ws' := (fm_w bd ty (va_up a 5 (upd z5 (9 * S + w8) val)) g (va_up (va_up n 2 0) 3 (-1)))) (by rw [nI_clamp (by omega)]) ?_
                                    refine fj_iconst (v := (-1)) C dX6_law_310 (by decide) ?_
                                    refine fj_istore (lv' := [(4, .int (-1)), (0, .ref (bd 0)), (1, .int x), (2, .int (nI T)), (3, .int (nI S)), (5, .int (nI (i + d))), (6, .int (nI i)), (7, .int val), (8, .int fg)]) C dX6_law_311 (by decide) rfl ?_
                                    refine fj_goto (tgt := 79) C dX6_law_313 (by decide) ?_
                                    refine fj_lv (lv' := [(0, .ref (bd 0)), (1, .int x), (2, .int (nI T)), (3, .int (nI S)), (4, .int (-1)), (5, .int (nI (i + d)))]) [1, 2, 3, 4, 0, 5] rfl ?_
                                    exact ih79 ⟨i + d, upd z5 (9 * S + w8) val, -1⟩ (by show T - (i + d) < T - i; omega) (by omega) (MDS_num hM (hbg hlt h94) hen hd1 hw8 hdg hd5 (hvl hd5)) (Or.inr (Or.inr hen.2.2.2)) (Or.inl rfl) (fun q hq => by rw [upd, if_neg (by omega)]; exact hz5 q hq)
                                  · have hd5 : ¬ d ≤ 5 := fun q => h285 ((nI_leI (b := 5) (by omega) (by decide)).mpr q)
                                    refine fj_aload_n C 0 dX6_law_288 rfl rfl ?_
                                    refine fj_iconst (v := 2) C dX6_law_289 (by decide) ?_
                                    refine fj_iload C 6 dX6_law_290 rfl ?_
                                    refine fj_callVw (As := [.int 2, .int (nI i)]) (rest := []) C (d_X6_fails l D ty t0 bd (va_up a 5 z5) g (va_up (va_up n 2 0) 3 (-1)) 2 (nI i)) (cwV 2 C.2.2.2.2.1 gX6_law_X6_fails rfl rfl rfl (by decide +kernel) ⟨Nat.le_of_ble_eq_true rfl, Nat.le_of_ble_eq_true rfl⟩) ⟨0, 6, _, _, fm_at0 _ _ _ _ _, rfl, rfl⟩ rfl (Nat.le_of_ble_eq_true rfl) dX6_law_292 ⟨Nat.zero_le _, Nat.zero_le _⟩ (fun v9 w9 hp9 => ?_)
                                    obtain ⟨rfl, rfl⟩ := hp9
                                    refine fj_st (st' := .int (-10 - 2) :: []) rfl ?_
                                    exact fj_iret C E9 dX6_law_295 (Or.inr (Or.inr ⟨h4, hS8, z5, nI i, 2, hz5, Or.inr (Or.inr ⟨i, hlt, ⟨_, _, hM, hbg hlt h94, i + d, hen, Or.inr ⟨nI_nneg (by omega), Or.inr ⟨hdg, by omega, rfl⟩⟩⟩, by decide, rfl⟩), Or.inl ⟨by decide, rfl, rfl⟩⟩))
                                · have hnd : ¬ dgs (a 3) i (i + d) := hfg.elim (fun q => absurd (q.1.symm.trans h268) (by decide)) (fun q => q.2)
                                  refine fj_aload_n C 0 dX6_law_271 rfl rfl ?_
                                  refine fj_iconst (v := 1) C dX6_law_272 (by decide) ?_
                                  refine fj_iload C 6 dX6_law_273 rfl ?_
                                  refine fj_callVw (As := [.int 1, .int (nI i)]) (rest := []) C (d_X6_fails l D ty t0 bd (va_up a 5 z5) g (va_up (va_up n 2 0) 3 (-1)) 1 (nI i)) (cwV 2 C.2.2.2.2.1 gX6_law_X6_fails rfl rfl rfl (by decide +kernel) ⟨Nat.le_of_ble_eq_true rfl, Nat.le_of_ble_eq_true rfl⟩) ⟨0, 6, _, _, fm_at0 _ _ _ _ _, rfl, rfl⟩ rfl (Nat.le_of_ble_eq_true rfl) dX6_law_275 ⟨Nat.zero_le _, Nat.zero_le _⟩ (fun v9 w9 hp9 => ?_)
                                  obtain ⟨rfl, rfl⟩ := hp9
                                  refine fj_st (st' := .int (-10 - 1) :: []) rfl ?_
                                  exact fj_iret C E9 dX6_law_278 (Or.inr (Or.inr ⟨h4, hS8, z5, nI i, 1, hz5, Or.inr (Or.inr ⟨i, hlt, ⟨_, _, hM, hbg hlt h94, i + d, hen, Or.inr ⟨nI_nneg (by omega), Or.inl ⟨hnd, rfl⟩⟩⟩, by decide, rfl⟩), Or.inl ⟨by decide, rfl, rfl⟩⟩))
                              · have haw0 : aw < 0 := Int32.not_le.mp h217
                                refine fj_aload_n C 0 dX6_law_220 rfl rfl ?_
                                refine fj_iload C 6 dX6_law_221 rfl ?_
                                refine fj_iload C 5 dX6_law_223 rfl ?_
                                refine fj_callVw (As := [.int (nI i), .int (nI (i + d))]) (rest := []) C (d_X6_wordAt l D ty t0 bd (va_up a 5 z5) g (va_up (va_up n 2 0) 3 (-1)) (nI i) (nI (i + d)) T hT i (i + d) rfl rfl (by omega) (by omega)) (cwV 2 C.2.2.2.2.1 gX6_law_X6_wordAt rfl rfl rfl (by decide +kernel) ⟨Nat.le_of_ble_eq_true rfl, Nat.le_of_ble_eq_true rfl⟩) ⟨0, 6, _, _, fm_at0 _ _ _ _ _, rfl, rfl⟩ rfl (Nat.le_of_ble_eq_true rfl) dX6_law_225 ⟨Nat.zero_le _, Nat.zero_le _⟩ (fun v9 w9 hp9 => ?_)
                                obtain ⟨r9, hM8, rfl, rfl⟩ := hp9
                                have hM9 : MDR (a 3) (g 7) i (i + d) r9 := hM8
                                refine fj_st (st' := .int r9 :: []) rfl ?_
                                refine fj_istore (lv' := [(4, .int r9), (0, .ref (bd 0)), (1, .int x), (2, .int (nI T)), (3, .int (nI S)), (5, .int (nI (i + d))), (6, .int (nI i)), (7, .int val), (8, .int fg)]) C dX6_law_228 (by decide) rfl ?_
                                refine fj_iload C 0 dX6_law_230 rfl ?_
                                refine fj_if_ge (tgt := 243) C dX6_law_232 (by decide) (fun h232 => ?_) (fun h232 => ?_)
                                · obtain ⟨i8, hi8, rfl⟩ := MDR_in hM9 h232
                                  refine fj_aload_n C 1 dX6_law_243 rfl rfl ?_
                                  refine fj_get (Cn := RX6) (T := TX6) (N := 44) (ci := 6) (v := .ref (bd 5)) C iX6 0 (fm_at0 _ _ _ _ _) rfl 9 (by decide) kX6_29 rfl dX6_law_244 ?_
                                  refine fj_bipush (v := 9) C dX6_law_247 (by decide) ?_
                                  refine fj_iload_n C 4 dX6_law_249 rfl rfl ?_
                                  refine fj_imul C dX6_law_250 ?_
                                  refine fj_at (y := nI (9 * S)) (pk_mul 9 S) ?_
                                  refine fj_iload C 0 dX6_law_251 rfl ?_
                                  refine fj_iadd C dX6_law_253 ?_
                                  refine fj_at (y := nI (9 * S + i8)) (nI_add (9 * S) i8) ?_
                                  refine fj_iald (f := z5) C 5 (fm_at5 _ _ _ _ _) (vp_in_nI (by omega) (by decide)) dX6_law_254 ?_
                                  refine fj_at (y := z5 (9 * S + i8)) (by rw [nI_clamp (by omega)]) ?_
                                  refine fj_if_lt (tgt := 313) C dX6_law_255 (by decide) (fun h255 => ?_) (fun h255 => ?_)
                                  · refine fj_goto (tgt := 79) C dX6_law_313 (by decide) ?_
                                    refine fj_lv (lv' := [(0, .ref (bd 0)), (1, .int x), (2, .int (nI T)), (3, .int (nI S)), (4, .int (nI i8)), (5, .int (nI (i + d)))]) [1, 2, 3, 4, 0, 5] rfl ?_
                                    exact ih79 ⟨i + d, z5, nI i8⟩ (by show T - (i + d) < T - i; omega) (by omega) (MDS_word hM (hbg hlt h94) hen hd1 haw0 hM9 (nI_nneg (by omega)) (by show z5 (9 * S + (nI i8).toNatClampNeg) < 0; rw [nI_clamp (by omega)]; exact h255)) (Or.inr (Or.inr hen.2.2.2)) (Or.inr ⟨i8, hi8, rfl⟩) hz5
                                  · refine fj_aload_n C 1 dX6_law_258 rfl rfl ?_
                                    refine fj_iconst (v := 3) C dX6_law_259 (by decide) ?_
                                    refine fj_iload C 6 dX6_law_260 rfl ?_
                                    refine fj_callVw (As := [.int 3, .int (nI i)]) (rest := []) C (d_X6_fails l D ty t0 bd (va_up a 5 z5) g (va_up (va_up n 2 0) 3 (-1)) 3 (nI i)) (cwV 2 C.2.2.2.2.1 gX6_law_X6_fails rfl rfl rfl (by decide +kernel) ⟨Nat.le_of_ble_eq_true rfl, Nat.le_of_ble_eq_true rfl⟩) ⟨0, 6, _, _, fm_at0 _ _ _ _ _, rfl, rfl⟩ rfl (Nat.le_of_ble_eq_true rfl) dX6_law_262 ⟨Nat.zero_le _, Nat.zero_le _⟩ (fun v9 w9 hp9 => ?_)
                                    obtain ⟨rfl, rfl⟩ := hp9
                                    refine fj_st (st' := .int (-10 - 3) :: []) rfl ?_
                                    exact fj_iret C E9 dX6_law_265 (Or.inr (Or.inr ⟨h4, hS8, z5, nI i, 3, hz5, Or.inr (Or.inr ⟨i, hlt, ⟨_, _, hM, hbg hlt h94, i + d, hen, Or.inl ⟨haw0, Or.inr ⟨nI i8, hM9, nI_nneg (by omega), (by show ¬ z5 (9 * S + (nI i8).toNatClampNeg) < 0; rw [nI_clamp (by omega)]; exact h255), rfl⟩⟩⟩, by decide, rfl⟩), Or.inl ⟨by decide, rfl, rfl⟩⟩))
                                · have hr1 := MDR_neg hM9 h232
                                  refine fj_aload_n C 1 dX6_law_235 rfl rfl ?_
                                  refine fj_iconst (v := 1) C dX6_law_236 (by decide) ?_
                                  refine fj_iload C 6 dX6_law_237 rfl ?_
                                  refine fj_callVw (As := [.int 1, .int (nI i)]) (rest := []) C (d_X6_fails l D ty t0 bd (va_up a 5 z5) g (va_up (va_up n 2 0) 3 (-1)) 1 (nI i)) (cwV 2 C.2.2.2.2.1 gX6_law_X6_fails rfl rfl rfl (by decide +kernel) ⟨Nat.le_of_ble_eq_true rfl, Nat.le_of_ble_eq_true rfl⟩) ⟨0, 6, _, _, fm_at0 _ _ _ _ _, rfl, rfl⟩ rfl (Nat.le_of_ble_eq_true rfl) dX6_law_239 ⟨Nat.zero_le _, Nat.zero_le _⟩ (fun v9 w9 hp9 => ?_)
                                  obtain ⟨rfl, rfl⟩ := hp9
                                  refine fj_st (st' := .int (-10 - 1) :: []) rfl ?_
                                  exact fj_iret C E9 dX6_law_242 (Or.inr (Or.inr ⟨h4, hS8, z5, nI i, 1, hz5, Or.inr (Or.inr ⟨i, hlt, ⟨_, _, hM, hbg hlt h94, i + d, hen, Or.inl ⟨haw0, Or.inl ⟨r9, hM9, hr1, rfl⟩⟩⟩, by decide, rfl⟩), Or.inl ⟨by decide, rfl, rfl⟩⟩))
                            · refine fj_iload C 8 dX6_law_140 rfl ?_
                              refine fj_if_eq (tgt := 169) C dX6_law_142 (by decide) (fun h142 => ?_) (fun h142 => ?_)
                              · refine fj_iconst (v := 0) C dX6_law_169 (by decide) ?_
                                refine fj_istore (lv' := [(8, .int 0), (0, .ref (bd 0)), (1, .int x), (2, .int (nI T)), (3, .int (nI S)), (4, .int aw), (5, .int (nI (i + d))), (6, .int (nI i)), (7, .int val)]) C dX6_law_170 (by decide) rfl ?_
                                refine fj_iload C 0 dX6_law_172 rfl ?_
                                refine fj_if_eq (tgt := 205) C dX6_law_174 (by decide) (fun _ => ?_) (fun h => absurd (by decide) h)
                                refine fj_iload C 8 dX6_law_205 rfl ?_
                                refine fj_istore (lv' := [(7, .int val), (8, .int 0), (0, .ref (bd 0)), (1, .int x), (2, .int (nI T)), (3, .int (nI S)), (4, .int aw), (5, .int (nI (i + d))), (6, .int (nI i))]) C dX6_law_207 (by decide) rfl ?_
                                refine fj_iinc (v := nI (i + (d + 1))) (lv' := [(5, .int (nI (i + (d + 1)))), (7, .int val), (8, .int 0), (0, .ref (bd 0)), (1, .int x), (2, .int (nI T)), (3, .int (nI S)), (4, .int aw), (6, .int (nI i))]) C 7 dX6_law_209 rfl (nI_1 (i + d)) (by decide) rfl ?_
                                refine fj_goto (tgt := 122) C dX6_law_212 (by decide) ?_
                                refine fj_lv (lv' := [(0, .ref (bd 0)), (1, .int x), (2, .int (nI T)), (3, .int (nI S)), (4, .int aw), (5, .int (nI (i + (d + 1)))), (6, .int (nI i)), (7, .int val), (8, .int 0)]) [3, 4, 5, 6, 7, 0, 8, 1, 2] rfl ?_
                                exact ih122 ⟨d + 1, val, 0⟩ (by show T - (i + (d + 1)) < T - (i + d); omega) (by omega) (fun j h1 h2 => (Nat.eq_or_lt_of_le (Nat.le_of_lt_succ h2)).elim (fun e => e ▸ h137) (fun q => hno j h1 q)) (by first | exact fg_a hfg h142 | exact fg_b h162 | exact fg_c hfg h142 h162 h5d | exact fg_d hfg h142 h162 h5d)
                              · refine fj_aload_n C 0 dX6_law_145 rfl rfl ?_
                                refine fj_get (Cn := RX6) (T := TX6) (N := 44) (ci := 6) (v := .ref (bd 3)) C iX6 0 (fm_at0 _ _ _ _ _) rfl 4 (by decide) kX6_20 rfl dX6_law_146 ?_
                                refine fj_iload C 5 dX6_law_149 rfl ?_
                                refine fj_iald (f := (a 3)) C 3 (fm_at3 _ _ _ _ _) (vp_in_nI (by omega) (by decide)) dX6_law_151 ?_
                                refine fj_at (y := a 3 (i + d)) (by rw [nI_clamp (by omega)]) ?_
                                refine fj_i2l C dX6_law_152 ?_
                                refine fj_ldc2 (v := 48) C dX6_law_153 kL161 ?_
                                refine fj_ldc2 (v := 57) C dX6_law_156 kL163 ?_
                                refine fj_callSw (As := [.long ((a 3 (i + d)).toInt64), .long 48, .long 57]) (rest := []) C (d_X6_inI l D ty t0 (fm_w bd ty (va_up a 5 z5) g (va_up (va_up n 2 0) 3 (-1))) (a 3 (i + d)) 48 57 48 57 (by decide) (by decide)) (va_cwS 3 C.2.2.2.2.1 gX6_law_X6_in rfl rfl rfl (by decide +kernel) ⟨Nat.le_of_ble_eq_true rfl, Nat.le_of_ble_eq_true rfl⟩)  rfl (Nat.le_of_ble_eq_true rfl) dX6_law_159 ⟨Nat.zero_le _, Nat.zero_le _⟩ (fun v9 w9 hp9 => ?_)
                                obtain ⟨rfl, rfl⟩ := hp9
                                refine fj_st (st' := .int (if (48 ≤ (a 3 (i + d)) ∧ (a 3 (i + d)) ≤ 57) then 1 else 0) :: []) rfl ?_
                                refine fj_ifb_eq (tgt := 169) C dX6_law_162 (by decide) (fun h162 => ?_) (fun h162 => ?_)
                                · refine fj_iconst (v := 0) C dX6_law_169 (by decide) ?_
                                  refine fj_istore (lv' := [(8, .int 0), (0, .ref (bd 0)), (1, .int x), (2, .int (nI T)), (3, .int (nI S)), (4, .int aw), (5, .int (nI (i + d))), (6, .int (nI i)), (7, .int val)]) C dX6_law_170 (by decide) rfl ?_
                                  refine fj_iload C 0 dX6_law_172 rfl ?_
                                  refine fj_if_eq (tgt := 205) C dX6_law_174 (by decide) (fun _ => ?_) (fun h => absurd (by decide) h)
                                  refine fj_iload C 8 dX6_law_205 rfl ?_
                                  refine fj_istore (lv' := [(7, .int val), (8, .int 0), (0, .ref (bd 0)), (1, .int x), (2, .int (nI T)), (3, .int (nI S)), (4, .int aw), (5, .int (nI (i + d))), (6, .int (nI i))]) C dX6_law_207 (by decide) rfl ?_
                                  refine fj_iinc (v := nI (i + (d + 1))) (lv' := [(5, .int (nI (i + (d + 1)))), (7, .int val), (8, .int 0), (0, .ref (bd 0)), (1, .int x), (2, .int (nI T)), (3, .int (nI S)), (4, .int aw), (6, .int (nI i))]) C 7 dX6_law_209 rfl (nI_1 (i + d)) (by decide) rfl ?_
                                  refine fj_goto (tgt := 122) C dX6_law_212 (by decide) ?_
                                  refine fj_lv (lv' := [(0, .ref (bd 0)), (1, .int x), (2, .int (nI T)), (3, .int (nI S)), (4, .int aw), (5, .int (nI (i + (d + 1)))), (6, .int (nI i)), (7, .int val), (8, .int 0)]) [3, 4, 5, 6, 7, 0, 8, 1, 2] rfl ?_
                                  exact ih122 ⟨d + 1, val, 0⟩ (by show T - (i + (d + 1)) < T - (i + d); omega) (by omega) (fun j h1 h2 => (Nat.eq_or_lt_of_le (Nat.le_of_lt_succ h2)).elim (fun e => e ▸ h137) (fun q => hno j h1 q)) (by first | exact fg_a hfg h142 | exact fg_b h162 | exact fg_c hfg h142 h162 h5d | exact fg_d hfg h142 h162 h5d)
                                · refine fj_iconst (v := 1) C dX6_law_165 (by decide) ?_
                                  refine fj_goto (tgt := 170) C dX6_law_166 (by decide) ?_
                                  refine fj_istore (lv' := [(8, .int 1), (0, .ref (bd 0)), (1, .int x), (2, .int (nI T)), (3, .int (nI S)), (4, .int aw), (5, .int (nI (i + d))), (6, .int (nI i)), (7, .int val)]) C dX6_law_170 (by decide) rfl ?_
                                  refine fj_iload C 0 dX6_law_172 rfl ?_
                                  refine fj_if_eq (tgt := 205) C dX6_law_174 (by decide) (fun h => absurd h (by decide)) (fun _ => ?_)
                                  refine fj_iload C 6 dX6_law_177 rfl ?_
                                  refine fj_iload C 7 dX6_law_179 rfl ?_
                                  refine fj_isub C dX6_law_181 ?_
                                  refine fj_at (y := nI d) (by rw [pk_sub (by omega)]; congr 1; omega) ?_
                                  refine fj_iconst (v := 5) C dX6_law_182 (by decide) ?_
                                  refine fj_icmp_ge (tgt := 205) C dX6_law_183 (by decide) (fun h183 => ?_) (fun h183 => ?_)
                                  · have h5d : ¬ d < 5 := Nat.not_lt.mpr ((nI_leI (a := 5) (by decide) (by omega)).mp h183)
                                    refine fj_iload C 8 dX6_law_205 rfl ?_
                                    refine fj_istore (lv' := [(7, .int val), (8, .int 1), (0, .ref (bd 0)), (1, .int x), (2, .int (nI T)), (3, .int (nI S)), (4, .int aw), (5, .int (nI (i + d))), (6, .int (nI i))]) C dX6_law_207 (by decide) rfl ?_
                                    refine fj_iinc (v := nI (i + (d + 1))) (lv' := [(5, .int (nI (i + (d + 1)))), (7, .int val), (8, .int 1), (0, .ref (bd 0)), (1, .int x), (2, .int (nI T)), (3, .int (nI S)), (4, .int aw), (6, .int (nI i))]) C 7 dX6_law_209 rfl (nI_1 (i + d)) (by decide) rfl ?_
                                    refine fj_goto (tgt := 122) C dX6_law_212 (by decide) ?_
                                    refine fj_lv (lv' := [(0, .ref (bd 0)), (1, .int x), (2, .int (nI T)), (3, .int (nI S)), (4, .int aw), (5, .int (nI (i + (d + 1)))), (6, .int (nI i)), (7, .int val), (8, .int 1)]) [3, 4, 5, 6, 7, 0, 8, 1, 2] rfl ?_
                                    exact ih122 ⟨d + 1, val, 1⟩ (by show T - (i + (d + 1)) < T - (i + d); omega) (by omega) (fun j h1 h2 => (Nat.eq_or_lt_of_le (Nat.le_of_lt_succ h2)).elim (fun e => e ▸ h137) (fun q => hno j h1 q)) (by first | exact fg_a hfg h142 | exact fg_b h162 | exact fg_c hfg h142 h162 h5d | exact fg_d hfg h142 h162 h5d)
                                  · have h5d : d < 5 := Nat.lt_of_not_le fun q => h183 ((nI_leI (a := 5) (by decide) (by omega)).mpr q)
                                    refine fj_bipush (v := 10) C dX6_law_186 (by decide) ?_
                                    refine fj_iload C 8 dX6_law_188 rfl ?_
                                    refine fj_imul C dX6_law_190 ?_
                                    refine fj_aload_n C 1 dX6_law_191 rfl rfl ?_
                                    refine fj_get (Cn := RX6) (T := TX6) (N := 44) (ci := 6) (v := .ref (bd 3)) C iX6 0 (fm_at0 _ _ _ _ _) rfl 4 (by decide) kX6_20 rfl dX6_law_192 ?_
                                    refine fj_iload C 6 dX6_law_195 rfl ?_
                                    refine fj_iald (f := (a 3)) C 3 (fm_at3 _ _ _ _ _) (vp_in_nI (by omega) (by decide)) dX6_law_197 ?_
                                    refine fj_at (y := a 3 (i + d)) (by rw [nI_clamp (by omega)]) ?_
                                    refine fj_iadd C dX6_law_198 ?_
                                    refine fj_bipush (v := 48) C dX6_law_199 (by decide) ?_
                                    refine fj_isub C dX6_law_201 ?_
                                    refine fj_goto (tgt := 207) C dX6_law_202 (by decide) ?_
                                    refine fj_istore (lv' := [(7, .int (((10 * val) + (a 3 (i + d))) - 48)), (8, .int 1), (0, .ref (bd 0)), (1, .int x), (2, .int (nI T)), (3, .int (nI S)), (4, .int aw), (5, .int (nI (i + d))), (6, .int (nI i))]) C dX6_law_207 (by decide) rfl ?_
                                    refine fj_iinc (v := nI (i + (d + 1))) (lv' := [(5, .int (nI (i + (d + 1)))), (7, .int (((10 * val) + (a 3 (i + d))) - 48)), (8, .int 1), (0, .ref (bd 0)), (1, .int x), (2, .int (nI T)), (3, .int (nI S)), (4, .int aw), (6, .int (nI i))]) C 7 dX6_law_209 rfl (nI_1 (i + d)) (by decide) rfl ?_
                                    refine fj_goto (tgt := 122) C dX6_law_212 (by decide) ?_
                                    refine fj_lv (lv' := [(0, .ref (bd 0)), (1, .int x), (2, .int (nI T)), (3, .int (nI S)), (4, .int aw), (5, .int (nI (i + (d + 1)))), (6, .int (nI i)), (7, .int (((10 * val) + (a 3 (i + d))) - 48)), (8, .int 1)]) [3, 4, 5, 6, 7, 0, 8, 1, 2] rfl ?_
                                    exact ih122 ⟨d + 1, ((10 * val) + (a 3 (i + d))) - 48, 1⟩ (by show T - (i + (d + 1)) < T - (i + d); omega) (by omega) (fun j h1 h2 => (Nat.eq_or_lt_of_le (Nat.le_of_lt_succ h2)).elim (fun e => e ▸ h137) (fun q => hno j h1 q)) (by first | exact fg_a hfg h142 | exact fg_b h162 | exact fg_c hfg h142 h162 h5d | exact fg_d hfg h142 h162 h5d)
                        intro d val fg
                        exact key ⟨d, val, fg⟩
                      exact lp122 0 0 1 (by omega) (fun j h1 h2 => absurd h1 (by omega)) (Or.inl ⟨rfl, fun j h1 h2 => absurd h1 (by omega), fun _ => rfl⟩)
                    · have hiT : i = T := fx_eqI h106 (by omega) (by omega)
                      exact absurd (fx_eqI h106 (by omega) (by omega)) (by omega)
                  · refine fj_iinc (v := nI (i + 1)) (lv' := [(5, .int (nI (i + 1))), (0, .ref (bd 0)), (1, .int x), (2, .int (nI T)), (3, .int (nI S)), (4, .int aw)]) C 5 dX6_law_97 rfl (nI_1 i) (by decide) rfl ?_
                    refine fj_goto (tgt := 79) C dX6_law_100 (by decide) ?_
                    refine fj_lv (lv' := [(0, .ref (bd 0)), (1, .int x), (2, .int (nI T)), (3, .int (nI S)), (4, .int aw), (5, .int (nI (i + 1)))]) [1, 2, 3, 4, 5, 0] rfl ?_
                    exact ih79 ⟨i + 1, z5, aw⟩ (by show T - (i + 1) < T - i; omega) (by omega) (MDS_skip hM (fun q => q.1 h94)) (Or.inr (Or.inl (by rw [Nat.add_sub_cancel]; exact h94))) haw hz5
              intro i z5 aw
              exact key ⟨i, z5, aw⟩
            exact lp79 0 (flR (a 5) S 9) (-1) (Nat.zero_le _) (⟨fun w hw => if_pos (by omega), rfl⟩) (Or.inl rfl) (Or.inl rfl) (fun q hq => if_neg (by omega))
          · have hlt9 : k < 9 := Nat.lt_of_not_le fun q => h51 ((nI_leI (a := 9) (by decide) (by omega)).mpr q)
            refine fj_aload_n C 0 dX6_law_54 rfl rfl ?_
            refine fj_get (Cn := RX6) (T := TX6) (N := 44) (ci := 6) (v := .ref (bd 5)) C iX6 0 (fm_at0 _ _ _ _ _) rfl 9 (by decide) kX6_29 rfl dX6_law_55 ?_
            refine fj_bipush (v := 9) C dX6_law_58 (by decide) ?_
            refine fj_iload_n C 3 dX6_law_60 rfl rfl ?_
            refine fj_imul C dX6_law_61 ?_
            refine fj_at (y := nI (9 * S)) (pk_mul 9 S) ?_
            refine fj_iload C 4 dX6_law_62 rfl ?_
            refine fj_iadd C dX6_law_64 ?_
            refine fj_at (y := nI (9 * S + k)) (nI_add (9 * S) k) ?_
            refine fj_iconst (v := (-1)) C dX6_law_65 (by decide) ?_
            refine fj_iast (f := (flR (a 5) S k)) C 5 (fm_at5 _ _ _ _ _) (vp_in_nI (by omega) (by decide)) dX6_law_66 (fm_st5 _ _ _ _ _ _) ?_
            refine fj_ws (ws' := (fm_w bd ty (va_up a 5 (upd (flR (a 5) S k) (nI (9 * S + k)).toNatClampNeg (-1))) g (va_up (va_up n 2 0) 3 (-1)))) rfl ?_
            refine fj_ws (ws' := (fm_w bd ty (va_up a 5 (flR (a 5) S (k + 1))) g (va_up (va_up n 2 0) 3 (-1)))) (by rw [nI_clamp (by omega), flR_s]) ?_
            refine fj_iinc (v := nI (k + 1)) (lv' := [(4, .int (nI (k + 1))), (0, .ref (bd 0)), (1, .int x), (2, .int (nI T)), (3, .int (nI S))]) C 4 dX6_law_67 rfl (nI_1 k) (by decide) rfl ?_
            refine fj_goto (tgt := 47) C dX6_law_70 (by decide) ?_
            refine fj_lv (lv' := [(0, .ref (bd 0)), (1, .int x), (2, .int (nI T)), (3, .int (nI S)), (4, .int (nI (k + 1)))]) [1, 2, 3, 4, 0] rfl ?_
            exact ih47 (k + 1) (by show 9 - (k + 1) < 9 - k; omega) (by omega)
        intro k
        exact key k
      refine fj_ws (ws' := (fm_w bd ty (va_up a 5 (flR (a 5) S 0)) g (va_up (va_up n 2 0) 3 (-1)))) (by rw [flR_0]; rfl) ?_
      exact lp47 0 (Nat.zero_le _)
    · have hS8 : ¬ S < 8 := fun q => absurd (fx_eqI (b := 8) h17 (by omega) (by decide)) (by omega)
      refine fj_sipush (v := (-1004)) C dX6_law_20 (by decide) ?_
      exact fj_iret C E9 dX6_law_23 (Or.inr (Or.inl ⟨h4, hS8, rfl, rfl⟩))
  · refine fj_sipush (v := (-1002)) C dX6_law_7 (by decide) ?_
    exact fj_iret C E9 dX6_law_10 (Or.inl ⟨h4, rfl, rfl⟩)
