theorem lfo_in (a : Nat → Nat → Int32) (x : Int32) : ∀ k, YL k (lfo a x k) := by
  intro k
  induction k with
  | zero => exact Or.inl rfl
  | succ k ih =>
    rw [lfo]
    by_cases q : a 4 k ≤ x ∧ (lfo a x k < 0 ∨ IBF a (lfo a x k).toNatClampNeg k)
    · rw [if_pos q]; exact Or.inr ⟨k, by omega, rfl⟩
    · rw [if_neg q]; exact ih.imp id (fun ⟨j, h1, h2⟩ => ⟨j, by omega, h2⟩)
theorem sbo_k {a b : Nat → Nat → Int32} (h4 : b 4 = a 4) (h5 : b 5 = a 5) (j q : Nat) : ∀ k, sbo b j q k = sbo a j q k := by
  intro k
  induction k with
  | zero => rfl
  | succ k ih => simp only [sbo, IBF, ih, h4, h5]
theorem sbw_k {a b : Nat → Nat → Int32} {S : Nat} {x : Int32} {q : Nat} (h4 : b 4 = a 4) (h5 : b 5 = a 5) (h6 : b 6 = a 6) : sbw b S x q = sbw a S x q := by
  have hs : ∀ j, sby b S j q = sby a S j q := fun j => by rw [sby, sby, h5, sbo_k h4 h5]
  rw [sbw, sbw, h6, h5, hs]
theorem acM_k {a b : Nat → Nat → Int32} (h : ∀ q, q ≠ 29 → b q = a q) (i t : Nat) : ∀ d, acM b i t d = acM a i t d := by
  intro d
  induction d with
  | zero => rfl
  | succ d ih => simp only [acM, DBM, ih, h 17 (by decide), h 9 (by decide), h 18 (by decide), h 11 (by decide), h 20 (by decide), h 23 (by decide), h 10 (by decide), h 12 (by decide)]
theorem to_d1 {x : Int32} {d : Nat} (e : x = nI d) (hd : d ≤ 20000) : ∀ k, k < 2 ^ 31 → nI k ≤ x - 1 → k < 25200 := by
  intro k hk h
  have h1 := Int32.le_iff_toInt_le.mp h
  have e1 := pk_sub_toInt (a := d) (b := 1) (by omega) (by decide)
  rw [e, show (1 : Int32) = nI 1 from rfl, nI_toInt hk, e1] at h1
  omega
theorem to_d0 {x : Int32} {d : Nat} (e : x = nI d) (hd : d ≤ 20000) : ∀ k, k < 2 ^ 31 → nI k ≤ x → k < 25200 := by
  intro k hk h
  rw [e] at h
  have := (nI_leI (by omega) (by omega)).mp h
  omega
/-- what a filing comes to -/
def MFd (a : Nat → Nat → Int32) (n : Nat → Int32) (S E k q p : Nat) (lw : Int32) : Int32 := if a 8 k - a 1 p < sbw a S lw 0 then 2 else if a 8 k < a 2 p then 3 else if (q % 8 / 2 + q / 8 / 2) % 2 = 1 ∧ n 1 ≤ a 8 k then 4 else if ¬ enO a (nI q) E < 0 then 5 else if ¬ PFM a q (a 8 k) < 0 ∧ ¬ PFM a q (a 8 k) = nI p then 6 else if sbw a S lw 7 ≤ nI (cF a (nI p) E) then 7 else 0
def MFc (a : Nat → Nat → Int32) (n : Nat → Int32) (S E k q p : Nat) : Int32 := MFd a n S E k q p (lfo a (a 8 k) S)
def MFu (a : Nat → Nat → Int32) (E k p t : Nat) (lw : Int32) : Nat → Nat → Int32 := va_up (va_up (va_up (va_up (va_up (va_up (va_up a 20 (upd (a 20) E (nI k))) 21 (upd (a 21) E (nI t))) 22 (upd (a 22) E (nI p))) 23 (upd (a 23) E (1 <<< (nI p &&& 31)))) 24 (upd (a 24) E lw)) 25 (upd (a 25) E 1)) 26 (upd (a 26) E 0)
abbrev MGO (a : Nat → Nat → Int32) (q E k : Nat) : Prop := ¬ opO a (nI q) E < 0 ∧ a 22 (opO a (nI q) E).toNatClampNeg = a 10 k
def MGu (a : Nat → Nat → Int32) (q E : Nat) : Nat → Nat → Int32 := va_up a 25 (upd (a 25) (opO a (nI q) E).toNatClampNeg 0)
/-- the day from which one looks back -/
def MFR (x : Int32) (u : Nat) : Prop := nI u = (if x < 0 then 0 else x) ∧ u < 2 ^ 31
def MCu (a : Nat → Nat → Int32) (S t k q e : Nat) : Nat → Nat → Int32 := va_up (va_up (va_up (va_up a 29 (mkF a e t)) 25 (upd (a 25) e 0)) 27 (upd (a 27) q (a 10 k))) 28 (upd (a 28) q (a 8 k + sbw a S (a 24 e) 6))
/-- what a contest comes to, and what it leaves -/
def MCR (a : Nat → Nat → Int32) (S E t k q : Nat) (c : Int32) (b : Nat → Nat → Int32) : Prop :=
  (opO a (nI q) E < 0 ∧ c = 9 ∧ b = a) ∨ (∃ e, e < E ∧ opO a (nI q) E = nI e ∧ ((a 22 e = a 10 k ∧ c = 10 ∧ b = a) ∨ (¬ a 22 e = a 10 k ∧ ((a 8 k - sbw a S (a 24 e) 5 ≤ a 8 (a 20 e).toNatClampNeg ∧ c = 11 ∧ b = va_up a 29 (mkF a e t)) ∨ (¬ a 8 k - sbw a S (a 24 e) 5 ≤ a 8 (a 20 e).toNatClampNeg ∧ ∃ u d, MFR (a 8 k - sbw a S (a 24 e) 5) u ∧ UPT u (a 8 k - 1) d ∧ ((0 < nI (cL (mkF a e t) u d) ∧ c = 11 ∧ b = va_up a 29 (mkF a e t)) ∨ (¬ 0 < nI (cL (mkF a e t) u d) ∧ c = 0 ∧ b = MCu a S t k q e)))))))
def MPu (a : Nat → Nat → Int32) (S t k e : Nat) : Nat → Nat → Int32 := va_up (va_up (va_up a 29 (mkF a e t)) 25 (upd (a 25) e 2)) 26 (upd (a 26) e (a 8 k + sbw a S (a 24 e) 8))
/-- what a proof comes to, and what it leaves -/
def MPR (a : Nat → Nat → Int32) (S E t k q : Nat) (c : Int32) (b : Nat → Nat → Int32) : Prop :=
  (¬ MGO a q E k ∧ c = 8 ∧ b = a) ∨ (∃ e, e < E ∧ opO a (nI q) E = nI e ∧ a 22 e = a 10 k ∧ ((sbw a S (a 24 e) 4 < a 8 k - a 8 (a 20 e).toNatClampNeg ∧ c = 12 ∧ b = a) ∨ (¬ sbw a S (a 24 e) 4 < a 8 k - a 8 (a 20 e).toNatClampNeg ∧ ∃ u d, a 8 (a 20 e).toNatClampNeg = nI u ∧ u ≤ 20000 ∧ UPT u (a 8 k - 1) d ∧ ((nI (cL (mkF a e t) u d) < sbw a S (a 24 e) 1 ∧ c = 13 ∧ b = va_up a 29 (mkF a e t)) ∨ (¬ nI (cL (mkF a e t) u d) < sbw a S (a 24 e) 1 ∧ ∃ d2, UPT u (a 8 k - 1) d2 ∧ ((sbw a S (a 24 e) 2 < nI (lgN (mkF a e t) u d2) ∧ c = 14 ∧ b = va_up a 29 (mkF a e t)) ∨ (¬ sbw a S (a 24 e) 2 < nI (lgN (mkF a e t) u d2) ∧ ((acM a e (a 21 e).toNatClampNeg (t - (a 21 e).toNatClampNeg) < sbw a S (a 24 e) 3 ∧ c = 15 ∧ b = va_up a 29 (mkF a e t)) ∨ (¬ acM a e (a 21 e).toNatClampNeg (t - (a 21 e).toNatClampNeg) < sbw a S (a 24 e) 3 ∧ c = 0 ∧ b = MPu a S t k e)))))))))
/-- a death: entry by entry -/
def mdt (a : Nat → Nat → Int32) (p h : Int32) : Nat → (Nat → Int32) × (Nat → Int32)
  | 0 => (a 22, a 23)
  | i + 1 => if ¬ a 25 i = 0 ∧ (mdt a p h i).1 i = p then (upd (mdt a p h i).1 i h, upd (mdt a p h i).2 i ((mdt a p h i).2 i ||| 1 <<< (h &&& 31))) else mdt a p h i
theorem mdt_s {a : Nat → Nat → Int32} {p h : Int32} {i : Nat} {f f2 : Nat → Int32} (hst : mdt a p h i = (f, f2)) (q1 : ¬ a 25 i = 0) (q2 : f i = p) : mdt a p h (i + 1) = (upd f i h, upd f2 i (f2 i ||| 1 <<< (h &&& 31))) := by
  rw [mdt, hst]; exact if_pos ⟨q1, q2⟩
theorem mdt_z {a : Nat → Nat → Int32} {p h : Int32} {i : Nat} {f f2 : Nat → Int32} (hst : mdt a p h i = (f, f2)) (q1 : a 25 i = 0) : mdt a p h (i + 1) = (f, f2) := by
  rw [mdt, hst]; exact if_neg (fun z => z.1 q1)
theorem mdt_y {a : Nat → Nat → Int32} {p h : Int32} {i : Nat} {f f2 : Nat → Int32} (hst : mdt a p h i = (f, f2)) (q2 : ¬ f i = p) : mdt a p h (i + 1) = (f, f2) := by
  rw [mdt, hst]; exact if_neg (fun z => q2 z.2)
def MDc (a : Nat → Nat → Int32) (p h : Nat) : Int32 := if nI h = nI p ∨ ¬ a 19 h = 0 then 16 else 0
def MDu (a : Nat → Nat → Int32) (E p h : Nat) : Nat → Nat → Int32 := va_up (va_up (va_up a 19 (upd (a 19) p 1)) 22 (mdt a (nI p) (nI h) E).1) 23 (mdt a (nI p) (nI h) E).2
set_option maxHeartbeats 4000000 in
set_option maxRecDepth 100000 in
theorem d_X6_file (l : Launch) (D : va_G) (ty : Nat → ClassId) (t0 : Nat → Nat) (bd : Nat → Nat) (a : Nat → Nat → Int32) (g : Nat → Nat → Int64) (n : Nat → Int32) (P : Nat) (S : Nat) (T : Nat) (B : Nat) (I : YI P S T B a n) (M6 : Nat) (E7 : Nat) (W8 : Nat) (Y : YW S B M6 E7 W8 a n) (x : Int32) (k : Nat) (ek : x = nI k) (hk : k < B) (q5 : Nat) (eq5 : a 11 k = nI q5) (hq5 : q5 < 64) (p5 : Nat) (ep5 : a 10 k = nI p5) (hp5 : p5 < 12) (hW : W8 < M6) : fc l yX6_file wsX6_file (fj_rm 2 46 0 0) D ty t0 [.ref (bd 0), .int x] (fm_w bd ty a g n) 0 0 (fun v w => v = some (.int (MFc a n S E7 k q5 p5)) ∧ w = if MFc a n S E7 k q5 p5 = 0 then fm_w bd ty (MFu a E7 k p5 W8 (lfo a (a 8 k) S)) g (va_up n 7 (nI (E7 + 1))) else fm_w bd ty a g n) := by
  subst ek
  refine fc_start (own := RX6) (cc := cX6_file) (maxL := 7) (ret := (some .int)) (by decide) rfl (Nat.le_of_ble_eq_true rfl) rfl ?_
  intro p e s m args below meth c Q A C hmn E9
  obtain ⟨hn0, hP, hn2, hT, hn4, hS, hn5, hB, yWho, ySort, yQ, yN, yD, yL⟩ := id I
  obtain ⟨hn6, hM6, hn7, hn8, hEW, hWM, yO, yEL, yEA, yLW⟩ := id Y
  have iX6 : ∀ w ∈ u_ws RX6 TX6 44, w ∈ wsX6_file := ptX6_file_wsX60
  have kX6_45 : Cond.fieldLink RX6 45 "FreeLandModel" "people" "[I" ∈ wsX6_file := ptX6_file_woX6_file _ (by decide +kernel)
  have kX6_48 : Cond.fieldLink RX6 48 "FreeLandModel" "quarters" "[I" ∈ wsX6_file := ptX6_file_woX6_file _ (by decide +kernel)
  have kX6_39 : Cond.fieldLink RX6 39 "FreeLandModel" "days" "[I" ∈ wsX6_file := ptX6_file_woX6_file _ (by decide +kernel)
  have kX6_7 : Cond.fieldLink RX6 7 "FreeLandModel" "births" "[I" ∈ wsX6_file := ptX6_file_woX6_file _ (by decide +kernel)
  have kX6_13 : Cond.fieldLink RX6 13 "FreeLandModel" "citizens" "[I" ∈ wsX6_file := ptX6_file_woX6_file _ (by decide +kernel)
  have kX6_76 : Cond.fieldLink RX6 76 "FreeLandModel" "entryLine" "[I" ∈ wsX6_file := ptX6_file_woX6_file _ (by decide +kernel)
  have kX6_206 : Cond.fieldLink RX6 206 "FreeLandModel" "entries" "I" ∈ wsX6_file := ptX6_file_woX6_file _ (by decide +kernel)
  have kX6_79 : Cond.fieldLink RX6 79 "FreeLandModel" "entryAt" "[I" ∈ wsX6_file := ptX6_file_woX6_file _ (by decide +kernel)
  have kX6_212 : Cond.fieldLink RX6 212 "FreeLandModel" "worked" "I" ∈ wsX6_file := ptX6_file_woX6_file _ (by decide +kernel)
  have kX6_82 : Cond.fieldLink RX6 82 "FreeLandModel" "holders" "[I" ∈ wsX6_file := ptX6_file_woX6_file _ (by decide +kernel)
  have kX6_85 : Cond.fieldLink RX6 85 "FreeLandModel" "heldBy" "[I" ∈ wsX6_file := ptX6_file_woX6_file _ (by decide +kernel)
  have kX6_88 : Cond.fieldLink RX6 88 "FreeLandModel" "entryLaw" "[I" ∈ wsX6_file := ptX6_file_woX6_file _ (by decide +kernel)
  have kX6_91 : Cond.fieldLink RX6 91 "FreeLandModel" "entryState" "[I" ∈ wsX6_file := ptX6_file_woX6_file _ (by decide +kernel)
  have kX6_94 : Cond.fieldLink RX6 94 "FreeLandModel" "bindDay" "[I" ∈ wsX6_file := ptX6_file_woX6_file _ (by decide +kernel)
  have kX6_16 : Cond.fieldLink RX6 16 "FreeLandModel" "mapDay" "I" ∈ wsX6_file := ptX6_file_woX6_file _ (by decide +kernel)
  refine fj_lv (lv' := [(0, .ref (bd 0)), (1, .int (nI k))]) [0, 1] rfl ?_
  refine fj_aload_n C 0 dX6_file_0 rfl rfl ?_
  refine fj_get (Cn := RX6) (T := TX6) (N := 44) (ci := 6) (v := .ref (bd 10)) C iX6 0 (fm_at0 _ _ _ _ _) rfl 15 (by decide) kX6_45 rfl dX6_file_1 ?_
  refine fj_iload_n C 1 dX6_file_4 rfl rfl ?_
  refine fj_iald (f := (a 10)) C 10 (fm_at10 _ _ _ _ _) (vp_in_nI (by omega) (by decide)) dX6_file_5 ?_
  refine fj_at (y := nI p5) (by rw [nI_clamp (by omega), ep5]) ?_
  refine fj_istore_n (lv' := [(2, .int (nI p5)), (0, .ref (bd 0)), (1, .int (nI k))]) C dX6_file_6 rfl (by decide) rfl ?_
  refine fj_aload_n C 1 dX6_file_7 rfl rfl ?_
  refine fj_get (Cn := RX6) (T := TX6) (N := 44) (ci := 6) (v := .ref (bd 11)) C iX6 0 (fm_at0 _ _ _ _ _) rfl 16 (by decide) kX6_48 rfl dX6_file_8 ?_
  refine fj_iload_n C 2 dX6_file_11 rfl rfl ?_
  refine fj_iald (f := (a 11)) C 11 (fm_at11 _ _ _ _ _) (vp_in_nI (by omega) (by decide)) dX6_file_12 ?_
  refine fj_at (y := nI q5) (by rw [nI_clamp (by omega), eq5]) ?_
  refine fj_istore_n (lv' := [(3, .int (nI q5)), (2, .int (nI p5)), (0, .ref (bd 0)), (1, .int (nI k))]) C dX6_file_13 rfl (by decide) rfl ?_
  refine fj_aload_n C 2 dX6_file_14 rfl rfl ?_
  refine fj_get (Cn := RX6) (T := TX6) (N := 44) (ci := 6) (v := .ref (bd 8)) C iX6 0 (fm_at0 _ _ _ _ _) rfl 13 (by decide) kX6_39 rfl dX6_file_15 ?_
  refine fj_iload_n C 3 dX6_file_18 rfl rfl ?_
  refine fj_iald (f := (a 8)) C 8 (fm_at8 _ _ _ _ _) (vp_in_nI (by omega) (by decide)) dX6_file_19 ?_
  refine fj_at (y := a 8 k) (by rw [nI_clamp (by omega)]) ?_
  refine fj_istore (lv' := [(4, .int (a 8 k)), (3, .int (nI q5)), (2, .int (nI p5)), (0, .ref (bd 0)), (1, .int (nI k))]) C dX6_file_20 (by decide) rfl ?_
  refine fj_aload_n C 3 dX6_file_22 rfl rfl ?_
  refine fj_iload C 0 dX6_file_23 rfl ?_
  refine fj_callVw (As := [.int (a 8 k)]) (rest := []) C (d_X6_lawFor l D ty t0 bd a g n P S T B I (a 8 k)) (cwV 1 C.2.2.2.2.1 gX6_file_X6_lawFor rfl rfl rfl (by decide +kernel) ⟨Nat.le_of_ble_eq_true rfl, Nat.le_of_ble_eq_true rfl⟩) ⟨0, 6, _, _, fm_at0 _ _ _ _ _, rfl, rfl⟩ rfl (Nat.le_of_ble_eq_true rfl) dX6_file_25 ⟨Nat.zero_le _, Nat.zero_le _⟩ (fun v9 w9 hp9 => ?_)
  obtain ⟨rfl, rfl⟩ := hp9
  refine fj_st (st' := .int (lfo a (a 8 k) S) :: []) rfl ?_
  refine fj_topi (fun lw9 e_lw9 => ?_)
  refine fj_istore (lv' := [(5, .int lw9), (4, .int (a 8 k)), (3, .int (nI q5)), (2, .int (nI p5)), (0, .ref (bd 0)), (1, .int (nI k))]) C dX6_file_28 (by decide) rfl ?_
  refine fj_iload C 1 dX6_file_30 rfl ?_
  refine fj_aload_n C 4 dX6_file_32 rfl rfl ?_
  refine fj_get (Cn := RX6) (T := TX6) (N := 44) (ci := 6) (v := .ref (bd 1)) C iX6 0 (fm_at0 _ _ _ _ _) rfl 1 (by decide) kX6_7 rfl dX6_file_33 ?_
  refine fj_iload_n C 3 dX6_file_36 rfl rfl ?_
  refine fj_iald (f := (a 1)) C 1 (fm_at1 _ _ _ _ _) (vp_in_nI (by omega) (by decide)) dX6_file_37 ?_
  refine fj_at (y := a 1 p5) (by rw [nI_clamp (by omega)]) ?_
  refine fj_isub C dX6_file_38 ?_
  refine fj_aload_n C 4 dX6_file_39 rfl rfl ?_
  refine fj_iload C 0 dX6_file_40 rfl ?_
  refine fj_iconst (v := 0) C dX6_file_42 (by decide) ?_
  refine fj_callVw (As := [.int lw9, .int 0]) (rest := [.int ((a 8 k) - (a 1 p5))]) C (d_X6_setBy l D ty t0 bd a g n P S T B I lw9 0 (by rw [e_lw9]; exact lfo_in a _ S) 0 rfl (by decide)) (cwV 2 C.2.2.2.2.1 gX6_file_X6_setBy rfl rfl rfl (by decide +kernel) ⟨Nat.le_of_ble_eq_true rfl, Nat.le_of_ble_eq_true rfl⟩) ⟨0, 6, _, _, fm_at0 _ _ _ _ _, rfl, rfl⟩ rfl (Nat.le_of_ble_eq_true rfl) dX6_file_43 ⟨Nat.zero_le _, Nat.zero_le _⟩ (fun v9 w9 hp9 => ?_)
  obtain ⟨rfl, rfl⟩ := hp9
  refine fj_st (st' := .int (sbw a S lw9 0) :: [.int ((a 8 k) - (a 1 p5))]) rfl ?_
  refine fj_icmp_ge (tgt := 51) C dX6_file_46 (by decide) (fun h46 => ?_) (fun h46 => ?_)
  · refine fj_aload_n C 4 dX6_file_51 rfl rfl ?_
    refine fj_get (Cn := RX6) (T := TX6) (N := 44) (ci := 6) (v := .ref (bd 2)) C iX6 0 (fm_at0 _ _ _ _ _) rfl 2 (by decide) kX6_13 rfl dX6_file_52 ?_
    refine fj_iload_n C 3 dX6_file_55 rfl rfl ?_
    refine fj_iald (f := (a 2)) C 2 (fm_at2 _ _ _ _ _) (vp_in_nI (by omega) (by decide)) dX6_file_56 ?_
    refine fj_at (y := a 2 p5) (by rw [nI_clamp (by omega)]) ?_
    refine fj_iload C 1 dX6_file_57 rfl ?_
    refine fj_icmp_le (tgt := 64) C dX6_file_59 (by decide) (fun h59 => ?_) (fun h59 => ?_)
    · refine fj_iload_n C 2 dX6_file_64 rfl rfl ?_
      refine fj_callSw (As := [.int (nI q5)]) (rest := []) C (d_X6_isOdd l D ty t0 (fm_w bd ty a g n) (nI q5) q5 rfl hq5) (va_cwS 1 C.2.2.2.2.1 gX6_file_X6_isOdd rfl rfl rfl (by decide +kernel) ⟨Nat.le_of_ble_eq_true rfl, Nat.le_of_ble_eq_true rfl⟩)  rfl (Nat.le_of_ble_eq_true rfl) dX6_file_65 ⟨Nat.zero_le _, Nat.zero_le _⟩ (fun v9 w9 hp9 => ?_)
      obtain ⟨rfl, rfl⟩ := hp9
      refine fj_st (st' := .int (if ((q5 % 8 / 2 + q5 / 8 / 2) % 2 = 1) then 1 else 0) :: []) rfl ?_
      refine fj_ifb_eq (tgt := 82) C dX6_file_68 (by decide) (fun h68 => ?_) (fun h68 => ?_)
      · have hr : ¬ ((q5 % 8 / 2 + q5 / 8 / 2) % 2 = 1 ∧ n 1 ≤ a 8 k) := by first | exact fun z => h68 z.1 | exact fun z => absurd h77 (Int32.not_lt.mpr z.2)
        refine fj_aload_n C 4 dX6_file_82 rfl rfl ?_
        refine fj_iload_n C 2 dX6_file_83 rfl rfl ?_
        refine fj_callVw (As := [.int (nI q5)]) (rest := []) C (d_X6_entryOf l D ty t0 bd a g n P S T B I M6 E7 W8 Y (nI q5)) (cwV 1 C.2.2.2.2.1 gX6_file_X6_entryOf rfl rfl rfl (by decide +kernel) ⟨Nat.le_of_ble_eq_true rfl, Nat.le_of_ble_eq_true rfl⟩) ⟨0, 6, _, _, fm_at0 _ _ _ _ _, rfl, rfl⟩ rfl (Nat.le_of_ble_eq_true rfl) dX6_file_84 ⟨Nat.zero_le _, Nat.zero_le _⟩ (fun v9 w9 hp9 => ?_)
        obtain ⟨rfl, rfl⟩ := hp9
        refine fj_st (st' := .int (enO a (nI q5) E7) :: []) rfl ?_
        refine fj_if_lt (tgt := 92) C dX6_file_87 (by decide) (fun h87 => ?_) (fun h87 => ?_)
        · refine fj_aload_n C 4 dX6_file_92 rfl rfl ?_
          refine fj_iload_n C 2 dX6_file_93 rfl rfl ?_
          refine fj_iload C 1 dX6_file_94 rfl ?_
          refine fj_callVw (As := [.int (nI q5), .int (a 8 k)]) (rest := []) C (d_X6_preferredOn l D ty t0 bd a g n (nI q5) (a 8 k) q5 rfl hq5) (cwV 2 C.2.2.2.2.1 gX6_file_X6_preferredOn rfl rfl rfl (by decide +kernel) ⟨Nat.le_of_ble_eq_true rfl, Nat.le_of_ble_eq_true rfl⟩) ⟨0, 6, _, _, fm_at0 _ _ _ _ _, rfl, rfl⟩ rfl (Nat.le_of_ble_eq_true rfl) dX6_file_96 ⟨Nat.zero_le _, Nat.zero_le _⟩ (fun v9 w9 hp9 => ?_)
          obtain ⟨rfl, rfl⟩ := hp9
          refine fj_st (st' := .int (PFM a q5 (a 8 k)) :: []) rfl ?_
          refine fj_topi (fun pf9 e_pf9 => ?_)
          refine fj_istore (lv' := [(6, .int pf9), (5, .int lw9), (4, .int (a 8 k)), (3, .int (nI q5)), (2, .int (nI p5)), (0, .ref (bd 0)), (1, .int (nI k))]) C dX6_file_99 (by decide) rfl ?_
          refine fj_iload C 0 dX6_file_101 rfl ?_
          refine fj_if_lt (tgt := 115) C dX6_file_103 (by decide) (fun h103 => ?_) (fun h103 => ?_)
          · have hpf : ¬ (¬ pf9 < 0 ∧ ¬ pf9 = nI p5) := by first | exact fun z => z.1 h103 | exact fun z => z.2 h109
            refine fj_aload_n C 5 dX6_file_115 rfl rfl ?_
            refine fj_iload_n C 4 dX6_file_116 rfl rfl ?_
            refine fj_callVw (As := [.int (nI p5)]) (rest := []) C (d_X6_filedBy l D ty t0 bd a g n P S T B I M6 E7 W8 Y (nI p5)) (cwV 1 C.2.2.2.2.1 gX6_file_X6_filedBy rfl rfl rfl (by decide +kernel) ⟨Nat.le_of_ble_eq_true rfl, Nat.le_of_ble_eq_true rfl⟩) ⟨0, 6, _, _, fm_at0 _ _ _ _ _, rfl, rfl⟩ rfl (Nat.le_of_ble_eq_true rfl) dX6_file_117 ⟨Nat.zero_le _, Nat.zero_le _⟩ (fun v9 w9 hp9 => ?_)
            obtain ⟨rfl, rfl⟩ := hp9
            refine fj_st (st' := .int (nI (cF a (nI p5) E7)) :: []) rfl ?_
            refine fj_aload_n C 5 dX6_file_120 rfl rfl ?_
            refine fj_iload C 1 dX6_file_121 rfl ?_
            refine fj_bipush (v := 7) C dX6_file_123 (by decide) ?_
            refine fj_callVw (As := [.int lw9, .int 7]) (rest := [.int (nI (cF a (nI p5) E7))]) C (d_X6_setBy l D ty t0 bd a g n P S T B I lw9 7 (by rw [e_lw9]; exact lfo_in a _ S) 7 rfl (by decide)) (cwV 2 C.2.2.2.2.1 gX6_file_X6_setBy rfl rfl rfl (by decide +kernel) ⟨Nat.le_of_ble_eq_true rfl, Nat.le_of_ble_eq_true rfl⟩) ⟨0, 6, _, _, fm_at0 _ _ _ _ _, rfl, rfl⟩ rfl (Nat.le_of_ble_eq_true rfl) dX6_file_125 ⟨Nat.zero_le _, Nat.zero_le _⟩ (fun v9 w9 hp9 => ?_)
            obtain ⟨rfl, rfl⟩ := hp9
            refine fj_st (st' := .int (sbw a S lw9 7) :: [.int (nI (cF a (nI p5) E7))]) rfl ?_
            refine fj_icmp_lt (tgt := 134) C dX6_file_128 (by decide) (fun h128 => ?_) (fun h128 => ?_)
            · refine fj_aload_n C 5 dX6_file_134 rfl rfl ?_
              refine fj_get (Cn := RX6) (T := TX6) (N := 44) (ci := 6) (v := .ref (bd 20)) C iX6 0 (fm_at0 _ _ _ _ _) rfl 27 (by decide) kX6_76 rfl dX6_file_135 ?_
              refine fj_aload_n C 5 dX6_file_138 rfl rfl ?_
              refine fj_get (Cn := RX6) (T := TX6) (N := 44) (ci := 6) (v := .int (n 7)) C iX6 0 (fm_at0 _ _ _ _ _) rfl 26 (by decide) kX6_206 rfl dX6_file_139 ?_
              refine fj_at (y := nI E7) hn7 ?_
              refine fj_iload_n C 6 dX6_file_142 rfl rfl ?_
              refine fj_iast (f := (a 20)) C 20 (fm_at20 _ _ _ _ _) (vp_in_nI (by omega) (by decide)) dX6_file_143 (fm_st20 _ _ _ _ _ _) ?_
              refine fj_ws (ws' := (fm_w bd ty (va_up a 20 (upd (a 20) E7 (nI k))) g n)) (by rw [nI_clamp (by omega)]) ?_
              refine fj_aload_n C 5 dX6_file_144 rfl rfl ?_
              refine fj_get (Cn := RX6) (T := TX6) (N := 44) (ci := 6) (v := .ref (bd 21)) C iX6 0 (fm_at0 _ _ _ _ _) rfl 28 (by decide) kX6_79 rfl dX6_file_145 ?_
              refine fj_aload_n C 5 dX6_file_148 rfl rfl ?_
              refine fj_get (Cn := RX6) (T := TX6) (N := 44) (ci := 6) (v := .int (n 7)) C iX6 0 (fm_at0 _ _ _ _ _) rfl 26 (by decide) kX6_206 rfl dX6_file_149 ?_
              refine fj_at (y := nI E7) hn7 ?_
              refine fj_aload_n C 5 dX6_file_152 rfl rfl ?_
              refine fj_get (Cn := RX6) (T := TX6) (N := 44) (ci := 6) (v := .int (n 8)) C iX6 0 (fm_at0 _ _ _ _ _) rfl 36 (by decide) kX6_212 rfl dX6_file_153 ?_
              refine fj_at (y := nI W8) hn8 ?_
              refine fj_iast (f := (a 21)) C 21 (fm_at21 _ _ _ _ _) (vp_in_nI (by omega) (by decide)) dX6_file_156 (fm_st21 _ _ _ _ _ _) ?_
              refine fj_ws (ws' := (fm_w bd ty (va_up (va_up a 20 (upd (a 20) E7 (nI k))) 21 (upd (a 21) E7 (nI W8))) g n)) (by rw [nI_clamp (by omega)]) ?_
              refine fj_aload_n C 5 dX6_file_157 rfl rfl ?_
              refine fj_get (Cn := RX6) (T := TX6) (N := 44) (ci := 6) (v := .ref (bd 22)) C iX6 0 (fm_at0 _ _ _ _ _) rfl 29 (by decide) kX6_82 rfl dX6_file_158 ?_
              refine fj_aload_n C 5 dX6_file_161 rfl rfl ?_
              refine fj_get (Cn := RX6) (T := TX6) (N := 44) (ci := 6) (v := .int (n 7)) C iX6 0 (fm_at0 _ _ _ _ _) rfl 26 (by decide) kX6_206 rfl dX6_file_162 ?_
              refine fj_at (y := nI E7) hn7 ?_
              refine fj_iload_n C 4 dX6_file_165 rfl rfl ?_
              refine fj_iast (f := (a 22)) C 22 (fm_at22 _ _ _ _ _) (vp_in_nI (by omega) (by decide)) dX6_file_166 (fm_st22 _ _ _ _ _ _) ?_
              refine fj_ws (ws' := (fm_w bd ty (va_up (va_up (va_up a 20 (upd (a 20) E7 (nI k))) 21 (upd (a 21) E7 (nI W8))) 22 (upd (a 22) E7 (nI p5))) g n)) (by rw [nI_clamp (by omega)]) ?_
              refine fj_aload_n C 5 dX6_file_167 rfl rfl ?_
              refine fj_get (Cn := RX6) (T := TX6) (N := 44) (ci := 6) (v := .ref (bd 23)) C iX6 0 (fm_at0 _ _ _ _ _) rfl 30 (by decide) kX6_85 rfl dX6_file_168 ?_
              refine fj_aload_n C 5 dX6_file_171 rfl rfl ?_
              refine fj_get (Cn := RX6) (T := TX6) (N := 44) (ci := 6) (v := .int (n 7)) C iX6 0 (fm_at0 _ _ _ _ _) rfl 26 (by decide) kX6_206 rfl dX6_file_172 ?_
              refine fj_at (y := nI E7) hn7 ?_
              refine fj_iconst (v := 1) C dX6_file_175 (by decide) ?_
              refine fj_iload_n C 4 dX6_file_176 rfl rfl ?_
              refine fj_ishl C dX6_file_177 ?_
              refine fj_iast (f := (a 23)) C 23 (fm_at23 _ _ _ _ _) (vp_in_nI (by omega) (by decide)) dX6_file_178 (fm_st23 _ _ _ _ _ _) ?_
              refine fj_ws (ws' := (fm_w bd ty (va_up (va_up (va_up (va_up a 20 (upd (a 20) E7 (nI k))) 21 (upd (a 21) E7 (nI W8))) 22 (upd (a 22) E7 (nI p5))) 23 (upd (a 23) E7 (1 <<< (nI p5 &&& 31)))) g n)) (by rw [nI_clamp (by omega)]) ?_
              refine fj_aload_n C 5 dX6_file_179 rfl rfl ?_
              refine fj_get (Cn := RX6) (T := TX6) (N := 44) (ci := 6) (v := .ref (bd 24)) C iX6 0 (fm_at0 _ _ _ _ _) rfl 31 (by decide) kX6_88 rfl dX6_file_180 ?_
              refine fj_aload_n C 5 dX6_file_183 rfl rfl ?_
              refine fj_get (Cn := RX6) (T := TX6) (N := 44) (ci := 6) (v := .int (n 7)) C iX6 0 (fm_at0 _ _ _ _ _) rfl 26 (by decide) kX6_206 rfl dX6_file_184 ?_
              refine fj_at (y := nI E7) hn7 ?_
              refine fj_iload C 1 dX6_file_187 rfl ?_
              refine fj_iast (f := (a 24)) C 24 (fm_at24 _ _ _ _ _) (vp_in_nI (by omega) (by decide)) dX6_file_189 (fm_st24 _ _ _ _ _ _) ?_
              refine fj_ws (ws' := (fm_w bd ty (va_up (va_up (va_up (va_up (va_up a 20 (upd (a 20) E7 (nI k))) 21 (upd (a 21) E7 (nI W8))) 22 (upd (a 22) E7 (nI p5))) 23 (upd (a 23) E7 (1 <<< (nI p5 &&& 31)))) 24 (upd (a 24) E7 lw9)) g n)) (by rw [nI_clamp (by omega)]) ?_
              refine fj_aload_n C 5 dX6_file_190 rfl rfl ?_
              refine fj_get (Cn := RX6) (T := TX6) (N := 44) (ci := 6) (v := .ref (bd 25)) C iX6 0 (fm_at0 _ _ _ _ _) rfl 32 (by decide) kX6_91 rfl dX6_file_191 ?_
              refine fj_aload_n C 5 dX6_file_194 rfl rfl ?_
              refine fj_get (Cn := RX6) (T := TX6) (N := 44) (ci := 6) (v := .int (n 7)) C iX6 0 (fm_at0 _ _ _ _ _) rfl 26 (by decide) kX6_206 rfl dX6_file_195 ?_
              refine fj_at (y := nI E7) hn7 ?_
              refine fj_iconst (v := 1) C dX6_file_198 (by decide) ?_
              refine fj_iast (f := (a 25)) C 25 (fm_at25 _ _ _ _ _) (vp_in_nI (by omega) (by decide)) dX6_file_199 (fm_st25 _ _ _ _ _ _) ?_
              refine fj_ws (ws' := (fm_w bd ty (va_up (va_up (va_up (va_up (va_up (va_up a 20 (upd (a 20) E7 (nI k))) 21 (upd (a 21) E7 (nI W8))) 22 (upd (a 22) E7 (nI p5))) 23 (upd (a 23) E7 (1 <<< (nI p5 &&& 31)))) 24 (upd (a 24) E7 lw9)) 25 (upd (a 25) E7 1)) g n)) (by rw [nI_clamp (by omega)]) ?_
              refine fj_aload_n C 5 dX6_file_200 rfl rfl ?_
              refine fj_get (Cn := RX6) (T := TX6) (N := 44) (ci := 6) (v := .ref (bd 26)) C iX6 0 (fm_at0 _ _ _ _ _) rfl 33 (by decide) kX6_94 rfl dX6_file_201 ?_
              refine fj_aload_n C 5 dX6_file_204 rfl rfl ?_
              refine fj_get (Cn := RX6) (T := TX6) (N := 44) (ci := 6) (v := .int (n 7)) C iX6 0 (fm_at0 _ _ _ _ _) rfl 26 (by decide) kX6_206 rfl dX6_file_205 ?_
              refine fj_at (y := nI E7) hn7 ?_
              refine fj_iconst (v := 0) C dX6_file_208 (by decide) ?_
              refine fj_iast (f := (a 26)) C 26 (fm_at26 _ _ _ _ _) (vp_in_nI (by omega) (by decide)) dX6_file_209 (fm_st26 _ _ _ _ _ _) ?_
              refine fj_ws (ws' := (fm_w bd ty (va_up (va_up (va_up (va_up (va_up (va_up (va_up a 20 (upd (a 20) E7 (nI k))) 21 (upd (a 21) E7 (nI W8))) 22 (upd (a 22) E7 (nI p5))) 23 (upd (a 23) E7 (1 <<< (nI p5 &&& 31)))) 24 (upd (a 24) E7 lw9)) 25 (upd (a 25) E7 1)) 26 (upd (a 26) E7 0)) g n)) (by rw [nI_clamp (by omega)]) ?_
              refine fj_aload_n C 5 dX6_file_210 rfl rfl ?_
              refine fj_dup C dX6_file_211 rfl ?_
              refine fj_get (Cn := RX6) (T := TX6) (N := 44) (ci := 6) (v := .int (n 7)) C iX6 0 (fm_at0 _ _ _ _ _) rfl 26 (by decide) kX6_206 rfl dX6_file_212 ?_
              refine fj_at (y := nI E7) hn7 ?_
              refine fj_iconst (v := 1) C dX6_file_215 (by decide) ?_
              refine fj_iadd C dX6_file_216 ?_
              refine fj_at (y := nI (E7 + 1)) (nI_1 E7) ?_
              refine fj_put (Cn := RX6) (T := TX6) (N := 44) (ci := 6) C iX6 tyX6 tyX6_ok nmX6 0 (fm_at0 _ _ _ _ _) rfl 26 (by decide) kX6_206 rfl rfl rfl (Nat.le_of_ble_eq_true rfl) dX6_file_217 (fm_si0_26 _ _ _ _ _ _) ?_
              refine fj_iconst (v := 0) C dX6_file_220 (by decide) ?_
              exact fj_iret C E9 dX6_file_221 (by
      have hc : MFc a n S E7 k q5 p5 = 0 := by rw [MFc, ← e_lw9, MFd, if_neg (Int32.not_lt.mpr h46), if_neg (Int32.not_lt.mpr h59), if_neg hr, if_neg (not_not_intro h87), ← e_pf9, if_neg hpf, if_neg (Int32.not_le.mpr h128)]
      exact ⟨by rw [hc], by rw [if_pos hc, ← e_lw9]; rfl⟩)
            · refine fj_bipush (v := 7) C dX6_file_131 (by decide) ?_
              exact fj_iret C E9 dX6_file_133 (by
      have hc : MFc a n S E7 k q5 p5 = 7 := by rw [MFc, ← e_lw9, MFd, if_neg (Int32.not_lt.mpr h46), if_neg (Int32.not_lt.mpr h59), if_neg hr, if_neg (not_not_intro h87), ← e_pf9, if_neg hpf, if_pos (Int32.not_lt.mp h128)]
      exact ⟨by rw [hc], by rw [hc, if_neg (by decide : ¬ (7 : Int32) = 0)]⟩)
          · refine fj_iload C 0 dX6_file_106 rfl ?_
            refine fj_iload_n C 4 dX6_file_108 rfl rfl ?_
            refine fj_icmp_eq (tgt := 115) C dX6_file_109 (by decide) (fun h109 => ?_) (fun h109 => ?_)
            · have hpf : ¬ (¬ pf9 < 0 ∧ ¬ pf9 = nI p5) := by first | exact fun z => z.1 h103 | exact fun z => z.2 h109
              refine fj_aload_n C 5 dX6_file_115 rfl rfl ?_
              refine fj_iload_n C 4 dX6_file_116 rfl rfl ?_
              refine fj_callVw (As := [.int (nI p5)]) (rest := []) C (d_X6_filedBy l D ty t0 bd a g n P S T B I M6 E7 W8 Y (nI p5)) (cwV 1 C.2.2.2.2.1 gX6_file_X6_filedBy rfl rfl rfl (by decide +kernel) ⟨Nat.le_of_ble_eq_true rfl, Nat.le_of_ble_eq_true rfl⟩) ⟨0, 6, _, _, fm_at0 _ _ _ _ _, rfl, rfl⟩ rfl (Nat.le_of_ble_eq_true rfl) dX6_file_117 ⟨Nat.zero_le _, Nat.zero_le _⟩ (fun v9 w9 hp9 => ?_)
              obtain ⟨rfl, rfl⟩ := hp9
              refine fj_st (st' := .int (nI (cF a (nI p5) E7)) :: []) rfl ?_
              refine fj_aload_n C 5 dX6_file_120 rfl rfl ?_
              refine fj_iload C 1 dX6_file_121 rfl ?_
              refine fj_bipush (v := 7) C dX6_file_123 (by decide) ?_
              refine fj_callVw (As := [.int lw9, .int 7]) (rest := [.int (nI (cF a (nI p5) E7))]) C (d_X6_setBy l D ty t0 bd a g n P S T B I lw9 7 (by rw [e_lw9]; exact lfo_in a _ S) 7 rfl (by decide)) (cwV 2 C.2.2.2.2.1 gX6_file_X6_setBy rfl rfl rfl (by decide +kernel) ⟨Nat.le_of_ble_eq_true rfl, Nat.le_of_ble_eq_true rfl⟩) ⟨0, 6, _, _, fm_at0 _ _ _ _ _, rfl, rfl⟩ rfl (Nat.le_of_ble_eq_true rfl) dX6_file_125 ⟨Nat.zero_le _, Nat.zero_le _⟩ (fun v9 w9 hp9 => ?_)
              obtain ⟨rfl, rfl⟩ := hp9
              refine fj_st (st' := .int (sbw a S lw9 7) :: [.int (nI (cF a (nI p5) E7))]) rfl ?_
              refine fj_icmp_lt (tgt := 134) C dX6_file_128 (by decide) (fun h128 => ?_) (fun h128 => ?_)
              · refine fj_aload_n C 5 dX6_file_134 rfl rfl ?_
                refine fj_get (Cn := RX6) (T := TX6) (N := 44) (ci := 6) (v := .ref (bd 20)) C iX6 0 (fm_at0 _ _ _ _ _) rfl 27 (by decide) kX6_76 rfl dX6_file_135 ?_
                refine fj_aload_n C 5 dX6_file_138 rfl rfl ?_
                refine fj_get (Cn := RX6) (T := TX6) (N := 44) (ci := 6) (v := .int (n 7)) C iX6 0 (fm_at0 _ _ _ _ _) rfl 26 (by decide) kX6_206 rfl dX6_file_139 ?_
                refine fj_at (y := nI E7) hn7 ?_
                refine fj_iload_n C 6 dX6_file_142 rfl rfl ?_
                refine fj_iast (f := (a 20)) C 20 (fm_at20 _ _ _ _ _) (vp_in_nI (by omega) (by decide)) dX6_file_143 (fm_st20 _ _ _ _ _ _) ?_
                refine fj_ws (ws' := (fm_w bd ty (va_up a 20 (upd (a 20) E7 (nI k))) g n)) (by rw [nI_clamp (by omega)]) ?_
                refine fj_aload_n C 5 dX6_file_144 rfl rfl ?_
                refine fj_get (Cn := RX6) (T := TX6) (N := 44) (ci := 6) (v := .ref (bd 21)) C iX6 0 (fm_at0 _ _ _ _ _) rfl 28 (by decide) kX6_79 rfl dX6_file_145 ?_
                refine fj_aload_n C 5 dX6_file_148 rfl rfl ?_
                refine fj_get (Cn := RX6) (T := TX6) (N := 44) (ci := 6) (v := .int (n 7)) C iX6 0 (fm_at0 _ _ _ _ _) rfl 26 (by decide) kX6_206 rfl dX6_file_149 ?_
                refine fj_at (y := nI E7) hn7 ?_
                refine fj_aload_n C 5 dX6_file_152 rfl rfl ?_
                refine fj_get (Cn := RX6) (T := TX6) (N := 44) (ci := 6) (v := .int (n 8)) C iX6 0 (fm_at0 _ _ _ _ _) rfl 36 (by decide) kX6_212 rfl dX6_file_153 ?_
                refine fj_at (y := nI W8) hn8 ?_
                refine fj_iast (f := (a 21)) C 21 (fm_at21 _ _ _ _ _) (vp_in_nI (by omega) (by decide)) dX6_file_156 (fm_st21 _ _ _ _ _ _) ?_
                refine fj_ws (ws' := (fm_w bd ty (va_up (va_up a 20 (upd (a 20) E7 (nI k))) 21 (upd (a 21) E7 (nI W8))) g n)) (by rw [nI_clamp (by omega)]) ?_
                refine fj_aload_n C 5 dX6_file_157 rfl rfl ?_
                refine fj_get (Cn := RX6) (T := TX6) (N := 44) (ci := 6) (v := .ref (bd 22)) C iX6 0 (fm_at0 _ _ _ _ _) rfl 29 (by decide) kX6_82 rfl dX6_file_158 ?_
                refine fj_aload_n C 5 dX6_file_161 rfl rfl ?_
                refine fj_get (Cn := RX6) (T := TX6) (N := 44) (ci := 6) (v := .int (n 7)) C iX6 0 (fm_at0 _ _ _ _ _) rfl 26 (by decide) kX6_206 rfl dX6_file_162 ?_
                refine fj_at (y := nI E7) hn7 ?_
                refine fj_iload_n C 4 dX6_file_165 rfl rfl ?_
                refine fj_iast (f := (a 22)) C 22 (fm_at22 _ _ _ _ _) (vp_in_nI (by omega) (by decide)) dX6_file_166 (fm_st22 _ _ _ _ _ _) ?_
                refine fj_ws (ws' := (fm_w bd ty (va_up (va_up (va_up a 20 (upd (a 20) E7 (nI k))) 21 (upd (a 21) E7 (nI W8))) 22 (upd (a 22) E7 (nI p5))) g n)) (by rw [nI_clamp (by omega)]) ?_
                refine fj_aload_n C 5 dX6_file_167 rfl rfl ?_
                refine fj_get (Cn := RX6) (T := TX6) (N := 44) (ci := 6) (v := .ref (bd 23)) C iX6 0 (fm_at0 _ _ _ _ _) rfl 30 (by decide) kX6_85 rfl dX6_file_168 ?_
                refine fj_aload_n C 5 dX6_file_171 rfl rfl ?_
                refine fj_get (Cn := RX6) (T := TX6) (N := 44) (ci := 6) (v := .int (n 7)) C iX6 0 (fm_at0 _ _ _ _ _) rfl 26 (by decide) kX6_206 rfl dX6_file_172 ?_
                refine fj_at (y := nI E7) hn7 ?_
                refine fj_iconst (v := 1) C dX6_file_175 (by decide) ?_
                refine fj_iload_n C 4 dX6_file_176 rfl rfl ?_
                refine fj_ishl C dX6_file_177 ?_
                refine fj_iast (f := (a 23)) C 23 (fm_at23 _ _ _ _ _) (vp_in_nI (by omega) (by decide)) dX6_file_178 (fm_st23 _ _ _ _ _ _) ?_
                refine fj_ws (ws' := (fm_w bd ty (va_up (va_up (va_up (va_up a 20 (upd (a 20) E7 (nI k))) 21 (upd (a 21) E7 (nI W8))) 22 (upd (a 22) E7 (nI p5))) 23 (upd (a 23) E7 (1 <<< (nI p5 &&& 31)))) g n)) (by rw [nI_clamp (by omega)]) ?_
                refine fj_aload_n C 5 dX6_file_179 rfl rfl ?_
                refine fj_get (Cn := RX6) (T := TX6) (N := 44) (ci := 6) (v := .ref (bd 24)) C iX6 0 (fm_at0 _ _ _ _ _) rfl 31 (by decide) kX6_88 rfl dX6_file_180 ?_
                refine fj_aload_n C 5 dX6_file_183 rfl rfl ?_
                refine fj_get (Cn := RX6) (T := TX6) (N := 44) (ci := 6) (v := .int (n 7)) C iX6 0 (fm_at0 _ _ _ _ _) rfl 26 (by decide) kX6_206 rfl dX6_file_184 ?_
                refine fj_at (y := nI E7) hn7 ?_
                refine fj_iload C 1 dX6_file_187 rfl ?_
                refine fj_iast (f := (a 24)) C 24 (fm_at24 _ _ _ _ _) (vp_in_nI (by omega) (by decide)) dX6_file_189 (fm_st24 _ _ _ _ _ _) ?_
                refine fj_ws (ws' := (fm_w bd ty (va_up (va_up (va_up (va_up (va_up a 20 (upd (a 20) E7 (nI k))) 21 (upd (a 21) E7 (nI W8))) 22 (upd (a 22) E7 (nI p5))) 23 (upd (a 23) E7 (1 <<< (nI p5 &&& 31)))) 24 (upd (a 24) E7 lw9)) g n)) (by rw [nI_clamp (by omega)]) ?_
                refine fj_aload_n C 5 dX6_file_190 rfl rfl ?_
                refine fj_get (Cn := RX6) (T := TX6) (N := 44) (ci := 6) (v := .ref (bd 25)) C iX6 0 (fm_at0 _ _ _ _ _) rfl 32 (by decide) kX6_91 rfl dX6_file_191 ?_
                refine fj_aload_n C 5 dX6_file_194 rfl rfl ?_
                refine fj_get (Cn := RX6) (T := TX6) (N := 44) (ci := 6) (v := .int (n 7)) C iX6 0 (fm_at0 _ _ _ _ _) rfl 26 (by decide) kX6_206 rfl dX6_file_195 ?_
                refine fj_at (y := nI E7) hn7 ?_
                refine fj_iconst (v := 1) C dX6_file_198 (by decide) ?_
                refine fj_iast (f := (a 25)) C 25 (fm_at25 _ _ _ _ _) (vp_in_nI (by omega) (by decide)) dX6_file_199 (fm_st25 _ _ _ _ _ _) ?_
                refine fj_ws (ws' := (fm_w bd ty (va_up (va_up (va_up (va_up (va_up (va_up a 20 (upd (a 20) E7 (nI k))) 21 (upd (a 21) E7 (nI W8))) 22 (upd (a 22) E7 (nI p5))) 23 (upd (a 23) E7 (1 <<< (nI p5 &&& 31)))) 24 (upd (a 24) E7 lw9)) 25 (upd (a 25) E7 1)) g n)) (by rw [nI_clamp (by omega)]) ?_
                refine fj_aload_n C 5 dX6_file_200 rfl rfl ?_
                refine fj_get (Cn := RX6) (T := TX6) (N := 44) (ci := 6) (v := .ref (bd 26)) C iX6 0 (fm_at0 _ _ _ _ _) rfl 33 (by decide) kX6_94 rfl dX6_file_201 ?_
                refine fj_aload_n C 5 dX6_file_204 rfl rfl ?_
                refine fj_get (Cn := RX6) (T := TX6) (N := 44) (ci := 6) (v := .int (n 7)) C iX6 0 (fm_at0 _ _ _ _ _) rfl 26 (by decide) kX6_206 rfl dX6_file_205 ?_
                refine fj_at (y := nI E7) hn7 ?_
                refine fj_iconst (v := 0) C dX6_file_208 (by decide) ?_
                refine fj_iast (f := (a 26)) C 26 (fm_at26 _ _ _ _ _) (vp_in_nI (by omega) (by decide)) dX6_file_209 (fm_st26 _ _ _ _ _ _) ?_
                refine fj_ws (ws' := (fm_w bd ty (va_up (va_up (va_up (va_up (va_up (va_up (va_up a 20 (upd (a 20) E7 (nI k))) 21 (upd (a 21) E7 (nI W8))) 22 (upd (a 22) E7 (nI p5))) 23 (upd (a 23) E7 (1 <<< (nI p5 &&& 31)))) 24 (upd (a 24) E7 lw9)) 25 (upd (a 25) E7 1)) 26 (upd (a 26) E7 0)) g n)) (by rw [nI_clamp (by omega)]) ?_
                refine fj_aload_n C 5 dX6_file_210 rfl rfl ?_
                refine fj_dup C dX6_file_211 rfl ?_
                refine fj_get (Cn := RX6) (T := TX6) (N := 44) (ci := 6) (v := .int (n 7)) C iX6 0 (fm_at0 _ _ _ _ _) rfl 26 (by decide) kX6_206 rfl dX6_file_212 ?_
                refine fj_at (y := nI E7) hn7 ?_
                refine fj_iconst (v := 1) C dX6_file_215 (by decide) ?_
                refine fj_iadd C dX6_file_216 ?_
                refine fj_at (y := nI (E7 + 1)) (nI_1 E7) ?_
                refine fj_put (Cn := RX6) (T := TX6) (N := 44) (ci := 6) C iX6 tyX6 tyX6_ok nmX6 0 (fm_at0 _ _ _ _ _) rfl 26 (by decide) kX6_206 rfl rfl rfl (Nat.le_of_ble_eq_true rfl) dX6_file_217 (fm_si0_26 _ _ _ _ _ _) ?_
                refine fj_iconst (v := 0) C dX6_file_220 (by decide) ?_
                exact fj_iret C E9 dX6_file_221 (by
      have hc : MFc a n S E7 k q5 p5 = 0 := by rw [MFc, ← e_lw9, MFd, if_neg (Int32.not_lt.mpr h46), if_neg (Int32.not_lt.mpr h59), if_neg hr, if_neg (not_not_intro h87), ← e_pf9, if_neg hpf, if_neg (Int32.not_le.mpr h128)]
      exact ⟨by rw [hc], by rw [if_pos hc, ← e_lw9]; rfl⟩)
              · refine fj_bipush (v := 7) C dX6_file_131 (by decide) ?_
                exact fj_iret C E9 dX6_file_133 (by
      have hc : MFc a n S E7 k q5 p5 = 7 := by rw [MFc, ← e_lw9, MFd, if_neg (Int32.not_lt.mpr h46), if_neg (Int32.not_lt.mpr h59), if_neg hr, if_neg (not_not_intro h87), ← e_pf9, if_neg hpf, if_pos (Int32.not_lt.mp h128)]
      exact ⟨by rw [hc], by rw [hc, if_neg (by decide : ¬ (7 : Int32) = 0)]⟩)
            · refine fj_bipush (v := 6) C dX6_file_112 (by decide) ?_
              exact fj_iret C E9 dX6_file_114 (by
      have hc : MFc a n S E7 k q5 p5 = 6 := by rw [MFc, ← e_lw9, MFd, if_neg (Int32.not_lt.mpr h46), if_neg (Int32.not_lt.mpr h59), if_neg hr, if_neg (not_not_intro h87), ← e_pf9, if_pos ⟨h103, h109⟩]
      exact ⟨by rw [hc], by rw [hc, if_neg (by decide : ¬ (6 : Int32) = 0)]⟩)
        · refine fj_iconst (v := 5) C dX6_file_90 (by decide) ?_
          exact fj_iret C E9 dX6_file_91 (by
      have hc : MFc a n S E7 k q5 p5 = 5 := by rw [MFc, ← e_lw9, MFd, if_neg (Int32.not_lt.mpr h46), if_neg (Int32.not_lt.mpr h59), if_neg hr, if_pos h87]
      exact ⟨by rw [hc], by rw [hc, if_neg (by decide : ¬ (5 : Int32) = 0)]⟩)
      · refine fj_iload C 1 dX6_file_71 rfl ?_
        refine fj_aload_n C 4 dX6_file_73 rfl rfl ?_
        refine fj_get (Cn := RX6) (T := TX6) (N := 44) (ci := 6) (v := .int (n 1)) C iX6 0 (fm_at0 _ _ _ _ _) rfl 3 (by decide) kX6_16 rfl dX6_file_74 ?_
        refine fj_icmp_lt (tgt := 82) C dX6_file_77 (by decide) (fun h77 => ?_) (fun h77 => ?_)
        · have hr : ¬ ((q5 % 8 / 2 + q5 / 8 / 2) % 2 = 1 ∧ n 1 ≤ a 8 k) := by first | exact fun z => h68 z.1 | exact fun z => absurd h77 (Int32.not_lt.mpr z.2)
          refine fj_aload_n C 4 dX6_file_82 rfl rfl ?_
          refine fj_iload_n C 2 dX6_file_83 rfl rfl ?_
          refine fj_callVw (As := [.int (nI q5)]) (rest := []) C (d_X6_entryOf l D ty t0 bd a g n P S T B I M6 E7 W8 Y (nI q5)) (cwV 1 C.2.2.2.2.1 gX6_file_X6_entryOf rfl rfl rfl (by decide +kernel) ⟨Nat.le_of_ble_eq_true rfl, Nat.le_of_ble_eq_true rfl⟩) ⟨0, 6, _, _, fm_at0 _ _ _ _ _, rfl, rfl⟩ rfl (Nat.le_of_ble_eq_true rfl) dX6_file_84 ⟨Nat.zero_le _, Nat.zero_le _⟩ (fun v9 w9 hp9 => ?_)
          obtain ⟨rfl, rfl⟩ := hp9
          refine fj_st (st' := .int (enO a (nI q5) E7) :: []) rfl ?_
          refine fj_if_lt (tgt := 92) C dX6_file_87 (by decide) (fun h87 => ?_) (fun h87 => ?_)
          · refine fj_aload_n C 4 dX6_file_92 rfl rfl ?_
            refine fj_iload_n C 2 dX6_file_93 rfl rfl ?_
            refine fj_iload C 1 dX6_file_94 rfl ?_
            refine fj_callVw (As := [.int (nI q5), .int (a 8 k)]) (rest := []) C (d_X6_preferredOn l D ty t0 bd a g n (nI q5) (a 8 k) q5 rfl hq5) (cwV 2 C.2.2.2.2.1 gX6_file_X6_preferredOn rfl rfl rfl (by decide +kernel) ⟨Nat.le_of_ble_eq_true rfl, Nat.le_of_ble_eq_true rfl⟩) ⟨0, 6, _, _, fm_at0 _ _ _ _ _, rfl, rfl⟩ rfl (Nat.le_of_ble_eq_true rfl) dX6_file_96 ⟨Nat.zero_le _, Nat.zero_le _⟩ (fun v9 w9 hp9 => ?_)
            obtain ⟨rfl, rfl⟩ := hp9
            refine fj_st (st' := .int (PFM a q5 (a 8 k)) :: []) rfl ?_
            refine fj_topi (fun pf9 e_pf9 => ?_)
            refine fj_istore (lv' := [(6, .int pf9), (5, .int lw9), (4, .int (a 8 k)), (3, .int (nI q5)), (2, .int (nI p5)), (0, .ref (bd 0)), (1, .int (nI k))]) C dX6_file_99 (by decide) rfl ?_
            refine fj_iload C 0 dX6_file_101 rfl ?_
            refine fj_if_lt (tgt := 115) C dX6_file_103 (by decide) (fun h103 => ?_) (fun h103 => ?_)
            · have hpf : ¬ (¬ pf9 < 0 ∧ ¬ pf9 = nI p5) := by first | exact fun z => z.1 h103 | exact fun z => z.2 h109
              refine fj_aload_n C 5 dX6_file_115 rfl rfl ?_
              refine fj_iload_n C 4 dX6_file_116 rfl rfl ?_
              refine fj_callVw (As := [.int (nI p5)]) (rest := []) C (d_X6_filedBy l D ty t0 bd a g n P S T B I M6 E7 W8 Y (nI p5)) (cwV 1 C.2.2.2.2.1 gX6_file_X6_filedBy rfl rfl rfl (by decide +kernel) ⟨Nat.le_of_ble_eq_true rfl, Nat.le_of_ble_eq_true rfl⟩) ⟨0, 6, _, _, fm_at0 _ _ _ _ _, rfl, rfl⟩ rfl (Nat.le_of_ble_eq_true rfl) dX6_file_117 ⟨Nat.zero_le _, Nat.zero_le _⟩ (fun v9 w9 hp9 => ?_)
              obtain ⟨rfl, rfl⟩ := hp9
              refine fj_st (st' := .int (nI (cF a (nI p5) E7)) :: []) rfl ?_
              refine fj_aload_n C 5 dX6_file_120 rfl rfl ?_
              refine fj_iload C 1 dX6_file_121 rfl ?_
              refine fj_bipush (v := 7) C dX6_file_123 (by decide) ?_
              refine fj_callVw (As := [.int lw9, .int 7]) (rest := [.int (nI (cF a (nI p5) E7))]) C (d_X6_setBy l D ty t0 bd a g n P S T B I lw9 7 (by rw [e_lw9]; exact lfo_in a _ S) 7 rfl (by decide)) (cwV 2 C.2.2.2.2.1 gX6_file_X6_setBy rfl rfl rfl (by decide +kernel) ⟨Nat.le_of_ble_eq_true rfl, Nat.le_of_ble_eq_true rfl⟩) ⟨0, 6, _, _, fm_at0 _ _ _ _ _, rfl, rfl⟩ rfl (Nat.le_of_ble_eq_true rfl) dX6_file_125 ⟨Nat.zero_le _, Nat.zero_le _⟩ (fun v9 w9 hp9 => ?_)
              obtain ⟨rfl, rfl⟩ := hp9
              refine fj_st (st' := .int (sbw a S lw9 7) :: [.int (nI (cF a (nI p5) E7))]) rfl ?_
              refine fj_icmp_lt (tgt := 134) C dX6_file_128 (by decide) (fun h128 => ?_) (fun h128 => ?_)
              · refine fj_aload_n C 5 dX6_file_134 rfl rfl ?_
                refine fj_get (Cn := RX6) (T := TX6) (N := 44) (ci := 6) (v := .ref (bd 20)) C iX6 0 (fm_at0 _ _ _ _ _) rfl 27 (by decide) kX6_76 rfl dX6_file_135 ?_
                refine fj_aload_n C 5 dX6_file_138 rfl rfl ?_
                refine fj_get (Cn := RX6) (T := TX6) (N := 44) (ci := 6) (v := .int (n 7)) C iX6 0 (fm_at0 _ _ _ _ _) rfl 26 (by decide) kX6_206 rfl dX6_file_139 ?_
                refine fj_at (y := nI E7) hn7 ?_
                refine fj_iload_n C 6 dX6_file_142 rfl rfl ?_
                refine fj_iast (f := (a 20)) C 20 (fm_at20 _ _ _ _ _) (vp_in_nI (by omega) (by decide)) dX6_file_143 (fm_st20 _ _ _ _ _ _) ?_
                refine fj_ws (ws' := (fm_w bd ty (va_up a 20 (upd (a 20) E7 (nI k))) g n)) (by rw [nI_clamp (by omega)]) ?_
                refine fj_aload_n C 5 dX6_file_144 rfl rfl ?_
                refine fj_get (Cn := RX6) (T := TX6) (N := 44) (ci := 6) (v := .ref (bd 21)) C iX6 0 (fm_at0 _ _ _ _ _) rfl 28 (by decide) kX6_79 rfl dX6_file_145 ?_
                refine fj_aload_n C 5 dX6_file_148 rfl rfl ?_
                refine fj_get (Cn := RX6) (T := TX6) (N := 44) (ci := 6) (v := .int (n 7)) C iX6 0 (fm_at0 _ _ _ _ _) rfl 26 (by decide) kX6_206 rfl dX6_file_149 ?_
                refine fj_at (y := nI E7) hn7 ?_
                refine fj_aload_n C 5 dX6_file_152 rfl rfl ?_
                refine fj_get (Cn := RX6) (T := TX6) (N := 44) (ci := 6) (v := .int (n 8)) C iX6 0 (fm_at0 _ _ _ _ _) rfl 36 (by decide) kX6_212 rfl dX6_file_153 ?_
                refine fj_at (y := nI W8) hn8 ?_
                refine fj_iast (f := (a 21)) C 21 (fm_at21 _ _ _ _ _) (vp_in_nI (by omega) (by decide)) dX6_file_156 (fm_st21 _ _ _ _ _ _) ?_
                refine fj_ws (ws' := (fm_w bd ty (va_up (va_up a 20 (upd (a 20) E7 (nI k))) 21 (upd (a 21) E7 (nI W8))) g n)) (by rw [nI_clamp (by omega)]) ?_
                refine fj_aload_n C 5 dX6_file_157 rfl rfl ?_
                refine fj_get (Cn := RX6) (T := TX6) (N := 44) (ci := 6) (v := .ref (bd 22)) C iX6 0 (fm_at0 _ _ _ _ _) rfl 29 (by decide) kX6_82 rfl dX6_file_158 ?_
                refine fj_aload_n C 5 dX6_file_161 rfl rfl ?_
                refine fj_get (Cn := RX6) (T := TX6) (N := 44) (ci := 6) (v := .int (n 7)) C iX6 0 (fm_at0 _ _ _ _ _) rfl 26 (by decide) kX6_206 rfl dX6_file_162 ?_
                refine fj_at (y := nI E7) hn7 ?_
                refine fj_iload_n C 4 dX6_file_165 rfl rfl ?_
                refine fj_iast (f := (a 22)) C 22 (fm_at22 _ _ _ _ _) (vp_in_nI (by omega) (by decide)) dX6_file_166 (fm_st22 _ _ _ _ _ _) ?_
                refine fj_ws (ws' := (fm_w bd ty (va_up (va_up (va_up a 20 (upd (a 20) E7 (nI k))) 21 (upd (a 21) E7 (nI W8))) 22 (upd (a 22) E7 (nI p5))) g n)) (by rw [nI_clamp (by omega)]) ?_
                refine fj_aload_n C 5 dX6_file_167 rfl rfl ?_
                refine fj_get (Cn := RX6) (T := TX6) (N := 44) (ci := 6) (v := .ref (bd 23)) C iX6 0 (fm_at0 _ _ _ _ _) rfl 30 (by decide) kX6_85 rfl dX6_file_168 ?_
                refine fj_aload_n C 5 dX6_file_171 rfl rfl ?_
                refine fj_get (Cn := RX6) (T := TX6) (N := 44) (ci := 6) (v := .int (n 7)) C iX6 0 (fm_at0 _ _ _ _ _) rfl 26 (by decide) kX6_206 rfl dX6_file_172 ?_
                refine fj_at (y := nI E7) hn7 ?_
                refine fj_iconst (v := 1) C dX6_file_175 (by decide) ?_
                refine fj_iload_n C 4 dX6_file_176 rfl rfl ?_
                refine fj_ishl C dX6_file_177 ?_
                refine fj_iast (f := (a 23)) C 23 (fm_at23 _ _ _ _ _) (vp_in_nI (by omega) (by decide)) dX6_file_178 (fm_st23 _ _ _ _ _ _) ?_
                refine fj_ws (ws' := (fm_w bd ty (va_up (va_up (va_up (va_up a 20 (upd (a 20) E7 (nI k))) 21 (upd (a 21) E7 (nI W8))) 22 (upd (a 22) E7 (nI p5))) 23 (upd (a 23) E7 (1 <<< (nI p5 &&& 31)))) g n)) (by rw [nI_clamp (by omega)]) ?_
                refine fj_aload_n C 5 dX6_file_179 rfl rfl ?_
                refine fj_get (Cn := RX6) (T := TX6) (N := 44) (ci := 6) (v := .ref (bd 24)) C iX6 0 (fm_at0 _ _ _ _ _) rfl 31 (by decide) kX6_88 rfl dX6_file_180 ?_
                refine fj_aload_n C 5 dX6_file_183 rfl rfl ?_
                refine fj_get (Cn := RX6) (T := TX6) (N := 44) (ci := 6) (v := .int (n 7)) C iX6 0 (fm_at0 _ _ _ _ _) rfl 26 (by decide) kX6_206 rfl dX6_file_184 ?_
                refine fj_at (y := nI E7) hn7 ?_
                refine fj_iload C 1 dX6_file_187 rfl ?_
                refine fj_iast (f := (a 24)) C 24 (fm_at24 _ _ _ _ _) (vp_in_nI (by omega) (by decide)) dX6_file_189 (fm_st24 _ _ _ _ _ _) ?_
                refine fj_ws (ws' := (fm_w bd ty (va_up (va_up (va_up (va_up (va_up a 20 (upd (a 20) E7 (nI k))) 21 (upd (a 21) E7 (nI W8))) 22 (upd (a 22) E7 (nI p5))) 23 (upd (a 23) E7 (1 <<< (nI p5 &&& 31)))) 24 (upd (a 24) E7 lw9)) g n)) (by rw [nI_clamp (by omega)]) ?_
                refine fj_aload_n C 5 dX6_file_190 rfl rfl ?_
                refine fj_get (Cn := RX6) (T := TX6) (N := 44) (ci := 6) (v := .ref (bd 25)) C iX6 0 (fm_at0 _ _ _ _ _) rfl 32 (by decide) kX6_91 rfl dX6_file_191 ?_
                refine fj_aload_n C 5 dX6_file_194 rfl rfl ?_
                refine fj_get (Cn := RX6) (T := TX6) (N := 44) (ci := 6) (v := .int (n 7)) C iX6 0 (fm_at0 _ _ _ _ _) rfl 26 (by decide) kX6_206 rfl dX6_file_195 ?_
                refine fj_at (y := nI E7) hn7 ?_
                refine fj_iconst (v := 1) C dX6_file_198 (by decide) ?_
                refine fj_iast (f := (a 25)) C 25 (fm_at25 _ _ _ _ _) (vp_in_nI (by omega) (by decide)) dX6_file_199 (fm_st25 _ _ _ _ _ _) ?_
                refine fj_ws (ws' := (fm_w bd ty (va_up (va_up (va_up (va_up (va_up (va_up a 20 (upd (a 20) E7 (nI k))) 21 (upd (a 21) E7 (nI W8))) 22 (upd (a 22) E7 (nI p5))) 23 (upd (a 23) E7 (1 <<< (nI p5 &&& 31)))) 24 (upd (a 24) E7 lw9)) 25 (upd (a 25) E7 1)) g n)) (by rw [nI_clamp (by omega)]) ?_
                refine fj_aload_n C 5 dX6_file_200 rfl rfl ?_
                refine fj_get (Cn := RX6) (T := TX6) (N := 44) (ci := 6) (v := .ref (bd 26)) C iX6 0 (fm_at0 _ _ _ _ _) rfl 33 (by decide) kX6_94 rfl dX6_file_201 ?_
                refine fj_aload_n C 5 dX6_file_204 rfl rfl ?_
                refine fj_get (Cn := RX6) (T := TX6) (N := 44) (ci := 6) (v := .int (n 7)) C iX6 0 (fm_at0 _ _ _ _ _) rfl 26 (by decide) kX6_206 rfl dX6_file_205 ?_
                refine fj_at (y := nI E7) hn7 ?_
                refine fj_iconst (v := 0) C dX6_file_208 (by decide) ?_
                refine fj_iast (f := (a 26)) C 26 (fm_at26 _ _ _ _ _) (vp_in_nI (by omega) (by decide)) dX6_file_209 (fm_st26 _ _ _ _ _ _) ?_
                refine fj_ws (ws' := (fm_w bd ty (va_up (va_up (va_up (va_up (va_up (va_up (va_up a 20 (upd (a 20) E7 (nI k))) 21 (upd (a 21) E7 (nI W8))) 22 (upd (a 22) E7 (nI p5))) 23 (upd (a 23) E7 (1 <<< (nI p5 &&& 31)))) 24 (upd (a 24) E7 lw9)) 25 (upd (a 25) E7 1)) 26 (upd (a 26) E7 0)) g n)) (by rw [nI_clamp (by omega)]) ?_
                refine fj_aload_n C 5 dX6_file_210 rfl rfl ?_
                refine fj_dup C dX6_file_211 rfl ?_
                refine fj_get (Cn := RX6) (T := TX6) (N := 44) (ci := 6) (v := .int (n 7)) C iX6 0 (fm_at0 _ _ _ _ _) rfl 26 (by decide) kX6_206 rfl dX6_file_212 ?_
                refine fj_at (y := nI E7) hn7 ?_
                refine fj_iconst (v := 1) C dX6_file_215 (by decide) ?_
                refine fj_iadd C dX6_file_216 ?_
                refine fj_at (y := nI (E7 + 1)) (nI_1 E7) ?_
                refine fj_put (Cn := RX6) (T := TX6) (N := 44) (ci := 6) C iX6 tyX6 tyX6_ok nmX6 0 (fm_at0 _ _ _ _ _) rfl 26 (by decide) kX6_206 rfl rfl rfl (Nat.le_of_ble_eq_true rfl) dX6_file_217 (fm_si0_26 _ _ _ _ _ _) ?_
                refine fj_iconst (v := 0) C dX6_file_220 (by decide) ?_
                exact fj_iret C E9 dX6_file_221 (by
      have hc : MFc a n S E7 k q5 p5 = 0 := by rw [MFc, ← e_lw9, MFd, if_neg (Int32.not_lt.mpr h46), if_neg (Int32.not_lt.mpr h59), if_neg hr, if_neg (not_not_intro h87), ← e_pf9, if_neg hpf, if_neg (Int32.not_le.mpr h128)]
      exact ⟨by rw [hc], by rw [if_pos hc, ← e_lw9]; rfl⟩)
              · refine fj_bipush (v := 7) C dX6_file_131 (by decide) ?_
                exact fj_iret C E9 dX6_file_133 (by
      have hc : MFc a n S E7 k q5 p5 = 7 := by rw [MFc, ← e_lw9, MFd, if_neg (Int32.not_lt.mpr h46), if_neg (Int32.not_lt.mpr h59), if_neg hr, if_neg (not_not_intro h87), ← e_pf9, if_neg hpf, if_pos (Int32.not_lt.mp h128)]
      exact ⟨by rw [hc], by rw [hc, if_neg (by decide : ¬ (7 : Int32) = 0)]⟩)
            · refine fj_iload C 0 dX6_file_106 rfl ?_
              refine fj_iload_n C 4 dX6_file_108 rfl rfl ?_
              refine fj_icmp_eq (tgt := 115) C dX6_file_109 (by decide) (fun h109 => ?_) (fun h109 => ?_)
              · have hpf : ¬ (¬ pf9 < 0 ∧ ¬ pf9 = nI p5) := by first | exact fun z => z.1 h103 | exact fun z => z.2 h109
                refine fj_aload_n C 5 dX6_file_115 rfl rfl ?_
                refine fj_iload_n C 4 dX6_file_116 rfl rfl ?_
                refine fj_callVw (As := [.int (nI p5)]) (rest := []) C (d_X6_filedBy l D ty t0 bd a g n P S T B I M6 E7 W8 Y (nI p5)) (cwV 1 C.2.2.2.2.1 gX6_file_X6_filedBy rfl rfl rfl (by decide +kernel) ⟨Nat.le_of_ble_eq_true rfl, Nat.le_of_ble_eq_true rfl⟩) ⟨0, 6, _, _, fm_at0 _ _ _ _ _, rfl, rfl⟩ rfl (Nat.le_of_ble_eq_true rfl) dX6_file_117 ⟨Nat.zero_le _, Nat.zero_le _⟩ (fun v9 w9 hp9 => ?_)
                obtain ⟨rfl, rfl⟩ := hp9
                refine fj_st (st' := .int (nI (cF a (nI p5) E7)) :: []) rfl ?_
                refine fj_aload_n C 5 dX6_file_120 rfl rfl ?_
                refine fj_iload C 1 dX6_file_121 rfl ?_
                refine fj_bipush (v := 7) C dX6_file_123 (by decide) ?_
                refine fj_callVw (As := [.int lw9, .int 7]) (rest := [.int (nI (cF a (nI p5) E7))]) C (d_X6_setBy l D ty t0 bd a g n P S T B I lw9 7 (by rw [e_lw9]; exact lfo_in a _ S) 7 rfl (by decide)) (cwV 2 C.2.2.2.2.1 gX6_file_X6_setBy rfl rfl rfl (by decide +kernel) ⟨Nat.le_of_ble_eq_true rfl, Nat.le_of_ble_eq_true rfl⟩) ⟨0, 6, _, _, fm_at0 _ _ _ _ _, rfl, rfl⟩ rfl (Nat.le_of_ble_eq_true rfl) dX6_file_125 ⟨Nat.zero_le _, Nat.zero_le _⟩ (fun v9 w9 hp9 => ?_)
                obtain ⟨rfl, rfl⟩ := hp9
                refine fj_st (st' := .int (sbw a S lw9 7) :: [.int (nI (cF a (nI p5) E7))]) rfl ?_
                refine fj_icmp_lt (tgt := 134) C dX6_file_128 (by decide) (fun h128 => ?_) (fun h128 => ?_)
                · refine fj_aload_n C 5 dX6_file_134 rfl rfl ?_
                  refine fj_get (Cn := RX6) (T := TX6) (N := 44) (ci := 6) (v := .ref (bd 20)) C iX6 0 (fm_at0 _ _ _ _ _) rfl 27 (by decide) kX6_76 rfl dX6_file_135 ?_
                  refine fj_aload_n C 5 dX6_file_138 rfl rfl ?_
                  refine fj_get (Cn := RX6) (T := TX6) (N := 44) (ci := 6) (v := .int (n 7)) C iX6 0 (fm_at0 _ _ _ _ _) rfl 26 (by decide) kX6_206 rfl dX6_file_139 ?_
                  refine fj_at (y := nI E7) hn7 ?_
                  refine fj_iload_n C 6 dX6_file_142 rfl rfl ?_
                  refine fj_iast (f := (a 20)) C 20 (fm_at20 _ _ _ _ _) (vp_in_nI (by omega) (by decide)) dX6_file_143 (fm_st20 _ _ _ _ _ _) ?_
                  refine fj_ws (ws' := (fm_w bd ty (va_up a 20 (upd (a 20) E7 (nI k))) g n)) (by rw [nI_clamp (by omega)]) ?_
                  refine fj_aload_n C 5 dX6_file_144 rfl rfl ?_
                  refine fj_get (Cn := RX6) (T := TX6) (N := 44) (ci := 6) (v := .ref (bd 21)) C iX6 0 (fm_at0 _ _ _ _ _) rfl 28 (by decide) kX6_79 rfl dX6_file_145 ?_
                  refine fj_aload_n C 5 dX6_file_148 rfl rfl ?_
                  refine fj_get (Cn := RX6) (T := TX6) (N := 44) (ci := 6) (v := .int (n 7)) C iX6 0 (fm_at0 _ _ _ _ _) rfl 26 (by decide) kX6_206 rfl dX6_file_149 ?_
                  refine fj_at (y := nI E7) hn7 ?_
                  refine fj_aload_n C 5 dX6_file_152 rfl rfl ?_
                  refine fj_get (Cn := RX6) (T := TX6) (N := 44) (ci := 6) (v := .int (n 8)) C iX6 0 (fm_at0 _ _ _ _ _) rfl 36 (by decide) kX6_212 rfl dX6_file_153 ?_
                  refine fj_at (y := nI W8) hn8 ?_
                  refine fj_iast (f := (a 21)) C 21 (fm_at21 _ _ _ _ _) (vp_in_nI (by omega) (by decide)) dX6_file_156 (fm_st21 _ _ _ _ _ _) ?_
                  refine fj_ws (ws' := (fm_w bd ty (va_up (va_up a 20 (upd (a 20) E7 (nI k))) 21 (upd (a 21) E7 (nI W8))) g n)) (by rw [nI_clamp (by omega)]) ?_
                  refine fj_aload_n C 5 dX6_file_157 rfl rfl ?_
                  refine fj_get (Cn := RX6) (T := TX6) (N := 44) (ci := 6) (v := .ref (bd 22)) C iX6 0 (fm_at0 _ _ _ _ _) rfl 29 (by decide) kX6_82 rfl dX6_file_158 ?_
                  refine fj_aload_n C 5 dX6_file_161 rfl rfl ?_
                  refine fj_get (Cn := RX6) (T := TX6) (N := 44) (ci := 6) (v := .int (n 7)) C iX6 0 (fm_at0 _ _ _ _ _) rfl 26 (by decide) kX6_206 rfl dX6_file_162 ?_
                  refine fj_at (y := nI E7) hn7 ?_
                  refine fj_iload_n C 4 dX6_file_165 rfl rfl ?_
                  refine fj_iast (f := (a 22)) C 22 (fm_at22 _ _ _ _ _) (vp_in_nI (by omega) (by decide)) dX6_file_166 (fm_st22 _ _ _ _ _ _) ?_
                  refine fj_ws (ws' := (fm_w bd ty (va_up (va_up (va_up a 20 (upd (a 20) E7 (nI k))) 21 (upd (a 21) E7 (nI W8))) 22 (upd (a 22) E7 (nI p5))) g n)) (by rw [nI_clamp (by omega)]) ?_
                  refine fj_aload_n C 5 dX6_file_167 rfl rfl ?_
                  refine fj_get (Cn := RX6) (T := TX6) (N := 44) (ci := 6) (v := .ref (bd 23)) C iX6 0 (fm_at0 _ _ _ _ _) rfl 30 (by decide) kX6_85 rfl dX6_file_168 ?_
                  refine fj_aload_n C 5 dX6_file_171 rfl rfl ?_
                  refine fj_get (Cn := RX6) (T := TX6) (N := 44) (ci := 6) (v := .int (n 7)) C iX6 0 (fm_at0 _ _ _ _ _) rfl 26 (by decide) kX6_206 rfl dX6_file_172 ?_
                  refine fj_at (y := nI E7) hn7 ?_
                  refine fj_iconst (v := 1) C dX6_file_175 (by decide) ?_
                  refine fj_iload_n C 4 dX6_file_176 rfl rfl ?_
                  refine fj_ishl C dX6_file_177 ?_
                  refine fj_iast (f := (a 23)) C 23 (fm_at23 _ _ _ _ _) (vp_in_nI (by omega) (by decide)) dX6_file_178 (fm_st23 _ _ _ _ _ _) ?_
                  refine fj_ws (ws' := (fm_w bd ty (va_up (va_up (va_up (va_up a 20 (upd (a 20) E7 (nI k))) 21 (upd (a 21) E7 (nI W8))) 22 (upd (a 22) E7 (nI p5))) 23 (upd (a 23) E7 (1 <<< (nI p5 &&& 31)))) g n)) (by rw [nI_clamp (by omega)]) ?_
                  refine fj_aload_n C 5 dX6_file_179 rfl rfl ?_
                  refine fj_get (Cn := RX6) (T := TX6) (N := 44) (ci := 6) (v := .ref (bd 24)) C iX6 0 (fm_at0 _ _ _ _ _) rfl 31 (by decide) kX6_88 rfl dX6_file_180 ?_
                  refine fj_aload_n C 5 dX6_file_183 rfl rfl ?_
                  refine fj_get (Cn := RX6) (T := TX6) (N := 44) (ci := 6) (v := .int (n 7)) C iX6 0 (fm_at0 _ _ _ _ _) rfl 26 (by decide) kX6_206 rfl dX6_file_184 ?_
                  refine fj_at (y := nI E7) hn7 ?_
                  refine fj_iload C 1 dX6_file_187 rfl ?_
                  refine fj_iast (f := (a 24)) C 24 (fm_at24 _ _ _ _ _) (vp_in_nI (by omega) (by decide)) dX6_file_189 (fm_st24 _ _ _ _ _ _) ?_
                  refine fj_ws (ws' := (fm_w bd ty (va_up (va_up (va_up (va_up (va_up a 20 (upd (a 20) E7 (nI k))) 21 (upd (a 21) E7 (nI W8))) 22 (upd (a 22) E7 (nI p5))) 23 (upd (a 23) E7 (1 <<< (nI p5 &&& 31)))) 24 (upd (a 24) E7 lw9)) g n)) (by rw [nI_clamp (by omega)]) ?_
                  refine fj_aload_n C 5 dX6_file_190 rfl rfl ?_
                  refine fj_get (Cn := RX6) (T := TX6) (N := 44) (ci := 6) (v := .ref (bd 25)) C iX6 0 (fm_at0 _ _ _ _ _) rfl 32 (by decide) kX6_91 rfl dX6_file_191 ?_
                  refine fj_aload_n C 5 dX6_file_194 rfl rfl ?_
                  refine fj_get (Cn := RX6) (T := TX6) (N := 44) (ci := 6) (v := .int (n 7)) C iX6 0 (fm_at0 _ _ _ _ _) rfl 26 (by decide) kX6_206 rfl dX6_file_195 ?_
                  refine fj_at (y := nI E7) hn7 ?_
                  refine fj_iconst (v := 1) C dX6_file_198 (by decide) ?_
                  refine fj_iast (f := (a 25)) C 25 (fm_at25 _ _ _ _ _) (vp_in_nI (by omega) (by decide)) dX6_file_199 (fm_st25 _ _ _ _ _ _) ?_
                  refine fj_ws (ws' := (fm_w bd ty (va_up (va_up (va_up (va_up (va_up (va_up a 20 (upd (a 20) E7 (nI k))) 21 (upd (a 21) E7 (nI W8))) 22 (upd (a 22) E7 (nI p5))) 23 (upd (a 23) E7 (1 <<< (nI p5 &&& 31)))) 24 (upd (a 24) E7 lw9)) 25 (upd (a 25) E7 1)) g n)) (by rw [nI_clamp (by omega)]) ?_
                  refine fj_aload_n C 5 dX6_file_200 rfl rfl ?_
                  refine fj_get (Cn := RX6) (T := TX6) (N := 44) (ci := 6) (v := .ref (bd 26)) C iX6 0 (fm_at0 _ _ _ _ _) rfl 33 (by decide) kX6_94 rfl dX6_file_201 ?_
                  refine fj_aload_n C 5 dX6_file_204 rfl rfl ?_
                  refine fj_get (Cn := RX6) (T := TX6) (N := 44) (ci := 6) (v := .int (n 7)) C iX6 0 (fm_at0 _ _ _ _ _) rfl 26 (by decide) kX6_206 rfl dX6_file_205 ?_
                  refine fj_at (y := nI E7) hn7 ?_
                  refine fj_iconst (v := 0) C dX6_file_208 (by decide) ?_
                  refine fj_iast (f := (a 26)) C 26 (fm_at26 _ _ _ _ _) (vp_in_nI (by omega) (by decide)) dX6_file_209 (fm_st26 _ _ _ _ _ _) ?_
                  refine fj_ws (ws' := (fm_w bd ty (va_up (va_up (va_up (va_up (va_up (va_up (va_up a 20 (upd (a 20) E7 (nI k))) 21 (upd (a 21) E7 (nI W8))) 22 (upd (a 22) E7 (nI p5))) 23 (upd (a 23) E7 (1 <<< (nI p5 &&& 31)))) 24 (upd (a 24) E7 lw9)) 25 (upd (a 25) E7 1)) 26 (upd (a 26) E7 0)) g n)) (by rw [nI_clamp (by omega)]) ?_
                  refine fj_aload_n C 5 dX6_file_210 rfl rfl ?_
                  refine fj_dup C dX6_file_211 rfl ?_
                  refine fj_get (Cn := RX6) (T := TX6) (N := 44) (ci := 6) (v := .int (n 7)) C iX6 0 (fm_at0 _ _ _ _ _) rfl 26 (by decide) kX6_206 rfl dX6_file_212 ?_
                  refine fj_at (y := nI E7) hn7 ?_
                  refine fj_iconst (v := 1) C dX6_file_215 (by decide) ?_
                  refine fj_iadd C dX6_file_216 ?_
                  refine fj_at (y := nI (E7 + 1)) (nI_1 E7) ?_
                  refine fj_put (Cn := RX6) (T := TX6) (N := 44) (ci := 6) C iX6 tyX6 tyX6_ok nmX6 0 (fm_at0 _ _ _ _ _) rfl 26 (by decide) kX6_206 rfl rfl rfl (Nat.le_of_ble_eq_true rfl) dX6_file_217 (fm_si0_26 _ _ _ _ _ _) ?_
                  refine fj_iconst (v := 0) C dX6_file_220 (by decide) ?_
                  exact fj_iret C E9 dX6_file_221 (by
      have hc : MFc a n S E7 k q5 p5 = 0 := by rw [MFc, ← e_lw9, MFd, if_neg (Int32.not_lt.mpr h46), if_neg (Int32.not_lt.mpr h59), if_neg hr, if_neg (not_not_intro h87), ← e_pf9, if_neg hpf, if_neg (Int32.not_le.mpr h128)]
      exact ⟨by rw [hc], by rw [if_pos hc, ← e_lw9]; rfl⟩)
                · refine fj_bipush (v := 7) C dX6_file_131 (by decide) ?_
                  exact fj_iret C E9 dX6_file_133 (by
      have hc : MFc a n S E7 k q5 p5 = 7 := by rw [MFc, ← e_lw9, MFd, if_neg (Int32.not_lt.mpr h46), if_neg (Int32.not_lt.mpr h59), if_neg hr, if_neg (not_not_intro h87), ← e_pf9, if_neg hpf, if_pos (Int32.not_lt.mp h128)]
      exact ⟨by rw [hc], by rw [hc, if_neg (by decide : ¬ (7 : Int32) = 0)]⟩)
              · refine fj_bipush (v := 6) C dX6_file_112 (by decide) ?_
                exact fj_iret C E9 dX6_file_114 (by
      have hc : MFc a n S E7 k q5 p5 = 6 := by rw [MFc, ← e_lw9, MFd, if_neg (Int32.not_lt.mpr h46), if_neg (Int32.not_lt.mpr h59), if_neg hr, if_neg (not_not_intro h87), ← e_pf9, if_pos ⟨h103, h109⟩]
      exact ⟨by rw [hc], by rw [hc, if_neg (by decide : ¬ (6 : Int32) = 0)]⟩)
          · refine fj_iconst (v := 5) C dX6_file_90 (by decide) ?_
            exact fj_iret C E9 dX6_file_91 (by
      have hc : MFc a n S E7 k q5 p5 = 5 := by rw [MFc, ← e_lw9, MFd, if_neg (Int32.not_lt.mpr h46), if_neg (Int32.not_lt.mpr h59), if_neg hr, if_pos h87]
      exact ⟨by rw [hc], by rw [hc, if_neg (by decide : ¬ (5 : Int32) = 0)]⟩)
        · refine fj_iconst (v := 4) C dX6_file_80 (by decide) ?_
          exact fj_iret C E9 dX6_file_81 (by
      have hc : MFc a n S E7 k q5 p5 = 4 := by rw [MFc, ← e_lw9, MFd, if_neg (Int32.not_lt.mpr h46), if_neg (Int32.not_lt.mpr h59), if_pos ⟨h68, Int32.not_lt.mp h77⟩]
      exact ⟨by rw [hc], by rw [hc, if_neg (by decide : ¬ (4 : Int32) = 0)]⟩)
    · refine fj_iconst (v := 3) C dX6_file_62 (by decide) ?_
      exact fj_iret C E9 dX6_file_63 (by
      have hc : MFc a n S E7 k q5 p5 = 3 := by rw [MFc, ← e_lw9, MFd, if_neg (Int32.not_lt.mpr h46), if_pos (Int32.not_le.mp h59)]
      exact ⟨by rw [hc], by rw [hc, if_neg (by decide : ¬ (3 : Int32) = 0)]⟩)
  · refine fj_iconst (v := 2) C dX6_file_49 (by decide) ?_
    exact fj_iret C E9 dX6_file_50 (by
      have hc : MFc a n S E7 k q5 p5 = 2 := by rw [MFc, ← e_lw9, MFd, if_pos (Int32.not_le.mp h46)]
      exact ⟨by rw [hc], by rw [hc, if_neg (by decide : ¬ (2 : Int32) = 0)]⟩)

set_option maxHeartbeats 4000000 in
set_option maxRecDepth 100000 in
theorem d_X6_giveUp (l : Launch) (D : va_G) (ty : Nat → ClassId) (t0 : Nat → Nat) (bd : Nat → Nat) (a : Nat → Nat → Int32) (g : Nat → Nat → Int64) (n : Nat → Int32) (P : Nat) (S : Nat) (T : Nat) (B : Nat) (I : YI P S T B a n) (M6 : Nat) (E7 : Nat) (W8 : Nat) (Y : YW S B M6 E7 W8 a n) (x : Int32) (k : Nat) (ek : x = nI k) (hk : k < B) (q5 : Nat) (eq5 : a 11 k = nI q5) (hq5 : q5 < 64) : fc l yX6_giveUp wsX6_giveUp (fj_rm 2 45 0 0) D ty t0 [.ref (bd 0), .int x] (fm_w bd ty a g n) 0 0 (fun v w => v = some (.int (if MGO a q5 E7 k then 0 else 8)) ∧ w = fm_w bd ty (if MGO a q5 E7 k then MGu a q5 E7 else a) g n) := by
  subst ek
  refine fc_start (own := RX6) (cc := cX6_giveUp) (maxL := 3) (ret := (some .int)) (by decide) rfl (Nat.le_of_ble_eq_true rfl) rfl ?_
  intro p e s m args below meth c Q A C hmn E9
  obtain ⟨hn0, hP, hn2, hT, hn4, hS, hn5, hB, yWho, ySort, yQ, yN, yD, yL⟩ := id I
  obtain ⟨hn6, hM6, hn7, hn8, hEW, hWM, yO, yEL, yEA, yLW⟩ := id Y
  have iX6 : ∀ w ∈ u_ws RX6 TX6 44, w ∈ wsX6_giveUp := ptX6_giveUp_wsX60
  have kX6_48 : Cond.fieldLink RX6 48 "FreeLandModel" "quarters" "[I" ∈ wsX6_giveUp := ptX6_giveUp_woX6_giveUp _ (by decide +kernel)
  have kX6_82 : Cond.fieldLink RX6 82 "FreeLandModel" "holders" "[I" ∈ wsX6_giveUp := ptX6_giveUp_woX6_giveUp _ (by decide +kernel)
  have kX6_45 : Cond.fieldLink RX6 45 "FreeLandModel" "people" "[I" ∈ wsX6_giveUp := ptX6_giveUp_woX6_giveUp _ (by decide +kernel)
  have kX6_91 : Cond.fieldLink RX6 91 "FreeLandModel" "entryState" "[I" ∈ wsX6_giveUp := ptX6_giveUp_woX6_giveUp _ (by decide +kernel)
  refine fj_lv (lv' := [(0, .ref (bd 0)), (1, .int (nI k))]) [0, 1] rfl ?_
  refine fj_aload_n C 0 dX6_giveUp_0 rfl rfl ?_
  refine fj_aload_n C 0 dX6_giveUp_1 rfl rfl ?_
  refine fj_get (Cn := RX6) (T := TX6) (N := 44) (ci := 6) (v := .ref (bd 11)) C iX6 0 (fm_at0 _ _ _ _ _) rfl 16 (by decide) kX6_48 rfl dX6_giveUp_2 ?_
  refine fj_iload_n C 1 dX6_giveUp_5 rfl rfl ?_
  refine fj_iald (f := (a 11)) C 11 (fm_at11 _ _ _ _ _) (vp_in_nI (by omega) (by decide)) dX6_giveUp_6 ?_
  refine fj_at (y := nI q5) (by rw [nI_clamp (by omega), eq5]) ?_
  refine fj_callVw (As := [.int (nI q5)]) (rest := []) C (d_X6_openOf l D ty t0 bd a g n P S T B I M6 E7 W8 Y (nI q5)) (cwV 1 C.2.2.2.2.1 gX6_giveUp_X6_openOf rfl rfl rfl (by decide +kernel) ⟨Nat.le_of_ble_eq_true rfl, Nat.le_of_ble_eq_true rfl⟩) ⟨0, 6, _, _, fm_at0 _ _ _ _ _, rfl, rfl⟩ rfl (Nat.le_of_ble_eq_true rfl) dX6_giveUp_7 ⟨Nat.zero_le _, Nat.zero_le _⟩ (fun v9 w9 hp9 => ?_)
  obtain ⟨rfl, rfl⟩ := hp9
  refine fj_st (st' := .int (opO a (nI q5) E7) :: []) rfl ?_
  refine fj_topi (fun r9 e_r9 => ?_)
  refine fj_istore_n (lv' := [(2, .int r9), (0, .ref (bd 0)), (1, .int (nI k))]) C dX6_giveUp_10 rfl (by decide) rfl ?_
  refine fj_iload_n C 0 dX6_giveUp_11 rfl rfl ?_
  refine fj_if_lt (tgt := 30) C dX6_giveUp_12 (by decide) (fun h12 => ?_) (fun h12 => ?_)
  · refine fj_bipush (v := 8) C dX6_giveUp_30 (by decide) ?_
    exact fj_iret C E9 dX6_giveUp_32 (by
      have hc : ¬ MGO a q5 E7 k := by rw [MGO, ← e_r9]; first | exact fun z => z.1 h12 | exact fun z => h27 (by have y := z.2; rwa [nI_clamp (by omega)] at y)
      exact ⟨by rw [if_neg hc], by rw [if_neg hc]⟩)
  · obtain ⟨e5, he5, rfl⟩ := (show r9 = -1 ∨ ∃ e5, e5 < E7 ∧ r9 = nI e5 by rw [e_r9]; exact opO_in a _ E7).resolve_left (fun q => h12 (by rw [q]; decide))
    refine fj_aload_n C 1 dX6_giveUp_15 rfl rfl ?_
    refine fj_get (Cn := RX6) (T := TX6) (N := 44) (ci := 6) (v := .ref (bd 22)) C iX6 0 (fm_at0 _ _ _ _ _) rfl 29 (by decide) kX6_82 rfl dX6_giveUp_16 ?_
    refine fj_iload_n C 0 dX6_giveUp_19 rfl rfl ?_
    refine fj_iald (f := (a 22)) C 22 (fm_at22 _ _ _ _ _) (vp_in_nI (by omega) (by decide)) dX6_giveUp_20 ?_
    refine fj_at (y := a 22 e5) (by rw [nI_clamp (by omega)]) ?_
    refine fj_aload_n C 1 dX6_giveUp_21 rfl rfl ?_
    refine fj_get (Cn := RX6) (T := TX6) (N := 44) (ci := 6) (v := .ref (bd 10)) C iX6 0 (fm_at0 _ _ _ _ _) rfl 15 (by decide) kX6_45 rfl dX6_giveUp_22 ?_
    refine fj_iload_n C 2 dX6_giveUp_25 rfl rfl ?_
    refine fj_iald (f := (a 10)) C 10 (fm_at10 _ _ _ _ _) (vp_in_nI (by omega) (by decide)) dX6_giveUp_26 ?_
    refine fj_at (y := a 10 k) (by rw [nI_clamp (by omega)]) ?_
    refine fj_icmp_eq (tgt := 33) C dX6_giveUp_27 (by decide) (fun h27 => ?_) (fun h27 => ?_)
    · refine fj_aload_n C 1 dX6_giveUp_33 rfl rfl ?_
      refine fj_get (Cn := RX6) (T := TX6) (N := 44) (ci := 6) (v := .ref (bd 25)) C iX6 0 (fm_at0 _ _ _ _ _) rfl 32 (by decide) kX6_91 rfl dX6_giveUp_34 ?_
      refine fj_iload_n C 0 dX6_giveUp_37 rfl rfl ?_
      refine fj_iconst (v := 0) C dX6_giveUp_38 (by decide) ?_
      refine fj_iast (f := (a 25)) C 25 (fm_at25 _ _ _ _ _) (vp_in_nI (by omega) (by decide)) dX6_giveUp_39 (fm_st25 _ _ _ _ _ _) ?_
      refine fj_ws (ws' := (fm_w bd ty (va_up a 25 (upd (a 25) e5 0)) g n)) (by rw [nI_clamp (by omega)]) ?_
      refine fj_iconst (v := 0) C dX6_giveUp_40 (by decide) ?_
      exact fj_iret C E9 dX6_giveUp_41 (by
      have hc : MGO a q5 E7 k := by rw [MGO, ← e_r9, nI_clamp (by omega)]; exact ⟨h12, h27⟩
      exact ⟨by rw [if_pos hc], by rw [if_pos hc, MGu, ← e_r9, nI_clamp (by omega)]⟩)
    · refine fj_bipush (v := 8) C dX6_giveUp_30 (by decide) ?_
      exact fj_iret C E9 dX6_giveUp_32 (by
      have hc : ¬ MGO a q5 E7 k := by rw [MGO, ← e_r9]; first | exact fun z => z.1 h12 | exact fun z => h27 (by have y := z.2; rwa [nI_clamp (by omega)] at y)
      exact ⟨by rw [if_neg hc], by rw [if_neg hc]⟩)

set_option maxHeartbeats 4000000 in
set_option maxRecDepth 100000 in
theorem d_X6_contest (l : Launch) (D : va_G) (ty : Nat → ClassId) (t0 : Nat → Nat) (bd : Nat → Nat) (a : Nat → Nat → Int32) (g : Nat → Nat → Int64) (n : Nat → Int32) (P : Nat) (S : Nat) (T : Nat) (B : Nat) (I : YI P S T B a n) (M6 : Nat) (E7 : Nat) (W8 : Nat) (Y : YW S B M6 E7 W8 a n) (x : Int32) (k : Nat) (ek : x = nI k) (hk : k < B) (q5 : Nat) (eq5 : a 11 k = nI q5) (hq5 : q5 < 64) : fc l yX6_contest wsX6_contest (fj_rm 2 46 0 0) D ty t0 [.ref (bd 0), .int x] (fm_w bd ty a g n) 0 0 (fun v w => ∃ (c9 : Int32) (b9 : Nat → Nat → Int32), MCR a S E7 W8 k q5 c9 b9 ∧ v = some (.int c9) ∧ w = fm_w bd ty b9 g n) := by
  subst ek
  refine fc_start (own := RX6) (cc := cX6_contest) (maxL := 7) (ret := (some .int)) (by decide) rfl (Nat.le_of_ble_eq_true rfl) rfl ?_
  intro p e s m args below meth c Q A C hmn E9
  obtain ⟨hn0, hP, hn2, hT, hn4, hS, hn5, hB, yWho, ySort, yQ, yN, yD, yL⟩ := id I
  obtain ⟨hn6, hM6, hn7, hn8, hEW, hWM, yO, yEL, yEA, yLW⟩ := id Y
  obtain ⟨d5, hd5, ed5⟩ := yD k hk
  have iX6 : ∀ w ∈ u_ws RX6 TX6 44, w ∈ wsX6_contest := ptX6_contest_wsX60
  have kX6_48 : Cond.fieldLink RX6 48 "FreeLandModel" "quarters" "[I" ∈ wsX6_contest := ptX6_contest_woX6_contest _ (by decide +kernel)
  have kX6_39 : Cond.fieldLink RX6 39 "FreeLandModel" "days" "[I" ∈ wsX6_contest := ptX6_contest_woX6_contest _ (by decide +kernel)
  have kX6_82 : Cond.fieldLink RX6 82 "FreeLandModel" "holders" "[I" ∈ wsX6_contest := ptX6_contest_woX6_contest _ (by decide +kernel)
  have kX6_45 : Cond.fieldLink RX6 45 "FreeLandModel" "people" "[I" ∈ wsX6_contest := ptX6_contest_woX6_contest _ (by decide +kernel)
  have kX6_88 : Cond.fieldLink RX6 88 "FreeLandModel" "entryLaw" "[I" ∈ wsX6_contest := ptX6_contest_woX6_contest _ (by decide +kernel)
  have kX6_76 : Cond.fieldLink RX6 76 "FreeLandModel" "entryLine" "[I" ∈ wsX6_contest := ptX6_contest_woX6_contest _ (by decide +kernel)
  have kX6_91 : Cond.fieldLink RX6 91 "FreeLandModel" "entryState" "[I" ∈ wsX6_contest := ptX6_contest_woX6_contest _ (by decide +kernel)
  have kX6_97 : Cond.fieldLink RX6 97 "FreeLandModel" "preferred" "[I" ∈ wsX6_contest := ptX6_contest_woX6_contest _ (by decide +kernel)
  have kX6_100 : Cond.fieldLink RX6 100 "FreeLandModel" "preferDay" "[I" ∈ wsX6_contest := ptX6_contest_woX6_contest _ (by decide +kernel)
  refine fj_lv (lv' := [(0, .ref (bd 0)), (1, .int (nI k))]) [0, 1] rfl ?_
  refine fj_aload_n C 0 dX6_contest_0 rfl rfl ?_
  refine fj_get (Cn := RX6) (T := TX6) (N := 44) (ci := 6) (v := .ref (bd 11)) C iX6 0 (fm_at0 _ _ _ _ _) rfl 16 (by decide) kX6_48 rfl dX6_contest_1 ?_
  refine fj_iload_n C 1 dX6_contest_4 rfl rfl ?_
  refine fj_iald (f := (a 11)) C 11 (fm_at11 _ _ _ _ _) (vp_in_nI (by omega) (by decide)) dX6_contest_5 ?_
  refine fj_at (y := nI q5) (by rw [nI_clamp (by omega), eq5]) ?_
  refine fj_istore_n (lv' := [(2, .int (nI q5)), (0, .ref (bd 0)), (1, .int (nI k))]) C dX6_contest_6 rfl (by decide) rfl ?_
  refine fj_aload_n C 1 dX6_contest_7 rfl rfl ?_
  refine fj_get (Cn := RX6) (T := TX6) (N := 44) (ci := 6) (v := .ref (bd 8)) C iX6 0 (fm_at0 _ _ _ _ _) rfl 13 (by decide) kX6_39 rfl dX6_contest_8 ?_
  refine fj_iload_n C 2 dX6_contest_11 rfl rfl ?_
  refine fj_iald (f := (a 8)) C 8 (fm_at8 _ _ _ _ _) (vp_in_nI (by omega) (by decide)) dX6_contest_12 ?_
  refine fj_at (y := a 8 k) (by rw [nI_clamp (by omega)]) ?_
  refine fj_istore_n (lv' := [(3, .int (a 8 k)), (2, .int (nI q5)), (0, .ref (bd 0)), (1, .int (nI k))]) C dX6_contest_13 rfl (by decide) rfl ?_
  refine fj_aload_n C 2 dX6_contest_14 rfl rfl ?_
  refine fj_iload_n C 1 dX6_contest_15 rfl rfl ?_
  refine fj_callVw (As := [.int (nI q5)]) (rest := []) C (d_X6_openOf l D ty t0 bd a g n P S T B I M6 E7 W8 Y (nI q5)) (cwV 1 C.2.2.2.2.1 gX6_contest_X6_openOf rfl rfl rfl (by decide +kernel) ⟨Nat.le_of_ble_eq_true rfl, Nat.le_of_ble_eq_true rfl⟩) ⟨0, 6, _, _, fm_at0 _ _ _ _ _, rfl, rfl⟩ rfl (Nat.le_of_ble_eq_true rfl) dX6_contest_16 ⟨Nat.zero_le _, Nat.zero_le _⟩ (fun v9 w9 hp9 => ?_)
  obtain ⟨rfl, rfl⟩ := hp9
  refine fj_st (st' := .int (opO a (nI q5) E7) :: []) rfl ?_
  refine fj_topi (fun r9 e_r9 => ?_)
  refine fj_istore (lv' := [(4, .int r9), (3, .int (a 8 k)), (2, .int (nI q5)), (0, .ref (bd 0)), (1, .int (nI k))]) C dX6_contest_19 (by decide) rfl ?_
  refine fj_iload C 0 dX6_contest_21 rfl ?_
  refine fj_if_ge (tgt := 29) C dX6_contest_23 (by decide) (fun h23 => ?_) (fun h23 => ?_)
  · obtain ⟨e5, he5, rfl⟩ := (show r9 = -1 ∨ ∃ e5, e5 < E7 ∧ r9 = nI e5 by rw [e_r9]; exact opO_in a _ E7).resolve_left (fun q => by rw [q] at h23; exact absurd h23 (by decide))
    obtain ⟨l6, hl6, el6⟩ := yEL e5 he5
    have he6 : (a 20 e5).toNatClampNeg = l6 := by rw [el6, nI_clamp (by omega)]
    refine fj_aload_n C 3 dX6_contest_29 rfl rfl ?_
    refine fj_get (Cn := RX6) (T := TX6) (N := 44) (ci := 6) (v := .ref (bd 22)) C iX6 0 (fm_at0 _ _ _ _ _) rfl 29 (by decide) kX6_82 rfl dX6_contest_30 ?_
    refine fj_iload C 0 dX6_contest_33 rfl ?_
    refine fj_iald (f := (a 22)) C 22 (fm_at22 _ _ _ _ _) (vp_in_nI (by omega) (by decide)) dX6_contest_35 ?_
    refine fj_at (y := a 22 e5) (by rw [nI_clamp (by omega)]) ?_
    refine fj_aload_n C 3 dX6_contest_36 rfl rfl ?_
    refine fj_get (Cn := RX6) (T := TX6) (N := 44) (ci := 6) (v := .ref (bd 10)) C iX6 0 (fm_at0 _ _ _ _ _) rfl 15 (by decide) kX6_45 rfl dX6_contest_37 ?_
    refine fj_iload_n C 4 dX6_contest_40 rfl rfl ?_
    refine fj_iald (f := (a 10)) C 10 (fm_at10 _ _ _ _ _) (vp_in_nI (by omega) (by decide)) dX6_contest_41 ?_
    refine fj_at (y := a 10 k) (by rw [nI_clamp (by omega)]) ?_
    refine fj_icmp_ne (tgt := 48) C dX6_contest_42 (by decide) (fun h42 => ?_) (fun h42 => ?_)
    · refine fj_aload_n C 3 dX6_contest_48 rfl rfl ?_
      refine fj_aload_n C 3 dX6_contest_49 rfl rfl ?_
      refine fj_get (Cn := RX6) (T := TX6) (N := 44) (ci := 6) (v := .ref (bd 24)) C iX6 0 (fm_at0 _ _ _ _ _) rfl 31 (by decide) kX6_88 rfl dX6_contest_50 ?_
      refine fj_iload C 0 dX6_contest_53 rfl ?_
      refine fj_iald (f := (a 24)) C 24 (fm_at24 _ _ _ _ _) (vp_in_nI (by omega) (by decide)) dX6_contest_55 ?_
      refine fj_at (y := a 24 e5) (by rw [nI_clamp (by omega)]) ?_
      refine fj_iconst (v := 5) C dX6_contest_56 (by decide) ?_
      refine fj_callVw (As := [.int (a 24 e5), .int 5]) (rest := []) C (d_X6_setBy l D ty t0 bd a g n P S T B I (a 24 e5) 5 (yLW e5 he5) 5 rfl (by decide)) (cwV 2 C.2.2.2.2.1 gX6_contest_X6_setBy rfl rfl rfl (by decide +kernel) ⟨Nat.le_of_ble_eq_true rfl, Nat.le_of_ble_eq_true rfl⟩) ⟨0, 6, _, _, fm_at0 _ _ _ _ _, rfl, rfl⟩ rfl (Nat.le_of_ble_eq_true rfl) dX6_contest_57 ⟨Nat.zero_le _, Nat.zero_le _⟩ (fun v9 w9 hp9 => ?_)
      obtain ⟨rfl, rfl⟩ := hp9
      refine fj_st (st' := .int (sbw a S (a 24 e5) 5) :: []) rfl ?_
      refine fj_topi (fun idl e_idl => ?_)
      refine fj_istore (lv' := [(5, .int idl), (4, .int (nI e5)), (3, .int (a 8 k)), (2, .int (nI q5)), (0, .ref (bd 0)), (1, .int (nI k))]) C dX6_contest_60 (by decide) rfl ?_
      refine fj_iload_n C 2 dX6_contest_62 rfl rfl ?_
      refine fj_iload C 0 dX6_contest_63 rfl ?_
      refine fj_isub C dX6_contest_65 ?_
      refine fj_if_ge (tgt := 73) C dX6_contest_66 (by decide) (fun h66 => ?_) (fun h66 => ?_)
      · obtain ⟨u7, hu7, eu7⟩ := nI_of (Int32.not_lt.mpr h66)
        refine fj_iload_n C 2 dX6_contest_73 rfl rfl ?_
        refine fj_iload C 0 dX6_contest_74 rfl ?_
        refine fj_isub C dX6_contest_76 ?_
        refine fj_at (y := nI u7) eu7 ?_
        refine fj_istore (lv' := [(6, .int (nI u7)), (5, .int idl), (4, .int (nI e5)), (3, .int (a 8 k)), (2, .int (nI q5)), (0, .ref (bd 0)), (1, .int (nI k))]) C dX6_contest_77 (by decide) rfl ?_
        refine fj_aload_n C 5 dX6_contest_79 rfl rfl ?_
        refine fj_iload C 2 dX6_contest_80 rfl ?_
        refine fj_callVw (As := [.int (nI e5)]) (rest := []) C (d_X6_markLived l D ty t0 bd a g n P S T B I M6 E7 W8 Y (nI e5) e5 rfl he5) (cwV 1 C.2.2.2.2.1 gX6_contest_X6_markLived rfl rfl rfl (by decide +kernel) ⟨Nat.le_of_ble_eq_true rfl, Nat.le_of_ble_eq_true rfl⟩) ⟨0, 6, _, _, fm_at0 _ _ _ _ _, rfl, rfl⟩ rfl (Nat.le_of_ble_eq_true rfl) dX6_contest_82 ⟨Nat.zero_le _, Nat.zero_le _⟩ (fun v9 w9 hp9 => ?_)
        obtain ⟨rfl, rfl⟩ := hp9
        refine fj_st (st' := []) rfl ?_
        refine fj_aload_n C 5 dX6_contest_85 rfl rfl ?_
        refine fj_get (Cn := RX6) (T := TX6) (N := 44) (ci := 6) (v := .ref (bd 8)) C iX6 0 (fm_at0 _ _ _ _ _) rfl 13 (by decide) kX6_39 rfl dX6_contest_86 ?_
        refine fj_aload_n C 5 dX6_contest_89 rfl rfl ?_
        refine fj_get (Cn := RX6) (T := TX6) (N := 44) (ci := 6) (v := .ref (bd 20)) C iX6 0 (fm_at0 _ _ _ _ _) rfl 27 (by decide) kX6_76 rfl dX6_contest_90 ?_
        refine fj_iload C 2 dX6_contest_93 rfl ?_
        refine fj_iald (f := (a 20)) C 20 (fm_at20 _ _ _ _ _) (vp_in_nI (by omega) (by decide)) dX6_contest_95 ?_
        refine fj_at (y := nI l6) (by rw [nI_clamp (by omega), el6]) ?_
        refine fj_iald (f := (a 8)) C 8 (fm_at8 _ _ _ _ _) (vp_in_nI (by omega) (by decide)) dX6_contest_96 ?_
        refine fj_at (y := a 8 l6) (by rw [nI_clamp (by omega)]) ?_
        refine fj_iload_n C 3 dX6_contest_97 rfl rfl ?_
        refine fj_iload C 1 dX6_contest_98 rfl ?_
        refine fj_isub C dX6_contest_100 ?_
        refine fj_icmp_ge (tgt := 116) C dX6_contest_101 (by decide) (fun h101 => ?_) (fun h101 => ?_)
        · refine fj_bipush (v := 11) C dX6_contest_116 (by decide) ?_
          exact fj_iret C E9 dX6_contest_118 ⟨_, _, Or.inr ⟨e5, he5, e_r9.symm, Or.inr ⟨h42, by first | exact Or.inl ⟨by rw [← e_idl, he6]; exact h101, rfl, rfl⟩ | exact Or.inr ⟨by rw [← e_idl, he6]; exact h101, _, d9, (by first | exact ⟨by rw [← e_idl, if_neg (Int32.not_lt.mpr h66), eu7], hu7⟩ | exact ⟨by rw [← e_idl, if_pos (Int32.not_le.mp h66)]; rfl, by decide⟩), hU9, Or.inl ⟨Int32.not_le.mp h113, rfl, rfl⟩⟩⟩⟩, rfl, rfl⟩
        · refine fj_aload_n C 5 dX6_contest_104 rfl rfl ?_
          refine fj_iload C 0 dX6_contest_105 rfl ?_
          refine fj_iload_n C 3 dX6_contest_107 rfl rfl ?_
          refine fj_iconst (v := 1) C dX6_contest_108 (by decide) ?_
          refine fj_isub C dX6_contest_109 ?_
          refine fj_callVw (As := [.int (nI u7), .int ((a 8 k) - 1)]) (rest := []) C (d_X6_livedDays l D ty t0 bd (va_up a 29 (mkF a e5 W8)) g n (nI u7) ((a 8 k) - 1) u7 rfl (by omega) (to_d1 ed5 hd5)) (cwV 2 C.2.2.2.2.1 gX6_contest_X6_livedDays rfl rfl rfl (by decide +kernel) ⟨Nat.le_of_ble_eq_true rfl, Nat.le_of_ble_eq_true rfl⟩) ⟨0, 6, _, _, fm_at0 _ _ _ _ _, rfl, rfl⟩ rfl (Nat.le_of_ble_eq_true rfl) dX6_contest_110 ⟨Nat.zero_le _, Nat.zero_le _⟩ (fun v9 w9 hp9 => ?_)
          obtain ⟨d9, hU9, rfl, rfl⟩ := hp9
          refine fj_st (st' := .int (nI (cL (mkF a e5 W8) u7 d9)) :: []) rfl ?_
          refine fj_if_le (tgt := 119) C dX6_contest_113 (by decide) (fun h113 => ?_) (fun h113 => ?_)
          · refine fj_aload_n C 5 dX6_contest_119 rfl rfl ?_
            refine fj_get (Cn := RX6) (T := TX6) (N := 44) (ci := 6) (v := .ref (bd 25)) C iX6 0 (fm_at0 _ _ _ _ _) rfl 32 (by decide) kX6_91 rfl dX6_contest_120 ?_
            refine fj_iload C 2 dX6_contest_123 rfl ?_
            refine fj_iconst (v := 0) C dX6_contest_125 (by decide) ?_
            refine fj_iast (f := (a 25)) C 25 (fm_at25 _ _ _ _ _) (vp_in_nI (by omega) (by decide)) dX6_contest_126 (fm_st25 _ _ _ _ _ _) ?_
            refine fj_ws (ws' := (fm_w bd ty (va_up (va_up a 29 (mkF a e5 W8)) 25 (upd (a 25) e5 0)) g n)) (by rw [nI_clamp (by omega)]) ?_
            refine fj_aload_n C 5 dX6_contest_127 rfl rfl ?_
            refine fj_get (Cn := RX6) (T := TX6) (N := 44) (ci := 6) (v := .ref (bd 27)) C iX6 0 (fm_at0 _ _ _ _ _) rfl 34 (by decide) kX6_97 rfl dX6_contest_128 ?_
            refine fj_iload_n C 4 dX6_contest_131 rfl rfl ?_
            refine fj_aload_n C 5 dX6_contest_132 rfl rfl ?_
            refine fj_get (Cn := RX6) (T := TX6) (N := 44) (ci := 6) (v := .ref (bd 10)) C iX6 0 (fm_at0 _ _ _ _ _) rfl 15 (by decide) kX6_45 rfl dX6_contest_133 ?_
            refine fj_iload_n C 6 dX6_contest_136 rfl rfl ?_
            refine fj_iald (f := (a 10)) C 10 (fm_at10 _ _ _ _ _) (vp_in_nI (by omega) (by decide)) dX6_contest_137 ?_
            refine fj_at (y := a 10 k) (by rw [nI_clamp (by omega)]) ?_
            refine fj_iast (f := (a 27)) C 27 (fm_at27 _ _ _ _ _) (vp_in_nI (by omega) (by decide)) dX6_contest_138 (fm_st27 _ _ _ _ _ _) ?_
            refine fj_ws (ws' := (fm_w bd ty (va_up (va_up (va_up a 29 (mkF a e5 W8)) 25 (upd (a 25) e5 0)) 27 (upd (a 27) q5 (a 10 k))) g n)) (by rw [nI_clamp (by omega)]) ?_
            refine fj_aload_n C 5 dX6_contest_139 rfl rfl ?_
            refine fj_get (Cn := RX6) (T := TX6) (N := 44) (ci := 6) (v := .ref (bd 28)) C iX6 0 (fm_at0 _ _ _ _ _) rfl 35 (by decide) kX6_100 rfl dX6_contest_140 ?_
            refine fj_iload_n C 4 dX6_contest_143 rfl rfl ?_
            refine fj_iload_n C 3 dX6_contest_144 rfl rfl ?_
            refine fj_aload_n C 5 dX6_contest_145 rfl rfl ?_
            refine fj_aload_n C 5 dX6_contest_146 rfl rfl ?_
            refine fj_get (Cn := RX6) (T := TX6) (N := 44) (ci := 6) (v := .ref (bd 24)) C iX6 0 (fm_at0 _ _ _ _ _) rfl 31 (by decide) kX6_88 rfl dX6_contest_147 ?_
            refine fj_iload C 2 dX6_contest_150 rfl ?_
            refine fj_iald (f := (a 24)) C 24 (fm_at24 _ _ _ _ _) (vp_in_nI (by omega) (by decide)) dX6_contest_152 ?_
            refine fj_at (y := a 24 e5) (by rw [nI_clamp (by omega)]) ?_
            refine fj_bipush (v := 6) C dX6_contest_153 (by decide) ?_
            refine fj_callVw (As := [.int (a 24 e5), .int 6]) (rest := [.int (a 8 k), .int (nI q5), .ref (bd 28)]) C (d_X6_setBy l D ty t0 bd (va_up (va_up (va_up a 29 (mkF a e5 W8)) 25 (upd (a 25) e5 0)) 27 (upd (a 27) q5 (a 10 k))) g n P S T B I (a 24 e5) 6 (yLW e5 he5) 6 rfl (by decide)) (cwV 2 C.2.2.2.2.1 gX6_contest_X6_setBy rfl rfl rfl (by decide +kernel) ⟨Nat.le_of_ble_eq_true rfl, Nat.le_of_ble_eq_true rfl⟩) ⟨0, 6, _, _, fm_at0 _ _ _ _ _, rfl, rfl⟩ rfl (Nat.le_of_ble_eq_true rfl) dX6_contest_155 ⟨Nat.zero_le _, Nat.zero_le _⟩ (fun v9 w9 hp9 => ?_)
            obtain ⟨rfl, rfl⟩ := hp9
            refine fj_st (st' := .int (sbw (va_up (va_up (va_up a 29 (mkF a e5 W8)) 25 (upd (a 25) e5 0)) 27 (upd (a 27) q5 (a 10 k))) S (a 24 e5) 6) :: [.int (a 8 k), .int (nI q5), .ref (bd 28)]) rfl ?_
            refine fj_at (y := sbw a S (a 24 e5) 6) (sbw_k rfl rfl rfl) ?_
            refine fj_iadd C dX6_contest_158 ?_
            refine fj_iast (f := (a 28)) C 28 (fm_at28 _ _ _ _ _) (vp_in_nI (by omega) (by decide)) dX6_contest_159 (fm_st28 _ _ _ _ _ _) ?_
            refine fj_ws (ws' := (fm_w bd ty (va_up (va_up (va_up (va_up a 29 (mkF a e5 W8)) 25 (upd (a 25) e5 0)) 27 (upd (a 27) q5 (a 10 k))) 28 (upd (a 28) q5 (a 8 k + sbw a S (a 24 e5) 6))) g n)) (by rw [nI_clamp (by omega)]) ?_
            refine fj_iconst (v := 0) C dX6_contest_160 (by decide) ?_
            exact fj_iret C E9 dX6_contest_161 ⟨_, _, Or.inr ⟨e5, he5, e_r9.symm, Or.inr ⟨h42, Or.inr ⟨by rw [← e_idl, he6]; exact h101, _, d9, (by first | exact ⟨by rw [← e_idl, if_neg (Int32.not_lt.mpr h66), eu7], hu7⟩ | exact ⟨by rw [← e_idl, if_pos (Int32.not_le.mp h66)]; rfl, by decide⟩), hU9, Or.inr ⟨Int32.not_lt.mpr h113, rfl, rfl⟩⟩⟩⟩, rfl, rfl⟩
          · refine fj_bipush (v := 11) C dX6_contest_116 (by decide) ?_
            exact fj_iret C E9 dX6_contest_118 ⟨_, _, Or.inr ⟨e5, he5, e_r9.symm, Or.inr ⟨h42, by first | exact Or.inl ⟨by rw [← e_idl, he6]; exact h101, rfl, rfl⟩ | exact Or.inr ⟨by rw [← e_idl, he6]; exact h101, _, d9, (by first | exact ⟨by rw [← e_idl, if_neg (Int32.not_lt.mpr h66), eu7], hu7⟩ | exact ⟨by rw [← e_idl, if_pos (Int32.not_le.mp h66)]; rfl, by decide⟩), hU9, Or.inl ⟨Int32.not_le.mp h113, rfl, rfl⟩⟩⟩⟩, rfl, rfl⟩
      · refine fj_iconst (v := 0) C dX6_contest_69 (by decide) ?_
        refine fj_goto (tgt := 77) C dX6_contest_70 (by decide) ?_
        refine fj_istore (lv' := [(6, .int 0), (5, .int idl), (4, .int (nI e5)), (3, .int (a 8 k)), (2, .int (nI q5)), (0, .ref (bd 0)), (1, .int (nI k))]) C dX6_contest_77 (by decide) rfl ?_
        refine fj_aload_n C 5 dX6_contest_79 rfl rfl ?_
        refine fj_iload C 2 dX6_contest_80 rfl ?_
        refine fj_callVw (As := [.int (nI e5)]) (rest := []) C (d_X6_markLived l D ty t0 bd a g n P S T B I M6 E7 W8 Y (nI e5) e5 rfl he5) (cwV 1 C.2.2.2.2.1 gX6_contest_X6_markLived rfl rfl rfl (by decide +kernel) ⟨Nat.le_of_ble_eq_true rfl, Nat.le_of_ble_eq_true rfl⟩) ⟨0, 6, _, _, fm_at0 _ _ _ _ _, rfl, rfl⟩ rfl (Nat.le_of_ble_eq_true rfl) dX6_contest_82 ⟨Nat.zero_le _, Nat.zero_le _⟩ (fun v9 w9 hp9 => ?_)
        obtain ⟨rfl, rfl⟩ := hp9
        refine fj_st (st' := []) rfl ?_
        refine fj_aload_n C 5 dX6_contest_85 rfl rfl ?_
        refine fj_get (Cn := RX6) (T := TX6) (N := 44) (ci := 6) (v := .ref (bd 8)) C iX6 0 (fm_at0 _ _ _ _ _) rfl 13 (by decide) kX6_39 rfl dX6_contest_86 ?_
        refine fj_aload_n C 5 dX6_contest_89 rfl rfl ?_
        refine fj_get (Cn := RX6) (T := TX6) (N := 44) (ci := 6) (v := .ref (bd 20)) C iX6 0 (fm_at0 _ _ _ _ _) rfl 27 (by decide) kX6_76 rfl dX6_contest_90 ?_
        refine fj_iload C 2 dX6_contest_93 rfl ?_
        refine fj_iald (f := (a 20)) C 20 (fm_at20 _ _ _ _ _) (vp_in_nI (by omega) (by decide)) dX6_contest_95 ?_
        refine fj_at (y := nI l6) (by rw [nI_clamp (by omega), el6]) ?_
        refine fj_iald (f := (a 8)) C 8 (fm_at8 _ _ _ _ _) (vp_in_nI (by omega) (by decide)) dX6_contest_96 ?_
        refine fj_at (y := a 8 l6) (by rw [nI_clamp (by omega)]) ?_
        refine fj_iload_n C 3 dX6_contest_97 rfl rfl ?_
        refine fj_iload C 1 dX6_contest_98 rfl ?_
        refine fj_isub C dX6_contest_100 ?_
        refine fj_icmp_ge (tgt := 116) C dX6_contest_101 (by decide) (fun h101 => ?_) (fun h101 => ?_)
        · refine fj_bipush (v := 11) C dX6_contest_116 (by decide) ?_
          exact fj_iret C E9 dX6_contest_118 ⟨_, _, Or.inr ⟨e5, he5, e_r9.symm, Or.inr ⟨h42, by first | exact Or.inl ⟨by rw [← e_idl, he6]; exact h101, rfl, rfl⟩ | exact Or.inr ⟨by rw [← e_idl, he6]; exact h101, _, d9, (by first | exact ⟨by rw [← e_idl, if_neg (Int32.not_lt.mpr h66), eu7], hu7⟩ | exact ⟨by rw [← e_idl, if_pos (Int32.not_le.mp h66)]; rfl, by decide⟩), hU9, Or.inl ⟨Int32.not_le.mp h113, rfl, rfl⟩⟩⟩⟩, rfl, rfl⟩
        · refine fj_aload_n C 5 dX6_contest_104 rfl rfl ?_
          refine fj_iload C 0 dX6_contest_105 rfl ?_
          refine fj_iload_n C 3 dX6_contest_107 rfl rfl ?_
          refine fj_iconst (v := 1) C dX6_contest_108 (by decide) ?_
          refine fj_isub C dX6_contest_109 ?_
          refine fj_callVw (As := [.int 0, .int ((a 8 k) - 1)]) (rest := []) C (d_X6_livedDays l D ty t0 bd (va_up a 29 (mkF a e5 W8)) g n 0 ((a 8 k) - 1) 0 rfl (by omega) (to_d1 ed5 hd5)) (cwV 2 C.2.2.2.2.1 gX6_contest_X6_livedDays rfl rfl rfl (by decide +kernel) ⟨Nat.le_of_ble_eq_true rfl, Nat.le_of_ble_eq_true rfl⟩) ⟨0, 6, _, _, fm_at0 _ _ _ _ _, rfl, rfl⟩ rfl (Nat.le_of_ble_eq_true rfl) dX6_contest_110 ⟨Nat.zero_le _, Nat.zero_le _⟩ (fun v9 w9 hp9 => ?_)
          obtain ⟨d9, hU9, rfl, rfl⟩ := hp9
          refine fj_st (st' := .int (nI (cL (mkF a e5 W8) 0 d9)) :: []) rfl ?_
          refine fj_if_le (tgt := 119) C dX6_contest_113 (by decide) (fun h113 => ?_) (fun h113 => ?_)
          · refine fj_aload_n C 5 dX6_contest_119 rfl rfl ?_
            refine fj_get (Cn := RX6) (T := TX6) (N := 44) (ci := 6) (v := .ref (bd 25)) C iX6 0 (fm_at0 _ _ _ _ _) rfl 32 (by decide) kX6_91 rfl dX6_contest_120 ?_
            refine fj_iload C 2 dX6_contest_123 rfl ?_
            refine fj_iconst (v := 0) C dX6_contest_125 (by decide) ?_
            refine fj_iast (f := (a 25)) C 25 (fm_at25 _ _ _ _ _) (vp_in_nI (by omega) (by decide)) dX6_contest_126 (fm_st25 _ _ _ _ _ _) ?_
            refine fj_ws (ws' := (fm_w bd ty (va_up (va_up a 29 (mkF a e5 W8)) 25 (upd (a 25) e5 0)) g n)) (by rw [nI_clamp (by omega)]) ?_
            refine fj_aload_n C 5 dX6_contest_127 rfl rfl ?_
            refine fj_get (Cn := RX6) (T := TX6) (N := 44) (ci := 6) (v := .ref (bd 27)) C iX6 0 (fm_at0 _ _ _ _ _) rfl 34 (by decide) kX6_97 rfl dX6_contest_128 ?_
            refine fj_iload_n C 4 dX6_contest_131 rfl rfl ?_
            refine fj_aload_n C 5 dX6_contest_132 rfl rfl ?_
            refine fj_get (Cn := RX6) (T := TX6) (N := 44) (ci := 6) (v := .ref (bd 10)) C iX6 0 (fm_at0 _ _ _ _ _) rfl 15 (by decide) kX6_45 rfl dX6_contest_133 ?_
            refine fj_iload_n C 6 dX6_contest_136 rfl rfl ?_
            refine fj_iald (f := (a 10)) C 10 (fm_at10 _ _ _ _ _) (vp_in_nI (by omega) (by decide)) dX6_contest_137 ?_
            refine fj_at (y := a 10 k) (by rw [nI_clamp (by omega)]) ?_
            refine fj_iast (f := (a 27)) C 27 (fm_at27 _ _ _ _ _) (vp_in_nI (by omega) (by decide)) dX6_contest_138 (fm_st27 _ _ _ _ _ _) ?_
            refine fj_ws (ws' := (fm_w bd ty (va_up (va_up (va_up a 29 (mkF a e5 W8)) 25 (upd (a 25) e5 0)) 27 (upd (a 27) q5 (a 10 k))) g n)) (by rw [nI_clamp (by omega)]) ?_
            refine fj_aload_n C 5 dX6_contest_139 rfl rfl ?_
            refine fj_get (Cn := RX6) (T := TX6) (N := 44) (ci := 6) (v := .ref (bd 28)) C iX6 0 (fm_at0 _ _ _ _ _) rfl 35 (by decide) kX6_100 rfl dX6_contest_140 ?_
            refine fj_iload_n C 4 dX6_contest_143 rfl rfl ?_
            refine fj_iload_n C 3 dX6_contest_144 rfl rfl ?_
            refine fj_aload_n C 5 dX6_contest_145 rfl rfl ?_
            refine fj_aload_n C 5 dX6_contest_146 rfl rfl ?_
            refine fj_get (Cn := RX6) (T := TX6) (N := 44) (ci := 6) (v := .ref (bd 24)) C iX6 0 (fm_at0 _ _ _ _ _) rfl 31 (by decide) kX6_88 rfl dX6_contest_147 ?_
            refine fj_iload C 2 dX6_contest_150 rfl ?_
            refine fj_iald (f := (a 24)) C 24 (fm_at24 _ _ _ _ _) (vp_in_nI (by omega) (by decide)) dX6_contest_152 ?_
            refine fj_at (y := a 24 e5) (by rw [nI_clamp (by omega)]) ?_
            refine fj_bipush (v := 6) C dX6_contest_153 (by decide) ?_
            refine fj_callVw (As := [.int (a 24 e5), .int 6]) (rest := [.int (a 8 k), .int (nI q5), .ref (bd 28)]) C (d_X6_setBy l D ty t0 bd (va_up (va_up (va_up a 29 (mkF a e5 W8)) 25 (upd (a 25) e5 0)) 27 (upd (a 27) q5 (a 10 k))) g n P S T B I (a 24 e5) 6 (yLW e5 he5) 6 rfl (by decide)) (cwV 2 C.2.2.2.2.1 gX6_contest_X6_setBy rfl rfl rfl (by decide +kernel) ⟨Nat.le_of_ble_eq_true rfl, Nat.le_of_ble_eq_true rfl⟩) ⟨0, 6, _, _, fm_at0 _ _ _ _ _, rfl, rfl⟩ rfl (Nat.le_of_ble_eq_true rfl) dX6_contest_155 ⟨Nat.zero_le _, Nat.zero_le _⟩ (fun v9 w9 hp9 => ?_)
            obtain ⟨rfl, rfl⟩ := hp9
            refine fj_st (st' := .int (sbw (va_up (va_up (va_up a 29 (mkF a e5 W8)) 25 (upd (a 25) e5 0)) 27 (upd (a 27) q5 (a 10 k))) S (a 24 e5) 6) :: [.int (a 8 k), .int (nI q5), .ref (bd 28)]) rfl ?_
            refine fj_at (y := sbw a S (a 24 e5) 6) (sbw_k rfl rfl rfl) ?_
            refine fj_iadd C dX6_contest_158 ?_
            refine fj_iast (f := (a 28)) C 28 (fm_at28 _ _ _ _ _) (vp_in_nI (by omega) (by decide)) dX6_contest_159 (fm_st28 _ _ _ _ _ _) ?_
            refine fj_ws (ws' := (fm_w bd ty (va_up (va_up (va_up (va_up a 29 (mkF a e5 W8)) 25 (upd (a 25) e5 0)) 27 (upd (a 27) q5 (a 10 k))) 28 (upd (a 28) q5 (a 8 k + sbw a S (a 24 e5) 6))) g n)) (by rw [nI_clamp (by omega)]) ?_
            refine fj_iconst (v := 0) C dX6_contest_160 (by decide) ?_
            exact fj_iret C E9 dX6_contest_161 ⟨_, _, Or.inr ⟨e5, he5, e_r9.symm, Or.inr ⟨h42, Or.inr ⟨by rw [← e_idl, he6]; exact h101, _, d9, (by first | exact ⟨by rw [← e_idl, if_neg (Int32.not_lt.mpr h66), eu7], hu7⟩ | exact ⟨by rw [← e_idl, if_pos (Int32.not_le.mp h66)]; rfl, by decide⟩), hU9, Or.inr ⟨Int32.not_lt.mpr h113, rfl, rfl⟩⟩⟩⟩, rfl, rfl⟩
          · refine fj_bipush (v := 11) C dX6_contest_116 (by decide) ?_
            exact fj_iret C E9 dX6_contest_118 ⟨_, _, Or.inr ⟨e5, he5, e_r9.symm, Or.inr ⟨h42, by first | exact Or.inl ⟨by rw [← e_idl, he6]; exact h101, rfl, rfl⟩ | exact Or.inr ⟨by rw [← e_idl, he6]; exact h101, _, d9, (by first | exact ⟨by rw [← e_idl, if_neg (Int32.not_lt.mpr h66), eu7], hu7⟩ | exact ⟨by rw [← e_idl, if_pos (Int32.not_le.mp h66)]; rfl, by decide⟩), hU9, Or.inl ⟨Int32.not_le.mp h113, rfl, rfl⟩⟩⟩⟩, rfl, rfl⟩
    · refine fj_bipush (v := 10) C dX6_contest_45 (by decide) ?_
      exact fj_iret C E9 dX6_contest_47 ⟨_, _, Or.inr ⟨e5, he5, e_r9.symm, Or.inl ⟨h42, rfl, rfl⟩⟩, rfl, rfl⟩
  · refine fj_bipush (v := 9) C dX6_contest_26 (by decide) ?_
    exact fj_iret C E9 dX6_contest_28 ⟨_, _, Or.inl ⟨by rw [← e_r9]; exact Int32.not_le.mp h23, rfl, rfl⟩, rfl, rfl⟩

set_option maxHeartbeats 4000000 in
set_option maxRecDepth 100000 in
theorem d_X6_prove (l : Launch) (D : va_G) (ty : Nat → ClassId) (t0 : Nat → Nat) (bd : Nat → Nat) (a : Nat → Nat → Int32) (g : Nat → Nat → Int64) (n : Nat → Int32) (P : Nat) (S : Nat) (T : Nat) (B : Nat) (I : YI P S T B a n) (M6 : Nat) (E7 : Nat) (W8 : Nat) (Y : YW S B M6 E7 W8 a n) (x : Int32) (k : Nat) (ek : x = nI k) (hk : k < B) (q5 : Nat) (eq5 : a 11 k = nI q5) (hq5 : q5 < 64) : fc l yX6_prove wsX6_prove (fj_rm 2 46 0 0) D ty t0 [.ref (bd 0), .int x] (fm_w bd ty a g n) 0 0 (fun v w => ∃ (c9 : Int32) (b9 : Nat → Nat → Int32), MPR a S E7 W8 k q5 c9 b9 ∧ v = some (.int c9) ∧ w = fm_w bd ty b9 g n) := by
  subst ek
  refine fc_start (own := RX6) (cc := cX6_prove) (maxL := 6) (ret := (some .int)) (by decide) rfl (Nat.le_of_ble_eq_true rfl) rfl ?_
  intro p e s m args below meth c Q A C hmn E9
  obtain ⟨hn0, hP, hn2, hT, hn4, hS, hn5, hB, yWho, ySort, yQ, yN, yD, yL⟩ := id I
  obtain ⟨hn6, hM6, hn7, hn8, hEW, hWM, yO, yEL, yEA, yLW⟩ := id Y
  obtain ⟨d5, hd5, ed5⟩ := yD k hk
  have iX6 : ∀ w ∈ u_ws RX6 TX6 44, w ∈ wsX6_prove := ptX6_prove_wsX60
  have kX6_48 : Cond.fieldLink RX6 48 "FreeLandModel" "quarters" "[I" ∈ wsX6_prove := ptX6_prove_woX6_prove _ (by decide +kernel)
  have kX6_82 : Cond.fieldLink RX6 82 "FreeLandModel" "holders" "[I" ∈ wsX6_prove := ptX6_prove_woX6_prove _ (by decide +kernel)
  have kX6_45 : Cond.fieldLink RX6 45 "FreeLandModel" "people" "[I" ∈ wsX6_prove := ptX6_prove_woX6_prove _ (by decide +kernel)
  have kX6_39 : Cond.fieldLink RX6 39 "FreeLandModel" "days" "[I" ∈ wsX6_prove := ptX6_prove_woX6_prove _ (by decide +kernel)
  have kX6_76 : Cond.fieldLink RX6 76 "FreeLandModel" "entryLine" "[I" ∈ wsX6_prove := ptX6_prove_woX6_prove _ (by decide +kernel)
  have kX6_88 : Cond.fieldLink RX6 88 "FreeLandModel" "entryLaw" "[I" ∈ wsX6_prove := ptX6_prove_woX6_prove _ (by decide +kernel)
  have kX6_91 : Cond.fieldLink RX6 91 "FreeLandModel" "entryState" "[I" ∈ wsX6_prove := ptX6_prove_woX6_prove _ (by decide +kernel)
  have kX6_94 : Cond.fieldLink RX6 94 "FreeLandModel" "bindDay" "[I" ∈ wsX6_prove := ptX6_prove_woX6_prove _ (by decide +kernel)
  refine fj_lv (lv' := [(0, .ref (bd 0)), (1, .int (nI k))]) [0, 1] rfl ?_
  refine fj_aload_n C 0 dX6_prove_0 rfl rfl ?_
  refine fj_aload_n C 0 dX6_prove_1 rfl rfl ?_
  refine fj_get (Cn := RX6) (T := TX6) (N := 44) (ci := 6) (v := .ref (bd 11)) C iX6 0 (fm_at0 _ _ _ _ _) rfl 16 (by decide) kX6_48 rfl dX6_prove_2 ?_
  refine fj_iload_n C 1 dX6_prove_5 rfl rfl ?_
  refine fj_iald (f := (a 11)) C 11 (fm_at11 _ _ _ _ _) (vp_in_nI (by omega) (by decide)) dX6_prove_6 ?_
  refine fj_at (y := nI q5) (by rw [nI_clamp (by omega), eq5]) ?_
  refine fj_callVw (As := [.int (nI q5)]) (rest := []) C (d_X6_openOf l D ty t0 bd a g n P S T B I M6 E7 W8 Y (nI q5)) (cwV 1 C.2.2.2.2.1 gX6_prove_X6_openOf rfl rfl rfl (by decide +kernel) ⟨Nat.le_of_ble_eq_true rfl, Nat.le_of_ble_eq_true rfl⟩) ⟨0, 6, _, _, fm_at0 _ _ _ _ _, rfl, rfl⟩ rfl (Nat.le_of_ble_eq_true rfl) dX6_prove_7 ⟨Nat.zero_le _, Nat.zero_le _⟩ (fun v9 w9 hp9 => ?_)
  obtain ⟨rfl, rfl⟩ := hp9
  refine fj_st (st' := .int (opO a (nI q5) E7) :: []) rfl ?_
  refine fj_topi (fun r9 e_r9 => ?_)
  refine fj_istore_n (lv' := [(2, .int r9), (0, .ref (bd 0)), (1, .int (nI k))]) C dX6_prove_10 rfl (by decide) rfl ?_
  refine fj_iload_n C 0 dX6_prove_11 rfl rfl ?_
  refine fj_if_lt (tgt := 30) C dX6_prove_12 (by decide) (fun h12 => ?_) (fun h12 => ?_)
  · refine fj_bipush (v := 8) C dX6_prove_30 (by decide) ?_
    exact fj_iret C E9 dX6_prove_32 ⟨_, _, Or.inl ⟨by rw [MGO, ← e_r9]; first | exact fun z => z.1 h12 | exact fun z => h27 (by have y := z.2; rwa [nI_clamp (by omega)] at y), rfl, rfl⟩, rfl, rfl⟩
  · obtain ⟨e5, he5, rfl⟩ := (show r9 = -1 ∨ ∃ e5, e5 < E7 ∧ r9 = nI e5 by rw [e_r9]; exact opO_in a _ E7).resolve_left (fun q => h12 (by rw [q]; decide))
    obtain ⟨l6, hl6, el6⟩ := yEL e5 he5
    have he6 : (a 20 e5).toNatClampNeg = l6 := by rw [el6, nI_clamp (by omega)]
    obtain ⟨u7, hu7, eu7⟩ := yD l6 hl6
    refine fj_aload_n C 1 dX6_prove_15 rfl rfl ?_
    refine fj_get (Cn := RX6) (T := TX6) (N := 44) (ci := 6) (v := .ref (bd 22)) C iX6 0 (fm_at0 _ _ _ _ _) rfl 29 (by decide) kX6_82 rfl dX6_prove_16 ?_
    refine fj_iload_n C 0 dX6_prove_19 rfl rfl ?_
    refine fj_iald (f := (a 22)) C 22 (fm_at22 _ _ _ _ _) (vp_in_nI (by omega) (by decide)) dX6_prove_20 ?_
    refine fj_at (y := a 22 e5) (by rw [nI_clamp (by omega)]) ?_
    refine fj_aload_n C 1 dX6_prove_21 rfl rfl ?_
    refine fj_get (Cn := RX6) (T := TX6) (N := 44) (ci := 6) (v := .ref (bd 10)) C iX6 0 (fm_at0 _ _ _ _ _) rfl 15 (by decide) kX6_45 rfl dX6_prove_22 ?_
    refine fj_iload_n C 2 dX6_prove_25 rfl rfl ?_
    refine fj_iald (f := (a 10)) C 10 (fm_at10 _ _ _ _ _) (vp_in_nI (by omega) (by decide)) dX6_prove_26 ?_
    refine fj_at (y := a 10 k) (by rw [nI_clamp (by omega)]) ?_
    refine fj_icmp_eq (tgt := 33) C dX6_prove_27 (by decide) (fun h27 => ?_) (fun h27 => ?_)
    · refine fj_aload_n C 1 dX6_prove_33 rfl rfl ?_
      refine fj_get (Cn := RX6) (T := TX6) (N := 44) (ci := 6) (v := .ref (bd 8)) C iX6 0 (fm_at0 _ _ _ _ _) rfl 13 (by decide) kX6_39 rfl dX6_prove_34 ?_
      refine fj_iload_n C 2 dX6_prove_37 rfl rfl ?_
      refine fj_iald (f := (a 8)) C 8 (fm_at8 _ _ _ _ _) (vp_in_nI (by omega) (by decide)) dX6_prove_38 ?_
      refine fj_at (y := a 8 k) (by rw [nI_clamp (by omega)]) ?_
      refine fj_istore_n (lv' := [(3, .int (a 8 k)), (2, .int (nI e5)), (0, .ref (bd 0)), (1, .int (nI k))]) C dX6_prove_39 rfl (by decide) rfl ?_
      refine fj_aload_n C 2 dX6_prove_40 rfl rfl ?_
      refine fj_get (Cn := RX6) (T := TX6) (N := 44) (ci := 6) (v := .ref (bd 8)) C iX6 0 (fm_at0 _ _ _ _ _) rfl 13 (by decide) kX6_39 rfl dX6_prove_41 ?_
      refine fj_aload_n C 2 dX6_prove_44 rfl rfl ?_
      refine fj_get (Cn := RX6) (T := TX6) (N := 44) (ci := 6) (v := .ref (bd 20)) C iX6 0 (fm_at0 _ _ _ _ _) rfl 27 (by decide) kX6_76 rfl dX6_prove_45 ?_
      refine fj_iload_n C 1 dX6_prove_48 rfl rfl ?_
      refine fj_iald (f := (a 20)) C 20 (fm_at20 _ _ _ _ _) (vp_in_nI (by omega) (by decide)) dX6_prove_49 ?_
      refine fj_at (y := nI l6) (by rw [nI_clamp (by omega), el6]) ?_
      refine fj_iald (f := (a 8)) C 8 (fm_at8 _ _ _ _ _) (vp_in_nI (by omega) (by decide)) dX6_prove_50 ?_
      refine fj_at (y := nI u7) (by rw [nI_clamp (by omega), eu7]) ?_
      refine fj_istore (lv' := [(4, .int (nI u7)), (3, .int (a 8 k)), (2, .int (nI e5)), (0, .ref (bd 0)), (1, .int (nI k))]) C dX6_prove_51 (by decide) rfl ?_
      refine fj_aload_n C 3 dX6_prove_53 rfl rfl ?_
      refine fj_get (Cn := RX6) (T := TX6) (N := 44) (ci := 6) (v := .ref (bd 24)) C iX6 0 (fm_at0 _ _ _ _ _) rfl 31 (by decide) kX6_88 rfl dX6_prove_54 ?_
      refine fj_iload_n C 2 dX6_prove_57 rfl rfl ?_
      refine fj_iald (f := (a 24)) C 24 (fm_at24 _ _ _ _ _) (vp_in_nI (by omega) (by decide)) dX6_prove_58 ?_
      refine fj_at (y := a 24 e5) (by rw [nI_clamp (by omega)]) ?_
      refine fj_istore (lv' := [(5, .int (a 24 e5)), (4, .int (nI u7)), (3, .int (a 8 k)), (2, .int (nI e5)), (0, .ref (bd 0)), (1, .int (nI k))]) C dX6_prove_59 (by decide) rfl ?_
      refine fj_iload_n C 2 dX6_prove_61 rfl rfl ?_
      refine fj_iload C 1 dX6_prove_62 rfl ?_
      refine fj_isub C dX6_prove_64 ?_
      refine fj_aload_n C 4 dX6_prove_65 rfl rfl ?_
      refine fj_iload C 0 dX6_prove_66 rfl ?_
      refine fj_iconst (v := 4) C dX6_prove_68 (by decide) ?_
      refine fj_callVw (As := [.int (a 24 e5), .int 4]) (rest := [.int ((a 8 k) - (nI u7))]) C (d_X6_setBy l D ty t0 bd a g n P S T B I (a 24 e5) 4 (yLW e5 he5) 4 rfl (by decide)) (cwV 2 C.2.2.2.2.1 gX6_prove_X6_setBy rfl rfl rfl (by decide +kernel) ⟨Nat.le_of_ble_eq_true rfl, Nat.le_of_ble_eq_true rfl⟩) ⟨0, 6, _, _, fm_at0 _ _ _ _ _, rfl, rfl⟩ rfl (Nat.le_of_ble_eq_true rfl) dX6_prove_69 ⟨Nat.zero_le _, Nat.zero_le _⟩ (fun v9 w9 hp9 => ?_)
      obtain ⟨rfl, rfl⟩ := hp9
      refine fj_st (st' := .int (sbw a S (a 24 e5) 4) :: [.int ((a 8 k) - (nI u7))]) rfl ?_
      refine fj_icmp_le (tgt := 78) C dX6_prove_72 (by decide) (fun h72 => ?_) (fun h72 => ?_)
      · refine fj_aload_n C 4 dX6_prove_78 rfl rfl ?_
        refine fj_iload_n C 3 dX6_prove_79 rfl rfl ?_
        refine fj_callVw (As := [.int (nI e5)]) (rest := []) C (d_X6_markLived l D ty t0 bd a g n P S T B I M6 E7 W8 Y (nI e5) e5 rfl he5) (cwV 1 C.2.2.2.2.1 gX6_prove_X6_markLived rfl rfl rfl (by decide +kernel) ⟨Nat.le_of_ble_eq_true rfl, Nat.le_of_ble_eq_true rfl⟩) ⟨0, 6, _, _, fm_at0 _ _ _ _ _, rfl, rfl⟩ rfl (Nat.le_of_ble_eq_true rfl) dX6_prove_80 ⟨Nat.zero_le _, Nat.zero_le _⟩ (fun v9 w9 hp9 => ?_)
        obtain ⟨rfl, rfl⟩ := hp9
        refine fj_st (st' := []) rfl ?_
        refine fj_aload_n C 4 dX6_prove_83 rfl rfl ?_
        refine fj_iload C 1 dX6_prove_84 rfl ?_
        refine fj_iload_n C 2 dX6_prove_86 rfl rfl ?_
        refine fj_iconst (v := 1) C dX6_prove_87 (by decide) ?_
        refine fj_isub C dX6_prove_88 ?_
        refine fj_callVw (As := [.int (nI u7), .int ((a 8 k) - 1)]) (rest := []) C (d_X6_livedDays l D ty t0 bd (va_up a 29 (mkF a e5 W8)) g n (nI u7) ((a 8 k) - 1) u7 rfl (by omega) (to_d1 ed5 hd5)) (cwV 2 C.2.2.2.2.1 gX6_prove_X6_livedDays rfl rfl rfl (by decide +kernel) ⟨Nat.le_of_ble_eq_true rfl, Nat.le_of_ble_eq_true rfl⟩) ⟨0, 6, _, _, fm_at0 _ _ _ _ _, rfl, rfl⟩ rfl (Nat.le_of_ble_eq_true rfl) dX6_prove_89 ⟨Nat.zero_le _, Nat.zero_le _⟩ (fun v9 w9 hp9 => ?_)
        obtain ⟨d9, hU9, rfl, rfl⟩ := hp9
        refine fj_st (st' := .int (nI (cL (mkF a e5 W8) u7 d9)) :: []) rfl ?_
        refine fj_aload_n C 4 dX6_prove_92 rfl rfl ?_
        refine fj_iload C 0 dX6_prove_93 rfl ?_
        refine fj_iconst (v := 1) C dX6_prove_95 (by decide) ?_
        refine fj_callVw (As := [.int (a 24 e5), .int 1]) (rest := [.int (nI (cL (mkF a e5 W8) u7 d9))]) C (d_X6_setBy l D ty t0 bd (va_up a 29 (mkF a e5 W8)) g n P S T B I (a 24 e5) 1 (yLW e5 he5) 1 rfl (by decide)) (cwV 2 C.2.2.2.2.1 gX6_prove_X6_setBy rfl rfl rfl (by decide +kernel) ⟨Nat.le_of_ble_eq_true rfl, Nat.le_of_ble_eq_true rfl⟩) ⟨0, 6, _, _, fm_at0 _ _ _ _ _, rfl, rfl⟩ rfl (Nat.le_of_ble_eq_true rfl) dX6_prove_96 ⟨Nat.zero_le _, Nat.zero_le _⟩ (fun v9 w9 hp9 => ?_)
        obtain ⟨rfl, rfl⟩ := hp9
        refine fj_st (st' := .int (sbw (va_up a 29 (mkF a e5 W8)) S (a 24 e5) 1) :: [.int (nI (cL (mkF a e5 W8) u7 d9))]) rfl ?_
        refine fj_at (y := sbw a S (a 24 e5) 1) (sbw_k rfl rfl rfl) ?_
        refine fj_icmp_ge (tgt := 105) C dX6_prove_99 (by decide) (fun h99 => ?_) (fun h99 => ?_)
        · refine fj_aload_n C 4 dX6_prove_105 rfl rfl ?_
          refine fj_iload C 1 dX6_prove_106 rfl ?_
          refine fj_iload_n C 2 dX6_prove_108 rfl rfl ?_
          refine fj_iconst (v := 1) C dX6_prove_109 (by decide) ?_
          refine fj_isub C dX6_prove_110 ?_
          refine fj_callVw (As := [.int (nI u7), .int ((a 8 k) - 1)]) (rest := []) C (d_X6_longestGap l D ty t0 bd (va_up a 29 (mkF a e5 W8)) g n (nI u7) ((a 8 k) - 1) u7 rfl (by omega) (to_d1 ed5 hd5)) (cwV 2 C.2.2.2.2.1 gX6_prove_X6_longestGap rfl rfl rfl (by decide +kernel) ⟨Nat.le_of_ble_eq_true rfl, Nat.le_of_ble_eq_true rfl⟩) ⟨0, 6, _, _, fm_at0 _ _ _ _ _, rfl, rfl⟩ rfl (Nat.le_of_ble_eq_true rfl) dX6_prove_111 ⟨Nat.zero_le _, Nat.zero_le _⟩ (fun v9 w9 hp9 => ?_)
          obtain ⟨d8, hU8, rfl, rfl⟩ := hp9
          refine fj_st (st' := .int (nI (lgN (mkF a e5 W8) u7 d8)) :: []) rfl ?_
          refine fj_aload_n C 4 dX6_prove_114 rfl rfl ?_
          refine fj_iload C 0 dX6_prove_115 rfl ?_
          refine fj_iconst (v := 2) C dX6_prove_117 (by decide) ?_
          refine fj_callVw (As := [.int (a 24 e5), .int 2]) (rest := [.int (nI (lgN (mkF a e5 W8) u7 d8))]) C (d_X6_setBy l D ty t0 bd (va_up a 29 (mkF a e5 W8)) g n P S T B I (a 24 e5) 2 (yLW e5 he5) 2 rfl (by decide)) (cwV 2 C.2.2.2.2.1 gX6_prove_X6_setBy rfl rfl rfl (by decide +kernel) ⟨Nat.le_of_ble_eq_true rfl, Nat.le_of_ble_eq_true rfl⟩) ⟨0, 6, _, _, fm_at0 _ _ _ _ _, rfl, rfl⟩ rfl (Nat.le_of_ble_eq_true rfl) dX6_prove_118 ⟨Nat.zero_le _, Nat.zero_le _⟩ (fun v9 w9 hp9 => ?_)
          obtain ⟨rfl, rfl⟩ := hp9
          refine fj_st (st' := .int (sbw (va_up a 29 (mkF a e5 W8)) S (a 24 e5) 2) :: [.int (nI (lgN (mkF a e5 W8) u7 d8))]) rfl ?_
          refine fj_at (y := sbw a S (a 24 e5) 2) (sbw_k rfl rfl rfl) ?_
          refine fj_icmp_le (tgt := 127) C dX6_prove_121 (by decide) (fun h121 => ?_) (fun h121 => ?_)
          · refine fj_aload_n C 4 dX6_prove_127 rfl rfl ?_
            refine fj_iload_n C 3 dX6_prove_128 rfl rfl ?_
            refine fj_callVw (As := [.int (nI e5)]) (rest := []) C (d_X6_acres l D ty t0 bd (va_up a 29 (mkF a e5 W8)) g n P S T B I M6 E7 W8 Y (nI e5) e5 rfl he5) (cwV 1 C.2.2.2.2.1 gX6_prove_X6_acres rfl rfl rfl (by decide +kernel) ⟨Nat.le_of_ble_eq_true rfl, Nat.le_of_ble_eq_true rfl⟩) ⟨0, 6, _, _, fm_at0 _ _ _ _ _, rfl, rfl⟩ rfl (Nat.le_of_ble_eq_true rfl) dX6_prove_129 ⟨Nat.zero_le _, Nat.zero_le _⟩ (fun v9 w9 hp9 => ?_)
            obtain ⟨rfl, rfl⟩ := hp9
            refine fj_st (st' := .int (acM (va_up a 29 (mkF a e5 W8)) e5 ((a 21) e5).toNatClampNeg (W8 - ((a 21) e5).toNatClampNeg)) :: []) rfl ?_
            refine fj_at (y := acM a e5 (a 21 e5).toNatClampNeg (W8 - (a 21 e5).toNatClampNeg)) (acM_k (fun q hq => va_up_ne _ _ hq) _ _ _) ?_
            refine fj_aload_n C 4 dX6_prove_132 rfl rfl ?_
            refine fj_iload C 0 dX6_prove_133 rfl ?_
            refine fj_iconst (v := 3) C dX6_prove_135 (by decide) ?_
            refine fj_callVw (As := [.int (a 24 e5), .int 3]) (rest := [.int (acM a e5 (a 21 e5).toNatClampNeg (W8 - (a 21 e5).toNatClampNeg))]) C (d_X6_setBy l D ty t0 bd (va_up a 29 (mkF a e5 W8)) g n P S T B I (a 24 e5) 3 (yLW e5 he5) 3 rfl (by decide)) (cwV 2 C.2.2.2.2.1 gX6_prove_X6_setBy rfl rfl rfl (by decide +kernel) ⟨Nat.le_of_ble_eq_true rfl, Nat.le_of_ble_eq_true rfl⟩) ⟨0, 6, _, _, fm_at0 _ _ _ _ _, rfl, rfl⟩ rfl (Nat.le_of_ble_eq_true rfl) dX6_prove_136 ⟨Nat.zero_le _, Nat.zero_le _⟩ (fun v9 w9 hp9 => ?_)
            obtain ⟨rfl, rfl⟩ := hp9
            refine fj_st (st' := .int (sbw (va_up a 29 (mkF a e5 W8)) S (a 24 e5) 3) :: [.int (acM a e5 (a 21 e5).toNatClampNeg (W8 - (a 21 e5).toNatClampNeg))]) rfl ?_
            refine fj_at (y := sbw a S (a 24 e5) 3) (sbw_k rfl rfl rfl) ?_
            refine fj_icmp_ge (tgt := 145) C dX6_prove_139 (by decide) (fun h139 => ?_) (fun h139 => ?_)
            · refine fj_aload_n C 4 dX6_prove_145 rfl rfl ?_
              refine fj_get (Cn := RX6) (T := TX6) (N := 44) (ci := 6) (v := .ref (bd 25)) C iX6 0 (fm_at0 _ _ _ _ _) rfl 32 (by decide) kX6_91 rfl dX6_prove_146 ?_
              refine fj_iload_n C 3 dX6_prove_149 rfl rfl ?_
              refine fj_iconst (v := 2) C dX6_prove_150 (by decide) ?_
              refine fj_iast (f := (a 25)) C 25 (fm_at25 _ _ _ _ _) (vp_in_nI (by omega) (by decide)) dX6_prove_151 (fm_st25 _ _ _ _ _ _) ?_
              refine fj_ws (ws' := (fm_w bd ty (va_up (va_up a 29 (mkF a e5 W8)) 25 (upd (a 25) e5 2)) g n)) (by rw [nI_clamp (by omega)]) ?_
              refine fj_aload_n C 4 dX6_prove_152 rfl rfl ?_
              refine fj_get (Cn := RX6) (T := TX6) (N := 44) (ci := 6) (v := .ref (bd 26)) C iX6 0 (fm_at0 _ _ _ _ _) rfl 33 (by decide) kX6_94 rfl dX6_prove_153 ?_
              refine fj_iload_n C 3 dX6_prove_156 rfl rfl ?_
              refine fj_iload_n C 2 dX6_prove_157 rfl rfl ?_
              refine fj_aload_n C 4 dX6_prove_158 rfl rfl ?_
              refine fj_iload C 0 dX6_prove_159 rfl ?_
              refine fj_bipush (v := 8) C dX6_prove_161 (by decide) ?_
              refine fj_callVw (As := [.int (a 24 e5), .int 8]) (rest := [.int (a 8 k), .int (nI e5), .ref (bd 26)]) C (d_X6_setBy l D ty t0 bd (va_up (va_up a 29 (mkF a e5 W8)) 25 (upd (a 25) e5 2)) g n P S T B I (a 24 e5) 8 (yLW e5 he5) 8 rfl (by decide)) (cwV 2 C.2.2.2.2.1 gX6_prove_X6_setBy rfl rfl rfl (by decide +kernel) ⟨Nat.le_of_ble_eq_true rfl, Nat.le_of_ble_eq_true rfl⟩) ⟨0, 6, _, _, fm_at0 _ _ _ _ _, rfl, rfl⟩ rfl (Nat.le_of_ble_eq_true rfl) dX6_prove_163 ⟨Nat.zero_le _, Nat.zero_le _⟩ (fun v9 w9 hp9 => ?_)
              obtain ⟨rfl, rfl⟩ := hp9
              refine fj_st (st' := .int (sbw (va_up (va_up a 29 (mkF a e5 W8)) 25 (upd (a 25) e5 2)) S (a 24 e5) 8) :: [.int (a 8 k), .int (nI e5), .ref (bd 26)]) rfl ?_
              refine fj_at (y := sbw a S (a 24 e5) 8) (sbw_k rfl rfl rfl) ?_
              refine fj_iadd C dX6_prove_166 ?_
              refine fj_iast (f := (a 26)) C 26 (fm_at26 _ _ _ _ _) (vp_in_nI (by omega) (by decide)) dX6_prove_167 (fm_st26 _ _ _ _ _ _) ?_
              refine fj_ws (ws' := (fm_w bd ty (va_up (va_up (va_up a 29 (mkF a e5 W8)) 25 (upd (a 25) e5 2)) 26 (upd (a 26) e5 (a 8 k + sbw a S (a 24 e5) 8))) g n)) (by rw [nI_clamp (by omega)]) ?_
              refine fj_iconst (v := 0) C dX6_prove_168 (by decide) ?_
              exact fj_iret C E9 dX6_prove_169 ⟨_, _, Or.inr ⟨e5, he5, e_r9.symm, h27, Or.inr ⟨(by rw [he6, eu7]; exact Int32.not_lt.mpr h72), u7, d9, by rw [he6, eu7], hu7, hU9, Or.inr ⟨Int32.not_lt.mpr h99, d8, hU8, Or.inr ⟨Int32.not_lt.mpr h121, Or.inr ⟨Int32.not_lt.mpr h139, rfl, rfl⟩⟩⟩⟩⟩, rfl, rfl⟩
            · refine fj_bipush (v := 15) C dX6_prove_142 (by decide) ?_
              exact fj_iret C E9 dX6_prove_144 ⟨_, _, Or.inr ⟨e5, he5, e_r9.symm, h27, Or.inr ⟨(by rw [he6, eu7]; exact Int32.not_lt.mpr h72), u7, d9, by rw [he6, eu7], hu7, hU9, Or.inr ⟨Int32.not_lt.mpr h99, d8, hU8, Or.inr ⟨Int32.not_lt.mpr h121, Or.inl ⟨Int32.not_le.mp h139, rfl, rfl⟩⟩⟩⟩⟩, rfl, rfl⟩
          · refine fj_bipush (v := 14) C dX6_prove_124 (by decide) ?_
            exact fj_iret C E9 dX6_prove_126 ⟨_, _, Or.inr ⟨e5, he5, e_r9.symm, h27, Or.inr ⟨(by rw [he6, eu7]; exact Int32.not_lt.mpr h72), u7, d9, by rw [he6, eu7], hu7, hU9, Or.inr ⟨Int32.not_lt.mpr h99, d8, hU8, Or.inl ⟨Int32.not_le.mp h121, rfl, rfl⟩⟩⟩⟩, rfl, rfl⟩
        · refine fj_bipush (v := 13) C dX6_prove_102 (by decide) ?_
          exact fj_iret C E9 dX6_prove_104 ⟨_, _, Or.inr ⟨e5, he5, e_r9.symm, h27, Or.inr ⟨(by rw [he6, eu7]; exact Int32.not_lt.mpr h72), u7, d9, by rw [he6, eu7], hu7, hU9, Or.inl ⟨Int32.not_le.mp h99, rfl, rfl⟩⟩⟩, rfl, rfl⟩
      · refine fj_bipush (v := 12) C dX6_prove_75 (by decide) ?_
        exact fj_iret C E9 dX6_prove_77 ⟨_, _, Or.inr ⟨e5, he5, e_r9.symm, h27, Or.inl ⟨by rw [he6, eu7]; exact Int32.not_le.mp h72, rfl, rfl⟩⟩, rfl, rfl⟩
    · refine fj_bipush (v := 8) C dX6_prove_30 (by decide) ?_
      exact fj_iret C E9 dX6_prove_32 ⟨_, _, Or.inl ⟨by rw [MGO, ← e_r9]; first | exact fun z => z.1 h12 | exact fun z => h27 (by have y := z.2; rwa [nI_clamp (by omega)] at y), rfl, rfl⟩, rfl, rfl⟩

set_option maxHeartbeats 4000000 in
set_option maxRecDepth 100000 in
theorem d_X6_death (l : Launch) (D : va_G) (ty : Nat → ClassId) (t0 : Nat → Nat) (bd : Nat → Nat) (a : Nat → Nat → Int32) (g : Nat → Nat → Int64) (n : Nat → Int32) (P : Nat) (S : Nat) (T : Nat) (B : Nat) (I : YI P S T B a n) (M6 : Nat) (E7 : Nat) (W8 : Nat) (Y : YW S B M6 E7 W8 a n) (x : Int32) (k : Nat) (ek : x = nI k) (hk : k < B) (p5 : Nat) (ep5 : a 10 k = nI p5) (hp5 : p5 < 12) (h5 : Nat) (eh5 : a 12 k = nI h5) (hh5 : h5 < 12) : fc l yX6_death wsX6_death (fj_rm 0 0 0 0) D ty t0 [.ref (bd 0), .int x] (fm_w bd ty a g n) 0 0 (fun v w => v = some (.int (MDc a p5 h5)) ∧ w = fm_w bd ty (if MDc a p5 h5 = 0 then MDu a E7 p5 h5 else a) g n) := by
  subst ek
  refine fc_start (own := RX6) (cc := cX6_death) (maxL := 5) (ret := (some .int)) (by decide) rfl (Nat.le_of_ble_eq_true rfl) rfl ?_
  intro p e s m args below meth c Q A C hmn E9
  obtain ⟨hn0, hP, hn2, hT, hn4, hS, hn5, hB, yWho, ySort, yQ, yN, yD, yL⟩ := id I
  obtain ⟨hn6, hM6, hn7, hn8, hEW, hWM, yO, yEL, yEA, yLW⟩ := id Y
  have iX6 : ∀ w ∈ u_ws RX6 TX6 44, w ∈ wsX6_death := ptX6_death_wsX60
  have kX6_45 : Cond.fieldLink RX6 45 "FreeLandModel" "people" "[I" ∈ wsX6_death := ptX6_death_woX6_death _ (by decide +kernel)
  have kX6_51 : Cond.fieldLink RX6 51 "FreeLandModel" "numbers" "[I" ∈ wsX6_death := ptX6_death_woX6_death _ (by decide +kernel)
  have kX6_73 : Cond.fieldLink RX6 73 "FreeLandModel" "isDead" "[Z" ∈ wsX6_death := ptX6_death_woX6_death _ (by decide +kernel)
  have kX6_206 : Cond.fieldLink RX6 206 "FreeLandModel" "entries" "I" ∈ wsX6_death := ptX6_death_woX6_death _ (by decide +kernel)
  have kX6_91 : Cond.fieldLink RX6 91 "FreeLandModel" "entryState" "[I" ∈ wsX6_death := ptX6_death_woX6_death _ (by decide +kernel)
  have kX6_82 : Cond.fieldLink RX6 82 "FreeLandModel" "holders" "[I" ∈ wsX6_death := ptX6_death_woX6_death _ (by decide +kernel)
  have kX6_85 : Cond.fieldLink RX6 85 "FreeLandModel" "heldBy" "[I" ∈ wsX6_death := ptX6_death_woX6_death _ (by decide +kernel)
  refine fj_lv (lv' := [(0, .ref (bd 0)), (1, .int (nI k))]) [0, 1] rfl ?_
  refine fj_aload_n C 0 dX6_death_0 rfl rfl ?_
  refine fj_get (Cn := RX6) (T := TX6) (N := 44) (ci := 6) (v := .ref (bd 10)) C iX6 0 (fm_at0 _ _ _ _ _) rfl 15 (by decide) kX6_45 rfl dX6_death_1 ?_
  refine fj_iload_n C 1 dX6_death_4 rfl rfl ?_
  refine fj_iald (f := (a 10)) C 10 (fm_at10 _ _ _ _ _) (vp_in_nI (by omega) (by decide)) dX6_death_5 ?_
  refine fj_at (y := nI p5) (by rw [nI_clamp (by omega), ep5]) ?_
  refine fj_istore_n (lv' := [(2, .int (nI p5)), (0, .ref (bd 0)), (1, .int (nI k))]) C dX6_death_6 rfl (by decide) rfl ?_
  refine fj_aload_n C 1 dX6_death_7 rfl rfl ?_
  refine fj_get (Cn := RX6) (T := TX6) (N := 44) (ci := 6) (v := .ref (bd 12)) C iX6 0 (fm_at0 _ _ _ _ _) rfl 17 (by decide) kX6_51 rfl dX6_death_8 ?_
  refine fj_iload_n C 2 dX6_death_11 rfl rfl ?_
  refine fj_iald (f := (a 12)) C 12 (fm_at12 _ _ _ _ _) (vp_in_nI (by omega) (by decide)) dX6_death_12 ?_
  refine fj_at (y := nI h5) (by rw [nI_clamp (by omega), eh5]) ?_
  refine fj_istore_n (lv' := [(3, .int (nI h5)), (2, .int (nI p5)), (0, .ref (bd 0)), (1, .int (nI k))]) C dX6_death_13 rfl (by decide) rfl ?_
  refine fj_iload_n C 0 dX6_death_14 rfl rfl ?_
  refine fj_iload_n C 1 dX6_death_15 rfl rfl ?_
  refine fj_icmp_eq (tgt := 28) C dX6_death_16 (by decide) (fun h16 => ?_) (fun h16 => ?_)
  · refine fj_bipush (v := 16) C dX6_death_28 (by decide) ?_
    exact fj_iret C E9 dX6_death_30 (by
      have hc : MDc a p5 h5 = 16 := if_pos (by first | exact Or.inl h16 | exact Or.inr h25)
      exact ⟨by rw [hc], by rw [hc, if_neg (by decide : ¬ (16 : Int32) = 0)]⟩)
  · refine fj_aload_n C 2 dX6_death_19 rfl rfl ?_
    refine fj_get (Cn := RX6) (T := TX6) (N := 44) (ci := 6) (v := .ref (bd 19)) C iX6 0 (fm_at0 _ _ _ _ _) rfl 25 (by decide) kX6_73 rfl dX6_death_20 ?_
    refine fj_iload_n C 0 dX6_death_23 rfl rfl ?_
    refine fj_zald (f := (a 19)) C 19 (fm_at19 _ _ _ _ _) (vp_in_nI (by omega) (by decide)) dX6_death_24 ?_
    refine fj_at (y := a 19 h5) (by rw [nI_clamp (by omega)]) ?_
    refine fj_if_eq (tgt := 31) C dX6_death_25 (by decide) (fun h25 => ?_) (fun h25 => ?_)
    · refine fj_aload_n C 2 dX6_death_31 rfl rfl ?_
      refine fj_get (Cn := RX6) (T := TX6) (N := 44) (ci := 6) (v := .ref (bd 19)) C iX6 0 (fm_at0 _ _ _ _ _) rfl 25 (by decide) kX6_73 rfl dX6_death_32 ?_
      refine fj_iload_n C 1 dX6_death_35 rfl rfl ?_
      refine fj_iconst (v := 1) C dX6_death_36 (by decide) ?_
      refine fj_zast (f := (a 19)) C 19 (fm_at19 _ _ _ _ _) (vp_in_nI (by omega) (by decide)) dX6_death_37 (fm_st19 _ _ _ _ _ _) ?_
      refine fj_ws (ws' := (fm_w bd ty (va_up a 19 (upd (a 19) p5 1)) g n)) (by rw [nI_clamp (by omega)]; rfl) ?_
      refine fj_iconst (v := 0) C dX6_death_38 (by decide) ?_
      refine fj_istore (lv' := [(4, .int 0), (3, .int (nI h5)), (2, .int (nI p5)), (0, .ref (bd 0)), (1, .int (nI k))]) C dX6_death_39 (by decide) rfl ?_
      refine fj_lv (lv' := [(0, .ref (bd 0)), (1, .int (nI k)), (2, .int (nI p5)), (3, .int (nI h5)), (4, .int 0)]) [3, 4, 2, 1, 0] rfl ?_
      have lp41 : ∀ (i : Nat) (f : Nat → Int32) (f2 : Nat → Int32), (i ≤ E7) → (mdt a (nI p5) (nI h5) i = (f, f2)) → fj p l e (fj_rm 0 0 0 0) s m args below meth c Q A D 5 0 0 (fm_w bd ty (va_up (va_up (va_up a 19 (upd (a 19) p5 1)) 22 f) 23 f2) g n) [(0, .ref (bd 0)), (1, .int (nI k)), (2, .int (nI p5)), (3, .int (nI h5)), (4, .int (nI i))] 41 [] := by
        have key : ∀ zz : Nat × (Nat → Int32) × (Nat → Int32), (fun (zz : Nat × (Nat → Int32) × (Nat → Int32)) => match zz with | (i, f, f2) => (i ≤ E7) → (mdt a (nI p5) (nI h5) i = (f, f2)) → fj p l e (fj_rm 0 0 0 0) s m args below meth c Q A D 5 0 0 (fm_w bd ty (va_up (va_up (va_up a 19 (upd (a 19) p5 1)) 22 f) 23 f2) g n) [(0, .ref (bd 0)), (1, .int (nI k)), (2, .int (nI p5)), (3, .int (nI h5)), (4, .int (nI i))] 41 []) zz := by
          refine fx_ind (fun (zz : Nat × (Nat → Int32) × (Nat → Int32)) => match zz with | (i, f, f2) => E7 - i) _ ?_
          rintro ⟨i, f, f2⟩ ih41 hi hst
          refine fj_iload C 4 dX6_death_41 rfl ?_
          refine fj_aload_n C 0 dX6_death_43 rfl rfl ?_
          refine fj_get (Cn := RX6) (T := TX6) (N := 44) (ci := 6) (v := .int (n 7)) C iX6 0 (fm_at0 _ _ _ _ _) rfl 26 (by decide) kX6_206 rfl dX6_death_44 ?_
          refine fj_at (y := nI E7) hn7 ?_
          refine fj_icmp_ge (tgt := 98) C dX6_death_47 (by decide) (fun h47 => ?_) (fun h47 => ?_)
          · have hge : E7 ≤ i := Nat.le_of_not_lt fun q => absurd (Int32.not_lt.mpr h47) (not_not_intro ((nI_ltI (by omega) (by omega)).mpr q))
            refine fj_iconst (v := 0) C dX6_death_98 (by decide) ?_
            exact fj_iret C E9 dX6_death_99 (by
      have hc : MDc a p5 h5 = 0 := if_neg (fun z => z.elim h16 (fun y => y h25))
      exact ⟨by rw [hc], by rw [hc, if_pos rfl, MDu, show E7 = i by omega, hst]⟩)
          · have hlt : i < E7 := (nI_ltI (by omega) (by omega)).mp (Int32.not_le.mp h47)
            refine fj_aload_n C 0 dX6_death_50 rfl rfl ?_
            refine fj_get (Cn := RX6) (T := TX6) (N := 44) (ci := 6) (v := .ref (bd 25)) C iX6 0 (fm_at0 _ _ _ _ _) rfl 32 (by decide) kX6_91 rfl dX6_death_51 ?_
            refine fj_iload C 4 dX6_death_54 rfl ?_
            refine fj_iald (f := (a 25)) C 25 (fm_at25 _ _ _ _ _) (vp_in_nI (by omega) (by decide)) dX6_death_56 ?_
            refine fj_at (y := a 25 i) (by rw [nI_clamp (by omega)]) ?_
            refine fj_if_eq (tgt := 92) C dX6_death_57 (by decide) (fun h57 => ?_) (fun h57 => ?_)
            · refine fj_iinc (v := nI (i + 1)) (lv' := [(4, .int (nI (i + 1))), (0, .ref (bd 0)), (1, .int (nI k)), (2, .int (nI p5)), (3, .int (nI h5))]) C 4 dX6_death_92 rfl (nI_1 i) (by decide) rfl ?_
              refine fj_goto (tgt := 41) C dX6_death_95 (by decide) ?_
              refine fj_lv (lv' := [(0, .ref (bd 0)), (1, .int (nI k)), (2, .int (nI p5)), (3, .int (nI h5)), (4, .int (nI (i + 1)))]) [1, 2, 3, 4, 0] rfl ?_
              refine fj_ws (ws' := (fm_w bd ty (va_up (va_up (va_up a 19 (upd (a 19) p5 1)) 22 f) 23 f2) g n)) rfl ?_
              exact ih41 ⟨i + 1, f, f2⟩ (by show E7 - (i + 1) < E7 - i; omega) (by omega) (by first | exact mdt_s hst h57 h68 | exact mdt_z hst h57 | exact mdt_y hst h68)
            · refine fj_aload_n C 0 dX6_death_60 rfl rfl ?_
              refine fj_get (Cn := RX6) (T := TX6) (N := 44) (ci := 6) (v := .ref (bd 22)) C iX6 0 (fm_at0 _ _ _ _ _) rfl 29 (by decide) kX6_82 rfl dX6_death_61 ?_
              refine fj_iload C 4 dX6_death_64 rfl ?_
              refine fj_iald (f := f) C 22 (fm_at22 _ _ _ _ _) (vp_in_nI (by omega) (by decide)) dX6_death_66 ?_
              refine fj_at (y := f i) (by rw [nI_clamp (by omega)]) ?_
              refine fj_iload_n C 2 dX6_death_67 rfl rfl ?_
              refine fj_icmp_ne (tgt := 92) C dX6_death_68 (by decide) (fun h68 => ?_) (fun h68 => ?_)
              · refine fj_iinc (v := nI (i + 1)) (lv' := [(4, .int (nI (i + 1))), (0, .ref (bd 0)), (1, .int (nI k)), (2, .int (nI p5)), (3, .int (nI h5))]) C 4 dX6_death_92 rfl (nI_1 i) (by decide) rfl ?_
                refine fj_goto (tgt := 41) C dX6_death_95 (by decide) ?_
                refine fj_lv (lv' := [(0, .ref (bd 0)), (1, .int (nI k)), (2, .int (nI p5)), (3, .int (nI h5)), (4, .int (nI (i + 1)))]) [1, 2, 3, 4, 0] rfl ?_
                refine fj_ws (ws' := (fm_w bd ty (va_up (va_up (va_up a 19 (upd (a 19) p5 1)) 22 f) 23 f2) g n)) rfl ?_
                exact ih41 ⟨i + 1, f, f2⟩ (by show E7 - (i + 1) < E7 - i; omega) (by omega) (by first | exact mdt_s hst h57 h68 | exact mdt_z hst h57 | exact mdt_y hst h68)
              · refine fj_aload_n C 0 dX6_death_71 rfl rfl ?_
                refine fj_get (Cn := RX6) (T := TX6) (N := 44) (ci := 6) (v := .ref (bd 22)) C iX6 0 (fm_at0 _ _ _ _ _) rfl 29 (by decide) kX6_82 rfl dX6_death_72 ?_
                refine fj_iload C 4 dX6_death_75 rfl ?_
                refine fj_iload_n C 3 dX6_death_77 rfl rfl ?_
                refine fj_iast (f := f) C 22 (fm_at22 _ _ _ _ _) (vp_in_nI (by omega) (by decide)) dX6_death_78 (fm_st22 _ _ _ _ _ _) ?_
                refine fj_ws (ws' := (fm_w bd ty (va_up (va_up (va_up a 19 (upd (a 19) p5 1)) 23 f2) 22 (upd f (nI i).toNatClampNeg (nI h5))) g n)) rfl ?_
                refine fj_ws (ws' := (fm_w bd ty (va_up (va_up (va_up a 19 (upd (a 19) p5 1)) 23 f2) 22 (upd f i (nI h5))) g n)) (by rw [nI_clamp (by omega)]) ?_
                refine fj_aload_n C 0 dX6_death_79 rfl rfl ?_
                refine fj_get (Cn := RX6) (T := TX6) (N := 44) (ci := 6) (v := .ref (bd 23)) C iX6 0 (fm_at0 _ _ _ _ _) rfl 30 (by decide) kX6_85 rfl dX6_death_80 ?_
                refine fj_iload C 4 dX6_death_83 rfl ?_
                refine fj_dup2 C dX6_death_85 rfl rfl ?_
                refine fj_iald (f := f2) C 23 (fm_at23 _ _ _ _ _) (vp_in_nI (by omega) (by decide)) dX6_death_86 ?_
                refine fj_at (y := f2 i) (by rw [nI_clamp (by omega)]) ?_
                refine fj_iconst (v := 1) C dX6_death_87 (by decide) ?_
                refine fj_iload_n C 3 dX6_death_88 rfl rfl ?_
                refine fj_ishl C dX6_death_89 ?_
                refine fj_ior C dX6_death_90 ?_
                refine fj_iast (f := f2) C 23 (fm_at23 _ _ _ _ _) (vp_in_nI (by omega) (by decide)) dX6_death_91 (fm_st23 _ _ _ _ _ _) ?_
                refine fj_ws (ws' := (fm_w bd ty (va_up (va_up (va_up a 19 (upd (a 19) p5 1)) 22 (upd f i (nI h5))) 23 (upd f2 (nI i).toNatClampNeg ((f2 i) ||| (1 <<< ((nI h5) &&& 31))))) g n)) rfl ?_
                refine fj_ws (ws' := (fm_w bd ty (va_up (va_up (va_up a 19 (upd (a 19) p5 1)) 22 (upd f i (nI h5))) 23 (upd f2 i (f2 i ||| 1 <<< (nI h5 &&& 31)))) g n)) (by rw [nI_clamp (by omega)]) ?_
                refine fj_iinc (v := nI (i + 1)) (lv' := [(4, .int (nI (i + 1))), (0, .ref (bd 0)), (1, .int (nI k)), (2, .int (nI p5)), (3, .int (nI h5))]) C 4 dX6_death_92 rfl (nI_1 i) (by decide) rfl ?_
                refine fj_goto (tgt := 41) C dX6_death_95 (by decide) ?_
                refine fj_lv (lv' := [(0, .ref (bd 0)), (1, .int (nI k)), (2, .int (nI p5)), (3, .int (nI h5)), (4, .int (nI (i + 1)))]) [1, 2, 3, 4, 0] rfl ?_
                refine fj_ws (ws' := (fm_w bd ty (va_up (va_up (va_up a 19 (upd (a 19) p5 1)) 22 (upd f i (nI h5))) 23 (upd f2 i (f2 i ||| 1 <<< (nI h5 &&& 31)))) g n)) rfl ?_
                exact ih41 ⟨i + 1, upd f i (nI h5), upd f2 i (f2 i ||| 1 <<< (nI h5 &&& 31))⟩ (by show E7 - (i + 1) < E7 - i; omega) (by omega) (by first | exact mdt_s hst h57 h68 | exact mdt_z hst h57 | exact mdt_y hst h68)
        intro i f f2
        exact key ⟨i, f, f2⟩
      refine fj_ws (ws' := (fm_w bd ty (va_up (va_up (va_up a 19 (upd (a 19) p5 1)) 22 (a 22)) 23 (a 23)) g n)) (by rw [up_id2 (b := va_up a 19 (upd (a 19) p5 1)) (k := 22) (l := 23) (x := a 22) (y := a 23) rfl rfl]) ?_
      exact lp41 0 (a 22) (a 23) (Nat.zero_le _) rfl
    · refine fj_bipush (v := 16) C dX6_death_28 (by decide) ?_
      exact fj_iret C E9 dX6_death_30 (by
      have hc : MDc a p5 h5 = 16 := if_pos (by first | exact Or.inl h16 | exact Or.inr h25)
      exact ⟨by rw [hc], by rw [hc, if_neg (by decide : ¬ (16 : Int32) = 0)]⟩)
