set_option maxHeartbeats 8000000 in
set_option maxRecDepth 100000 in
theorem nw_inM : ∀ q ∈ nw_M, Cond.methodLinkNest q.1 q.2.1 q.2.2 "FreeLand" ∈ lw_tbl := by decide +kernel
set_option maxHeartbeats 8000000 in
set_option maxRecDepth 100000 in
theorem nw_inF : ∀ q ∈ nw_F, Cond.fieldLinkNest q.1 q.2.1 q.2.2.1 q.2.2.2.1 q.2.2.2.2 "FreeLand" ∈ lw_tbl := by decide +kernel
set_option maxHeartbeats 8000000 in
set_option maxRecDepth 100000 in
/-- the statics and the constants, as the start has them -/
theorem fx_first {s : State} {b : Nat} {A : Nat → Prop} (hts : ∀ w ∈ lw_tbl, w.before #[Value.ref b] s = true) (hgv : (Jvm.Cond.and given_1 narrow_1).before #[Value.ref b] s = true) (hA : ∀ a : Nat, a < s.heap.size → ¬ A a) : ∃ t0 : Nat → Nat, fx_X t0 A s s.heap ∧ ∀ i, i < 9 → vk_R "FreeLand$Laws" (76 + 2 * i) (sx_T i) (t0 (1 + i)) s := by
  have hs := flat_of_before _ hgv
  have harr : (Cond.arrayOf (.static "FreeLand$Laws" "AT_FIRST" "[I") .int).before #[Value.ref b] s = true := hs _ (by decide +kernel)
  have hlen := va_eqt (hs (Cond.eq (.length (.static "FreeLand$Laws" "AT_FIRST" "[I")) (.int 9)) (by decide +kernel))
  have e0 := va_eqt (hs (Cond.eq (.elem (.static "FreeLand$Laws" "AT_FIRST" "[I") (.int 0)) (.int 7600)) (by decide +kernel))
  have e1 := va_eqt (hs (Cond.eq (.elem (.static "FreeLand$Laws" "AT_FIRST" "[I") (.int 1)) (.int 1800)) (by decide +kernel))
  have e2 := va_eqt (hs (Cond.eq (.elem (.static "FreeLand$Laws" "AT_FIRST" "[I") (.int 2)) (.int 180)) (by decide +kernel))
  have e3 := va_eqt (hs (Cond.eq (.elem (.static "FreeLand$Laws" "AT_FIRST" "[I") (.int 3)) (.int 10)) (by decide +kernel))
  have e4 := va_eqt (hs (Cond.eq (.elem (.static "FreeLand$Laws" "AT_FIRST" "[I") (.int 4)) (.int 2600)) (by decide +kernel))
  have e5 := va_eqt (hs (Cond.eq (.elem (.static "FreeLand$Laws" "AT_FIRST" "[I") (.int 5)) (.int 180)) (by decide +kernel))
  have e6 := va_eqt (hs (Cond.eq (.elem (.static "FreeLand$Laws" "AT_FIRST" "[I") (.int 6)) (.int 30)) (by decide +kernel))
  have e7 := va_eqt (hs (Cond.eq (.elem (.static "FreeLand$Laws" "AT_FIRST" "[I") (.int 7)) (.int 1)) (by decide +kernel))
  have e8 := va_eqt (hs (Cond.eq (.elem (.static "FreeLand$Laws" "AT_FIRST" "[I") (.int 8)) (.int 100)) (by decide +kernel))
  obtain ⟨t, h1, h2⟩ := va_Tof (N := 9) (f := fun j => .int (fx_AF j)) (A := A) (by decide) harr hlen (fun j hj => by
    rcases (show j = 0 ∨ j = 1 ∨ j = 2 ∨ j = 3 ∨ j = 4 ∨ j = 5 ∨ j = 6 ∨ j = 7 ∨ j = 8 by omega) with rfl | rfl | rfl | rfl | rfl | rfl | rfl | rfl | rfl
    · exact e0
    · exact e1
    · exact e2
    · exact e3
    · exact e4
    · exact e5
    · exact e6
    · exact e7
    · exact e8) hA
  have q1 : ∀ i, i < 9 → (Cond.exactly (Term.string "FreeLand$Laws" (76 + 2 * i)) "java/lang/String").before #[Value.ref b] s = true := by
      intro i hi
      rcases (show i = 0 ∨ i = 1 ∨ i = 2 ∨ i = 3 ∨ i = 4 ∨ i = 5 ∨ i = 6 ∨ i = 7 ∨ i = 8 by omega) with rfl | rfl | rfl | rfl | rfl | rfl | rfl | rfl | rfl
      · exact hs (Cond.exactly (Term.string "FreeLand$Laws" 76) "java/lang/String") (by decide +kernel)
      · exact hs (Cond.exactly (Term.string "FreeLand$Laws" 78) "java/lang/String") (by decide +kernel)
      · exact hs (Cond.exactly (Term.string "FreeLand$Laws" 80) "java/lang/String") (by decide +kernel)
      · exact hs (Cond.exactly (Term.string "FreeLand$Laws" 82) "java/lang/String") (by decide +kernel)
      · exact hs (Cond.exactly (Term.string "FreeLand$Laws" 84) "java/lang/String") (by decide +kernel)
      · exact hs (Cond.exactly (Term.string "FreeLand$Laws" 86) "java/lang/String") (by decide +kernel)
      · exact hs (Cond.exactly (Term.string "FreeLand$Laws" 88) "java/lang/String") (by decide +kernel)
      · exact hs (Cond.exactly (Term.string "FreeLand$Laws" 90) "java/lang/String") (by decide +kernel)
      · exact hs (Cond.exactly (Term.string "FreeLand$Laws" 92) "java/lang/String") (by decide +kernel)
  have q2 : ∀ i, i < 9 → (Cond.eq (.field (Term.string "FreeLand$Laws" (76 + 2 * i)) "java/lang/String" "coder" "B") (.int 0)).before #[Value.ref b] s = true := by
      intro i hi
      rcases (show i = 0 ∨ i = 1 ∨ i = 2 ∨ i = 3 ∨ i = 4 ∨ i = 5 ∨ i = 6 ∨ i = 7 ∨ i = 8 by omega) with rfl | rfl | rfl | rfl | rfl | rfl | rfl | rfl | rfl
      · exact hs (Cond.eq (.field (Term.string "FreeLand$Laws" 76) "java/lang/String" "coder" "B") (.int 0)) (by decide +kernel)
      · exact hs (Cond.eq (.field (Term.string "FreeLand$Laws" 78) "java/lang/String" "coder" "B") (.int 0)) (by decide +kernel)
      · exact hs (Cond.eq (.field (Term.string "FreeLand$Laws" 80) "java/lang/String" "coder" "B") (.int 0)) (by decide +kernel)
      · exact hs (Cond.eq (.field (Term.string "FreeLand$Laws" 82) "java/lang/String" "coder" "B") (.int 0)) (by decide +kernel)
      · exact hs (Cond.eq (.field (Term.string "FreeLand$Laws" 84) "java/lang/String" "coder" "B") (.int 0)) (by decide +kernel)
      · exact hs (Cond.eq (.field (Term.string "FreeLand$Laws" 86) "java/lang/String" "coder" "B") (.int 0)) (by decide +kernel)
      · exact hs (Cond.eq (.field (Term.string "FreeLand$Laws" 88) "java/lang/String" "coder" "B") (.int 0)) (by decide +kernel)
      · exact hs (Cond.eq (.field (Term.string "FreeLand$Laws" 90) "java/lang/String" "coder" "B") (.int 0)) (by decide +kernel)
      · exact hs (Cond.eq (.field (Term.string "FreeLand$Laws" 92) "java/lang/String" "coder" "B") (.int 0)) (by decide +kernel)
  have q3 : ∀ i, i < 9 → (Cond.arrayOf (.field (Term.string "FreeLand$Laws" (76 + 2 * i)) "java/lang/String" "value" "[B") .byte).before #[Value.ref b] s = true := by
      intro i hi
      rcases (show i = 0 ∨ i = 1 ∨ i = 2 ∨ i = 3 ∨ i = 4 ∨ i = 5 ∨ i = 6 ∨ i = 7 ∨ i = 8 by omega) with rfl | rfl | rfl | rfl | rfl | rfl | rfl | rfl | rfl
      · exact hs (Cond.arrayOf (.field (Term.string "FreeLand$Laws" 76) "java/lang/String" "value" "[B") .byte) (by decide +kernel)
      · exact hs (Cond.arrayOf (.field (Term.string "FreeLand$Laws" 78) "java/lang/String" "value" "[B") .byte) (by decide +kernel)
      · exact hs (Cond.arrayOf (.field (Term.string "FreeLand$Laws" 80) "java/lang/String" "value" "[B") .byte) (by decide +kernel)
      · exact hs (Cond.arrayOf (.field (Term.string "FreeLand$Laws" 82) "java/lang/String" "value" "[B") .byte) (by decide +kernel)
      · exact hs (Cond.arrayOf (.field (Term.string "FreeLand$Laws" 84) "java/lang/String" "value" "[B") .byte) (by decide +kernel)
      · exact hs (Cond.arrayOf (.field (Term.string "FreeLand$Laws" 86) "java/lang/String" "value" "[B") .byte) (by decide +kernel)
      · exact hs (Cond.arrayOf (.field (Term.string "FreeLand$Laws" 88) "java/lang/String" "value" "[B") .byte) (by decide +kernel)
      · exact hs (Cond.arrayOf (.field (Term.string "FreeLand$Laws" 90) "java/lang/String" "value" "[B") .byte) (by decide +kernel)
      · exact hs (Cond.arrayOf (.field (Term.string "FreeLand$Laws" 92) "java/lang/String" "value" "[B") .byte) (by decide +kernel)
  have q4 : ∀ i, i < 9 → (Cond.eq (.length (.field (Term.string "FreeLand$Laws" (76 + 2 * i)) "java/lang/String" "value" "[B")) (.int (Int32.ofNat (sx_len.getD i 0)))).before #[Value.ref b] s = true := by
      intro i hi
      rcases (show i = 0 ∨ i = 1 ∨ i = 2 ∨ i = 3 ∨ i = 4 ∨ i = 5 ∨ i = 6 ∨ i = 7 ∨ i = 8 by omega) with rfl | rfl | rfl | rfl | rfl | rfl | rfl | rfl | rfl
      · exact hs (Cond.eq (.length (.field (Term.string "FreeLand$Laws" 76) "java/lang/String" "value" "[B")) (.int 3)) (by decide +kernel)
      · exact hs (Cond.eq (.length (.field (Term.string "FreeLand$Laws" 78) "java/lang/String" "value" "[B")) (.int 4)) (by decide +kernel)
      · exact hs (Cond.eq (.length (.field (Term.string "FreeLand$Laws" 80) "java/lang/String" "value" "[B")) (.int 3)) (by decide +kernel)
      · exact hs (Cond.eq (.length (.field (Term.string "FreeLand$Laws" 82) "java/lang/String" "value" "[B")) (.int 6)) (by decide +kernel)
      · exact hs (Cond.eq (.length (.field (Term.string "FreeLand$Laws" 84) "java/lang/String" "value" "[B")) (.int 4)) (by decide +kernel)
      · exact hs (Cond.eq (.length (.field (Term.string "FreeLand$Laws" 86) "java/lang/String" "value" "[B")) (.int 4)) (by decide +kernel)
      · exact hs (Cond.eq (.length (.field (Term.string "FreeLand$Laws" 88) "java/lang/String" "value" "[B")) (.int 6)) (by decide +kernel)
      · exact hs (Cond.eq (.length (.field (Term.string "FreeLand$Laws" 90) "java/lang/String" "value" "[B")) (.int 4)) (by decide +kernel)
      · exact hs (Cond.eq (.length (.field (Term.string "FreeLand$Laws" 92) "java/lang/String" "value" "[B")) (.int 4)) (by decide +kernel)
  have q5 : ∀ i, i < 9 → ∀ j, j < sx_len.getD i 0 → (Cond.eq (.elem (.field (Term.string "FreeLand$Laws" (76 + 2 * i)) "java/lang/String" "value" "[B") (.int (Int32.ofNat j))) (.int ((sx_byt.getD i []).getD j 0))).before #[Value.ref b] s = true := by
      intro i hi
      rcases (show i = 0 ∨ i = 1 ∨ i = 2 ∨ i = 3 ∨ i = 4 ∨ i = 5 ∨ i = 6 ∨ i = 7 ∨ i = 8 by omega) with rfl | rfl | rfl | rfl | rfl | rfl | rfl | rfl | rfl
      · intro j hj
        rcases (show j = 0 ∨ j = 1 ∨ j = 2 by simp [sx_len] at hj; omega) with rfl | rfl | rfl
        · exact hs (Cond.eq (.elem (.field (Term.string "FreeLand$Laws" 76) "java/lang/String" "value" "[B") (.int 0)) (.int 97)) (by decide +kernel)
        · exact hs (Cond.eq (.elem (.field (Term.string "FreeLand$Laws" 76) "java/lang/String" "value" "[B") (.int 1)) (.int 103)) (by decide +kernel)
        · exact hs (Cond.eq (.elem (.field (Term.string "FreeLand$Laws" 76) "java/lang/String" "value" "[B") (.int 2)) (.int 101)) (by decide +kernel)
      · intro j hj
        rcases (show j = 0 ∨ j = 1 ∨ j = 2 ∨ j = 3 by simp [sx_len] at hj; omega) with rfl | rfl | rfl | rfl
        · exact hs (Cond.eq (.elem (.field (Term.string "FreeLand$Laws" 78) "java/lang/String" "value" "[B") (.int 0)) (.int 108)) (by decide +kernel)
        · exact hs (Cond.eq (.elem (.field (Term.string "FreeLand$Laws" 78) "java/lang/String" "value" "[B") (.int 1)) (.int 105)) (by decide +kernel)
        · exact hs (Cond.eq (.elem (.field (Term.string "FreeLand$Laws" 78) "java/lang/String" "value" "[B") (.int 2)) (.int 118)) (by decide +kernel)
        · exact hs (Cond.eq (.elem (.field (Term.string "FreeLand$Laws" 78) "java/lang/String" "value" "[B") (.int 3)) (.int 101)) (by decide +kernel)
      · intro j hj
        rcases (show j = 0 ∨ j = 1 ∨ j = 2 by simp [sx_len] at hj; omega) with rfl | rfl | rfl
        · exact hs (Cond.eq (.elem (.field (Term.string "FreeLand$Laws" 80) "java/lang/String" "value" "[B") (.int 0)) (.int 103)) (by decide +kernel)
        · exact hs (Cond.eq (.elem (.field (Term.string "FreeLand$Laws" 80) "java/lang/String" "value" "[B") (.int 1)) (.int 97)) (by decide +kernel)
        · exact hs (Cond.eq (.elem (.field (Term.string "FreeLand$Laws" 80) "java/lang/String" "value" "[B") (.int 2)) (.int 112)) (by decide +kernel)
      · intro j hj
        rcases (show j = 0 ∨ j = 1 ∨ j = 2 ∨ j = 3 ∨ j = 4 ∨ j = 5 by simp [sx_len] at hj; omega) with rfl | rfl | rfl | rfl | rfl | rfl
        · exact hs (Cond.eq (.elem (.field (Term.string "FreeLand$Laws" 82) "java/lang/String" "value" "[B") (.int 0)) (.int 112)) (by decide +kernel)
        · exact hs (Cond.eq (.elem (.field (Term.string "FreeLand$Laws" 82) "java/lang/String" "value" "[B") (.int 1)) (.int 108)) (by decide +kernel)
        · exact hs (Cond.eq (.elem (.field (Term.string "FreeLand$Laws" 82) "java/lang/String" "value" "[B") (.int 2)) (.int 111)) (by decide +kernel)
        · exact hs (Cond.eq (.elem (.field (Term.string "FreeLand$Laws" 82) "java/lang/String" "value" "[B") (.int 3)) (.int 117)) (by decide +kernel)
        · exact hs (Cond.eq (.elem (.field (Term.string "FreeLand$Laws" 82) "java/lang/String" "value" "[B") (.int 4)) (.int 103)) (by decide +kernel)
        · exact hs (Cond.eq (.elem (.field (Term.string "FreeLand$Laws" 82) "java/lang/String" "value" "[B") (.int 5)) (.int 104)) (by decide +kernel)
      · intro j hj
        rcases (show j = 0 ∨ j = 1 ∨ j = 2 ∨ j = 3 by simp [sx_len] at hj; omega) with rfl | rfl | rfl | rfl
        · exact hs (Cond.eq (.elem (.field (Term.string "FreeLand$Laws" 84) "java/lang/String" "value" "[B") (.int 0)) (.int 116)) (by decide +kernel)
        · exact hs (Cond.eq (.elem (.field (Term.string "FreeLand$Laws" 84) "java/lang/String" "value" "[B") (.int 1)) (.int 101)) (by decide +kernel)
        · exact hs (Cond.eq (.elem (.field (Term.string "FreeLand$Laws" 84) "java/lang/String" "value" "[B") (.int 2)) (.int 114)) (by decide +kernel)
        · exact hs (Cond.eq (.elem (.field (Term.string "FreeLand$Laws" 84) "java/lang/String" "value" "[B") (.int 3)) (.int 109)) (by decide +kernel)
      · intro j hj
        rcases (show j = 0 ∨ j = 1 ∨ j = 2 ∨ j = 3 by simp [sx_len] at hj; omega) with rfl | rfl | rfl | rfl
        · exact hs (Cond.eq (.elem (.field (Term.string "FreeLand$Laws" 86) "java/lang/String" "value" "[B") (.int 0)) (.int 105)) (by decide +kernel)
        · exact hs (Cond.eq (.elem (.field (Term.string "FreeLand$Laws" 86) "java/lang/String" "value" "[B") (.int 1)) (.int 100)) (by decide +kernel)
        · exact hs (Cond.eq (.elem (.field (Term.string "FreeLand$Laws" 86) "java/lang/String" "value" "[B") (.int 2)) (.int 108)) (by decide +kernel)
        · exact hs (Cond.eq (.elem (.field (Term.string "FreeLand$Laws" 86) "java/lang/String" "value" "[B") (.int 3)) (.int 101)) (by decide +kernel)
      · intro j hj
        rcases (show j = 0 ∨ j = 1 ∨ j = 2 ∨ j = 3 ∨ j = 4 ∨ j = 5 by simp [sx_len] at hj; omega) with rfl | rfl | rfl | rfl | rfl | rfl
        · exact hs (Cond.eq (.elem (.field (Term.string "FreeLand$Laws" 88) "java/lang/String" "value" "[B") (.int 0)) (.int 112)) (by decide +kernel)
        · exact hs (Cond.eq (.elem (.field (Term.string "FreeLand$Laws" 88) "java/lang/String" "value" "[B") (.int 1)) (.int 114)) (by decide +kernel)
        · exact hs (Cond.eq (.elem (.field (Term.string "FreeLand$Laws" 88) "java/lang/String" "value" "[B") (.int 2)) (.int 101)) (by decide +kernel)
        · exact hs (Cond.eq (.elem (.field (Term.string "FreeLand$Laws" 88) "java/lang/String" "value" "[B") (.int 3)) (.int 102)) (by decide +kernel)
        · exact hs (Cond.eq (.elem (.field (Term.string "FreeLand$Laws" 88) "java/lang/String" "value" "[B") (.int 4)) (.int 101)) (by decide +kernel)
        · exact hs (Cond.eq (.elem (.field (Term.string "FreeLand$Laws" 88) "java/lang/String" "value" "[B") (.int 5)) (.int 114)) (by decide +kernel)
      · intro j hj
        rcases (show j = 0 ∨ j = 1 ∨ j = 2 ∨ j = 3 by simp [sx_len] at hj; omega) with rfl | rfl | rfl | rfl
        · exact hs (Cond.eq (.elem (.field (Term.string "FreeLand$Laws" 90) "java/lang/String" "value" "[B") (.int 0)) (.int 109)) (by decide +kernel)
        · exact hs (Cond.eq (.elem (.field (Term.string "FreeLand$Laws" 90) "java/lang/String" "value" "[B") (.int 1)) (.int 111)) (by decide +kernel)
        · exact hs (Cond.eq (.elem (.field (Term.string "FreeLand$Laws" 90) "java/lang/String" "value" "[B") (.int 2)) (.int 115)) (by decide +kernel)
        · exact hs (Cond.eq (.elem (.field (Term.string "FreeLand$Laws" 90) "java/lang/String" "value" "[B") (.int 3)) (.int 116)) (by decide +kernel)
      · intro j hj
        rcases (show j = 0 ∨ j = 1 ∨ j = 2 ∨ j = 3 by simp [sx_len] at hj; omega) with rfl | rfl | rfl | rfl
        · exact hs (Cond.eq (.elem (.field (Term.string "FreeLand$Laws" 92) "java/lang/String" "value" "[B") (.int 0)) (.int 98)) (by decide +kernel)
        · exact hs (Cond.eq (.elem (.field (Term.string "FreeLand$Laws" 92) "java/lang/String" "value" "[B") (.int 1)) (.int 105)) (by decide +kernel)
        · exact hs (Cond.eq (.elem (.field (Term.string "FreeLand$Laws" 92) "java/lang/String" "value" "[B") (.int 2)) (.int 110)) (by decide +kernel)
        · exact hs (Cond.eq (.elem (.field (Term.string "FreeLand$Laws" 92) "java/lang/String" "value" "[B") (.int 3)) (.int 100)) (by decide +kernel)
  have q6 : ∀ i j, i < 9 → j < 9 → i < j → (Cond.not (Cond.eq (Term.string "FreeLand$Laws" (76 + 2 * i)) (Term.string "FreeLand$Laws" (76 + 2 * j)))).before #[Value.ref b] s = true := by
    have key : ∀ i, i < 9 → ∀ j, j < 9 → i < j → Cond.not (Cond.eq (Term.string "FreeLand$Laws" (76 + 2 * i)) (Term.string "FreeLand$Laws" (76 + 2 * j))) ∈ flatC (Jvm.Cond.and given_1 narrow_1) := by decide +kernel
    exact fun i j h1 h2 h3 => hs _ (key i h1 j h2 h3)
  obtain ⟨aK, aV, hS, hT⟩ := vk_Sof (N := 9) (tm := fun i => Term.string "FreeLand$Laws" (76 + 2 * i)) (len := sx_len) (byt := sx_byt) (A := A) (by decide) q1 q2 q3 q4 q5 (fun i j h1 h2 h3 => (Nat.lt_or_gt_of_ne h3).elim (fun z => Or.inl (q6 i j h1 h2 z)) (fun z => Or.inr (q6 j i h2 h1 z))) hA
  refine ⟨fun k => if k = 0 then t else if k < 10 then aK (k - 1) else aV (k - 10), ⟨va_Zref (hts (.laysStatic "FreeLand$Laws" "AT_FIRST" "[I") (by decide +kernel)) (hts (.initialized "FreeLand$Laws") (by decide +kernel)) h1 hA, h2, ?_, va_Zof (hts (.laysStatic "java/lang/String" "COMPACT_STRINGS" "Z") (by decide +kernel)) (hts (.initialized "java/lang/String") (by decide +kernel)) (va_eqt (hs (Cond.eq (.static "java/lang/String" "COMPACT_STRINGS" "Z") (.int 1)) (by decide +kernel))) hA, va_Zqof (hts (.laysStatic "jdk/internal/util/Preconditions" "SIOOBE_FORMATTER" "Ljava/util/function/BiFunction;") (by decide +kernel)) (hts (.initialized "jdk/internal/util/Preconditions") (by decide +kernel)) (hs (Cond.isRef (.static "jdk/internal/util/Preconditions" "SIOOBE_FORMATTER" "Ljava/util/function/BiFunction;")) (by decide +kernel)) hA⟩, ?_⟩
  · refine ⟨fun i hi => ?_, fun i j hi hj e => hS.2 i j hi hj ?_⟩
    · have e1 : (if 1 + i = 0 then t else if 1 + i < 10 then aK (1 + i - 1) else aV (1 + i - 10)) = aK i := by rw [if_neg (by omega), if_pos (by omega), show 1 + i - 1 = i by omega]
      have e2 : (if 10 + i = 0 then t else if 10 + i < 10 then aK (10 + i - 1) else aV (10 + i - 10)) = aV i := by rw [if_neg (by omega), if_neg (by omega), show 10 + i - 10 = i by omega]
      show va_O "java/lang/String" (if 1 + i = 0 then t else if 1 + i < 10 then aK (1 + i - 1) else aV (1 + i - 10)) A s s.heap ∧ va_OF "java/lang/String" "coder" "B" (.int 0) (if 1 + i = 0 then t else if 1 + i < 10 then aK (1 + i - 1) else aV (1 + i - 10)) A s s.heap ∧ va_OF "java/lang/String" "value" "[B" (.ref (if 10 + i = 0 then t else if 10 + i < 10 then aK (10 + i - 1) else aV (10 + i - 10))) (if 1 + i = 0 then t else if 1 + i < 10 then aK (1 + i - 1) else aV (1 + i - 10)) A s s.heap ∧ va_T .byte (if 10 + i = 0 then t else if 10 + i < 10 then aK (10 + i - 1) else aV (10 + i - 10)) (sx_len.getD i 0) (fun j => .int ((sx_byt.getD i []).getD j 0)) A s s.heap
      rw [e1, e2]
      exact hS.1 i hi
    · have e1 : ∀ i, i < 9 → (if 1 + i = 0 then t else if 1 + i < 10 then aK (1 + i - 1) else aV (1 + i - 10)) = aK i := fun i hi => by rw [if_neg (by omega), if_pos (by omega), show 1 + i - 1 = i by omega]
      exact (e1 i hi).symm.trans (e.trans (e1 j hj))
  · have hstr : ∀ i, i < 9 → Cond.stringRef "FreeLand$Laws" (76 + 2 * i) (sx_T i) ∈ lw_tbl := by decide +kernel
    intro i hi
    have e1 : (if 1 + i = 0 then t else if 1 + i < 10 then aK (1 + i - 1) else aV (1 + i - 10)) = aK i := by rw [if_neg (by omega), if_pos (by omega), show 1 + i - 1 = i by omega]
    show vk_R "FreeLand$Laws" (76 + 2 * i) (sx_T i) (if 1 + i = 0 then t else if 1 + i < 10 then aK (1 + i - 1) else aV (1 + i - 10)) s
    rw [e1]
    exact vk_R.of (A := #[Value.ref b]) (hts _ (hstr i hi)) (by rw [Term.string_eval_of_vm (args := #[Value.ref b]) rfl]; exact hT i hi)
set_option maxHeartbeats 8000000 in
set_option maxRecDepth 100000 in
/-- all that a method takes as given holds at the law's entry -/
theorem lw_C {p : Program} {s : State} {m : MethodId} {meth : Method} {c : Code} {b L : Nat} {xs : Nat → Int32} (C0 : lw_At p s m meth c b L xs) : ∃ (D : va_G) (ty : Nat → ClassId) (t0 : Nat → Nat), fj_C p s m #[Value.ref b] c cL_law 4 RL wsL_law (fun q => s.heap.size ≤ q) D ty t0 := by
  obtain ⟨hx, hb, hr, hml, hown, hts, hX, hbl, hlocks, hgv⟩ := C0
  obtain ⟨c0, i0, k0⟩ := u_known (C := RX0) (T := TX0) (N := 8) (n := 8) hts inX0 (hts (.instantiable RX0 8) (by decide +kernel))
  obtain ⟨c1, i1, k1⟩ := u_known (C := RX1) (T := TX1) (N := 7) (n := 7) hts inX1 (hts (.instantiable RX1 7) (by decide +kernel))
  obtain ⟨c2, i2, k2⟩ := u_known (C := RX2) (T := TX2) (N := 7) (n := 7) hts inX2 (hts (.instantiable RX2 7) (by decide +kernel))
  obtain ⟨c3, i3, k3⟩ := u_known (C := RX3) (T := TX3) (N := 3) (n := 3) hts inX3 (hts (.instantiable RX3 3) (by decide +kernel))
  obtain ⟨c4, i4, k4⟩ := u_known (C := RX4) (T := TX4) (N := 18) (n := 18) hts inX4 (hts (.instantiable RX4 18) (by decide +kernel))
  obtain ⟨c5, i5, k5⟩ := u_known (C := RX5) (T := TX5) (N := 5) (n := 5) hts inX5 (hts (.instantiable RX5 5) (by decide +kernel))
  obtain ⟨c6, i6, k6⟩ := u_known (C := RX6) (T := TX6) (N := 44) (n := 44) hts inX6 (hts (.instantiable RX6 44) (by decide +kernel))
  obtain ⟨dC, dI, hKc⟩ : ∃ (dC : Nat → ClassId) (dI : Nat → Nat → Nat), ∀ (k : Nat) (q : vw_C), vwCl[k]? = some q → u_Kn s q.1 q.2.1 q.2.2 (dC k) (dI k) := by
    refine ⟨fun k => [c0, c1, c2, c3, c4, c5, c6].getD k c0, fun k => [i0, i1, i2, i3, i4, i5, i6].getD k i0, ?_⟩
    intro k q hq
    match k, hq with
    | 0, hq => cases hq; exact k0
    | 1, hq => cases hq; exact k1
    | 2, hq => cases hq; exact k2
    | 3, hq => cases hq; exact k3
    | 4, hq => cases hq; exact k4
    | 5, hq => cases hq; exact k5
    | 6, hq => cases hq; exact k6
    | k + 7, hq => simp [vwCl] at hq
  obtain ⟨tI, kI, pI, aI1, aI2, aI3⟩ := Cond.arrayClass_spec (hts (.arrayClass .int) (by decide +kernel))
  obtain ⟨tZ, kZ, pZ, aZ1, aZ2, aZ3⟩ := Cond.arrayClass_spec (hts (.arrayClass .boolean) (by decide +kernel))
  obtain ⟨tB, kB, pB, aB1, aB2, aB3⟩ := Cond.arrayClass_spec (hts (.arrayClass .byte) (by decide +kernel))
  obtain ⟨tJ, kJ, pJ, aJ1, aJ2, aJ3⟩ := Cond.arrayClass_spec (hts (.arrayClass .long) (by decide +kernel))
  have hao := hts (.arrayOver (.array .int)) (by decide +kernel)
  obtain ⟨pO, tO, kO, aO1, aO2, aO3, aO4⟩ := Cond.arrayOver_specA hao
  obtain ⟨t0, hX0, hstr⟩ := fx_first (A := fun q => s.heap.size ≤ q) hts hgv (fun a h => Nat.not_le.mpr h)
  refine ⟨(dC, dI), fun k => [tI, tZ, tB, tJ, tO].getD k tI, t0, hx, hb, hml, hown, fun w h => hts w (wsL_law_in w h), ⟨hKc, fun k q hq => ?_⟩, fun _ h => h, ⟨fun q hq => va_Nw.of rfl (hts _ (nw_inM q hq)), fun q hq => va_Nw.of rfl (hts _ (nw_inF q hq)), hao, hstr⟩, hX0⟩
  match k, hq with
  | 0, hq => cases hq; exact ⟨fun n z => ⟨fun k h => (by cases h), kI, aI2, pI, aI3⟩, aI1⟩
  | 1, hq => cases hq; exact ⟨fun n z => ⟨fun k h => (by cases h), kZ, aZ2, pZ, aZ3⟩, aZ1⟩
  | 2, hq => cases hq; exact ⟨fun n z => ⟨fun k h => (by cases h), kB, aB2, pB, aB3⟩, aB1⟩
  | 3, hq => cases hq; exact ⟨fun n z => ⟨fun k h => (by cases h), kJ, aJ2, pJ, aJ3⟩, aJ1⟩
  | 4, hq => cases hq; exact ⟨fun n z => ⟨fun k h => (by cases h), kO, aO2, pO, aO3⟩, aO4⟩
  | k + 5, hq => simp [fj_ty] at hq
set_option maxHeartbeats 8000000 in
set_option maxRecDepth 100000 in
theorem whole_start {p : Program} {e : Env} {s : State} {m : MethodId} {below : List Frame} {meth : Method} {c : Code} (l : Launch) (hflags : l.flags = flags0) {b L : Nat} {xs : Nat → Int32} (hL : L ≤ 3072) (C0 : lw_At p s m meth c b L xs) : W p l e room_1 s m #[Value.ref b] below meth c s.heap [] 0 0 (lw_Z below #[Value.ref b] s) (entryFrame m ([Value.ref b] : List Value).toArray 4) := by
  obtain ⟨D, ty, t0, C⟩ := lw_C C0
  obtain ⟨hx, hb, hr, hml, hown, hts, hX, hbl, hlocks, hgv⟩ := C0
  have S9 : va_X b L xs s s.heap ∧ b < s.heap.size ∧ ¬ (fun q => s.heap.size ≤ q) b := ⟨hX, hbl, Nat.not_le.mpr hbl⟩
  have hl := lv_entry ([.ref b]) (n := 4) (Nat.le_of_ble_eq_true rfl)
  rw [lg_entry_eq]
  suffices K : fj p l e room_1 s m #[Value.ref b] below meth c (lw_Z below #[Value.ref b] s) (fun q => s.heap.size ≤ q) D 4 0 0 [] (lv_args 0 [.ref b]) 0 [] from K s.heap [] _ (fun k q h => by simp at h) ⟨fun i j p q h => by simp at h, fun k q h => by simp at h⟩ va_S.rf hl
  refine fj_lv (lv' := [(0, .ref b)]) [0] rfl ?_
  refine fj_new (Cn := RX5) (T := TX5) (N := 5) (ci := 5) (fs := [.null, .null, .null, .null, .null]) C ptL_law_wsX50 tyX5 tyX5_ok (ptL_law_woL_law _ (by decide +kernel)) (ptL_law_woL_law _ (by decide +kernel)) (ptL_law_woL_law _ (by decide +kernel)) rfl (fun j hj => by rcases (show j = 0 ∨ j = 1 ∨ j = 2 ∨ j = 3 ∨ j = 4 by omega) with rfl | rfl | rfl | rfl | rfl <;> rfl) (Nat.le_of_ble_eq_true rfl) (Nat.le_of_ble_eq_true rfl) dL_law_0 (fun q1 => ?_)
  refine fj_ws (ws' := [(q1, .inr (5, [.null, .null, .null, .null, .null]))]) rfl ?_
  refine fj_dup C dL_law_3 rfl ?_
  refine fj_callI (As := []) (rest := [.ref q1]) (wr := []) C (c_X5_init l D ty t0 q1) (cwI 0 C.2.2.2.2.1 gL_law_X5_init rfl rfl rfl (C.2.2.2.2.1 _ (ptL_law_woL_law _ (by decide +kernel))) (C.2.2.2.2.1 _ (ptL_law_woL_law _ (by decide +kernel))) (C.2.2.2.2.1 _ (ptL_law_woL_law _ (by decide +kernel))) rfl (by decide +kernel) ⟨Nat.le_of_ble_eq_true rfl, Nat.le_of_ble_eq_true rfl⟩) rfl (Nat.le_of_ble_eq_true rfl) dL_law_4 ⟨Nat.le_of_ble_eq_true rfl, Nat.le_of_ble_eq_true rfl⟩ [0] [] rfl rfl rfl rfl (fun _ h => absurd h List.not_mem_nil) (fun v9 w9 hp9 => ?_)
  obtain ⟨rfl, ad, rfl, rfl⟩ := hp9
  refine fj_st (st' := [.ref (ad 0)]) rfl ?_
  refine fj_ws (ws' := fx_w ad ty fx_a0 fx_g0 fx_n0) rfl ?_
  refine fj_astore_n (lv' := [(1, .ref (ad 0)), (0, .ref b)]) C dL_law_7 rfl (by decide) rfl ?_
  refine fj_new (Cn := RX6) (T := TX6) (N := 44) (ci := 6) (fs := [.int 0, .null, .null, .int 0, .null, .int 0, .int 0, .int 0, .null, .null, .null, .null, .int 0, .null, .null, .null, .null, .null, .null, .null, .null, .null, .null, .int 0, .null, .null, .int 0, .null, .null, .null, .null, .null, .null, .null, .null, .null, .int 0, .null, .int 0, .int 0, .int 0, .int 0, .int 0, .int 0]) C ptL_law_wsX60 tyX6 tyX6_ok (ptL_law_woL_law _ (by decide +kernel)) (ptL_law_woL_law _ (by decide +kernel)) (ptL_law_woL_law _ (by decide +kernel)) rfl (fun j hj => by rcases (show j = 0 ∨ j = 1 ∨ j = 2 ∨ j = 3 ∨ j = 4 ∨ j = 5 ∨ j = 6 ∨ j = 7 ∨ j = 8 ∨ j = 9 ∨ j = 10 ∨ j = 11 ∨ j = 12 ∨ j = 13 ∨ j = 14 ∨ j = 15 ∨ j = 16 ∨ j = 17 ∨ j = 18 ∨ j = 19 ∨ j = 20 ∨ j = 21 ∨ j = 22 ∨ j = 23 ∨ j = 24 ∨ j = 25 ∨ j = 26 ∨ j = 27 ∨ j = 28 ∨ j = 29 ∨ j = 30 ∨ j = 31 ∨ j = 32 ∨ j = 33 ∨ j = 34 ∨ j = 35 ∨ j = 36 ∨ j = 37 ∨ j = 38 ∨ j = 39 ∨ j = 40 ∨ j = 41 ∨ j = 42 ∨ j = 43 by omega) with rfl | rfl | rfl | rfl | rfl | rfl | rfl | rfl | rfl | rfl | rfl | rfl | rfl | rfl | rfl | rfl | rfl | rfl | rfl | rfl | rfl | rfl | rfl | rfl | rfl | rfl | rfl | rfl | rfl | rfl | rfl | rfl | rfl | rfl | rfl | rfl | rfl | rfl | rfl | rfl | rfl | rfl | rfl | rfl <;> rfl) (Nat.le_of_ble_eq_true rfl) (Nat.le_of_ble_eq_true rfl) dL_law_8 (fun q2 => ?_)
  refine fj_dup C dL_law_11 rfl ?_
  refine fj_callI (As := []) (rest := [.ref q2]) (wr := fx_w ad ty fx_a0 fx_g0 fx_n0) C (c_X6_init l D ty t0 q2) (cwI 0 C.2.2.2.2.1 gL_law_X6_init rfl rfl rfl (C.2.2.2.2.1 _ (ptL_law_woL_law _ (by decide +kernel))) (C.2.2.2.2.1 _ (ptL_law_woL_law _ (by decide +kernel))) (C.2.2.2.2.1 _ (ptL_law_woL_law _ (by decide +kernel))) rfl (by decide +kernel) ⟨Nat.le_of_ble_eq_true rfl, Nat.le_of_ble_eq_true rfl⟩) rfl (Nat.le_of_ble_eq_true rfl) dL_law_12 ⟨Nat.le_of_ble_eq_true rfl, Nat.le_of_ble_eq_true rfl⟩ [44] (List.range 44) rfl rfl rfl rfl (by decide) (fun v9 w9 hp9 => ?_)
  obtain ⟨rfl, bd, rfl, rfl⟩ := hp9
  refine fj_st (st' := [.ref (bd 0)]) rfl ?_
  refine fj_astore_n (lv' := [(2, .ref (bd 0)), (1, .ref (ad 0)), (0, .ref b)]) C dL_law_15 rfl (by decide) rfl ?_
  refine fj_iconst (v := 0) C dL_law_16 (by decide) ?_
  refine fj_istore_n (lv' := [(3, .int (nI 0)), (2, .ref (bd 0)), (1, .ref (ad 0)), (0, .ref b)]) C dL_law_17 rfl (by decide) rfl ?_
  exact law_loop l hL C S9 hr hlocks ad bd (L + 1) 0 fx_a0 fx_g0 fx_n0 fm_a0 fm_n0 (by omega) (Nat.zero_le _) ⟨0, 0, 0, 0, 0, 0, RL1_0⟩
set_option maxHeartbeats 4000000 in
theorem lw_walk (l : Launch) (hflags : l.flags = flags0) (b : Addr) (xs : List Int32) : MetFree l x (headSpec (Jvm.Cond.code x code maxLocals ret :: tables_1) room_1) (lw_P b xs) (fun _ _ _ _ _ => True) lw_Q := by
  refine MetFree.of_bodyS (code := code) (maxLocals := maxLocals) (ret := ret) (by decide) ?_ ?_
  · intro args s m h hn
    obtain ⟨meth, c, h1, h2, h3, h4, h5, h6, -, -⟩ := Cond.code_spec hn (atoms_spec (ws := Jvm.Cond.code x code maxLocals ret :: tables_1) h _ List.mem_cons_self)
    exact ⟨meth, c, h1, h2, h3, h4, h5, h6⟩
  · intro p e s m args below meth c s₁ B hml0 hP _
    obtain ⟨rfl, hx, hbd, hgv⟩ := hP
    obtain ⟨scr, harrAt, hlist, hof, hsmall⟩ := hx
    obtain ⟨hcb, hkn, -, -⟩ := State.arrayAt?_spec harrAt
    have hown : s.vm.findClass R_law = some m.cls := findClass_of_methodNamed B.named
    have hts0 : ∀ c ∈ (Jvm.Cond.code x code maxLocals ret :: tables_1), c.before #[Value.ref b] s = true := atoms_spec (ws := Jvm.Cond.code x code maxLocals ret :: tables_1) B.pre
    have hts : ∀ w ∈ lw_tbl, w.before #[Value.ref b] s = true := k2_hts_sels lw_privs (fun w hw => hts0 w (List.mem_cons_of_mem _ hw)) lw_privs_ok
    have hml : c.maxLocals = 4 := B.maxLocals_eq (hts0 _ List.mem_cons_self)
    have X₀ : Stand p l e room_1 s m #[Value.ref b] below meth c s₁ [] 0 0 := Stand.of_body B
    have hh0 : s₁.heap = s.heap := by rw [B.state]; rfl
    have hsz : scr.slots.size = xs.length := by rw [← Array.length_toList, hlist, List.length_map]
    have hval : ∀ j : Nat, j < xs.length → scr.slots[j]? = some (.int (xs.getD j 0)) := fun j hj => by
      rw [← Array.getElem?_toList, hlist]
      simp [hj]
    have hbl : b < s.heap.size := (Array.getElem?_eq_some_iff.mp hcb).1
    have hX : va_X b xs.length (fun j => xs.getD j 0) s s.heap := ⟨scr, hcb, hof, hkn, hsz, hval⟩
    have K : W p l e room_1 s m #[Value.ref b] below meth c s₁.heap [] 0 0 (lw_Z below #[Value.ref b] s) (entryFrame m ([Value.ref b] : List Value).toArray 4) := by
      rw [hh0]
      exact whole_start l hflags hbd ⟨B.exec, B.bytes, B.returns, hml, hown, hts, hX, hbl, B.notSynchronized, hgv⟩
    obtain ⟨t, a1, o, b1, b2, b3⟩ := K s₁ rfl X₀
    exact ⟨t, o, a1, b1, b2, b3⟩
theorem lw_pre_spec {args : Array Value} {s : State} (h : (Jvm.Cond.and given_1 narrow_1).before args s = true) (hr : rest_1_c.before args s = true) : ∃ (b : Addr) (xs : List Int32), lw_P b xs args s := by
  have hs := flat_of_before _ h
  have hq := flat_of_before _ hr
  have hc : (Cond.count 1).before args s = true := hs _ (by decide +kernel)
  have harr : (Cond.arrayOf (.arg 0) .int).before args s = true := hs _ (by decide +kernel)
  have hle : (Cond.le (.length (.arg 0)) (.int 3072)).before args s = true := hs _ (by decide +kernel)
  have hlen : (Cond.isInt (.length (.arg 0))).before args s = true := hq _ (by decide +kernel)
  have hall : (Cond.all (.arg 0) (.isInt (.elem (.arg 0) (.index 0)))).before args s = true := hq _ (by decide +kernel)
  obtain ⟨b, xs, hb, hx⟩ := State.ints_of_pre rfl harr hlen hall
  have hsm : xs.length < 2 ^ 31 := hx.choose_spec.2.2.2
  have hev : (Term.length (.arg 0)).eval args s none [] s = some (.int xs.length.toInt32) := hx.length_eval hb
  have hv := Cond.le_ints hev (show (Term.int 3072).eval args s none [] s = some (.int 3072) from rfl)
  have hd : xs.length.toInt32 ≤ 3072 := by
    simpa [Cond.before, Cond.holds, hv] using hle
  have hN : xs.length ≤ 3072 := (Int32.ofNat_le_ofNat hsm (by decide)).mp (show Int32.ofNat xs.length ≤ Int32.ofNat 3072 from hd)
  exact ⟨b, xs, Cond.one_arg hc (show args[0]? = some (.ref b) from hb), hx, hN, h⟩
theorem lw_comes (l : Launch) (hflags : l.flags = flags0) : Comes l x (Jvm.Cond.code x code maxLocals ret :: tables_1) room_1 (fun tb e args s => Calls_1 tb e args s ∧ rest_1 tb e args s ∧ Pre_1 tb e args s)
    (fun _ _ args s o t => lw_Q args s o t) := by
  intro p e ha hc hk s m args below hf hfit hheap happ hpre
  obtain ⟨b, xs, hP⟩ := lw_pre_spec hpre.2.2 hpre.2.1
  obtain ⟨k, o, h1, h2, h3, hQ⟩ := lw_walk l hflags b xs p e ha hc hk s m args below hf ((Spec.applies_iff_loose hf).mp happ).1 hP trivial
  exact ⟨k, o, h1, h2, h3, hQ⟩
theorem lw_frame {s t : State} {o : Outcome} {args : Array Value} (h : Framed s o t [] 600000 7302250) :
    Framed s o t (fieldLocs frame_1_writes args s ++ arrayLocs frame_1_arrays args s ++ staticLocs frame_1_statics s) 600000 7302250 := h
theorem lw_limb (L : Cond) (hL : ∀ (args : Array Value) (s t : State), L.after args s (.returned (some (.int 1))) t = true) :
    ArmFor flags0 classFile x code maxLocals ret World_1 tables_1 room_1 Calls_1 rest_1 Pre_1
      (fun tb e a s o t => postC L tb e a s o t ∧ Framed s o t (fieldLocs frame_1_writes a s ++ arrayLocs frame_1_arrays a s ++ staticLocs frame_1_statics s) 600000 7302250) := by
  intro l hflags _ _ p e ha hc hk s m args below hf hfit hheap happ hpre
  obtain ⟨k, o, h1, h2, h3, rfl, hF⟩ := lw_comes l hflags p e ha hc hk s m args below hf hfit hheap happ hpre
  exact ⟨k, _, h1, h2, h3, hL args s _, lw_frame hF⟩
theorem i_vc : Claimed_1_1 ∧ Claimed_1_2 := ⟨lw_limb limb_1_1 (fun args s t => by simp [limb_1_1, Cond.after, Cond.holds, Cond.value]), lw_limb limb_1_2 (fun args s t => Cond.after_iff.mpr (by
  first | (rw [show limb_1_2 = Cond.eq .result (.int 1) from rfl, Cond.eq_ints (x := 1) (y := 1) rfl rfl]; simp; done) | (simp [limb_1_2, Cond.value, Term.eval]; done)))⟩

