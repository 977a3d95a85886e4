/-- between: b steps back and o on stand known ones, none nearer -/
def FB (f : Nat → Int32) (t m z b o : Nat) : Prop := 1 ≤ b ∧ b ≤ m ∧ ¬ f (t - b * z) = 0 ∧ (∀ c, 1 ≤ c → c < b → f (t - c * z) = 0) ∧ 1 ≤ o ∧ m + o ≤ 8 ∧ ¬ f (t + o * z) = 0 ∧ (∀ c, 1 ≤ c → c < o → f (t + c * z) = 0)
def fbv (X : Nat → Int32) (t z b o : Nat) : Int32 := 840 * X (t - b * z) + (X (t + o * z) - X (t - b * z)) * (840 / nI (b + o) * nI b)
/-- where a corner lies -/
def LIE (f X Y : Nat → Int32) (ci cj : Nat) (x y : Int32) : Prop :=
  (¬ f (9 * cj + ci) = 0 ∧ x = 840 * X (9 * cj + ci) ∧ y = 840 * Y (9 * cj + ci)) ∨
  (f (9 * cj + ci) = 0 ∧ ∃ b o, FB f (9 * cj + ci) ci 1 b o ∧ x = fbv X (9 * cj + ci) 1 b o ∧ y = fbv Y (9 * cj + ci) 1 b o) ∨
  (f (9 * cj + ci) = 0 ∧ (∀ b o, ¬ FB f (9 * cj + ci) ci 1 b o) ∧ ∃ b o, FB f (9 * cj + ci) cj 9 b o ∧ x = fbv X (9 * cj + ci) 9 b o ∧ y = fbv Y (9 * cj + ci) 9 b o)
def NOL (f : Nat → Int32) (ci cj : Nat) : Prop := f (9 * cj + ci) = 0 ∧ (∀ b o, ¬ FB f (9 * cj + ci) ci 1 b o) ∧ (∀ b o, ¬ FB f (9 * cj + ci) cj 9 b o)
theorem fx_lt0 {a b : Nat} (h : nI a < nI b) (ha : a < 2 ^ 31) (hb : b < 2 ^ 31) : a < b := (nI_ltI ha hb).mp h
theorem fx_nlt {a b : Nat} (h : ¬ nI a < nI b) (ha : a < 2 ^ 31) (hb : b < 2 ^ 31) : b ≤ a := Nat.le_of_not_lt fun q => h ((nI_ltI ha hb).mpr q)
set_option maxHeartbeats 4000000 in
set_option maxRecDepth 100000 in
theorem d_X1_findBetween (l : Launch) (D : va_G) (ty : Nat → ClassId) (t0 : Nat → Nat) (ad : Nat → Nat) (a : Nat → Nat → Int32) (g : Nat → Nat → Int64) (n : Nat → Int32)  (x : Int32) (y : Int32) (s9 : Int32) (t : Nat) (mn : Nat) (z : Nat) (et : x = nI t) (em : y = nI mn) (ez : s9 = nI z) (hm : mn ≤ 8) (h1 : mn * z ≤ t) (h2 : t + (8 - mn) * z ≤ 80) (hz9 : z ≤ 9) : fc l yX1_findBetween wsX1_findBetween (fj_rm 0 0 0 0) D ty t0 [.ref (ad 38), .int x, .int y, .int s9] (fx_w ad ty a g n) 0 0 (fun v w => (∃ b o, FB (a 39) t mn z b o ∧ v = some (.int 1) ∧ w = fx_w ad ty a g (va_up (va_up n 8 (fbv (a 40) t z b o)) 9 (fbv (a 41) t z b o))) ∨ ((∀ b o, ¬ FB (a 39) t mn z b o) ∧ v = some (.int 0) ∧ w = fx_w ad ty a g n)) := by
  subst et em ez
  refine fc_start (own := RX1) (cc := cX1_findBetween) (maxL := 9) (ret := (some .boolean)) (by decide) rfl (Nat.le_of_ble_eq_true rfl) rfl ?_
  intro p e s m args below meth c Q A C hmn E9
  have iX1 : ∀ w ∈ u_ws RX1 TX1 7, w ∈ wsX1_findBetween := ptX1_findBetween_wsX10
  have kX1_13 : Cond.fieldLink RX1 13 "FreeLand$Corners" "x" "[I" ∈ wsX1_findBetween := ptX1_findBetween_woX1_findBetween _ (by decide +kernel)
  have kX1_31 : Cond.fieldLink RX1 31 "FreeLand$Corners" "foundX" "I" ∈ wsX1_findBetween := ptX1_findBetween_woX1_findBetween _ (by decide +kernel)
  have kX1_17 : Cond.fieldLink RX1 17 "FreeLand$Corners" "y" "[I" ∈ wsX1_findBetween := ptX1_findBetween_woX1_findBetween _ (by decide +kernel)
  have kX1_35 : Cond.fieldLink RX1 35 "FreeLand$Corners" "foundY" "I" ∈ wsX1_findBetween := ptX1_findBetween_woX1_findBetween _ (by decide +kernel)
  have kX1_9 : Cond.fieldLink RX1 9 "FreeLand$Corners" "known" "[Z" ∈ wsX1_findBetween := ptX1_findBetween_woX1_findBetween _ (by decide +kernel)
  refine fj_lv (lv' := [(0, .ref (ad 38)), (1, .int (nI t)), (2, .int (nI mn)), (3, .int (nI z))]) [0, 1, 2, 3] rfl ?_
  refine fj_iconst (v := 1) C dX1_findBetween_0 (by decide) ?_
  refine fj_istore (lv' := [(4, .int 1), (0, .ref (ad 38)), (1, .int (nI t)), (2, .int (nI mn)), (3, .int (nI z))]) C dX1_findBetween_1 (by decide) rfl ?_
  refine fj_lv (lv' := [(0, .ref (ad 38)), (1, .int (nI t)), (2, .int (nI mn)), (3, .int (nI z)), (4, .int 1)]) [1, 2, 3, 4, 0] rfl ?_
  have lp3 : ∀ (b : Nat), (1 ≤ b) → (b ≤ mn + 1) → (∀ c, 1 ≤ c → c < b → a 39 (t - c * z) = 0) → fj p l e (fj_rm 0 0 0 0) s m args below meth c Q A D 9 0 0 (fx_w ad ty a g n) [(0, .ref (ad 38)), (1, .int (nI t)), (2, .int (nI mn)), (3, .int (nI z)), (4, .int (nI b))] 3 [] := by
    have key : ∀ zz : Nat, (fun (b : Nat) => (1 ≤ b) → (b ≤ mn + 1) → (∀ c, 1 ≤ c → c < b → a 39 (t - c * z) = 0) → fj p l e (fj_rm 0 0 0 0) s m args below meth c Q A D 9 0 0 (fx_w ad ty a g n) [(0, .ref (ad 38)), (1, .int (nI t)), (2, .int (nI mn)), (3, .int (nI z)), (4, .int (nI b))] 3 []) zz := by
      refine fx_ind (fun (b : Nat) => mn + 1 - b) _ ?_
      rintro b ih hb1 hb hbk
      refine fj_iload C 4 dX1_findBetween_3 rfl ?_
      refine fj_iload_n C 2 dX1_findBetween_5 rfl rfl ?_
      refine fj_icmp_gt (tgt := 29) C dX1_findBetween_6 (by decide) (fun h6 => ?_) (fun h6 => ?_)
      · have hbm : mn < b := fx_lt0 h6 (by omega) (by omega)
        refine fj_iconst (v := 1) C dX1_findBetween_29 (by decide) ?_
        refine fj_istore (lv' := [(5, .int 1), (0, .ref (ad 38)), (1, .int (nI t)), (2, .int (nI mn)), (3, .int (nI z)), (4, .int (nI b))]) C dX1_findBetween_30 (by decide) rfl ?_
        refine fj_lv (lv' := [(0, .ref (ad 38)), (1, .int (nI t)), (2, .int (nI mn)), (3, .int (nI z)), (4, .int (nI b)), (5, .int 1)]) [1, 2, 3, 4, 5, 0] rfl ?_
        have lp32 : ∀ (o : Nat), (1 ≤ o) → (mn + o ≤ 9) → (∀ c, 1 ≤ c → c < o → a 39 (t + c * z) = 0) → fj p l e (fj_rm 0 0 0 0) s m args below meth c Q A D 9 0 0 (fx_w ad ty a g n) [(0, .ref (ad 38)), (1, .int (nI t)), (2, .int (nI mn)), (3, .int (nI z)), (4, .int (nI b)), (5, .int (nI o))] 32 [] := by
          have key : ∀ zz : Nat, (fun (o : Nat) => (1 ≤ o) → (mn + o ≤ 9) → (∀ c, 1 ≤ c → c < o → a 39 (t + c * z) = 0) → fj p l e (fj_rm 0 0 0 0) s m args below meth c Q A D 9 0 0 (fx_w ad ty a g n) [(0, .ref (ad 38)), (1, .int (nI t)), (2, .int (nI mn)), (3, .int (nI z)), (4, .int (nI b)), (5, .int (nI o))] 32 []) zz := by
            refine fx_ind (fun (o : Nat) => 9 - o) _ ?_
            rintro o ih ho1 ho hok
            refine fj_iload_n C 2 dX1_findBetween_32 rfl rfl ?_
            refine fj_iload C 5 dX1_findBetween_33 rfl ?_
            refine fj_iadd C dX1_findBetween_35 ?_
            refine fj_at (y := nI (mn + o)) (nI_add mn o) ?_
            refine fj_bipush (v := 9) C dX1_findBetween_36 (by decide) ?_
            refine fj_icmp_ge (tgt := 61) C dX1_findBetween_38 (by decide) (fun h38 => ?_) (fun h38 => ?_)
            · have hmo : 9 ≤ mn + o := (nI_leI (a := 9) (by decide) (by omega)).mp h38
              refine fj_iload C 4 dX1_findBetween_61 rfl ?_
              refine fj_iload_n C 2 dX1_findBetween_63 rfl rfl ?_
              refine fj_icmp_gt (tgt := 76) C dX1_findBetween_64 (by decide) (fun h64 => ?_) (fun h64 => ?_)
              · have hbm2 : mn < b := fx_lt0 h64 (by omega) (by omega)
                refine fj_iconst (v := 0) C dX1_findBetween_76 (by decide) ?_
                exact fj_zret C E9 rfl dX1_findBetween_77 (Or.inr ⟨fun b9 o9 F => by first | exact F.2.2.1 (hbk b9 F.1 (by have := F.2.1; omega)) | exact F.2.2.2.2.2.2.1 (hok o9 F.2.2.2.2.1 (by have := F.2.2.2.2.2.1; omega)), rfl, rfl⟩)
              · have hbm2 : b ≤ mn := fx_nlt h64 (by omega) (by omega)
                have hbz2 : b * z ≤ t := Nat.le_trans (Nat.mul_le_mul_right z hbm2) h1
                refine fj_iload_n C 2 dX1_findBetween_67 rfl rfl ?_
                refine fj_iload C 5 dX1_findBetween_68 rfl ?_
                refine fj_iadd C dX1_findBetween_70 ?_
                refine fj_at (y := nI (mn + o)) (nI_add mn o) ?_
                refine fj_bipush (v := 9) C dX1_findBetween_71 (by decide) ?_
                refine fj_icmp_lt (tgt := 78) C dX1_findBetween_73 (by decide) (fun h73 => ?_) (fun h73 => ?_)
                · have hmo2 : mn + o < 9 := (nI_ltI (b := 9) (by omega) (by decide)).mp h73
                  have hoz2 : o * z ≤ (8 - mn) * z := Nat.mul_le_mul_right z (by omega)
                  refine fj_iload_n C 1 dX1_findBetween_78 rfl rfl ?_
                  refine fj_iload C 4 dX1_findBetween_79 rfl ?_
                  refine fj_iload_n C 3 dX1_findBetween_81 rfl rfl ?_
                  refine fj_imul C dX1_findBetween_82 ?_
                  refine fj_at (y := nI (b * z)) (pk_mul b z) ?_
                  refine fj_isub C dX1_findBetween_83 ?_
                  refine fj_at (y := nI (t - b * z)) (pk_sub hbz2) ?_
                  refine fj_istore (lv' := [(6, .int (nI (t - b * z))), (0, .ref (ad 38)), (1, .int (nI t)), (2, .int (nI mn)), (3, .int (nI z)), (4, .int (nI b)), (5, .int (nI o))]) C dX1_findBetween_84 (by decide) rfl ?_
                  refine fj_iload_n C 2 dX1_findBetween_86 rfl rfl ?_
                  refine fj_iload C 6 dX1_findBetween_87 rfl ?_
                  refine fj_iload_n C 4 dX1_findBetween_89 rfl rfl ?_
                  refine fj_imul C dX1_findBetween_90 ?_
                  refine fj_at (y := nI (o * z)) (pk_mul o z) ?_
                  refine fj_iadd C dX1_findBetween_91 ?_
                  refine fj_at (y := nI (t + o * z)) (nI_add t (o * z)) ?_
                  refine fj_istore (lv' := [(7, .int (nI (t + o * z))), (6, .int (nI (t - b * z))), (0, .ref (ad 38)), (1, .int (nI t)), (2, .int (nI mn)), (3, .int (nI z)), (4, .int (nI b)), (5, .int (nI o))]) C dX1_findBetween_92 (by decide) rfl ?_
                  refine fj_sipush (v := 840) C dX1_findBetween_94 (by decide) ?_
                  refine fj_iload C 6 dX1_findBetween_97 rfl ?_
                  refine fj_iload C 7 dX1_findBetween_99 rfl ?_
                  refine fj_iadd C dX1_findBetween_101 ?_
                  refine fj_at (y := nI (b + o)) (nI_add b o) ?_
                  refine fj_idiv C dX1_findBetween_102 (nI_ne0 (by omega) (by omega)) ?_
                  refine fj_iload C 6 dX1_findBetween_103 rfl ?_
                  refine fj_imul C dX1_findBetween_105 ?_
                  refine fj_istore (lv' := [(8, .int ((840 / (nI (b + o))) * (nI b))), (7, .int (nI (t + o * z))), (6, .int (nI (t - b * z))), (0, .ref (ad 38)), (1, .int (nI t)), (2, .int (nI mn)), (3, .int (nI z)), (4, .int (nI b)), (5, .int (nI o))]) C dX1_findBetween_106 (by decide) rfl ?_
                  refine fj_aload_n C 3 dX1_findBetween_108 rfl rfl ?_
                  refine fj_sipush (v := 840) C dX1_findBetween_109 (by decide) ?_
                  refine fj_aload_n C 3 dX1_findBetween_112 rfl rfl ?_
                  refine fj_get (Cn := RX1) (T := TX1) (N := 7) (ci := 1) (v := .ref (ad 40)) C iX1 38 (fx_at38 _ _ _ _ _) rfl 1 (by decide) kX1_13 rfl dX1_findBetween_113 ?_
                  refine fj_iload C 2 dX1_findBetween_116 rfl ?_
                  refine fj_iald (f := (a 40)) C 40 (fx_at40 _ _ _ _ _) (vp_in_nI (by omega) (by decide)) dX1_findBetween_118 ?_
                  refine fj_at (y := a 40 (t - b * z)) (by rw [nI_clamp (by omega)]) ?_
                  refine fj_imul C dX1_findBetween_119 ?_
                  refine fj_aload_n C 3 dX1_findBetween_120 rfl rfl ?_
                  refine fj_get (Cn := RX1) (T := TX1) (N := 7) (ci := 1) (v := .ref (ad 40)) C iX1 38 (fx_at38 _ _ _ _ _) rfl 1 (by decide) kX1_13 rfl dX1_findBetween_121 ?_
                  refine fj_iload C 1 dX1_findBetween_124 rfl ?_
                  refine fj_iald (f := (a 40)) C 40 (fx_at40 _ _ _ _ _) (vp_in_nI (by omega) (by decide)) dX1_findBetween_126 ?_
                  refine fj_at (y := a 40 (t + o * z)) (by rw [nI_clamp (by omega)]) ?_
                  refine fj_aload_n C 3 dX1_findBetween_127 rfl rfl ?_
                  refine fj_get (Cn := RX1) (T := TX1) (N := 7) (ci := 1) (v := .ref (ad 40)) C iX1 38 (fx_at38 _ _ _ _ _) rfl 1 (by decide) kX1_13 rfl dX1_findBetween_128 ?_
                  refine fj_iload C 2 dX1_findBetween_131 rfl ?_
                  refine fj_iald (f := (a 40)) C 40 (fx_at40 _ _ _ _ _) (vp_in_nI (by omega) (by decide)) dX1_findBetween_133 ?_
                  refine fj_at (y := a 40 (t - b * z)) (by rw [nI_clamp (by omega)]) ?_
                  refine fj_isub C dX1_findBetween_134 ?_
                  refine fj_iload C 0 dX1_findBetween_135 rfl ?_
                  refine fj_imul C dX1_findBetween_137 ?_
                  refine fj_iadd C dX1_findBetween_138 ?_
                  refine fj_put (Cn := RX1) (T := TX1) (N := 7) (ci := 1) C iX1 tyX1 tyX1_ok nmX1 38 (fx_at38 _ _ _ _ _) rfl 3 (by decide) kX1_31 rfl rfl rfl (Nat.le_of_ble_eq_true rfl) dX1_findBetween_139 (fx_si38_3 _ _ _ _ _ _) ?_
                  refine fj_aload_n C 3 dX1_findBetween_142 rfl rfl ?_
                  refine fj_sipush (v := 840) C dX1_findBetween_143 (by decide) ?_
                  refine fj_aload_n C 3 dX1_findBetween_146 rfl rfl ?_
                  refine fj_get (Cn := RX1) (T := TX1) (N := 7) (ci := 1) (v := .ref (ad 41)) C iX1 38 (fx_at38 _ _ _ _ _) rfl 2 (by decide) kX1_17 rfl dX1_findBetween_147 ?_
                  refine fj_iload C 2 dX1_findBetween_150 rfl ?_
                  refine fj_iald (f := (a 41)) C 41 (fx_at41 _ _ _ _ _) (vp_in_nI (by omega) (by decide)) dX1_findBetween_152 ?_
                  refine fj_at (y := a 41 (t - b * z)) (by rw [nI_clamp (by omega)]) ?_
                  refine fj_imul C dX1_findBetween_153 ?_
                  refine fj_aload_n C 3 dX1_findBetween_154 rfl rfl ?_
                  refine fj_get (Cn := RX1) (T := TX1) (N := 7) (ci := 1) (v := .ref (ad 41)) C iX1 38 (fx_at38 _ _ _ _ _) rfl 2 (by decide) kX1_17 rfl dX1_findBetween_155 ?_
                  refine fj_iload C 1 dX1_findBetween_158 rfl ?_
                  refine fj_iald (f := (a 41)) C 41 (fx_at41 _ _ _ _ _) (vp_in_nI (by omega) (by decide)) dX1_findBetween_160 ?_
                  refine fj_at (y := a 41 (t + o * z)) (by rw [nI_clamp (by omega)]) ?_
                  refine fj_aload_n C 3 dX1_findBetween_161 rfl rfl ?_
                  refine fj_get (Cn := RX1) (T := TX1) (N := 7) (ci := 1) (v := .ref (ad 41)) C iX1 38 (fx_at38 _ _ _ _ _) rfl 2 (by decide) kX1_17 rfl dX1_findBetween_162 ?_
                  refine fj_iload C 2 dX1_findBetween_165 rfl ?_
                  refine fj_iald (f := (a 41)) C 41 (fx_at41 _ _ _ _ _) (vp_in_nI (by omega) (by decide)) dX1_findBetween_167 ?_
                  refine fj_at (y := a 41 (t - b * z)) (by rw [nI_clamp (by omega)]) ?_
                  refine fj_isub C dX1_findBetween_168 ?_
                  refine fj_iload C 0 dX1_findBetween_169 rfl ?_
                  refine fj_imul C dX1_findBetween_171 ?_
                  refine fj_iadd C dX1_findBetween_172 ?_
                  refine fj_put (Cn := RX1) (T := TX1) (N := 7) (ci := 1) C iX1 tyX1 tyX1_ok nmX1 38 (fx_at38 _ _ _ _ _) rfl 4 (by decide) kX1_35 rfl rfl rfl (Nat.le_of_ble_eq_true rfl) dX1_findBetween_173 (fx_si38_4 _ _ _ _ _ _) ?_
                  refine fj_iconst (v := 1) C dX1_findBetween_176 (by decide) ?_
                  exact fj_zret C E9 rfl dX1_findBetween_177 (by first | exact Or.inl ⟨b, o, ⟨hb1, hbm2, h20, hbk, ho1, by omega, h52, hok⟩, rfl, rfl⟩ | (exfalso; omega))
                · have hmo2 : 9 ≤ mn + o := Nat.le_of_not_lt fun q => h73 ((nI_ltI (b := 9) (by omega) (by decide)).mpr q)
                  refine fj_iconst (v := 0) C dX1_findBetween_76 (by decide) ?_
                  exact fj_zret C E9 rfl dX1_findBetween_77 (Or.inr ⟨fun b9 o9 F => by first | exact F.2.2.1 (hbk b9 F.1 (by have := F.2.1; omega)) | exact F.2.2.2.2.2.2.1 (hok o9 F.2.2.2.2.1 (by have := F.2.2.2.2.2.1; omega)), rfl, rfl⟩)
            · have hmo : mn + o < 9 := Nat.lt_of_not_le fun q => h38 ((nI_leI (a := 9) (by decide) (by omega)).mpr q)
              have hoz : o * z ≤ (8 - mn) * z := Nat.mul_le_mul_right z (by omega)
              refine fj_aload_n C 0 dX1_findBetween_41 rfl rfl ?_
              refine fj_get (Cn := RX1) (T := TX1) (N := 7) (ci := 1) (v := .ref (ad 39)) C iX1 38 (fx_at38 _ _ _ _ _) rfl 0 (by decide) kX1_9 rfl dX1_findBetween_42 ?_
              refine fj_iload_n C 1 dX1_findBetween_45 rfl rfl ?_
              refine fj_iload C 5 dX1_findBetween_46 rfl ?_
              refine fj_iload_n C 3 dX1_findBetween_48 rfl rfl ?_
              refine fj_imul C dX1_findBetween_49 ?_
              refine fj_at (y := nI (o * z)) (pk_mul o z) ?_
              refine fj_iadd C dX1_findBetween_50 ?_
              refine fj_at (y := nI (t + o * z)) (nI_add t (o * z)) ?_
              refine fj_zald (f := (a 39)) C 39 (fx_at39 _ _ _ _ _) (vp_in_nI (by omega) (by decide)) dX1_findBetween_51 ?_
              refine fj_at (y := a 39 (t + o * z)) (by rw [nI_clamp (by omega)]) ?_
              refine fj_if_ne (tgt := 61) C dX1_findBetween_52 (by decide) (fun h52 => ?_) (fun h52 => ?_)
              · refine fj_iload C 4 dX1_findBetween_61 rfl ?_
                refine fj_iload_n C 2 dX1_findBetween_63 rfl rfl ?_
                refine fj_icmp_gt (tgt := 76) C dX1_findBetween_64 (by decide) (fun h64 => ?_) (fun h64 => ?_)
                · have hbm2 : mn < b := fx_lt0 h64 (by omega) (by omega)
                  refine fj_iconst (v := 0) C dX1_findBetween_76 (by decide) ?_
                  exact fj_zret C E9 rfl dX1_findBetween_77 (Or.inr ⟨fun b9 o9 F => by first | exact F.2.2.1 (hbk b9 F.1 (by have := F.2.1; omega)) | exact F.2.2.2.2.2.2.1 (hok o9 F.2.2.2.2.1 (by have := F.2.2.2.2.2.1; omega)), rfl, rfl⟩)
                · have hbm2 : b ≤ mn := fx_nlt h64 (by omega) (by omega)
                  have hbz2 : b * z ≤ t := Nat.le_trans (Nat.mul_le_mul_right z hbm2) h1
                  refine fj_iload_n C 2 dX1_findBetween_67 rfl rfl ?_
                  refine fj_iload C 5 dX1_findBetween_68 rfl ?_
                  refine fj_iadd C dX1_findBetween_70 ?_
                  refine fj_at (y := nI (mn + o)) (nI_add mn o) ?_
                  refine fj_bipush (v := 9) C dX1_findBetween_71 (by decide) ?_
                  refine fj_icmp_lt (tgt := 78) C dX1_findBetween_73 (by decide) (fun h73 => ?_) (fun h73 => ?_)
                  · have hmo2 : mn + o < 9 := (nI_ltI (b := 9) (by omega) (by decide)).mp h73
                    have hoz2 : o * z ≤ (8 - mn) * z := Nat.mul_le_mul_right z (by omega)
                    refine fj_iload_n C 1 dX1_findBetween_78 rfl rfl ?_
                    refine fj_iload C 4 dX1_findBetween_79 rfl ?_
                    refine fj_iload_n C 3 dX1_findBetween_81 rfl rfl ?_
                    refine fj_imul C dX1_findBetween_82 ?_
                    refine fj_at (y := nI (b * z)) (pk_mul b z) ?_
                    refine fj_isub C dX1_findBetween_83 ?_
                    refine fj_at (y := nI (t - b * z)) (pk_sub hbz2) ?_
                    refine fj_istore (lv' := [(6, .int (nI (t - b * z))), (0, .ref (ad 38)), (1, .int (nI t)), (2, .int (nI mn)), (3, .int (nI z)), (4, .int (nI b)), (5, .int (nI o))]) C dX1_findBetween_84 (by decide) rfl ?_
                    refine fj_iload_n C 2 dX1_findBetween_86 rfl rfl ?_
                    refine fj_iload C 6 dX1_findBetween_87 rfl ?_
                    refine fj_iload_n C 4 dX1_findBetween_89 rfl rfl ?_
                    refine fj_imul C dX1_findBetween_90 ?_
                    refine fj_at (y := nI (o * z)) (pk_mul o z) ?_
                    refine fj_iadd C dX1_findBetween_91 ?_
                    refine fj_at (y := nI (t + o * z)) (nI_add t (o * z)) ?_
                    refine fj_istore (lv' := [(7, .int (nI (t + o * z))), (6, .int (nI (t - b * z))), (0, .ref (ad 38)), (1, .int (nI t)), (2, .int (nI mn)), (3, .int (nI z)), (4, .int (nI b)), (5, .int (nI o))]) C dX1_findBetween_92 (by decide) rfl ?_
                    refine fj_sipush (v := 840) C dX1_findBetween_94 (by decide) ?_
                    refine fj_iload C 6 dX1_findBetween_97 rfl ?_
                    refine fj_iload C 7 dX1_findBetween_99 rfl ?_
                    refine fj_iadd C dX1_findBetween_101 ?_
                    refine fj_at (y := nI (b + o)) (nI_add b o) ?_
                    refine fj_idiv C dX1_findBetween_102 (nI_ne0 (by omega) (by omega)) ?_
                    refine fj_iload C 6 dX1_findBetween_103 rfl ?_
                    refine fj_imul C dX1_findBetween_105 ?_
                    refine fj_istore (lv' := [(8, .int ((840 / (nI (b + o))) * (nI b))), (7, .int (nI (t + o * z))), (6, .int (nI (t - b * z))), (0, .ref (ad 38)), (1, .int (nI t)), (2, .int (nI mn)), (3, .int (nI z)), (4, .int (nI b)), (5, .int (nI o))]) C dX1_findBetween_106 (by decide) rfl ?_
                    refine fj_aload_n C 3 dX1_findBetween_108 rfl rfl ?_
                    refine fj_sipush (v := 840) C dX1_findBetween_109 (by decide) ?_
                    refine fj_aload_n C 3 dX1_findBetween_112 rfl rfl ?_
                    refine fj_get (Cn := RX1) (T := TX1) (N := 7) (ci := 1) (v := .ref (ad 40)) C iX1 38 (fx_at38 _ _ _ _ _) rfl 1 (by decide) kX1_13 rfl dX1_findBetween_113 ?_
                    refine fj_iload C 2 dX1_findBetween_116 rfl ?_
                    refine fj_iald (f := (a 40)) C 40 (fx_at40 _ _ _ _ _) (vp_in_nI (by omega) (by decide)) dX1_findBetween_118 ?_
                    refine fj_at (y := a 40 (t - b * z)) (by rw [nI_clamp (by omega)]) ?_
                    refine fj_imul C dX1_findBetween_119 ?_
                    refine fj_aload_n C 3 dX1_findBetween_120 rfl rfl ?_
                    refine fj_get (Cn := RX1) (T := TX1) (N := 7) (ci := 1) (v := .ref (ad 40)) C iX1 38 (fx_at38 _ _ _ _ _) rfl 1 (by decide) kX1_13 rfl dX1_findBetween_121 ?_
                    refine fj_iload C 1 dX1_findBetween_124 rfl ?_
                    refine fj_iald (f := (a 40)) C 40 (fx_at40 _ _ _ _ _) (vp_in_nI (by omega) (by decide)) dX1_findBetween_126 ?_
                    refine fj_at (y := a 40 (t + o * z)) (by rw [nI_clamp (by omega)]) ?_
                    refine fj_aload_n C 3 dX1_findBetween_127 rfl rfl ?_
                    refine fj_get (Cn := RX1) (T := TX1) (N := 7) (ci := 1) (v := .ref (ad 40)) C iX1 38 (fx_at38 _ _ _ _ _) rfl 1 (by decide) kX1_13 rfl dX1_findBetween_128 ?_
                    refine fj_iload C 2 dX1_findBetween_131 rfl ?_
                    refine fj_iald (f := (a 40)) C 40 (fx_at40 _ _ _ _ _) (vp_in_nI (by omega) (by decide)) dX1_findBetween_133 ?_
                    refine fj_at (y := a 40 (t - b * z)) (by rw [nI_clamp (by omega)]) ?_
                    refine fj_isub C dX1_findBetween_134 ?_
                    refine fj_iload C 0 dX1_findBetween_135 rfl ?_
                    refine fj_imul C dX1_findBetween_137 ?_
                    refine fj_iadd C dX1_findBetween_138 ?_
                    refine fj_put (Cn := RX1) (T := TX1) (N := 7) (ci := 1) C iX1 tyX1 tyX1_ok nmX1 38 (fx_at38 _ _ _ _ _) rfl 3 (by decide) kX1_31 rfl rfl rfl (Nat.le_of_ble_eq_true rfl) dX1_findBetween_139 (fx_si38_3 _ _ _ _ _ _) ?_
                    refine fj_aload_n C 3 dX1_findBetween_142 rfl rfl ?_
                    refine fj_sipush (v := 840) C dX1_findBetween_143 (by decide) ?_
                    refine fj_aload_n C 3 dX1_findBetween_146 rfl rfl ?_
                    refine fj_get (Cn := RX1) (T := TX1) (N := 7) (ci := 1) (v := .ref (ad 41)) C iX1 38 (fx_at38 _ _ _ _ _) rfl 2 (by decide) kX1_17 rfl dX1_findBetween_147 ?_
                    refine fj_iload C 2 dX1_findBetween_150 rfl ?_
                    refine fj_iald (f := (a 41)) C 41 (fx_at41 _ _ _ _ _) (vp_in_nI (by omega) (by decide)) dX1_findBetween_152 ?_
                    refine fj_at (y := a 41 (t - b * z)) (by rw [nI_clamp (by omega)]) ?_
                    refine fj_imul C dX1_findBetween_153 ?_
                    refine fj_aload_n C 3 dX1_findBetween_154 rfl rfl ?_
                    refine fj_get (Cn := RX1) (T := TX1) (N := 7) (ci := 1) (v := .ref (ad 41)) C iX1 38 (fx_at38 _ _ _ _ _) rfl 2 (by decide) kX1_17 rfl dX1_findBetween_155 ?_
                    refine fj_iload C 1 dX1_findBetween_158 rfl ?_
                    refine fj_iald (f := (a 41)) C 41 (fx_at41 _ _ _ _ _) (vp_in_nI (by omega) (by decide)) dX1_findBetween_160 ?_
                    refine fj_at (y := a 41 (t + o * z)) (by rw [nI_clamp (by omega)]) ?_
                    refine fj_aload_n C 3 dX1_findBetween_161 rfl rfl ?_
                    refine fj_get (Cn := RX1) (T := TX1) (N := 7) (ci := 1) (v := .ref (ad 41)) C iX1 38 (fx_at38 _ _ _ _ _) rfl 2 (by decide) kX1_17 rfl dX1_findBetween_162 ?_
                    refine fj_iload C 2 dX1_findBetween_165 rfl ?_
                    refine fj_iald (f := (a 41)) C 41 (fx_at41 _ _ _ _ _) (vp_in_nI (by omega) (by decide)) dX1_findBetween_167 ?_
                    refine fj_at (y := a 41 (t - b * z)) (by rw [nI_clamp (by omega)]) ?_
                    refine fj_isub C dX1_findBetween_168 ?_
                    refine fj_iload C 0 dX1_findBetween_169 rfl ?_
                    refine fj_imul C dX1_findBetween_171 ?_
                    refine fj_iadd C dX1_findBetween_172 ?_
                    refine fj_put (Cn := RX1) (T := TX1) (N := 7) (ci := 1) C iX1 tyX1 tyX1_ok nmX1 38 (fx_at38 _ _ _ _ _) rfl 4 (by decide) kX1_35 rfl rfl rfl (Nat.le_of_ble_eq_true rfl) dX1_findBetween_173 (fx_si38_4 _ _ _ _ _ _) ?_
                    refine fj_iconst (v := 1) C dX1_findBetween_176 (by decide) ?_
                    exact fj_zret C E9 rfl dX1_findBetween_177 (by first | exact Or.inl ⟨b, o, ⟨hb1, hbm2, h20, hbk, ho1, by omega, h52, hok⟩, rfl, rfl⟩ | (exfalso; omega))
                  · have hmo2 : 9 ≤ mn + o := Nat.le_of_not_lt fun q => h73 ((nI_ltI (b := 9) (by omega) (by decide)).mpr q)
                    refine fj_iconst (v := 0) C dX1_findBetween_76 (by decide) ?_
                    exact fj_zret C E9 rfl dX1_findBetween_77 (Or.inr ⟨fun b9 o9 F => by first | exact F.2.2.1 (hbk b9 F.1 (by have := F.2.1; omega)) | exact F.2.2.2.2.2.2.1 (hok o9 F.2.2.2.2.1 (by have := F.2.2.2.2.2.1; omega)), rfl, rfl⟩)
              · refine fj_iinc (v := nI (o + 1)) (lv' := [(5, .int (nI (o + 1))), (0, .ref (ad 38)), (1, .int (nI t)), (2, .int (nI mn)), (3, .int (nI z)), (4, .int (nI b))]) C 5 dX1_findBetween_55 rfl (nI_1 o) (by decide) rfl ?_
                refine fj_goto (tgt := 32) C dX1_findBetween_58 (by decide) ?_
                refine fj_lv (lv' := [(0, .ref (ad 38)), (1, .int (nI t)), (2, .int (nI mn)), (3, .int (nI z)), (4, .int (nI b)), (5, .int (nI (o + 1)))]) [1, 2, 3, 4, 5, 0] rfl ?_
                exact ih (o + 1) (by show 9 - (o + 1) < 9 - o; omega) (by omega) (by omega) (fun c h8 h9 => (Nat.eq_or_lt_of_le (Nat.le_of_lt_succ h9)).elim (fun e => e ▸ h52) (fun q => hok c h8 q))
          intro o
          exact key o
        exact lp32 1 (Nat.le_refl 1) (by omega) (fun c h8 h9 => absurd h9 (by omega))
      · have hbm : b ≤ mn := fx_nlt h6 (by omega) (by omega)
        have hbz : b * z ≤ t := Nat.le_trans (Nat.mul_le_mul_right z hbm) h1
        refine fj_aload_n C 0 dX1_findBetween_9 rfl rfl ?_
        refine fj_get (Cn := RX1) (T := TX1) (N := 7) (ci := 1) (v := .ref (ad 39)) C iX1 38 (fx_at38 _ _ _ _ _) rfl 0 (by decide) kX1_9 rfl dX1_findBetween_10 ?_
        refine fj_iload_n C 1 dX1_findBetween_13 rfl rfl ?_
        refine fj_iload C 4 dX1_findBetween_14 rfl ?_
        refine fj_iload_n C 3 dX1_findBetween_16 rfl rfl ?_
        refine fj_imul C dX1_findBetween_17 ?_
        refine fj_at (y := nI (b * z)) (pk_mul b z) ?_
        refine fj_isub C dX1_findBetween_18 ?_
        refine fj_at (y := nI (t - b * z)) (pk_sub hbz) ?_
        refine fj_zald (f := (a 39)) C 39 (fx_at39 _ _ _ _ _) (vp_in_nI (by omega) (by decide)) dX1_findBetween_19 ?_
        refine fj_at (y := a 39 (t - b * z)) (by rw [nI_clamp (by omega)]) ?_
        refine fj_if_ne (tgt := 29) C dX1_findBetween_20 (by decide) (fun h20 => ?_) (fun h20 => ?_)
        · refine fj_iconst (v := 1) C dX1_findBetween_29 (by decide) ?_
          refine fj_istore (lv' := [(5, .int 1), (0, .ref (ad 38)), (1, .int (nI t)), (2, .int (nI mn)), (3, .int (nI z)), (4, .int (nI b))]) C dX1_findBetween_30 (by decide) rfl ?_
          refine fj_lv (lv' := [(0, .ref (ad 38)), (1, .int (nI t)), (2, .int (nI mn)), (3, .int (nI z)), (4, .int (nI b)), (5, .int 1)]) [1, 2, 3, 4, 5, 0] rfl ?_
          have lp32 : ∀ (o : Nat), (1 ≤ o) → (mn + o ≤ 9) → (∀ c, 1 ≤ c → c < o → a 39 (t + c * z) = 0) → fj p l e (fj_rm 0 0 0 0) s m args below meth c Q A D 9 0 0 (fx_w ad ty a g n) [(0, .ref (ad 38)), (1, .int (nI t)), (2, .int (nI mn)), (3, .int (nI z)), (4, .int (nI b)), (5, .int (nI o))] 32 [] := by
            have key : ∀ zz : Nat, (fun (o : Nat) => (1 ≤ o) → (mn + o ≤ 9) → (∀ c, 1 ≤ c → c < o → a 39 (t + c * z) = 0) → fj p l e (fj_rm 0 0 0 0) s m args below meth c Q A D 9 0 0 (fx_w ad ty a g n) [(0, .ref (ad 38)), (1, .int (nI t)), (2, .int (nI mn)), (3, .int (nI z)), (4, .int (nI b)), (5, .int (nI o))] 32 []) zz := by
              refine fx_ind (fun (o : Nat) => 9 - o) _ ?_
              rintro o ih ho1 ho hok
              refine fj_iload_n C 2 dX1_findBetween_32 rfl rfl ?_
              refine fj_iload C 5 dX1_findBetween_33 rfl ?_
              refine fj_iadd C dX1_findBetween_35 ?_
              refine fj_at (y := nI (mn + o)) (nI_add mn o) ?_
              refine fj_bipush (v := 9) C dX1_findBetween_36 (by decide) ?_
              refine fj_icmp_ge (tgt := 61) C dX1_findBetween_38 (by decide) (fun h38 => ?_) (fun h38 => ?_)
              · have hmo : 9 ≤ mn + o := (nI_leI (a := 9) (by decide) (by omega)).mp h38
                refine fj_iload C 4 dX1_findBetween_61 rfl ?_
                refine fj_iload_n C 2 dX1_findBetween_63 rfl rfl ?_
                refine fj_icmp_gt (tgt := 76) C dX1_findBetween_64 (by decide) (fun h64 => ?_) (fun h64 => ?_)
                · have hbm2 : mn < b := fx_lt0 h64 (by omega) (by omega)
                  refine fj_iconst (v := 0) C dX1_findBetween_76 (by decide) ?_
                  exact fj_zret C E9 rfl dX1_findBetween_77 (Or.inr ⟨fun b9 o9 F => by first | exact F.2.2.1 (hbk b9 F.1 (by have := F.2.1; omega)) | exact F.2.2.2.2.2.2.1 (hok o9 F.2.2.2.2.1 (by have := F.2.2.2.2.2.1; omega)), rfl, rfl⟩)
                · have hbm2 : b ≤ mn := fx_nlt h64 (by omega) (by omega)
                  have hbz2 : b * z ≤ t := Nat.le_trans (Nat.mul_le_mul_right z hbm2) h1
                  refine fj_iload_n C 2 dX1_findBetween_67 rfl rfl ?_
                  refine fj_iload C 5 dX1_findBetween_68 rfl ?_
                  refine fj_iadd C dX1_findBetween_70 ?_
                  refine fj_at (y := nI (mn + o)) (nI_add mn o) ?_
                  refine fj_bipush (v := 9) C dX1_findBetween_71 (by decide) ?_
                  refine fj_icmp_lt (tgt := 78) C dX1_findBetween_73 (by decide) (fun h73 => ?_) (fun h73 => ?_)
                  · have hmo2 : mn + o < 9 := (nI_ltI (b := 9) (by omega) (by decide)).mp h73
                    have hoz2 : o * z ≤ (8 - mn) * z := Nat.mul_le_mul_right z (by omega)
                    refine fj_iload_n C 1 dX1_findBetween_78 rfl rfl ?_
                    refine fj_iload C 4 dX1_findBetween_79 rfl ?_
                    refine fj_iload_n C 3 dX1_findBetween_81 rfl rfl ?_
                    refine fj_imul C dX1_findBetween_82 ?_
                    refine fj_at (y := nI (b * z)) (pk_mul b z) ?_
                    refine fj_isub C dX1_findBetween_83 ?_
                    refine fj_at (y := nI (t - b * z)) (pk_sub hbz2) ?_
                    refine fj_istore (lv' := [(6, .int (nI (t - b * z))), (0, .ref (ad 38)), (1, .int (nI t)), (2, .int (nI mn)), (3, .int (nI z)), (4, .int (nI b)), (5, .int (nI o))]) C dX1_findBetween_84 (by decide) rfl ?_
                    refine fj_iload_n C 2 dX1_findBetween_86 rfl rfl ?_
                    refine fj_iload C 6 dX1_findBetween_87 rfl ?_
                    refine fj_iload_n C 4 dX1_findBetween_89 rfl rfl ?_
                    refine fj_imul C dX1_findBetween_90 ?_
                    refine fj_at (y := nI (o * z)) (pk_mul o z) ?_
                    refine fj_iadd C dX1_findBetween_91 ?_
                    refine fj_at (y := nI (t + o * z)) (nI_add t (o * z)) ?_
                    refine fj_istore (lv' := [(7, .int (nI (t + o * z))), (6, .int (nI (t - b * z))), (0, .ref (ad 38)), (1, .int (nI t)), (2, .int (nI mn)), (3, .int (nI z)), (4, .int (nI b)), (5, .int (nI o))]) C dX1_findBetween_92 (by decide) rfl ?_
                    refine fj_sipush (v := 840) C dX1_findBetween_94 (by decide) ?_
                    refine fj_iload C 6 dX1_findBetween_97 rfl ?_
                    refine fj_iload C 7 dX1_findBetween_99 rfl ?_
                    refine fj_iadd C dX1_findBetween_101 ?_
                    refine fj_at (y := nI (b + o)) (nI_add b o) ?_
                    refine fj_idiv C dX1_findBetween_102 (nI_ne0 (by omega) (by omega)) ?_
                    refine fj_iload C 6 dX1_findBetween_103 rfl ?_
                    refine fj_imul C dX1_findBetween_105 ?_
                    refine fj_istore (lv' := [(8, .int ((840 / (nI (b + o))) * (nI b))), (7, .int (nI (t + o * z))), (6, .int (nI (t - b * z))), (0, .ref (ad 38)), (1, .int (nI t)), (2, .int (nI mn)), (3, .int (nI z)), (4, .int (nI b)), (5, .int (nI o))]) C dX1_findBetween_106 (by decide) rfl ?_
                    refine fj_aload_n C 3 dX1_findBetween_108 rfl rfl ?_
                    refine fj_sipush (v := 840) C dX1_findBetween_109 (by decide) ?_
                    refine fj_aload_n C 3 dX1_findBetween_112 rfl rfl ?_
                    refine fj_get (Cn := RX1) (T := TX1) (N := 7) (ci := 1) (v := .ref (ad 40)) C iX1 38 (fx_at38 _ _ _ _ _) rfl 1 (by decide) kX1_13 rfl dX1_findBetween_113 ?_
                    refine fj_iload C 2 dX1_findBetween_116 rfl ?_
                    refine fj_iald (f := (a 40)) C 40 (fx_at40 _ _ _ _ _) (vp_in_nI (by omega) (by decide)) dX1_findBetween_118 ?_
                    refine fj_at (y := a 40 (t - b * z)) (by rw [nI_clamp (by omega)]) ?_
                    refine fj_imul C dX1_findBetween_119 ?_
                    refine fj_aload_n C 3 dX1_findBetween_120 rfl rfl ?_
                    refine fj_get (Cn := RX1) (T := TX1) (N := 7) (ci := 1) (v := .ref (ad 40)) C iX1 38 (fx_at38 _ _ _ _ _) rfl 1 (by decide) kX1_13 rfl dX1_findBetween_121 ?_
                    refine fj_iload C 1 dX1_findBetween_124 rfl ?_
                    refine fj_iald (f := (a 40)) C 40 (fx_at40 _ _ _ _ _) (vp_in_nI (by omega) (by decide)) dX1_findBetween_126 ?_
                    refine fj_at (y := a 40 (t + o * z)) (by rw [nI_clamp (by omega)]) ?_
                    refine fj_aload_n C 3 dX1_findBetween_127 rfl rfl ?_
                    refine fj_get (Cn := RX1) (T := TX1) (N := 7) (ci := 1) (v := .ref (ad 40)) C iX1 38 (fx_at38 _ _ _ _ _) rfl 1 (by decide) kX1_13 rfl dX1_findBetween_128 ?_
                    refine fj_iload C 2 dX1_findBetween_131 rfl ?_
                    refine fj_iald (f := (a 40)) C 40 (fx_at40 _ _ _ _ _) (vp_in_nI (by omega) (by decide)) dX1_findBetween_133 ?_
                    refine fj_at (y := a 40 (t - b * z)) (by rw [nI_clamp (by omega)]) ?_
                    refine fj_isub C dX1_findBetween_134 ?_
                    refine fj_iload C 0 dX1_findBetween_135 rfl ?_
                    refine fj_imul C dX1_findBetween_137 ?_
                    refine fj_iadd C dX1_findBetween_138 ?_
                    refine fj_put (Cn := RX1) (T := TX1) (N := 7) (ci := 1) C iX1 tyX1 tyX1_ok nmX1 38 (fx_at38 _ _ _ _ _) rfl 3 (by decide) kX1_31 rfl rfl rfl (Nat.le_of_ble_eq_true rfl) dX1_findBetween_139 (fx_si38_3 _ _ _ _ _ _) ?_
                    refine fj_aload_n C 3 dX1_findBetween_142 rfl rfl ?_
                    refine fj_sipush (v := 840) C dX1_findBetween_143 (by decide) ?_
                    refine fj_aload_n C 3 dX1_findBetween_146 rfl rfl ?_
                    refine fj_get (Cn := RX1) (T := TX1) (N := 7) (ci := 1) (v := .ref (ad 41)) C iX1 38 (fx_at38 _ _ _ _ _) rfl 2 (by decide) kX1_17 rfl dX1_findBetween_147 ?_
                    refine fj_iload C 2 dX1_findBetween_150 rfl ?_
                    refine fj_iald (f := (a 41)) C 41 (fx_at41 _ _ _ _ _) (vp_in_nI (by omega) (by decide)) dX1_findBetween_152 ?_
                    refine fj_at (y := a 41 (t - b * z)) (by rw [nI_clamp (by omega)]) ?_
                    refine fj_imul C dX1_findBetween_153 ?_
                    refine fj_aload_n C 3 dX1_findBetween_154 rfl rfl ?_
                    refine fj_get (Cn := RX1) (T := TX1) (N := 7) (ci := 1) (v := .ref (ad 41)) C iX1 38 (fx_at38 _ _ _ _ _) rfl 2 (by decide) kX1_17 rfl dX1_findBetween_155 ?_
                    refine fj_iload C 1 dX1_findBetween_158 rfl ?_
                    refine fj_iald (f := (a 41)) C 41 (fx_at41 _ _ _ _ _) (vp_in_nI (by omega) (by decide)) dX1_findBetween_160 ?_
                    refine fj_at (y := a 41 (t + o * z)) (by rw [nI_clamp (by omega)]) ?_
                    refine fj_aload_n C 3 dX1_findBetween_161 rfl rfl ?_
                    refine fj_get (Cn := RX1) (T := TX1) (N := 7) (ci := 1) (v := .ref (ad 41)) C iX1 38 (fx_at38 _ _ _ _ _) rfl 2 (by decide) kX1_17 rfl dX1_findBetween_162 ?_
                    refine fj_iload C 2 dX1_findBetween_165 rfl ?_
                    refine fj_iald (f := (a 41)) C 41 (fx_at41 _ _ _ _ _) (vp_in_nI (by omega) (by decide)) dX1_findBetween_167 ?_
                    refine fj_at (y := a 41 (t - b * z)) (by rw [nI_clamp (by omega)]) ?_
                    refine fj_isub C dX1_findBetween_168 ?_
                    refine fj_iload C 0 dX1_findBetween_169 rfl ?_
                    refine fj_imul C dX1_findBetween_171 ?_
                    refine fj_iadd C dX1_findBetween_172 ?_
                    refine fj_put (Cn := RX1) (T := TX1) (N := 7) (ci := 1) C iX1 tyX1 tyX1_ok nmX1 38 (fx_at38 _ _ _ _ _) rfl 4 (by decide) kX1_35 rfl rfl rfl (Nat.le_of_ble_eq_true rfl) dX1_findBetween_173 (fx_si38_4 _ _ _ _ _ _) ?_
                    refine fj_iconst (v := 1) C dX1_findBetween_176 (by decide) ?_
                    exact fj_zret C E9 rfl dX1_findBetween_177 (by first | exact Or.inl ⟨b, o, ⟨hb1, hbm2, h20, hbk, ho1, by omega, h52, hok⟩, rfl, rfl⟩ | (exfalso; omega))
                  · have hmo2 : 9 ≤ mn + o := Nat.le_of_not_lt fun q => h73 ((nI_ltI (b := 9) (by omega) (by decide)).mpr q)
                    refine fj_iconst (v := 0) C dX1_findBetween_76 (by decide) ?_
                    exact fj_zret C E9 rfl dX1_findBetween_77 (Or.inr ⟨fun b9 o9 F => by first | exact F.2.2.1 (hbk b9 F.1 (by have := F.2.1; omega)) | exact F.2.2.2.2.2.2.1 (hok o9 F.2.2.2.2.1 (by have := F.2.2.2.2.2.1; omega)), rfl, rfl⟩)
              · have hmo : mn + o < 9 := Nat.lt_of_not_le fun q => h38 ((nI_leI (a := 9) (by decide) (by omega)).mpr q)
                have hoz : o * z ≤ (8 - mn) * z := Nat.mul_le_mul_right z (by omega)
                refine fj_aload_n C 0 dX1_findBetween_41 rfl rfl ?_
                refine fj_get (Cn := RX1) (T := TX1) (N := 7) (ci := 1) (v := .ref (ad 39)) C iX1 38 (fx_at38 _ _ _ _ _) rfl 0 (by decide) kX1_9 rfl dX1_findBetween_42 ?_
                refine fj_iload_n C 1 dX1_findBetween_45 rfl rfl ?_
                refine fj_iload C 5 dX1_findBetween_46 rfl ?_
                refine fj_iload_n C 3 dX1_findBetween_48 rfl rfl ?_
                refine fj_imul C dX1_findBetween_49 ?_
                refine fj_at (y := nI (o * z)) (pk_mul o z) ?_
                refine fj_iadd C dX1_findBetween_50 ?_
                refine fj_at (y := nI (t + o * z)) (nI_add t (o * z)) ?_
                refine fj_zald (f := (a 39)) C 39 (fx_at39 _ _ _ _ _) (vp_in_nI (by omega) (by decide)) dX1_findBetween_51 ?_
                refine fj_at (y := a 39 (t + o * z)) (by rw [nI_clamp (by omega)]) ?_
                refine fj_if_ne (tgt := 61) C dX1_findBetween_52 (by decide) (fun h52 => ?_) (fun h52 => ?_)
                · refine fj_iload C 4 dX1_findBetween_61 rfl ?_
                  refine fj_iload_n C 2 dX1_findBetween_63 rfl rfl ?_
                  refine fj_icmp_gt (tgt := 76) C dX1_findBetween_64 (by decide) (fun h64 => ?_) (fun h64 => ?_)
                  · have hbm2 : mn < b := fx_lt0 h64 (by omega) (by omega)
                    refine fj_iconst (v := 0) C dX1_findBetween_76 (by decide) ?_
                    exact fj_zret C E9 rfl dX1_findBetween_77 (Or.inr ⟨fun b9 o9 F => by first | exact F.2.2.1 (hbk b9 F.1 (by have := F.2.1; omega)) | exact F.2.2.2.2.2.2.1 (hok o9 F.2.2.2.2.1 (by have := F.2.2.2.2.2.1; omega)), rfl, rfl⟩)
                  · have hbm2 : b ≤ mn := fx_nlt h64 (by omega) (by omega)
                    have hbz2 : b * z ≤ t := Nat.le_trans (Nat.mul_le_mul_right z hbm2) h1
                    refine fj_iload_n C 2 dX1_findBetween_67 rfl rfl ?_
                    refine fj_iload C 5 dX1_findBetween_68 rfl ?_
                    refine fj_iadd C dX1_findBetween_70 ?_
                    refine fj_at (y := nI (mn + o)) (nI_add mn o) ?_
                    refine fj_bipush (v := 9) C dX1_findBetween_71 (by decide) ?_
                    refine fj_icmp_lt (tgt := 78) C dX1_findBetween_73 (by decide) (fun h73 => ?_) (fun h73 => ?_)
                    · have hmo2 : mn + o < 9 := (nI_ltI (b := 9) (by omega) (by decide)).mp h73
                      have hoz2 : o * z ≤ (8 - mn) * z := Nat.mul_le_mul_right z (by omega)
                      refine fj_iload_n C 1 dX1_findBetween_78 rfl rfl ?_
                      refine fj_iload C 4 dX1_findBetween_79 rfl ?_
                      refine fj_iload_n C 3 dX1_findBetween_81 rfl rfl ?_
                      refine fj_imul C dX1_findBetween_82 ?_
                      refine fj_at (y := nI (b * z)) (pk_mul b z) ?_
                      refine fj_isub C dX1_findBetween_83 ?_
                      refine fj_at (y := nI (t - b * z)) (pk_sub hbz2) ?_
                      refine fj_istore (lv' := [(6, .int (nI (t - b * z))), (0, .ref (ad 38)), (1, .int (nI t)), (2, .int (nI mn)), (3, .int (nI z)), (4, .int (nI b)), (5, .int (nI o))]) C dX1_findBetween_84 (by decide) rfl ?_
                      refine fj_iload_n C 2 dX1_findBetween_86 rfl rfl ?_
                      refine fj_iload C 6 dX1_findBetween_87 rfl ?_
                      refine fj_iload_n C 4 dX1_findBetween_89 rfl rfl ?_
                      refine fj_imul C dX1_findBetween_90 ?_
                      refine fj_at (y := nI (o * z)) (pk_mul o z) ?_
                      refine fj_iadd C dX1_findBetween_91 ?_
                      refine fj_at (y := nI (t + o * z)) (nI_add t (o * z)) ?_
                      refine fj_istore (lv' := [(7, .int (nI (t + o * z))), (6, .int (nI (t - b * z))), (0, .ref (ad 38)), (1, .int (nI t)), (2, .int (nI mn)), (3, .int (nI z)), (4, .int (nI b)), (5, .int (nI o))]) C dX1_findBetween_92 (by decide) rfl ?_
                      refine fj_sipush (v := 840) C dX1_findBetween_94 (by decide) ?_
                      refine fj_iload C 6 dX1_findBetween_97 rfl ?_
                      refine fj_iload C 7 dX1_findBetween_99 rfl ?_
                      refine fj_iadd C dX1_findBetween_101 ?_
                      refine fj_at (y := nI (b + o)) (nI_add b o) ?_
                      refine fj_idiv C dX1_findBetween_102 (nI_ne0 (by omega) (by omega)) ?_
                      refine fj_iload C 6 dX1_findBetween_103 rfl ?_
                      refine fj_imul C dX1_findBetween_105 ?_
                      refine fj_istore (lv' := [(8, .int ((840 / (nI (b + o))) * (nI b))), (7, .int (nI (t + o * z))), (6, .int (nI (t - b * z))), (0, .ref (ad 38)), (1, .int (nI t)), (2, .int (nI mn)), (3, .int (nI z)), (4, .int (nI b)), (5, .int (nI o))]) C dX1_findBetween_106 (by decide) rfl ?_
                      refine fj_aload_n C 3 dX1_findBetween_108 rfl rfl ?_
                      refine fj_sipush (v := 840) C dX1_findBetween_109 (by decide) ?_
                      refine fj_aload_n C 3 dX1_findBetween_112 rfl rfl ?_
                      refine fj_get (Cn := RX1) (T := TX1) (N := 7) (ci := 1) (v := .ref (ad 40)) C iX1 38 (fx_at38 _ _ _ _ _) rfl 1 (by decide) kX1_13 rfl dX1_findBetween_113 ?_
                      refine fj_iload C 2 dX1_findBetween_116 rfl ?_
                      refine fj_iald (f := (a 40)) C 40 (fx_at40 _ _ _ _ _) (vp_in_nI (by omega) (by decide)) dX1_findBetween_118 ?_
                      refine fj_at (y := a 40 (t - b * z)) (by rw [nI_clamp (by omega)]) ?_
                      refine fj_imul C dX1_findBetween_119 ?_
                      refine fj_aload_n C 3 dX1_findBetween_120 rfl rfl ?_
                      refine fj_get (Cn := RX1) (T := TX1) (N := 7) (ci := 1) (v := .ref (ad 40)) C iX1 38 (fx_at38 _ _ _ _ _) rfl 1 (by decide) kX1_13 rfl dX1_findBetween_121 ?_
                      refine fj_iload C 1 dX1_findBetween_124 rfl ?_
                      refine fj_iald (f := (a 40)) C 40 (fx_at40 _ _ _ _ _) (vp_in_nI (by omega) (by decide)) dX1_findBetween_126 ?_
                      refine fj_at (y := a 40 (t + o * z)) (by rw [nI_clamp (by omega)]) ?_
                      refine fj_aload_n C 3 dX1_findBetween_127 rfl rfl ?_
                      refine fj_get (Cn := RX1) (T := TX1) (N := 7) (ci := 1) (v := .ref (ad 40)) C iX1 38 (fx_at38 _ _ _ _ _) rfl 1 (by decide) kX1_13 rfl dX1_findBetween_128 ?_
                      refine fj_iload C 2 dX1_findBetween_131 rfl ?_
                      refine fj_iald (f := (a 40)) C 40 (fx_at40 _ _ _ _ _) (vp_in_nI (by omega) (by decide)) dX1_findBetween_133 ?_
                      refine fj_at (y := a 40 (t - b * z)) (by rw [nI_clamp (by omega)]) ?_
                      refine fj_isub C dX1_findBetween_134 ?_
                      refine fj_iload C 0 dX1_findBetween_135 rfl ?_
                      refine fj_imul C dX1_findBetween_137 ?_
                      refine fj_iadd C dX1_findBetween_138 ?_
                      refine fj_put (Cn := RX1) (T := TX1) (N := 7) (ci := 1) C iX1 tyX1 tyX1_ok nmX1 38 (fx_at38 _ _ _ _ _) rfl 3 (by decide) kX1_31 rfl rfl rfl (Nat.le_of_ble_eq_true rfl) dX1_findBetween_139 (fx_si38_3 _ _ _ _ _ _) ?_
                      refine fj_aload_n C 3 dX1_findBetween_142 rfl rfl ?_
                      refine fj_sipush (v := 840) C dX1_findBetween_143 (by decide) ?_
                      refine fj_aload_n C 3 dX1_findBetween_146 rfl rfl ?_
                      refine fj_get (Cn := RX1) (T := TX1) (N := 7) (ci := 1) (v := .ref (ad 41)) C iX1 38 (fx_at38 _ _ _ _ _) rfl 2 (by decide) kX1_17 rfl dX1_findBetween_147 ?_
                      refine fj_iload C 2 dX1_findBetween_150 rfl ?_
                      refine fj_iald (f := (a 41)) C 41 (fx_at41 _ _ _ _ _) (vp_in_nI (by omega) (by decide)) dX1_findBetween_152 ?_
                      refine fj_at (y := a 41 (t - b * z)) (by rw [nI_clamp (by omega)]) ?_
                      refine fj_imul C dX1_findBetween_153 ?_
                      refine fj_aload_n C 3 dX1_findBetween_154 rfl rfl ?_
                      refine fj_get (Cn := RX1) (T := TX1) (N := 7) (ci := 1) (v := .ref (ad 41)) C iX1 38 (fx_at38 _ _ _ _ _) rfl 2 (by decide) kX1_17 rfl dX1_findBetween_155 ?_
                      refine fj_iload C 1 dX1_findBetween_158 rfl ?_
                      refine fj_iald (f := (a 41)) C 41 (fx_at41 _ _ _ _ _) (vp_in_nI (by omega) (by decide)) dX1_findBetween_160 ?_
                      refine fj_at (y := a 41 (t + o * z)) (by rw [nI_clamp (by omega)]) ?_
                      refine fj_aload_n C 3 dX1_findBetween_161 rfl rfl ?_
                      refine fj_get (Cn := RX1) (T := TX1) (N := 7) (ci := 1) (v := .ref (ad 41)) C iX1 38 (fx_at38 _ _ _ _ _) rfl 2 (by decide) kX1_17 rfl dX1_findBetween_162 ?_
                      refine fj_iload C 2 dX1_findBetween_165 rfl ?_
                      refine fj_iald (f := (a 41)) C 41 (fx_at41 _ _ _ _ _) (vp_in_nI (by omega) (by decide)) dX1_findBetween_167 ?_
                      refine fj_at (y := a 41 (t - b * z)) (by rw [nI_clamp (by omega)]) ?_
                      refine fj_isub C dX1_findBetween_168 ?_
                      refine fj_iload C 0 dX1_findBetween_169 rfl ?_
                      refine fj_imul C dX1_findBetween_171 ?_
                      refine fj_iadd C dX1_findBetween_172 ?_
                      refine fj_put (Cn := RX1) (T := TX1) (N := 7) (ci := 1) C iX1 tyX1 tyX1_ok nmX1 38 (fx_at38 _ _ _ _ _) rfl 4 (by decide) kX1_35 rfl rfl rfl (Nat.le_of_ble_eq_true rfl) dX1_findBetween_173 (fx_si38_4 _ _ _ _ _ _) ?_
                      refine fj_iconst (v := 1) C dX1_findBetween_176 (by decide) ?_
                      exact fj_zret C E9 rfl dX1_findBetween_177 (by first | exact Or.inl ⟨b, o, ⟨hb1, hbm2, h20, hbk, ho1, by omega, h52, hok⟩, rfl, rfl⟩ | (exfalso; omega))
                    · have hmo2 : 9 ≤ mn + o := Nat.le_of_not_lt fun q => h73 ((nI_ltI (b := 9) (by omega) (by decide)).mpr q)
                      refine fj_iconst (v := 0) C dX1_findBetween_76 (by decide) ?_
                      exact fj_zret C E9 rfl dX1_findBetween_77 (Or.inr ⟨fun b9 o9 F => by first | exact F.2.2.1 (hbk b9 F.1 (by have := F.2.1; omega)) | exact F.2.2.2.2.2.2.1 (hok o9 F.2.2.2.2.1 (by have := F.2.2.2.2.2.1; omega)), rfl, rfl⟩)
                · refine fj_iinc (v := nI (o + 1)) (lv' := [(5, .int (nI (o + 1))), (0, .ref (ad 38)), (1, .int (nI t)), (2, .int (nI mn)), (3, .int (nI z)), (4, .int (nI b))]) C 5 dX1_findBetween_55 rfl (nI_1 o) (by decide) rfl ?_
                  refine fj_goto (tgt := 32) C dX1_findBetween_58 (by decide) ?_
                  refine fj_lv (lv' := [(0, .ref (ad 38)), (1, .int (nI t)), (2, .int (nI mn)), (3, .int (nI z)), (4, .int (nI b)), (5, .int (nI (o + 1)))]) [1, 2, 3, 4, 5, 0] rfl ?_
                  exact ih (o + 1) (by show 9 - (o + 1) < 9 - o; omega) (by omega) (by omega) (fun c h8 h9 => (Nat.eq_or_lt_of_le (Nat.le_of_lt_succ h9)).elim (fun e => e ▸ h52) (fun q => hok c h8 q))
            intro o
            exact key o
          exact lp32 1 (Nat.le_refl 1) (by omega) (fun c h8 h9 => absurd h9 (by omega))
        · refine fj_iinc (v := nI (b + 1)) (lv' := [(4, .int (nI (b + 1))), (0, .ref (ad 38)), (1, .int (nI t)), (2, .int (nI mn)), (3, .int (nI z))]) C 4 dX1_findBetween_23 rfl (nI_1 b) (by decide) rfl ?_
          refine fj_goto (tgt := 3) C dX1_findBetween_26 (by decide) ?_
          refine fj_lv (lv' := [(0, .ref (ad 38)), (1, .int (nI t)), (2, .int (nI mn)), (3, .int (nI z)), (4, .int (nI (b + 1)))]) [1, 2, 3, 4, 0] rfl ?_
          exact ih (b + 1) (by show mn + 1 - (b + 1) < mn + 1 - b; omega) (by omega) (by omega) (fun c h8 h9 => (Nat.eq_or_lt_of_le (Nat.le_of_lt_succ h9)).elim (fun e => e ▸ h20) (fun q => hbk c h8 q))
    intro b
    exact key b
  exact lp3 1 (Nat.le_refl 1) (by omega) (fun c h8 h9 => absurd h9 (by omega))
