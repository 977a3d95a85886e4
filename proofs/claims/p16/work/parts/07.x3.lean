def SD1 (f : Nat → Int32) (t mn z r : Nat) (o1 sh : Int32) : Prop := (o1 = -1 ∧ ∀ b, 1 ≤ b → b ≤ mn - r → f (t - b * z) = 0) ∨ (1 ≤ mn - r ∧ ¬ f (t - (mn - r) * z) = 0 ∧ (∀ c, 1 ≤ c → c < mn - r → f (t - c * z) = 0) ∧ o1 = nI (t - (mn - r) * z) ∧ sh = nI (mn - r))
def SD2 (f : Nat → Int32) (t mn z o : Nat) (o2 wh sh : Int32) : Prop := (o2 = -1 ∧ ∀ c, 1 ≤ c → c < o → f (t + c * z) = 0) ∨ (2 ≤ o ∧ mn + (o - 1) ≤ 8 ∧ ¬ f (t + (o - 1) * z) = 0 ∧ (∀ c, 1 ≤ c → c < o - 1 → f (t + c * z) = 0) ∧ o2 = nI (t + (o - 1) * z) ∧ wh = sh + nI (mn + (o - 1)) - nI mn)
theorem SD1_ne {f : Nat → Int32} {t mn z r : Nat} {o1 sh : Int32} (h : SD1 f t mn z r o1 sh) (h0 : ¬ 0 ≤ o1) (ht : t < 2 ^ 31) : o1 = -1 ∧ ∀ b, 1 ≤ b → b ≤ mn - r → f (t - b * z) = 0 := by
  rcases h with q | q
  · exact q
  · exact absurd (Int32.not_lt.mp (by rw [q.2.2.2.1]; exact nI_nneg (by omega))) h0
theorem SD1_z {f : Nat → Int32} {t mn z r : Nat} {o1 sh : Int32} (h : SD1 f t mn z (r + 1) o1 sh) (h0 : ¬ 0 ≤ o1) (ht : t < 2 ^ 31) (hr : r + 1 ≤ mn) (hf : f (t - (mn - r) * z) = 0) {sh' : Int32} : SD1 f t mn z r (-1) sh' := by
  refine Or.inl ⟨rfl, fun b h1 h2 => ?_⟩
  by_cases e : b = mn - r
  · rw [e]; exact hf
  · exact (SD1_ne h h0 ht).2 b h1 (by omega)
theorem SD1_p {f : Nat → Int32} {t mn z r : Nat} {o1 sh : Int32} (h : SD1 f t mn z (r + 1) o1 sh) (h0 : ¬ 0 ≤ o1) (ht : t < 2 ^ 31) (hr : r + 1 ≤ mn) (hf : ¬ f (t - (mn - r) * z) = 0) : SD1 f t mn z r (nI (t - (mn - r) * z)) (nI (mn - r)) :=
  Or.inr ⟨by omega, hf, fun c h1 h2 => (SD1_ne h h0 ht).2 c h1 (by omega), rfl, rfl⟩
theorem SD2_ne {f : Nat → Int32} {t mn z o : Nat} {o2 wh sh : Int32} (h : SD2 f t mn z o o2 wh sh) (h0 : ¬ 0 ≤ o2) (ht : t + 9 * z < 2 ^ 31) : o2 = -1 ∧ ∀ c, 1 ≤ c → c < o → f (t + c * z) = 0 := by
  rcases h with q | q
  · exact q
  · have h9 : (o - 1) * z ≤ 9 * z := Nat.mul_le_mul_right z (by omega)
    have h8 : t + (o - 1) * z < 2 ^ 31 := by omega
    exact absurd (Int32.not_lt.mp (by rw [q.2.2.2.2.1]; exact nI_nneg h8)) h0
theorem SD2_z {f : Nat → Int32} {t mn z o : Nat} {o2 wh sh wh' : Int32} (h : SD2 f t mn z o o2 wh sh) (h0 : ¬ 0 ≤ o2) (ht : t + 9 * z < 2 ^ 31) (hf : f (t + o * z) = 0) : SD2 f t mn z (o + 1) (-1) wh' sh := by
  refine Or.inl ⟨rfl, fun c h1 h2 => ?_⟩
  by_cases e : c = o
  · rw [e]; exact hf
  · exact (SD2_ne h h0 ht).2 c h1 (by omega)
theorem SD2_p {f : Nat → Int32} {t mn z o : Nat} {o2 wh sh : Int32} (h : SD2 f t mn z o o2 wh sh) (h0 : ¬ 0 ≤ o2) (ht : t + 9 * z < 2 ^ 31) (h1 : 1 ≤ o) (hm : mn + o < 9) (hf : ¬ f (t + o * z) = 0) : SD2 f t mn z (o + 1) (nI (t + o * z)) (sh + nI (mn + o) - nI mn) sh :=
  Or.inr ⟨by omega, by omega, by simpa using hf, fun c h1 h2 => (SD2_ne h h0 ht).2 c h1 (by omega), by simp, by simp⟩
theorem SD_yes {f : Nat → Int32} {t mn z r o : Nat} {o1 o2 sh wh : Int32} (h1 : SD1 f t mn z r o1 sh) (p1 : ¬ o1 < 0) (h2 : SD2 f t mn z o o2 wh sh) (p2 : ¬ o2 < 0) (hr : mn < 2 ^ 30) : FB f t mn z (mn - r) (o - 1) ∧ o1 = nI (t - (mn - r) * z) ∧ o2 = nI (t + (o - 1) * z) ∧ sh = nI (mn - r) ∧ wh = nI ((mn - r) + (o - 1)) := by
  rcases h1 with q | q
  · exact absurd (by rw [q.1]; decide) p1
  · rcases h2 with q2 | q2
    · exact absurd (by rw [q2.1]; decide) p2
    · refine ⟨⟨q.1, by omega, q.2.1, q.2.2.1, by omega, q2.2.1, q2.2.2.1, q2.2.2.2.1⟩, q.2.2.2.1, q2.2.2.2.2.1, q.2.2.2.2, ?_⟩
      rw [q2.2.2.2.2.2, q.2.2.2.2, nI_add, pk_sub (by omega)]
      congr 1
      omega
theorem SD_no1 {f : Nat → Int32} {t mn z r : Nat} {o1 sh : Int32} (h1 : SD1 f t mn z r o1 sh) (p1 : o1 < 0) (e : r = 0 ∨ 0 ≤ o1) (ht : t < 2 ^ 31) : ∀ b o, ¬ FB f t mn z b o := by
  intro b o F
  have h0 : ¬ 0 ≤ o1 := Int32.not_le.mpr p1
  exact F.2.2.1 ((SD1_ne h1 h0 ht).2 b F.1 (by have := F.2.1; have := e.resolve_right h0; omega))
theorem SD_no2 {f : Nat → Int32} {t mn z o : Nat} {o2 wh sh : Int32} (h2 : SD2 f t mn z o o2 wh sh) (p2 : o2 < 0) (e : 9 ≤ mn + o ∨ 0 ≤ o2) (ht : t + 9 * z < 2 ^ 31) : ∀ b o, ¬ FB f t mn z b o := by
  intro b o3 F
  have h0 : ¬ 0 ≤ o2 := Int32.not_le.mpr p2
  exact F.2.2.2.2.2.2.1 ((SD2_ne h2 h0 ht).2 o3 F.2.2.2.2.1 (by have := F.2.2.2.2.2.1; have := e.resolve_right h0; omega))
theorem fbm (X : Nat → Int32) (t z b o : Nat) : 840 * X (t - b * z) + 840 / nI (b + o) * (X (t + o * z) - X (t - b * z)) * nI b = fbv X t z b o := by
  rw [fbv]
  congr 1
  rw [Int32.mul_comm (840 / nI (b + o)), Int32.mul_assoc]
def cs5 (x y x0 y0 x1 y1 x2 y2 x3 y3 : Int32) : Int64 := 0 + (x.toInt64 * y0.toInt64 - x0.toInt64 * y.toInt64) + (x0.toInt64 * y1.toInt64 - x1.toInt64 * y0.toInt64) + (x1.toInt64 * y2.toInt64 - x2.toInt64 * y1.toInt64) + (x2.toInt64 * y3.toInt64 - x3.toInt64 * y2.toInt64)
theorem fm_u4 (n : Nat → Int32) (x y z w : Int32) : ∀ j, j < 9 → va_up (va_up (va_up (va_up n 9 x) 10 y) 11 z) 12 w j = n j := fun j h => by rw [va_up_ne _ _ (by omega), va_up_ne _ _ (by omega), va_up_ne _ _ (by omega), va_up_ne _ _ (by omega)]
theorem fm_u2 (n : Nat → Int32) (x y : Int32) : ∀ j, j < 9 → va_up (va_up n 13 x) 14 y j = n j := fun j h => by rw [va_up_ne _ _ (by omega), va_up_ne _ _ (by omega)]
set_option maxHeartbeats 4000000 in
set_option maxRecDepth 100000 in
theorem d_X6_findSides (l : Launch) (D : va_G) (ty : Nat → ClassId) (t0 : Nat → Nat) (bd : Nat → Nat) (a : Nat → Nat → Int32) (g : Nat → Nat → Int64) (n : Nat → Int32)  (x : Int32) (y : Int32) (s9 : Int32) (t : Nat) (mn : Nat) (z : Nat) (et : x = nI t) (em : s9 = nI mn) (ez : y = nI z) (hm : mn ≤ 8) (h1 : mn * z ≤ t) (h2 : t + (8 - mn) * z ≤ 80) (hz9 : z ≤ 9) : fc l yX6_findSides wsX6_findSides (fj_rm 0 0 0 0) D ty t0 [.ref (bd 0), .int x, .int y, .int s9] (fm_w bd ty a g n) 0 0 (fun v w => (∃ b o, FB (a 14) t mn z b o ∧ ∃ u : Nat → Int32, (∀ j, j < 9 → u j = n j) ∧ u 9 = nI (t - b * z) ∧ u 10 = nI (t + o * z) ∧ u 11 = nI b ∧ u 12 = nI (b + o) ∧ v = some (.int 1) ∧ w = fm_w bd ty a g u) ∨ ((∀ b o, ¬ FB (a 14) t mn z b o) ∧ ∃ u : Nat → Int32, (∀ j, j < 9 → u j = n j) ∧ v = some (.int 0) ∧ w = fm_w bd ty a g u)) := by
  subst et em ez
  refine fc_start (own := RX6) (cc := cX6_findSides) (maxL := 5) (ret := (some .boolean)) (by decide) rfl (Nat.le_of_ble_eq_true rfl) rfl ?_
  intro p e s m args below meth c Q A C hmn E9
  have iX6 : ∀ w ∈ u_ws RX6 TX6 44, w ∈ wsX6_findSides := ptX6_findSides_wsX60
  have kX6_292 : Cond.fieldLink RX6 292 "FreeLandModel" "one" "I" ∈ wsX6_findSides := ptX6_findSides_woX6_findSides _ (by decide +kernel)
  have kX6_295 : Cond.fieldLink RX6 295 "FreeLandModel" "two" "I" ∈ wsX6_findSides := ptX6_findSides_woX6_findSides _ (by decide +kernel)
  have kX6_58 : Cond.fieldLink RX6 58 "FreeLandModel" "known" "[Z" ∈ wsX6_findSides := ptX6_findSides_woX6_findSides _ (by decide +kernel)
  have kX6_298 : Cond.fieldLink RX6 298 "FreeLandModel" "share" "I" ∈ wsX6_findSides := ptX6_findSides_woX6_findSides _ (by decide +kernel)
  have kX6_301 : Cond.fieldLink RX6 301 "FreeLandModel" "whole" "I" ∈ wsX6_findSides := ptX6_findSides_woX6_findSides _ (by decide +kernel)
  refine fj_lv (lv' := [(0, .ref (bd 0)), (1, .int (nI t)), (2, .int (nI z)), (3, .int (nI mn))]) [0, 1, 2, 3] rfl ?_
  refine fj_aload_n C 0 dX6_findSides_0 rfl rfl ?_
  refine fj_iconst (v := (-1)) C dX6_findSides_1 (by decide) ?_
  refine fj_put (Cn := RX6) (T := TX6) (N := 44) (ci := 6) C iX6 tyX6 tyX6_ok nmX6 0 (fm_at0 _ _ _ _ _) rfl 38 (by decide) kX6_292 rfl rfl rfl (Nat.le_of_ble_eq_true rfl) dX6_findSides_2 (fm_si0_38 _ _ _ _ _ _) ?_
  refine fj_aload_n C 0 dX6_findSides_5 rfl rfl ?_
  refine fj_iconst (v := (-1)) C dX6_findSides_6 (by decide) ?_
  refine fj_put (Cn := RX6) (T := TX6) (N := 44) (ci := 6) C iX6 tyX6 tyX6_ok nmX6 0 (fm_at0 _ _ _ _ _) rfl 39 (by decide) kX6_295 rfl rfl rfl (Nat.le_of_ble_eq_true rfl) dX6_findSides_7 (fm_si0_39 _ _ _ _ _ _) ?_
  refine fj_iload_n C 3 dX6_findSides_10 rfl rfl ?_
  refine fj_iconst (v := 1) C dX6_findSides_11 (by decide) ?_
  refine fj_isub C dX6_findSides_12 ?_
  refine fj_istore (lv' := [(4, .int ((nI mn) - 1)), (0, .ref (bd 0)), (1, .int (nI t)), (2, .int (nI z)), (3, .int (nI mn))]) C dX6_findSides_13 (by decide) rfl ?_
  refine fj_lv (lv' := [(0, .ref (bd 0)), (1, .int (nI t)), (2, .int (nI z)), (3, .int (nI mn)), (4, .int ((nI mn) - 1))]) [1, 2, 3, 4, 0] rfl ?_
  have lp15 : ∀ (r : Nat) (o1 : Int32) (sh : Int32), (r ≤ mn) → (SD1 (a 14) t mn z r o1 sh) → fj p l e (fj_rm 0 0 0 0) s m args below meth c Q A D 5 0 0 (fm_w bd ty a g (va_up (va_up (va_up n 9 o1) 10 (-1)) 11 sh)) [(0, .ref (bd 0)), (1, .int (nI t)), (2, .int (nI z)), (3, .int (nI mn)), (4, .int (nI r - 1))] 15 [] := by
    have key : ∀ zz : Nat × Int32 × Int32, (fun (zz : Nat × Int32 × Int32) => match zz with | (r, o1, sh) => (r ≤ mn) → (SD1 (a 14) t mn z r o1 sh) → fj p l e (fj_rm 0 0 0 0) s m args below meth c Q A D 5 0 0 (fm_w bd ty a g (va_up (va_up (va_up n 9 o1) 10 (-1)) 11 sh)) [(0, .ref (bd 0)), (1, .int (nI t)), (2, .int (nI z)), (3, .int (nI mn)), (4, .int (nI r - 1))] 15 []) zz := by
      refine fx_ind (fun (zz : Nat × Int32 × Int32) => match zz with | (r, o1, sh) => r) _ ?_
      rintro ⟨r, o1, sh⟩ ih15 hr hS
      refine fj_iload C 4 dX6_findSides_15 rfl ?_
      refine fj_if_lt (tgt := 73) C dX6_findSides_17 (by decide) (fun h17 => ?_) (fun h17 => ?_)
      · have e0 : r = 0 := fx_r0 h17 (by omega)
        obtain ⟨r9, hS9, hE1⟩ : ∃ r9, SD1 (a 14) t mn z r9 o1 sh ∧ (r9 = 0 ∨ 0 ≤ o1) := by first | exact ⟨_, hS, Or.inl e0⟩ | exact ⟨_, hS, Or.inr h24⟩
        refine fj_iload_n C 3 dX6_findSides_73 rfl rfl ?_
        refine fj_iconst (v := 1) C dX6_findSides_74 (by decide) ?_
        refine fj_iadd C dX6_findSides_75 ?_
        refine fj_at (y := nI (mn + 1)) (nI_1 mn) ?_
        refine fj_istore (lv' := [(4, .int (nI (mn + 1))), (0, .ref (bd 0)), (1, .int (nI t)), (2, .int (nI z)), (3, .int (nI mn))]) C dX6_findSides_76 (by decide) rfl ?_
        refine fj_lv (lv' := [(0, .ref (bd 0)), (1, .int (nI t)), (2, .int (nI z)), (3, .int (nI mn)), (4, .int (nI (mn + 1)))]) [1, 2, 3, 4, 0] rfl ?_
        have lp78 : ∀ (o : Nat) (o2 : Int32) (wh : Int32), (1 ≤ o) → (o ≤ 9) → (SD2 (a 14) t mn z o o2 wh sh) → fj p l e (fj_rm 0 0 0 0) s m args below meth c Q A D 5 0 0 (fm_w bd ty a g (va_up (va_up (va_up (va_up n 9 o1) 10 o2) 11 sh) 12 wh)) [(0, .ref (bd 0)), (1, .int (nI t)), (2, .int (nI z)), (3, .int (nI mn)), (4, .int (nI (mn + o)))] 78 [] := by
          have key : ∀ zz : Nat × Int32 × Int32, (fun (zz : Nat × Int32 × Int32) => match zz with | (o, o2, wh) => (1 ≤ o) → (o ≤ 9) → (SD2 (a 14) t mn z o o2 wh sh) → fj p l e (fj_rm 0 0 0 0) s m args below meth c Q A D 5 0 0 (fm_w bd ty a g (va_up (va_up (va_up (va_up n 9 o1) 10 o2) 11 sh) 12 wh)) [(0, .ref (bd 0)), (1, .int (nI t)), (2, .int (nI z)), (3, .int (nI mn)), (4, .int (nI (mn + o)))] 78 []) zz := by
            refine fx_ind (fun (zz : Nat × Int32 × Int32) => match zz with | (o, o2, wh) => 9 - o) _ ?_
            rintro ⟨o, o2, wh⟩ ih78 ho1 hob hT
            refine fj_iload C 4 dX6_findSides_78 rfl ?_
            refine fj_bipush (v := 9) C dX6_findSides_80 (by decide) ?_
            refine fj_icmp_ge (tgt := 143) C dX6_findSides_82 (by decide) (fun h82 => ?_) (fun h82 => ?_)
            · have hmo : 9 ≤ mn + o := (nI_leI (a := 9) (by decide) (by omega)).mp h82
              have hE2 : 9 ≤ mn + o ∨ 0 ≤ o2 := by first | exact Or.inl hmo | exact Or.inr h89
              refine fj_aload_n C 0 dX6_findSides_143 rfl rfl ?_
              refine fj_get (Cn := RX6) (T := TX6) (N := 44) (ci := 6) (v := .int o1) C iX6 0 (fm_at0 _ _ _ _ _) rfl 38 (by decide) kX6_292 rfl dX6_findSides_144 ?_
              refine fj_if_lt (tgt := 161) C dX6_findSides_147 (by decide) (fun h147 => ?_) (fun h147 => ?_)
              · refine fj_iconst (v := 0) C dX6_findSides_161 (by decide) ?_
                exact fj_zret C E9 rfl dX6_findSides_162 (Or.inr ⟨(by first | exact SD_no1 hS9 h147 hE1 (by omega) | exact SD_no2 hT h154 hE2 (by omega)), _, fm_u4 n o1 o2 sh wh, rfl, rfl⟩)
              · refine fj_aload_n C 0 dX6_findSides_150 rfl rfl ?_
                refine fj_get (Cn := RX6) (T := TX6) (N := 44) (ci := 6) (v := .int o2) C iX6 0 (fm_at0 _ _ _ _ _) rfl 39 (by decide) kX6_295 rfl dX6_findSides_151 ?_
                refine fj_if_lt (tgt := 161) C dX6_findSides_154 (by decide) (fun h154 => ?_) (fun h154 => ?_)
                · refine fj_iconst (v := 0) C dX6_findSides_161 (by decide) ?_
                  exact fj_zret C E9 rfl dX6_findSides_162 (Or.inr ⟨(by first | exact SD_no1 hS9 h147 hE1 (by omega) | exact SD_no2 hT h154 hE2 (by omega)), _, fm_u4 n o1 o2 sh wh, rfl, rfl⟩)
                · refine fj_iconst (v := 1) C dX6_findSides_157 (by decide) ?_
                  refine fj_goto (tgt := 162) C dX6_findSides_158 (by decide) ?_
                  exact fj_zret C E9 rfl dX6_findSides_162 (Or.inl ⟨mn - r9, o - 1, (SD_yes hS9 h147 hT h154 (by omega)).1, _, fm_u4 n o1 o2 sh wh, (SD_yes hS9 h147 hT h154 (by omega)).2.1, (SD_yes hS9 h147 hT h154 (by omega)).2.2.1, (SD_yes hS9 h147 hT h154 (by omega)).2.2.2.1, (SD_yes hS9 h147 hT h154 (by omega)).2.2.2.2, rfl, rfl⟩)
            · have hmo : mn + o < 9 := Nat.lt_of_not_le fun q => h82 ((nI_leI (a := 9) (by decide) (by omega)).mpr q)
              have hoz : o * z ≤ (8 - mn) * z := Nat.mul_le_mul_right z (by omega)
              refine fj_aload_n C 0 dX6_findSides_85 rfl rfl ?_
              refine fj_get (Cn := RX6) (T := TX6) (N := 44) (ci := 6) (v := .int o2) C iX6 0 (fm_at0 _ _ _ _ _) rfl 39 (by decide) kX6_295 rfl dX6_findSides_86 ?_
              refine fj_if_ge (tgt := 143) C dX6_findSides_89 (by decide) (fun h89 => ?_) (fun h89 => ?_)
              · have hE2 : 9 ≤ mn + o ∨ 0 ≤ o2 := by first | exact Or.inl hmo | exact Or.inr h89
                refine fj_aload_n C 0 dX6_findSides_143 rfl rfl ?_
                refine fj_get (Cn := RX6) (T := TX6) (N := 44) (ci := 6) (v := .int o1) C iX6 0 (fm_at0 _ _ _ _ _) rfl 38 (by decide) kX6_292 rfl dX6_findSides_144 ?_
                refine fj_if_lt (tgt := 161) C dX6_findSides_147 (by decide) (fun h147 => ?_) (fun h147 => ?_)
                · refine fj_iconst (v := 0) C dX6_findSides_161 (by decide) ?_
                  exact fj_zret C E9 rfl dX6_findSides_162 (Or.inr ⟨(by first | exact SD_no1 hS9 h147 hE1 (by omega) | exact SD_no2 hT h154 hE2 (by omega)), _, fm_u4 n o1 o2 sh wh, rfl, rfl⟩)
                · refine fj_aload_n C 0 dX6_findSides_150 rfl rfl ?_
                  refine fj_get (Cn := RX6) (T := TX6) (N := 44) (ci := 6) (v := .int o2) C iX6 0 (fm_at0 _ _ _ _ _) rfl 39 (by decide) kX6_295 rfl dX6_findSides_151 ?_
                  refine fj_if_lt (tgt := 161) C dX6_findSides_154 (by decide) (fun h154 => ?_) (fun h154 => ?_)
                  · refine fj_iconst (v := 0) C dX6_findSides_161 (by decide) ?_
                    exact fj_zret C E9 rfl dX6_findSides_162 (Or.inr ⟨(by first | exact SD_no1 hS9 h147 hE1 (by omega) | exact SD_no2 hT h154 hE2 (by omega)), _, fm_u4 n o1 o2 sh wh, rfl, rfl⟩)
                  · refine fj_iconst (v := 1) C dX6_findSides_157 (by decide) ?_
                    refine fj_goto (tgt := 162) C dX6_findSides_158 (by decide) ?_
                    exact fj_zret C E9 rfl dX6_findSides_162 (Or.inl ⟨mn - r9, o - 1, (SD_yes hS9 h147 hT h154 (by omega)).1, _, fm_u4 n o1 o2 sh wh, (SD_yes hS9 h147 hT h154 (by omega)).2.1, (SD_yes hS9 h147 hT h154 (by omega)).2.2.1, (SD_yes hS9 h147 hT h154 (by omega)).2.2.2.1, (SD_yes hS9 h147 hT h154 (by omega)).2.2.2.2, rfl, rfl⟩)
              · refine fj_aload_n C 0 dX6_findSides_92 rfl rfl ?_
                refine fj_aload_n C 0 dX6_findSides_93 rfl rfl ?_
                refine fj_get (Cn := RX6) (T := TX6) (N := 44) (ci := 6) (v := .ref (bd 14)) C iX6 0 (fm_at0 _ _ _ _ _) rfl 19 (by decide) kX6_58 rfl dX6_findSides_94 ?_
                refine fj_iload_n C 1 dX6_findSides_97 rfl rfl ?_
                refine fj_iload C 4 dX6_findSides_98 rfl ?_
                refine fj_iload_n C 3 dX6_findSides_100 rfl rfl ?_
                refine fj_isub C dX6_findSides_101 ?_
                refine fj_at (y := nI o) (by rw [pk_sub (by omega)]; congr 1; omega) ?_
                refine fj_iload_n C 2 dX6_findSides_102 rfl rfl ?_
                refine fj_imul C dX6_findSides_103 ?_
                refine fj_at (y := nI (o * z)) (pk_mul o z) ?_
                refine fj_iadd C dX6_findSides_104 ?_
                refine fj_at (y := nI (t + o * z)) (nI_add t (o * z)) ?_
                refine fj_zald (f := (a 14)) C 14 (fm_at14 _ _ _ _ _) (vp_in_nI (by omega) (by decide)) dX6_findSides_105 ?_
                refine fj_at (y := a 14 (t + o * z)) (by rw [nI_clamp (by omega)]) ?_
                refine fj_if_eq (tgt := 120) C dX6_findSides_106 (by decide) (fun h106 => ?_) (fun h106 => ?_)
                · refine fj_iconst (v := (-1)) C dX6_findSides_120 (by decide) ?_
                  refine fj_put (Cn := RX6) (T := TX6) (N := 44) (ci := 6) C iX6 tyX6 tyX6_ok nmX6 0 (fm_at0 _ _ _ _ _) rfl 39 (by decide) kX6_295 rfl rfl rfl (Nat.le_of_ble_eq_true rfl) dX6_findSides_121 (fm_si0_39 _ _ _ _ _ _) ?_
                  refine fj_ws (ws' := (fm_w bd ty a g (va_up (va_up (va_up (va_up n 9 o1) 11 sh) 12 wh) 10 (-1)))) rfl ?_
                  refine fj_aload_n C 0 dX6_findSides_124 rfl rfl ?_
                  refine fj_aload_n C 0 dX6_findSides_125 rfl rfl ?_
                  refine fj_get (Cn := RX6) (T := TX6) (N := 44) (ci := 6) (v := .int sh) C iX6 0 (fm_at0 _ _ _ _ _) rfl 40 (by decide) kX6_298 rfl dX6_findSides_126 ?_
                  refine fj_iload C 4 dX6_findSides_129 rfl ?_
                  refine fj_iadd C dX6_findSides_131 ?_
                  refine fj_iload_n C 3 dX6_findSides_132 rfl rfl ?_
                  refine fj_isub C dX6_findSides_133 ?_
                  refine fj_put (Cn := RX6) (T := TX6) (N := 44) (ci := 6) C iX6 tyX6 tyX6_ok nmX6 0 (fm_at0 _ _ _ _ _) rfl 41 (by decide) kX6_301 rfl rfl rfl (Nat.le_of_ble_eq_true rfl) dX6_findSides_134 (fm_si0_41 _ _ _ _ _ _) ?_
                  refine fj_ws (ws' := (fm_w bd ty a g (va_up (va_up (va_up (va_up n 9 o1) 11 sh) 10 (-1)) 12 ((sh + (nI (mn + o))) - (nI mn))))) rfl ?_
                  refine fj_iinc (v := nI (mn + (o + 1))) (lv' := [(4, .int (nI (mn + (o + 1)))), (0, .ref (bd 0)), (1, .int (nI t)), (2, .int (nI z)), (3, .int (nI mn))]) C 4 dX6_findSides_137 rfl (nI_1 (mn + o)) (by decide) rfl ?_
                  refine fj_goto (tgt := 78) C dX6_findSides_140 (by decide) ?_
                  refine fj_lv (lv' := [(0, .ref (bd 0)), (1, .int (nI t)), (2, .int (nI z)), (3, .int (nI mn)), (4, .int (nI (mn + (o + 1))))]) [1, 2, 3, 4, 0] rfl ?_
                  refine fj_ws (ws' := (fm_w bd ty a g (va_up (va_up (va_up (va_up n 9 o1) 10 (-1)) 11 sh) 12 ((sh + (nI (mn + o))) - (nI mn))))) rfl ?_
                  exact ih78 ⟨o + 1, (-1), (sh + (nI (mn + o))) - (nI mn)⟩ (by show 9 - (o + 1) < 9 - o; omega) (by omega) (by omega) (by first | exact SD2_z hT h89 (by omega) h106 | exact SD2_p hT h89 (by omega) ho1 hmo h106)
                · refine fj_iload_n C 1 dX6_findSides_109 rfl rfl ?_
                  refine fj_iload C 4 dX6_findSides_110 rfl ?_
                  refine fj_iload_n C 3 dX6_findSides_112 rfl rfl ?_
                  refine fj_isub C dX6_findSides_113 ?_
                  refine fj_at (y := nI o) (by rw [pk_sub (by omega)]; congr 1; omega) ?_
                  refine fj_iload_n C 2 dX6_findSides_114 rfl rfl ?_
                  refine fj_imul C dX6_findSides_115 ?_
                  refine fj_at (y := nI (o * z)) (pk_mul o z) ?_
                  refine fj_iadd C dX6_findSides_116 ?_
                  refine fj_at (y := nI (t + o * z)) (nI_add t (o * z)) ?_
                  refine fj_goto (tgt := 121) C dX6_findSides_117 (by decide) ?_
                  refine fj_put (Cn := RX6) (T := TX6) (N := 44) (ci := 6) C iX6 tyX6 tyX6_ok nmX6 0 (fm_at0 _ _ _ _ _) rfl 39 (by decide) kX6_295 rfl rfl rfl (Nat.le_of_ble_eq_true rfl) dX6_findSides_121 (fm_si0_39 _ _ _ _ _ _) ?_
                  refine fj_ws (ws' := (fm_w bd ty a g (va_up (va_up (va_up (va_up n 9 o1) 11 sh) 12 wh) 10 (nI (t + o * z))))) rfl ?_
                  refine fj_aload_n C 0 dX6_findSides_124 rfl rfl ?_
                  refine fj_aload_n C 0 dX6_findSides_125 rfl rfl ?_
                  refine fj_get (Cn := RX6) (T := TX6) (N := 44) (ci := 6) (v := .int sh) C iX6 0 (fm_at0 _ _ _ _ _) rfl 40 (by decide) kX6_298 rfl dX6_findSides_126 ?_
                  refine fj_iload C 4 dX6_findSides_129 rfl ?_
                  refine fj_iadd C dX6_findSides_131 ?_
                  refine fj_iload_n C 3 dX6_findSides_132 rfl rfl ?_
                  refine fj_isub C dX6_findSides_133 ?_
                  refine fj_put (Cn := RX6) (T := TX6) (N := 44) (ci := 6) C iX6 tyX6 tyX6_ok nmX6 0 (fm_at0 _ _ _ _ _) rfl 41 (by decide) kX6_301 rfl rfl rfl (Nat.le_of_ble_eq_true rfl) dX6_findSides_134 (fm_si0_41 _ _ _ _ _ _) ?_
                  refine fj_ws (ws' := (fm_w bd ty a g (va_up (va_up (va_up (va_up n 9 o1) 11 sh) 10 (nI (t + o * z))) 12 ((sh + (nI (mn + o))) - (nI mn))))) rfl ?_
                  refine fj_iinc (v := nI (mn + (o + 1))) (lv' := [(4, .int (nI (mn + (o + 1)))), (0, .ref (bd 0)), (1, .int (nI t)), (2, .int (nI z)), (3, .int (nI mn))]) C 4 dX6_findSides_137 rfl (nI_1 (mn + o)) (by decide) rfl ?_
                  refine fj_goto (tgt := 78) C dX6_findSides_140 (by decide) ?_
                  refine fj_lv (lv' := [(0, .ref (bd 0)), (1, .int (nI t)), (2, .int (nI z)), (3, .int (nI mn)), (4, .int (nI (mn + (o + 1))))]) [1, 2, 3, 4, 0] rfl ?_
                  refine fj_ws (ws' := (fm_w bd ty a g (va_up (va_up (va_up (va_up n 9 o1) 10 (nI (t + o * z))) 11 sh) 12 ((sh + (nI (mn + o))) - (nI mn))))) rfl ?_
                  exact ih78 ⟨o + 1, nI (t + o * z), (sh + (nI (mn + o))) - (nI mn)⟩ (by show 9 - (o + 1) < 9 - o; omega) (by omega) (by omega) (by first | exact SD2_z hT h89 (by omega) h106 | exact SD2_p hT h89 (by omega) ho1 hmo h106)
          intro o o2 wh
          exact key ⟨o, o2, wh⟩
        refine fj_ws (ws' := (fm_w bd ty a g (va_up (va_up (va_up (va_up n 9 o1) 10 (-1)) 11 sh) 12 (n 12)))) rfl ?_
        exact lp78 1 (-1) (n 12) (Nat.le_refl 1) (by omega) (Or.inl ⟨rfl, fun c g1 g2 => absurd g2 (by omega)⟩)
      · obtain ⟨r, rfl⟩ : ∃ z, r = z + 1 := ⟨r - 1, by have : r ≠ 0 := fun e => h17 (by rw [e]; decide); omega⟩
        have hbz : (mn - r) * z ≤ t := (Nat.le_trans (Nat.mul_le_mul_right z (Nat.sub_le mn r)) h1)
        refine fj_aload_n C 0 dX6_findSides_20 rfl rfl ?_
        refine fj_get (Cn := RX6) (T := TX6) (N := 44) (ci := 6) (v := .int o1) C iX6 0 (fm_at0 _ _ _ _ _) rfl 38 (by decide) kX6_292 rfl dX6_findSides_21 ?_
        refine fj_if_ge (tgt := 73) C dX6_findSides_24 (by decide) (fun h24 => ?_) (fun h24 => ?_)
        · obtain ⟨r9, hS9, hE1⟩ : ∃ r9, SD1 (a 14) t mn z r9 o1 sh ∧ (r9 = 0 ∨ 0 ≤ o1) := by first | exact ⟨_, hS, Or.inl e0⟩ | exact ⟨_, hS, Or.inr h24⟩
          refine fj_iload_n C 3 dX6_findSides_73 rfl rfl ?_
          refine fj_iconst (v := 1) C dX6_findSides_74 (by decide) ?_
          refine fj_iadd C dX6_findSides_75 ?_
          refine fj_at (y := nI (mn + 1)) (nI_1 mn) ?_
          refine fj_istore (lv' := [(4, .int (nI (mn + 1))), (0, .ref (bd 0)), (1, .int (nI t)), (2, .int (nI z)), (3, .int (nI mn))]) C dX6_findSides_76 (by decide) rfl ?_
          refine fj_lv (lv' := [(0, .ref (bd 0)), (1, .int (nI t)), (2, .int (nI z)), (3, .int (nI mn)), (4, .int (nI (mn + 1)))]) [1, 2, 3, 4, 0] rfl ?_
          have lp78 : ∀ (o : Nat) (o2 : Int32) (wh : Int32), (1 ≤ o) → (o ≤ 9) → (SD2 (a 14) t mn z o o2 wh sh) → fj p l e (fj_rm 0 0 0 0) s m args below meth c Q A D 5 0 0 (fm_w bd ty a g (va_up (va_up (va_up (va_up n 9 o1) 10 o2) 11 sh) 12 wh)) [(0, .ref (bd 0)), (1, .int (nI t)), (2, .int (nI z)), (3, .int (nI mn)), (4, .int (nI (mn + o)))] 78 [] := by
            have key : ∀ zz : Nat × Int32 × Int32, (fun (zz : Nat × Int32 × Int32) => match zz with | (o, o2, wh) => (1 ≤ o) → (o ≤ 9) → (SD2 (a 14) t mn z o o2 wh sh) → fj p l e (fj_rm 0 0 0 0) s m args below meth c Q A D 5 0 0 (fm_w bd ty a g (va_up (va_up (va_up (va_up n 9 o1) 10 o2) 11 sh) 12 wh)) [(0, .ref (bd 0)), (1, .int (nI t)), (2, .int (nI z)), (3, .int (nI mn)), (4, .int (nI (mn + o)))] 78 []) zz := by
              refine fx_ind (fun (zz : Nat × Int32 × Int32) => match zz with | (o, o2, wh) => 9 - o) _ ?_
              rintro ⟨o, o2, wh⟩ ih78 ho1 hob hT
              refine fj_iload C 4 dX6_findSides_78 rfl ?_
              refine fj_bipush (v := 9) C dX6_findSides_80 (by decide) ?_
              refine fj_icmp_ge (tgt := 143) C dX6_findSides_82 (by decide) (fun h82 => ?_) (fun h82 => ?_)
              · have hmo : 9 ≤ mn + o := (nI_leI (a := 9) (by decide) (by omega)).mp h82
                have hE2 : 9 ≤ mn + o ∨ 0 ≤ o2 := by first | exact Or.inl hmo | exact Or.inr h89
                refine fj_aload_n C 0 dX6_findSides_143 rfl rfl ?_
                refine fj_get (Cn := RX6) (T := TX6) (N := 44) (ci := 6) (v := .int o1) C iX6 0 (fm_at0 _ _ _ _ _) rfl 38 (by decide) kX6_292 rfl dX6_findSides_144 ?_
                refine fj_if_lt (tgt := 161) C dX6_findSides_147 (by decide) (fun h147 => ?_) (fun h147 => ?_)
                · refine fj_iconst (v := 0) C dX6_findSides_161 (by decide) ?_
                  exact fj_zret C E9 rfl dX6_findSides_162 (Or.inr ⟨(by first | exact SD_no1 hS9 h147 hE1 (by omega) | exact SD_no2 hT h154 hE2 (by omega)), _, fm_u4 n o1 o2 sh wh, rfl, rfl⟩)
                · refine fj_aload_n C 0 dX6_findSides_150 rfl rfl ?_
                  refine fj_get (Cn := RX6) (T := TX6) (N := 44) (ci := 6) (v := .int o2) C iX6 0 (fm_at0 _ _ _ _ _) rfl 39 (by decide) kX6_295 rfl dX6_findSides_151 ?_
                  refine fj_if_lt (tgt := 161) C dX6_findSides_154 (by decide) (fun h154 => ?_) (fun h154 => ?_)
                  · refine fj_iconst (v := 0) C dX6_findSides_161 (by decide) ?_
                    exact fj_zret C E9 rfl dX6_findSides_162 (Or.inr ⟨(by first | exact SD_no1 hS9 h147 hE1 (by omega) | exact SD_no2 hT h154 hE2 (by omega)), _, fm_u4 n o1 o2 sh wh, rfl, rfl⟩)
                  · refine fj_iconst (v := 1) C dX6_findSides_157 (by decide) ?_
                    refine fj_goto (tgt := 162) C dX6_findSides_158 (by decide) ?_
                    exact fj_zret C E9 rfl dX6_findSides_162 (Or.inl ⟨mn - r9, o - 1, (SD_yes hS9 h147 hT h154 (by omega)).1, _, fm_u4 n o1 o2 sh wh, (SD_yes hS9 h147 hT h154 (by omega)).2.1, (SD_yes hS9 h147 hT h154 (by omega)).2.2.1, (SD_yes hS9 h147 hT h154 (by omega)).2.2.2.1, (SD_yes hS9 h147 hT h154 (by omega)).2.2.2.2, rfl, rfl⟩)
              · have hmo : mn + o < 9 := Nat.lt_of_not_le fun q => h82 ((nI_leI (a := 9) (by decide) (by omega)).mpr q)
                have hoz : o * z ≤ (8 - mn) * z := Nat.mul_le_mul_right z (by omega)
                refine fj_aload_n C 0 dX6_findSides_85 rfl rfl ?_
                refine fj_get (Cn := RX6) (T := TX6) (N := 44) (ci := 6) (v := .int o2) C iX6 0 (fm_at0 _ _ _ _ _) rfl 39 (by decide) kX6_295 rfl dX6_findSides_86 ?_
                refine fj_if_ge (tgt := 143) C dX6_findSides_89 (by decide) (fun h89 => ?_) (fun h89 => ?_)
                · have hE2 : 9 ≤ mn + o ∨ 0 ≤ o2 := by first | exact Or.inl hmo | exact Or.inr h89
                  refine fj_aload_n C 0 dX6_findSides_143 rfl rfl ?_
                  refine fj_get (Cn := RX6) (T := TX6) (N := 44) (ci := 6) (v := .int o1) C iX6 0 (fm_at0 _ _ _ _ _) rfl 38 (by decide) kX6_292 rfl dX6_findSides_144 ?_
                  refine fj_if_lt (tgt := 161) C dX6_findSides_147 (by decide) (fun h147 => ?_) (fun h147 => ?_)
                  · refine fj_iconst (v := 0) C dX6_findSides_161 (by decide) ?_
                    exact fj_zret C E9 rfl dX6_findSides_162 (Or.inr ⟨(by first | exact SD_no1 hS9 h147 hE1 (by omega) | exact SD_no2 hT h154 hE2 (by omega)), _, fm_u4 n o1 o2 sh wh, rfl, rfl⟩)
                  · refine fj_aload_n C 0 dX6_findSides_150 rfl rfl ?_
                    refine fj_get (Cn := RX6) (T := TX6) (N := 44) (ci := 6) (v := .int o2) C iX6 0 (fm_at0 _ _ _ _ _) rfl 39 (by decide) kX6_295 rfl dX6_findSides_151 ?_
                    refine fj_if_lt (tgt := 161) C dX6_findSides_154 (by decide) (fun h154 => ?_) (fun h154 => ?_)
                    · refine fj_iconst (v := 0) C dX6_findSides_161 (by decide) ?_
                      exact fj_zret C E9 rfl dX6_findSides_162 (Or.inr ⟨(by first | exact SD_no1 hS9 h147 hE1 (by omega) | exact SD_no2 hT h154 hE2 (by omega)), _, fm_u4 n o1 o2 sh wh, rfl, rfl⟩)
                    · refine fj_iconst (v := 1) C dX6_findSides_157 (by decide) ?_
                      refine fj_goto (tgt := 162) C dX6_findSides_158 (by decide) ?_
                      exact fj_zret C E9 rfl dX6_findSides_162 (Or.inl ⟨mn - r9, o - 1, (SD_yes hS9 h147 hT h154 (by omega)).1, _, fm_u4 n o1 o2 sh wh, (SD_yes hS9 h147 hT h154 (by omega)).2.1, (SD_yes hS9 h147 hT h154 (by omega)).2.2.1, (SD_yes hS9 h147 hT h154 (by omega)).2.2.2.1, (SD_yes hS9 h147 hT h154 (by omega)).2.2.2.2, rfl, rfl⟩)
                · refine fj_aload_n C 0 dX6_findSides_92 rfl rfl ?_
                  refine fj_aload_n C 0 dX6_findSides_93 rfl rfl ?_
                  refine fj_get (Cn := RX6) (T := TX6) (N := 44) (ci := 6) (v := .ref (bd 14)) C iX6 0 (fm_at0 _ _ _ _ _) rfl 19 (by decide) kX6_58 rfl dX6_findSides_94 ?_
                  refine fj_iload_n C 1 dX6_findSides_97 rfl rfl ?_
                  refine fj_iload C 4 dX6_findSides_98 rfl ?_
                  refine fj_iload_n C 3 dX6_findSides_100 rfl rfl ?_
                  refine fj_isub C dX6_findSides_101 ?_
                  refine fj_at (y := nI o) (by rw [pk_sub (by omega)]; congr 1; omega) ?_
                  refine fj_iload_n C 2 dX6_findSides_102 rfl rfl ?_
                  refine fj_imul C dX6_findSides_103 ?_
                  refine fj_at (y := nI (o * z)) (pk_mul o z) ?_
                  refine fj_iadd C dX6_findSides_104 ?_
                  refine fj_at (y := nI (t + o * z)) (nI_add t (o * z)) ?_
                  refine fj_zald (f := (a 14)) C 14 (fm_at14 _ _ _ _ _) (vp_in_nI (by omega) (by decide)) dX6_findSides_105 ?_
                  refine fj_at (y := a 14 (t + o * z)) (by rw [nI_clamp (by omega)]) ?_
                  refine fj_if_eq (tgt := 120) C dX6_findSides_106 (by decide) (fun h106 => ?_) (fun h106 => ?_)
                  · refine fj_iconst (v := (-1)) C dX6_findSides_120 (by decide) ?_
                    refine fj_put (Cn := RX6) (T := TX6) (N := 44) (ci := 6) C iX6 tyX6 tyX6_ok nmX6 0 (fm_at0 _ _ _ _ _) rfl 39 (by decide) kX6_295 rfl rfl rfl (Nat.le_of_ble_eq_true rfl) dX6_findSides_121 (fm_si0_39 _ _ _ _ _ _) ?_
                    refine fj_ws (ws' := (fm_w bd ty a g (va_up (va_up (va_up (va_up n 9 o1) 11 sh) 12 wh) 10 (-1)))) rfl ?_
                    refine fj_aload_n C 0 dX6_findSides_124 rfl rfl ?_
                    refine fj_aload_n C 0 dX6_findSides_125 rfl rfl ?_
                    refine fj_get (Cn := RX6) (T := TX6) (N := 44) (ci := 6) (v := .int sh) C iX6 0 (fm_at0 _ _ _ _ _) rfl 40 (by decide) kX6_298 rfl dX6_findSides_126 ?_
                    refine fj_iload C 4 dX6_findSides_129 rfl ?_
                    refine fj_iadd C dX6_findSides_131 ?_
                    refine fj_iload_n C 3 dX6_findSides_132 rfl rfl ?_
                    refine fj_isub C dX6_findSides_133 ?_
                    refine fj_put (Cn := RX6) (T := TX6) (N := 44) (ci := 6) C iX6 tyX6 tyX6_ok nmX6 0 (fm_at0 _ _ _ _ _) rfl 41 (by decide) kX6_301 rfl rfl rfl (Nat.le_of_ble_eq_true rfl) dX6_findSides_134 (fm_si0_41 _ _ _ _ _ _) ?_
                    refine fj_ws (ws' := (fm_w bd ty a g (va_up (va_up (va_up (va_up n 9 o1) 11 sh) 10 (-1)) 12 ((sh + (nI (mn + o))) - (nI mn))))) rfl ?_
                    refine fj_iinc (v := nI (mn + (o + 1))) (lv' := [(4, .int (nI (mn + (o + 1)))), (0, .ref (bd 0)), (1, .int (nI t)), (2, .int (nI z)), (3, .int (nI mn))]) C 4 dX6_findSides_137 rfl (nI_1 (mn + o)) (by decide) rfl ?_
                    refine fj_goto (tgt := 78) C dX6_findSides_140 (by decide) ?_
                    refine fj_lv (lv' := [(0, .ref (bd 0)), (1, .int (nI t)), (2, .int (nI z)), (3, .int (nI mn)), (4, .int (nI (mn + (o + 1))))]) [1, 2, 3, 4, 0] rfl ?_
                    refine fj_ws (ws' := (fm_w bd ty a g (va_up (va_up (va_up (va_up n 9 o1) 10 (-1)) 11 sh) 12 ((sh + (nI (mn + o))) - (nI mn))))) rfl ?_
                    exact ih78 ⟨o + 1, (-1), (sh + (nI (mn + o))) - (nI mn)⟩ (by show 9 - (o + 1) < 9 - o; omega) (by omega) (by omega) (by first | exact SD2_z hT h89 (by omega) h106 | exact SD2_p hT h89 (by omega) ho1 hmo h106)
                  · refine fj_iload_n C 1 dX6_findSides_109 rfl rfl ?_
                    refine fj_iload C 4 dX6_findSides_110 rfl ?_
                    refine fj_iload_n C 3 dX6_findSides_112 rfl rfl ?_
                    refine fj_isub C dX6_findSides_113 ?_
                    refine fj_at (y := nI o) (by rw [pk_sub (by omega)]; congr 1; omega) ?_
                    refine fj_iload_n C 2 dX6_findSides_114 rfl rfl ?_
                    refine fj_imul C dX6_findSides_115 ?_
                    refine fj_at (y := nI (o * z)) (pk_mul o z) ?_
                    refine fj_iadd C dX6_findSides_116 ?_
                    refine fj_at (y := nI (t + o * z)) (nI_add t (o * z)) ?_
                    refine fj_goto (tgt := 121) C dX6_findSides_117 (by decide) ?_
                    refine fj_put (Cn := RX6) (T := TX6) (N := 44) (ci := 6) C iX6 tyX6 tyX6_ok nmX6 0 (fm_at0 _ _ _ _ _) rfl 39 (by decide) kX6_295 rfl rfl rfl (Nat.le_of_ble_eq_true rfl) dX6_findSides_121 (fm_si0_39 _ _ _ _ _ _) ?_
                    refine fj_ws (ws' := (fm_w bd ty a g (va_up (va_up (va_up (va_up n 9 o1) 11 sh) 12 wh) 10 (nI (t + o * z))))) rfl ?_
                    refine fj_aload_n C 0 dX6_findSides_124 rfl rfl ?_
                    refine fj_aload_n C 0 dX6_findSides_125 rfl rfl ?_
                    refine fj_get (Cn := RX6) (T := TX6) (N := 44) (ci := 6) (v := .int sh) C iX6 0 (fm_at0 _ _ _ _ _) rfl 40 (by decide) kX6_298 rfl dX6_findSides_126 ?_
                    refine fj_iload C 4 dX6_findSides_129 rfl ?_
                    refine fj_iadd C dX6_findSides_131 ?_
                    refine fj_iload_n C 3 dX6_findSides_132 rfl rfl ?_
                    refine fj_isub C dX6_findSides_133 ?_
                    refine fj_put (Cn := RX6) (T := TX6) (N := 44) (ci := 6) C iX6 tyX6 tyX6_ok nmX6 0 (fm_at0 _ _ _ _ _) rfl 41 (by decide) kX6_301 rfl rfl rfl (Nat.le_of_ble_eq_true rfl) dX6_findSides_134 (fm_si0_41 _ _ _ _ _ _) ?_
                    refine fj_ws (ws' := (fm_w bd ty a g (va_up (va_up (va_up (va_up n 9 o1) 11 sh) 10 (nI (t + o * z))) 12 ((sh + (nI (mn + o))) - (nI mn))))) rfl ?_
                    refine fj_iinc (v := nI (mn + (o + 1))) (lv' := [(4, .int (nI (mn + (o + 1)))), (0, .ref (bd 0)), (1, .int (nI t)), (2, .int (nI z)), (3, .int (nI mn))]) C 4 dX6_findSides_137 rfl (nI_1 (mn + o)) (by decide) rfl ?_
                    refine fj_goto (tgt := 78) C dX6_findSides_140 (by decide) ?_
                    refine fj_lv (lv' := [(0, .ref (bd 0)), (1, .int (nI t)), (2, .int (nI z)), (3, .int (nI mn)), (4, .int (nI (mn + (o + 1))))]) [1, 2, 3, 4, 0] rfl ?_
                    refine fj_ws (ws' := (fm_w bd ty a g (va_up (va_up (va_up (va_up n 9 o1) 10 (nI (t + o * z))) 11 sh) 12 ((sh + (nI (mn + o))) - (nI mn))))) rfl ?_
                    exact ih78 ⟨o + 1, nI (t + o * z), (sh + (nI (mn + o))) - (nI mn)⟩ (by show 9 - (o + 1) < 9 - o; omega) (by omega) (by omega) (by first | exact SD2_z hT h89 (by omega) h106 | exact SD2_p hT h89 (by omega) ho1 hmo h106)
            intro o o2 wh
            exact key ⟨o, o2, wh⟩
          refine fj_ws (ws' := (fm_w bd ty a g (va_up (va_up (va_up (va_up n 9 o1) 10 (-1)) 11 sh) 12 (n 12)))) rfl ?_
          exact lp78 1 (-1) (n 12) (Nat.le_refl 1) (by omega) (Or.inl ⟨rfl, fun c g1 g2 => absurd g2 (by omega)⟩)
        · refine fj_aload_n C 0 dX6_findSides_27 rfl rfl ?_
          refine fj_aload_n C 0 dX6_findSides_28 rfl rfl ?_
          refine fj_get (Cn := RX6) (T := TX6) (N := 44) (ci := 6) (v := .ref (bd 14)) C iX6 0 (fm_at0 _ _ _ _ _) rfl 19 (by decide) kX6_58 rfl dX6_findSides_29 ?_
          refine fj_iload_n C 1 dX6_findSides_32 rfl rfl ?_
          refine fj_iload_n C 3 dX6_findSides_33 rfl rfl ?_
          refine fj_iload C 4 dX6_findSides_34 rfl ?_
          refine fj_at (y := nI r) (nI_pred r) ?_
          refine fj_isub C dX6_findSides_36 ?_
          refine fj_at (y := nI (mn - r)) (pk_sub (by omega)) ?_
          refine fj_iload_n C 2 dX6_findSides_37 rfl rfl ?_
          refine fj_imul C dX6_findSides_38 ?_
          refine fj_at (y := nI ((mn - r) * z)) (pk_mul _ z) ?_
          refine fj_isub C dX6_findSides_39 ?_
          refine fj_at (y := nI (t - (mn - r) * z)) (pk_sub hbz) ?_
          refine fj_zald (f := (a 14)) C 14 (fm_at14 _ _ _ _ _) (vp_in_nI (by omega) (by decide)) dX6_findSides_40 ?_
          refine fj_at (y := a 14 (t - (mn - r) * z)) (by rw [nI_clamp (by omega)]) ?_
          refine fj_if_eq (tgt := 55) C dX6_findSides_41 (by decide) (fun h41 => ?_) (fun h41 => ?_)
          · refine fj_iconst (v := (-1)) C dX6_findSides_55 (by decide) ?_
            refine fj_put (Cn := RX6) (T := TX6) (N := 44) (ci := 6) C iX6 tyX6 tyX6_ok nmX6 0 (fm_at0 _ _ _ _ _) rfl 38 (by decide) kX6_292 rfl rfl rfl (Nat.le_of_ble_eq_true rfl) dX6_findSides_56 (fm_si0_38 _ _ _ _ _ _) ?_
            refine fj_ws (ws' := (fm_w bd ty a g (va_up (va_up (va_up n 10 (-1)) 11 sh) 9 (-1)))) rfl ?_
            refine fj_aload_n C 0 dX6_findSides_59 rfl rfl ?_
            refine fj_iload_n C 3 dX6_findSides_60 rfl rfl ?_
            refine fj_iload C 4 dX6_findSides_61 rfl ?_
            refine fj_at (y := nI r) (nI_pred r) ?_
            refine fj_isub C dX6_findSides_63 ?_
            refine fj_at (y := nI (mn - r)) (pk_sub (by omega)) ?_
            refine fj_put (Cn := RX6) (T := TX6) (N := 44) (ci := 6) C iX6 tyX6 tyX6_ok nmX6 0 (fm_at0 _ _ _ _ _) rfl 40 (by decide) kX6_298 rfl rfl rfl (Nat.le_of_ble_eq_true rfl) dX6_findSides_64 (fm_si0_40 _ _ _ _ _ _) ?_
            refine fj_ws (ws' := (fm_w bd ty a g (va_up (va_up (va_up n 10 (-1)) 9 (-1)) 11 (nI (mn - r))))) rfl ?_
            refine fj_iinc (v := nI r - 1) (lv' := [(4, .int (nI r - 1)), (0, .ref (bd 0)), (1, .int (nI t)), (2, .int (nI z)), (3, .int (nI mn))]) C 4 dX6_findSides_67 rfl (fx_im r) (by decide) rfl ?_
            refine fj_goto (tgt := 15) C dX6_findSides_70 (by decide) ?_
            refine fj_lv (lv' := [(0, .ref (bd 0)), (1, .int (nI t)), (2, .int (nI z)), (3, .int (nI mn)), (4, .int (nI r - 1))]) [1, 2, 3, 4, 0] rfl ?_
            refine fj_ws (ws' := (fm_w bd ty a g (va_up (va_up (va_up n 9 (-1)) 10 (-1)) 11 (nI (mn - r))))) rfl ?_
            exact ih15 ⟨r, (-1), nI (mn - r)⟩ (by show r < r + 1; omega) (by omega) (by first | exact SD1_z hS h24 (by omega) (by omega) h41 | exact SD1_p hS h24 (by omega) (by omega) h41)
          · refine fj_iload_n C 1 dX6_findSides_44 rfl rfl ?_
            refine fj_iload_n C 3 dX6_findSides_45 rfl rfl ?_
            refine fj_iload C 4 dX6_findSides_46 rfl ?_
            refine fj_at (y := nI r) (nI_pred r) ?_
            refine fj_isub C dX6_findSides_48 ?_
            refine fj_at (y := nI (mn - r)) (pk_sub (by omega)) ?_
            refine fj_iload_n C 2 dX6_findSides_49 rfl rfl ?_
            refine fj_imul C dX6_findSides_50 ?_
            refine fj_at (y := nI ((mn - r) * z)) (pk_mul _ z) ?_
            refine fj_isub C dX6_findSides_51 ?_
            refine fj_at (y := nI (t - (mn - r) * z)) (pk_sub hbz) ?_
            refine fj_goto (tgt := 56) C dX6_findSides_52 (by decide) ?_
            refine fj_put (Cn := RX6) (T := TX6) (N := 44) (ci := 6) C iX6 tyX6 tyX6_ok nmX6 0 (fm_at0 _ _ _ _ _) rfl 38 (by decide) kX6_292 rfl rfl rfl (Nat.le_of_ble_eq_true rfl) dX6_findSides_56 (fm_si0_38 _ _ _ _ _ _) ?_
            refine fj_ws (ws' := (fm_w bd ty a g (va_up (va_up (va_up n 10 (-1)) 11 sh) 9 (nI (t - (mn - r) * z))))) rfl ?_
            refine fj_aload_n C 0 dX6_findSides_59 rfl rfl ?_
            refine fj_iload_n C 3 dX6_findSides_60 rfl rfl ?_
            refine fj_iload C 4 dX6_findSides_61 rfl ?_
            refine fj_at (y := nI r) (nI_pred r) ?_
            refine fj_isub C dX6_findSides_63 ?_
            refine fj_at (y := nI (mn - r)) (pk_sub (by omega)) ?_
            refine fj_put (Cn := RX6) (T := TX6) (N := 44) (ci := 6) C iX6 tyX6 tyX6_ok nmX6 0 (fm_at0 _ _ _ _ _) rfl 40 (by decide) kX6_298 rfl rfl rfl (Nat.le_of_ble_eq_true rfl) dX6_findSides_64 (fm_si0_40 _ _ _ _ _ _) ?_
            refine fj_ws (ws' := (fm_w bd ty a g (va_up (va_up (va_up n 10 (-1)) 9 (nI (t - (mn - r) * z))) 11 (nI (mn - r))))) rfl ?_
            refine fj_iinc (v := nI r - 1) (lv' := [(4, .int (nI r - 1)), (0, .ref (bd 0)), (1, .int (nI t)), (2, .int (nI z)), (3, .int (nI mn))]) C 4 dX6_findSides_67 rfl (fx_im r) (by decide) rfl ?_
            refine fj_goto (tgt := 15) C dX6_findSides_70 (by decide) ?_
            refine fj_lv (lv' := [(0, .ref (bd 0)), (1, .int (nI t)), (2, .int (nI z)), (3, .int (nI mn)), (4, .int (nI r - 1))]) [1, 2, 3, 4, 0] rfl ?_
            refine fj_ws (ws' := (fm_w bd ty a g (va_up (va_up (va_up n 9 (nI (t - (mn - r) * z))) 10 (-1)) 11 (nI (mn - r))))) rfl ?_
            exact ih15 ⟨r, nI (t - (mn - r) * z), nI (mn - r)⟩ (by show r < r + 1; omega) (by omega) (by first | exact SD1_z hS h24 (by omega) (by omega) h41 | exact SD1_p hS h24 (by omega) (by omega) h41)
    intro r o1 sh
    exact key ⟨r, o1, sh⟩
  refine fj_ws (ws' := (fm_w bd ty a g (va_up (va_up (va_up n 9 (-1)) 10 (-1)) 11 (n 11)))) rfl ?_
  exact lp15 mn (-1) (n 11) (Nat.le_refl mn) (Or.inl ⟨rfl, fun b g1 g2 => absurd g2 (by omega)⟩)

set_option maxHeartbeats 4000000 in
set_option maxRecDepth 100000 in
theorem d_X6_findPlace (l : Launch) (D : va_G) (ty : Nat → ClassId) (t0 : Nat → Nat) (bd : Nat → Nat) (a : Nat → Nat → Int32) (g : Nat → Nat → Int64) (n : Nat → Int32)  (x : Int32) (y : Int32) (ci : Nat) (cj : Nat) (ec : x = nI ci) (ej : y = nI cj) (hci : ci ≤ 8) (hcj : cj ≤ 8) : fc l yX6_findPlace wsX6_findPlace (fj_rm 1 24 0 0) D ty t0 [.ref (bd 0), .int x, .int y] (fm_w bd ty a g n) 0 0 (fun v w => (∃ x y, LIE (a 14) (a 15) (a 16) ci cj x y ∧ ∃ u : Nat → Int32, (∀ j, j < 9 → u j = n j) ∧ u 13 = x ∧ u 14 = y ∧ v = some (.int 1) ∧ w = fm_w bd ty a g u) ∨ (NOL (a 14) ci cj ∧ ∃ u : Nat → Int32, (∀ j, j < 9 → u j = n j) ∧ v = some (.int 0) ∧ w = fm_w bd ty a g u)) := by
  subst ec ej
  refine fc_start (own := RX6) (cc := cX6_findPlace) (maxL := 4) (ret := (some .boolean)) (by decide) rfl (Nat.le_of_ble_eq_true rfl) rfl ?_
  intro p e s m args below meth c Q A C hmn E9
  have iX6 : ∀ w ∈ u_ws RX6 TX6 44, w ∈ wsX6_findPlace := ptX6_findPlace_wsX60
  have kX6_58 : Cond.fieldLink RX6 58 "FreeLandModel" "known" "[Z" ∈ wsX6_findPlace := ptX6_findPlace_woX6_findPlace _ (by decide +kernel)
  have kX6_61 : Cond.fieldLink RX6 61 "FreeLandModel" "cornerX" "[I" ∈ wsX6_findPlace := ptX6_findPlace_woX6_findPlace _ (by decide +kernel)
  have kX6_292 : Cond.fieldLink RX6 292 "FreeLandModel" "one" "I" ∈ wsX6_findPlace := ptX6_findPlace_woX6_findPlace _ (by decide +kernel)
  have kX6_301 : Cond.fieldLink RX6 301 "FreeLandModel" "whole" "I" ∈ wsX6_findPlace := ptX6_findPlace_woX6_findPlace _ (by decide +kernel)
  have kX6_295 : Cond.fieldLink RX6 295 "FreeLandModel" "two" "I" ∈ wsX6_findPlace := ptX6_findPlace_woX6_findPlace _ (by decide +kernel)
  have kX6_298 : Cond.fieldLink RX6 298 "FreeLandModel" "share" "I" ∈ wsX6_findPlace := ptX6_findPlace_woX6_findPlace _ (by decide +kernel)
  have kX6_304 : Cond.fieldLink RX6 304 "FreeLandModel" "lieX" "I" ∈ wsX6_findPlace := ptX6_findPlace_woX6_findPlace _ (by decide +kernel)
  have kX6_64 : Cond.fieldLink RX6 64 "FreeLandModel" "cornerY" "[I" ∈ wsX6_findPlace := ptX6_findPlace_woX6_findPlace _ (by decide +kernel)
  have kX6_307 : Cond.fieldLink RX6 307 "FreeLandModel" "lieY" "I" ∈ wsX6_findPlace := ptX6_findPlace_woX6_findPlace _ (by decide +kernel)
  refine fj_lv (lv' := [(0, .ref (bd 0)), (1, .int (nI ci)), (2, .int (nI cj))]) [0, 1, 2] rfl ?_
  refine fj_bipush (v := 9) C dX6_findPlace_0 (by decide) ?_
  refine fj_iload_n C 2 dX6_findPlace_2 rfl rfl ?_
  refine fj_imul C dX6_findPlace_3 ?_
  refine fj_at (y := nI (9 * cj)) (pk_mul 9 cj) ?_
  refine fj_iload_n C 1 dX6_findPlace_4 rfl rfl ?_
  refine fj_iadd C dX6_findPlace_5 ?_
  refine fj_at (y := nI (9 * cj + ci)) (nI_add (9 * cj) ci) ?_
  refine fj_istore_n (lv' := [(3, .int (nI (9 * cj + ci))), (0, .ref (bd 0)), (1, .int (nI ci)), (2, .int (nI cj))]) C dX6_findPlace_6 rfl (by decide) rfl ?_
  refine fj_aload_n C 1 dX6_findPlace_7 rfl rfl ?_
  refine fj_get (Cn := RX6) (T := TX6) (N := 44) (ci := 6) (v := .ref (bd 14)) C iX6 0 (fm_at0 _ _ _ _ _) rfl 19 (by decide) kX6_58 rfl dX6_findPlace_8 ?_
  refine fj_iload_n C 0 dX6_findPlace_11 rfl rfl ?_
  refine fj_zald (f := (a 14)) C 14 (fm_at14 _ _ _ _ _) (vp_in_nI (by omega) (by decide)) dX6_findPlace_12 ?_
  refine fj_at (y := a 14 (9 * cj + ci)) (by rw [nI_clamp (by omega)]) ?_
  refine fj_if_eq (tgt := 46) C dX6_findPlace_13 (by decide) (fun h13 => ?_) (fun h13 => ?_)
  · refine fj_aload_n C 1 dX6_findPlace_46 rfl rfl ?_
    refine fj_iload_n C 0 dX6_findPlace_47 rfl rfl ?_
    refine fj_iconst (v := 1) C dX6_findPlace_48 (by decide) ?_
    refine fj_iload_n C 2 dX6_findPlace_49 rfl rfl ?_
    refine fj_callVw (As := [.int (nI (9 * cj + ci)), .int 1, .int (nI ci)]) (rest := []) C (d_X6_findSides l D ty t0 bd a g n (nI (9 * cj + ci)) 1 (nI ci) (9 * cj + ci) ci 1 rfl rfl rfl (by omega) (by omega) (by omega) (by decide)) (cwV 3 C.2.2.2.2.1 gX6_findPlace_X6_findSides rfl rfl rfl (by decide +kernel) ⟨Nat.le_of_ble_eq_true rfl, Nat.le_of_ble_eq_true rfl⟩) ⟨0, 6, _, _, fm_at0 _ _ _ _ _, rfl, rfl⟩ rfl (Nat.le_of_ble_eq_true rfl) dX6_findPlace_50 ⟨Nat.zero_le _, Nat.zero_le _⟩ (fun v9 w9 hp9 => ?_)
    rcases hp9 with ⟨b1, o1, F1, u1, hu1, e9, e10, e11, e12, rfl, rfl⟩ | ⟨F1, u1, hu1, rfl, rfl⟩
    · refine fj_st (st' := .int 1 :: []) rfl ?_
      refine fj_if_ne (tgt := 69) C dX6_findPlace_53 (by decide) (fun _ => ?_) (fun h => absurd h (by decide))
      refine fj_aload_n C 1 dX6_findPlace_69 rfl rfl ?_
      have g1 := F1.1; have g2 := F1.2.1; have g3 := F1.2.2.2.2.1; have g4 := F1.2.2.2.2.2.1
      refine fj_sipush (v := 840) C dX6_findPlace_70 (by decide) ?_
      refine fj_aload_n C 1 dX6_findPlace_73 rfl rfl ?_
      refine fj_get (Cn := RX6) (T := TX6) (N := 44) (ci := 6) (v := .ref (bd 15)) C iX6 0 (fm_at0 _ _ _ _ _) rfl 20 (by decide) kX6_61 rfl dX6_findPlace_74 ?_
      refine fj_aload_n C 1 dX6_findPlace_77 rfl rfl ?_
      refine fj_get (Cn := RX6) (T := TX6) (N := 44) (ci := 6) (v := .int (u1 9)) C iX6 0 (fm_at0 _ _ _ _ _) rfl 38 (by decide) kX6_292 rfl dX6_findPlace_78 ?_
      refine fj_at (y := nI (9 * cj + ci - b1 * 1)) e9 ?_
      refine fj_iald (f := (a 15)) C 15 (fm_at15 _ _ _ _ _) (vp_in_nI (by omega) (by decide)) dX6_findPlace_81 ?_
      refine fj_at (y := a 15 (9 * cj + ci - b1 * 1)) (by rw [nI_clamp (by omega)]) ?_
      refine fj_imul C dX6_findPlace_82 ?_
      refine fj_sipush (v := 840) C dX6_findPlace_83 (by decide) ?_
      refine fj_aload_n C 1 dX6_findPlace_86 rfl rfl ?_
      refine fj_get (Cn := RX6) (T := TX6) (N := 44) (ci := 6) (v := .int (u1 12)) C iX6 0 (fm_at0 _ _ _ _ _) rfl 41 (by decide) kX6_301 rfl dX6_findPlace_87 ?_
      refine fj_at (y := nI (b1 + o1)) e12 ?_
      refine fj_idiv C dX6_findPlace_90 (nI_ne0 (by omega) (by omega)) ?_
      refine fj_aload_n C 1 dX6_findPlace_91 rfl rfl ?_
      refine fj_get (Cn := RX6) (T := TX6) (N := 44) (ci := 6) (v := .ref (bd 15)) C iX6 0 (fm_at0 _ _ _ _ _) rfl 20 (by decide) kX6_61 rfl dX6_findPlace_92 ?_
      refine fj_aload_n C 1 dX6_findPlace_95 rfl rfl ?_
      refine fj_get (Cn := RX6) (T := TX6) (N := 44) (ci := 6) (v := .int (u1 10)) C iX6 0 (fm_at0 _ _ _ _ _) rfl 39 (by decide) kX6_295 rfl dX6_findPlace_96 ?_
      refine fj_at (y := nI (9 * cj + ci + o1 * 1)) e10 ?_
      refine fj_iald (f := (a 15)) C 15 (fm_at15 _ _ _ _ _) (vp_in_nI (by omega) (by decide)) dX6_findPlace_99 ?_
      refine fj_at (y := a 15 (9 * cj + ci + o1 * 1)) (by rw [nI_clamp (by omega)]) ?_
      refine fj_aload_n C 1 dX6_findPlace_100 rfl rfl ?_
      refine fj_get (Cn := RX6) (T := TX6) (N := 44) (ci := 6) (v := .ref (bd 15)) C iX6 0 (fm_at0 _ _ _ _ _) rfl 20 (by decide) kX6_61 rfl dX6_findPlace_101 ?_
      refine fj_aload_n C 1 dX6_findPlace_104 rfl rfl ?_
      refine fj_get (Cn := RX6) (T := TX6) (N := 44) (ci := 6) (v := .int (u1 9)) C iX6 0 (fm_at0 _ _ _ _ _) rfl 38 (by decide) kX6_292 rfl dX6_findPlace_105 ?_
      refine fj_at (y := nI (9 * cj + ci - b1 * 1)) e9 ?_
      refine fj_iald (f := (a 15)) C 15 (fm_at15 _ _ _ _ _) (vp_in_nI (by omega) (by decide)) dX6_findPlace_108 ?_
      refine fj_at (y := a 15 (9 * cj + ci - b1 * 1)) (by rw [nI_clamp (by omega)]) ?_
      refine fj_isub C dX6_findPlace_109 ?_
      refine fj_imul C dX6_findPlace_110 ?_
      refine fj_aload_n C 1 dX6_findPlace_111 rfl rfl ?_
      refine fj_get (Cn := RX6) (T := TX6) (N := 44) (ci := 6) (v := .int (u1 11)) C iX6 0 (fm_at0 _ _ _ _ _) rfl 40 (by decide) kX6_298 rfl dX6_findPlace_112 ?_
      refine fj_at (y := nI b1) e11 ?_
      refine fj_imul C dX6_findPlace_115 ?_
      refine fj_iadd C dX6_findPlace_116 ?_
      refine fj_put (Cn := RX6) (T := TX6) (N := 44) (ci := 6) C iX6 tyX6 tyX6_ok nmX6 0 (fm_at0 _ _ _ _ _) rfl 42 (by decide) kX6_304 rfl rfl rfl (Nat.le_of_ble_eq_true rfl) dX6_findPlace_117 (fm_si0_42 _ _ _ _ _ _) ?_
      refine fj_aload_n C 1 dX6_findPlace_120 rfl rfl ?_
      refine fj_sipush (v := 840) C dX6_findPlace_121 (by decide) ?_
      refine fj_aload_n C 1 dX6_findPlace_124 rfl rfl ?_
      refine fj_get (Cn := RX6) (T := TX6) (N := 44) (ci := 6) (v := .ref (bd 16)) C iX6 0 (fm_at0 _ _ _ _ _) rfl 21 (by decide) kX6_64 rfl dX6_findPlace_125 ?_
      refine fj_aload_n C 1 dX6_findPlace_128 rfl rfl ?_
      refine fj_get (Cn := RX6) (T := TX6) (N := 44) (ci := 6) (v := .int (u1 9)) C iX6 0 (fm_at0 _ _ _ _ _) rfl 38 (by decide) kX6_292 rfl dX6_findPlace_129 ?_
      refine fj_at (y := nI (9 * cj + ci - b1 * 1)) e9 ?_
      refine fj_iald (f := (a 16)) C 16 (fm_at16 _ _ _ _ _) (vp_in_nI (by omega) (by decide)) dX6_findPlace_132 ?_
      refine fj_at (y := a 16 (9 * cj + ci - b1 * 1)) (by rw [nI_clamp (by omega)]) ?_
      refine fj_imul C dX6_findPlace_133 ?_
      refine fj_sipush (v := 840) C dX6_findPlace_134 (by decide) ?_
      refine fj_aload_n C 1 dX6_findPlace_137 rfl rfl ?_
      refine fj_get (Cn := RX6) (T := TX6) (N := 44) (ci := 6) (v := .int (u1 12)) C iX6 0 (fm_at0 _ _ _ _ _) rfl 41 (by decide) kX6_301 rfl dX6_findPlace_138 ?_
      refine fj_at (y := nI (b1 + o1)) e12 ?_
      refine fj_idiv C dX6_findPlace_141 (nI_ne0 (by omega) (by omega)) ?_
      refine fj_aload_n C 1 dX6_findPlace_142 rfl rfl ?_
      refine fj_get (Cn := RX6) (T := TX6) (N := 44) (ci := 6) (v := .ref (bd 16)) C iX6 0 (fm_at0 _ _ _ _ _) rfl 21 (by decide) kX6_64 rfl dX6_findPlace_143 ?_
      refine fj_aload_n C 1 dX6_findPlace_146 rfl rfl ?_
      refine fj_get (Cn := RX6) (T := TX6) (N := 44) (ci := 6) (v := .int (u1 10)) C iX6 0 (fm_at0 _ _ _ _ _) rfl 39 (by decide) kX6_295 rfl dX6_findPlace_147 ?_
      refine fj_at (y := nI (9 * cj + ci + o1 * 1)) e10 ?_
      refine fj_iald (f := (a 16)) C 16 (fm_at16 _ _ _ _ _) (vp_in_nI (by omega) (by decide)) dX6_findPlace_150 ?_
      refine fj_at (y := a 16 (9 * cj + ci + o1 * 1)) (by rw [nI_clamp (by omega)]) ?_
      refine fj_aload_n C 1 dX6_findPlace_151 rfl rfl ?_
      refine fj_get (Cn := RX6) (T := TX6) (N := 44) (ci := 6) (v := .ref (bd 16)) C iX6 0 (fm_at0 _ _ _ _ _) rfl 21 (by decide) kX6_64 rfl dX6_findPlace_152 ?_
      refine fj_aload_n C 1 dX6_findPlace_155 rfl rfl ?_
      refine fj_get (Cn := RX6) (T := TX6) (N := 44) (ci := 6) (v := .int (u1 9)) C iX6 0 (fm_at0 _ _ _ _ _) rfl 38 (by decide) kX6_292 rfl dX6_findPlace_156 ?_
      refine fj_at (y := nI (9 * cj + ci - b1 * 1)) e9 ?_
      refine fj_iald (f := (a 16)) C 16 (fm_at16 _ _ _ _ _) (vp_in_nI (by omega) (by decide)) dX6_findPlace_159 ?_
      refine fj_at (y := a 16 (9 * cj + ci - b1 * 1)) (by rw [nI_clamp (by omega)]) ?_
      refine fj_isub C dX6_findPlace_160 ?_
      refine fj_imul C dX6_findPlace_161 ?_
      refine fj_aload_n C 1 dX6_findPlace_162 rfl rfl ?_
      refine fj_get (Cn := RX6) (T := TX6) (N := 44) (ci := 6) (v := .int (u1 11)) C iX6 0 (fm_at0 _ _ _ _ _) rfl 40 (by decide) kX6_298 rfl dX6_findPlace_163 ?_
      refine fj_at (y := nI b1) e11 ?_
      refine fj_imul C dX6_findPlace_166 ?_
      refine fj_iadd C dX6_findPlace_167 ?_
      refine fj_put (Cn := RX6) (T := TX6) (N := 44) (ci := 6) C iX6 tyX6 tyX6_ok nmX6 0 (fm_at0 _ _ _ _ _) rfl 43 (by decide) kX6_307 rfl rfl rfl (Nat.le_of_ble_eq_true rfl) dX6_findPlace_168 (fm_si0_43 _ _ _ _ _ _) ?_
      refine fj_iconst (v := 1) C dX6_findPlace_171 (by decide) ?_
      exact fj_zret C E9 rfl dX6_findPlace_172 (Or.inl ⟨_, _, Or.inr (Or.inl ⟨h13, b1, o1, F1, fbm _ _ 1 _ _, fbm _ _ 1 _ _⟩), _, (fun j hj => (fm_u2 u1 _ _ j hj).trans (hu1 j hj)), rfl, rfl, rfl, rfl⟩)
    · refine fj_st (st' := .int 0 :: []) rfl ?_
      refine fj_if_ne (tgt := 69) C dX6_findPlace_53 (by decide) (fun h => absurd (by decide) h) (fun _ => ?_)
      refine fj_aload_n C 1 dX6_findPlace_56 rfl rfl ?_
      refine fj_iload_n C 0 dX6_findPlace_57 rfl rfl ?_
      refine fj_bipush (v := 9) C dX6_findPlace_58 (by decide) ?_
      refine fj_iload_n C 3 dX6_findPlace_60 rfl rfl ?_
      refine fj_callVw (As := [.int (nI (9 * cj + ci)), .int 9, .int (nI cj)]) (rest := []) C (d_X6_findSides l D ty t0 bd a g u1 (nI (9 * cj + ci)) 9 (nI cj) (9 * cj + ci) cj 9 rfl rfl rfl (by omega) (by omega) (by omega) (by decide)) (cwV 3 C.2.2.2.2.1 gX6_findPlace_X6_findSides rfl rfl rfl (by decide +kernel) ⟨Nat.le_of_ble_eq_true rfl, Nat.le_of_ble_eq_true rfl⟩) ⟨0, 6, _, _, fm_at0 _ _ _ _ _, rfl, rfl⟩ rfl (Nat.le_of_ble_eq_true rfl) dX6_findPlace_61 ⟨Nat.zero_le _, Nat.zero_le _⟩ (fun v9 w9 hp9 => ?_)
      rcases hp9 with ⟨b9, o9, F9, u9, hu9, e9, e10, e11, e12, rfl, rfl⟩ | ⟨F9, u9, hu9, rfl, rfl⟩
      · refine fj_st (st' := .int 1 :: []) rfl ?_
        refine fj_if_ne (tgt := 69) C dX6_findPlace_64 (by decide) (fun _ => ?_) (fun h => absurd h (by decide))
        refine fj_aload_n C 1 dX6_findPlace_69 rfl rfl ?_
        have g1 := F9.1; have g2 := F9.2.1; have g3 := F9.2.2.2.2.1; have g4 := F9.2.2.2.2.2.1
        refine fj_sipush (v := 840) C dX6_findPlace_70 (by decide) ?_
        refine fj_aload_n C 1 dX6_findPlace_73 rfl rfl ?_
        refine fj_get (Cn := RX6) (T := TX6) (N := 44) (ci := 6) (v := .ref (bd 15)) C iX6 0 (fm_at0 _ _ _ _ _) rfl 20 (by decide) kX6_61 rfl dX6_findPlace_74 ?_
        refine fj_aload_n C 1 dX6_findPlace_77 rfl rfl ?_
        refine fj_get (Cn := RX6) (T := TX6) (N := 44) (ci := 6) (v := .int (u9 9)) C iX6 0 (fm_at0 _ _ _ _ _) rfl 38 (by decide) kX6_292 rfl dX6_findPlace_78 ?_
        refine fj_at (y := nI (9 * cj + ci - b9 * 9)) e9 ?_
        refine fj_iald (f := (a 15)) C 15 (fm_at15 _ _ _ _ _) (vp_in_nI (by omega) (by decide)) dX6_findPlace_81 ?_
        refine fj_at (y := a 15 (9 * cj + ci - b9 * 9)) (by rw [nI_clamp (by omega)]) ?_
        refine fj_imul C dX6_findPlace_82 ?_
        refine fj_sipush (v := 840) C dX6_findPlace_83 (by decide) ?_
        refine fj_aload_n C 1 dX6_findPlace_86 rfl rfl ?_
        refine fj_get (Cn := RX6) (T := TX6) (N := 44) (ci := 6) (v := .int (u9 12)) C iX6 0 (fm_at0 _ _ _ _ _) rfl 41 (by decide) kX6_301 rfl dX6_findPlace_87 ?_
        refine fj_at (y := nI (b9 + o9)) e12 ?_
        refine fj_idiv C dX6_findPlace_90 (nI_ne0 (by omega) (by omega)) ?_
        refine fj_aload_n C 1 dX6_findPlace_91 rfl rfl ?_
        refine fj_get (Cn := RX6) (T := TX6) (N := 44) (ci := 6) (v := .ref (bd 15)) C iX6 0 (fm_at0 _ _ _ _ _) rfl 20 (by decide) kX6_61 rfl dX6_findPlace_92 ?_
        refine fj_aload_n C 1 dX6_findPlace_95 rfl rfl ?_
        refine fj_get (Cn := RX6) (T := TX6) (N := 44) (ci := 6) (v := .int (u9 10)) C iX6 0 (fm_at0 _ _ _ _ _) rfl 39 (by decide) kX6_295 rfl dX6_findPlace_96 ?_
        refine fj_at (y := nI (9 * cj + ci + o9 * 9)) e10 ?_
        refine fj_iald (f := (a 15)) C 15 (fm_at15 _ _ _ _ _) (vp_in_nI (by omega) (by decide)) dX6_findPlace_99 ?_
        refine fj_at (y := a 15 (9 * cj + ci + o9 * 9)) (by rw [nI_clamp (by omega)]) ?_
        refine fj_aload_n C 1 dX6_findPlace_100 rfl rfl ?_
        refine fj_get (Cn := RX6) (T := TX6) (N := 44) (ci := 6) (v := .ref (bd 15)) C iX6 0 (fm_at0 _ _ _ _ _) rfl 20 (by decide) kX6_61 rfl dX6_findPlace_101 ?_
        refine fj_aload_n C 1 dX6_findPlace_104 rfl rfl ?_
        refine fj_get (Cn := RX6) (T := TX6) (N := 44) (ci := 6) (v := .int (u9 9)) C iX6 0 (fm_at0 _ _ _ _ _) rfl 38 (by decide) kX6_292 rfl dX6_findPlace_105 ?_
        refine fj_at (y := nI (9 * cj + ci - b9 * 9)) e9 ?_
        refine fj_iald (f := (a 15)) C 15 (fm_at15 _ _ _ _ _) (vp_in_nI (by omega) (by decide)) dX6_findPlace_108 ?_
        refine fj_at (y := a 15 (9 * cj + ci - b9 * 9)) (by rw [nI_clamp (by omega)]) ?_
        refine fj_isub C dX6_findPlace_109 ?_
        refine fj_imul C dX6_findPlace_110 ?_
        refine fj_aload_n C 1 dX6_findPlace_111 rfl rfl ?_
        refine fj_get (Cn := RX6) (T := TX6) (N := 44) (ci := 6) (v := .int (u9 11)) C iX6 0 (fm_at0 _ _ _ _ _) rfl 40 (by decide) kX6_298 rfl dX6_findPlace_112 ?_
        refine fj_at (y := nI b9) e11 ?_
        refine fj_imul C dX6_findPlace_115 ?_
        refine fj_iadd C dX6_findPlace_116 ?_
        refine fj_put (Cn := RX6) (T := TX6) (N := 44) (ci := 6) C iX6 tyX6 tyX6_ok nmX6 0 (fm_at0 _ _ _ _ _) rfl 42 (by decide) kX6_304 rfl rfl rfl (Nat.le_of_ble_eq_true rfl) dX6_findPlace_117 (fm_si0_42 _ _ _ _ _ _) ?_
        refine fj_aload_n C 1 dX6_findPlace_120 rfl rfl ?_
        refine fj_sipush (v := 840) C dX6_findPlace_121 (by decide) ?_
        refine fj_aload_n C 1 dX6_findPlace_124 rfl rfl ?_
        refine fj_get (Cn := RX6) (T := TX6) (N := 44) (ci := 6) (v := .ref (bd 16)) C iX6 0 (fm_at0 _ _ _ _ _) rfl 21 (by decide) kX6_64 rfl dX6_findPlace_125 ?_
        refine fj_aload_n C 1 dX6_findPlace_128 rfl rfl ?_
        refine fj_get (Cn := RX6) (T := TX6) (N := 44) (ci := 6) (v := .int (u9 9)) C iX6 0 (fm_at0 _ _ _ _ _) rfl 38 (by decide) kX6_292 rfl dX6_findPlace_129 ?_
        refine fj_at (y := nI (9 * cj + ci - b9 * 9)) e9 ?_
        refine fj_iald (f := (a 16)) C 16 (fm_at16 _ _ _ _ _) (vp_in_nI (by omega) (by decide)) dX6_findPlace_132 ?_
        refine fj_at (y := a 16 (9 * cj + ci - b9 * 9)) (by rw [nI_clamp (by omega)]) ?_
        refine fj_imul C dX6_findPlace_133 ?_
        refine fj_sipush (v := 840) C dX6_findPlace_134 (by decide) ?_
        refine fj_aload_n C 1 dX6_findPlace_137 rfl rfl ?_
        refine fj_get (Cn := RX6) (T := TX6) (N := 44) (ci := 6) (v := .int (u9 12)) C iX6 0 (fm_at0 _ _ _ _ _) rfl 41 (by decide) kX6_301 rfl dX6_findPlace_138 ?_
        refine fj_at (y := nI (b9 + o9)) e12 ?_
        refine fj_idiv C dX6_findPlace_141 (nI_ne0 (by omega) (by omega)) ?_
        refine fj_aload_n C 1 dX6_findPlace_142 rfl rfl ?_
        refine fj_get (Cn := RX6) (T := TX6) (N := 44) (ci := 6) (v := .ref (bd 16)) C iX6 0 (fm_at0 _ _ _ _ _) rfl 21 (by decide) kX6_64 rfl dX6_findPlace_143 ?_
        refine fj_aload_n C 1 dX6_findPlace_146 rfl rfl ?_
        refine fj_get (Cn := RX6) (T := TX6) (N := 44) (ci := 6) (v := .int (u9 10)) C iX6 0 (fm_at0 _ _ _ _ _) rfl 39 (by decide) kX6_295 rfl dX6_findPlace_147 ?_
        refine fj_at (y := nI (9 * cj + ci + o9 * 9)) e10 ?_
        refine fj_iald (f := (a 16)) C 16 (fm_at16 _ _ _ _ _) (vp_in_nI (by omega) (by decide)) dX6_findPlace_150 ?_
        refine fj_at (y := a 16 (9 * cj + ci + o9 * 9)) (by rw [nI_clamp (by omega)]) ?_
        refine fj_aload_n C 1 dX6_findPlace_151 rfl rfl ?_
        refine fj_get (Cn := RX6) (T := TX6) (N := 44) (ci := 6) (v := .ref (bd 16)) C iX6 0 (fm_at0 _ _ _ _ _) rfl 21 (by decide) kX6_64 rfl dX6_findPlace_152 ?_
        refine fj_aload_n C 1 dX6_findPlace_155 rfl rfl ?_
        refine fj_get (Cn := RX6) (T := TX6) (N := 44) (ci := 6) (v := .int (u9 9)) C iX6 0 (fm_at0 _ _ _ _ _) rfl 38 (by decide) kX6_292 rfl dX6_findPlace_156 ?_
        refine fj_at (y := nI (9 * cj + ci - b9 * 9)) e9 ?_
        refine fj_iald (f := (a 16)) C 16 (fm_at16 _ _ _ _ _) (vp_in_nI (by omega) (by decide)) dX6_findPlace_159 ?_
        refine fj_at (y := a 16 (9 * cj + ci - b9 * 9)) (by rw [nI_clamp (by omega)]) ?_
        refine fj_isub C dX6_findPlace_160 ?_
        refine fj_imul C dX6_findPlace_161 ?_
        refine fj_aload_n C 1 dX6_findPlace_162 rfl rfl ?_
        refine fj_get (Cn := RX6) (T := TX6) (N := 44) (ci := 6) (v := .int (u9 11)) C iX6 0 (fm_at0 _ _ _ _ _) rfl 40 (by decide) kX6_298 rfl dX6_findPlace_163 ?_
        refine fj_at (y := nI b9) e11 ?_
        refine fj_imul C dX6_findPlace_166 ?_
        refine fj_iadd C dX6_findPlace_167 ?_
        refine fj_put (Cn := RX6) (T := TX6) (N := 44) (ci := 6) C iX6 tyX6 tyX6_ok nmX6 0 (fm_at0 _ _ _ _ _) rfl 43 (by decide) kX6_307 rfl rfl rfl (Nat.le_of_ble_eq_true rfl) dX6_findPlace_168 (fm_si0_43 _ _ _ _ _ _) ?_
        refine fj_iconst (v := 1) C dX6_findPlace_171 (by decide) ?_
        exact fj_zret C E9 rfl dX6_findPlace_172 (Or.inl ⟨_, _, Or.inr (Or.inr ⟨h13, F1, b9, o9, F9, fbm _ _ 9 _ _, fbm _ _ 9 _ _⟩), _, (fun j hj => (fm_u2 u9 _ _ j hj).trans (((hu9 j hj).trans (hu1 j hj)))), rfl, rfl, rfl, rfl⟩)
      · refine fj_st (st' := .int 0 :: []) rfl ?_
        refine fj_if_ne (tgt := 69) C dX6_findPlace_64 (by decide) (fun h => absurd (by decide) h) (fun _ => ?_)
        refine fj_iconst (v := 0) C dX6_findPlace_67 (by decide) ?_
        exact fj_zret C E9 rfl dX6_findPlace_68 (Or.inr ⟨⟨h13, F1, F9⟩, u9, fun j hj => (hu9 j hj).trans (hu1 j hj), rfl, rfl⟩)
  · refine fj_aload_n C 1 dX6_findPlace_16 rfl rfl ?_
    refine fj_sipush (v := 840) C dX6_findPlace_17 (by decide) ?_
    refine fj_aload_n C 1 dX6_findPlace_20 rfl rfl ?_
    refine fj_get (Cn := RX6) (T := TX6) (N := 44) (ci := 6) (v := .ref (bd 15)) C iX6 0 (fm_at0 _ _ _ _ _) rfl 20 (by decide) kX6_61 rfl dX6_findPlace_21 ?_
    refine fj_iload_n C 0 dX6_findPlace_24 rfl rfl ?_
    refine fj_iald (f := (a 15)) C 15 (fm_at15 _ _ _ _ _) (vp_in_nI (by omega) (by decide)) dX6_findPlace_25 ?_
    refine fj_at (y := a 15 (9 * cj + ci)) (by rw [nI_clamp (by omega)]) ?_
    refine fj_imul C dX6_findPlace_26 ?_
    refine fj_put (Cn := RX6) (T := TX6) (N := 44) (ci := 6) C iX6 tyX6 tyX6_ok nmX6 0 (fm_at0 _ _ _ _ _) rfl 42 (by decide) kX6_304 rfl rfl rfl (Nat.le_of_ble_eq_true rfl) dX6_findPlace_27 (fm_si0_42 _ _ _ _ _ _) ?_
    refine fj_aload_n C 1 dX6_findPlace_30 rfl rfl ?_
    refine fj_sipush (v := 840) C dX6_findPlace_31 (by decide) ?_
    refine fj_aload_n C 1 dX6_findPlace_34 rfl rfl ?_
    refine fj_get (Cn := RX6) (T := TX6) (N := 44) (ci := 6) (v := .ref (bd 16)) C iX6 0 (fm_at0 _ _ _ _ _) rfl 21 (by decide) kX6_64 rfl dX6_findPlace_35 ?_
    refine fj_iload_n C 0 dX6_findPlace_38 rfl rfl ?_
    refine fj_iald (f := (a 16)) C 16 (fm_at16 _ _ _ _ _) (vp_in_nI (by omega) (by decide)) dX6_findPlace_39 ?_
    refine fj_at (y := a 16 (9 * cj + ci)) (by rw [nI_clamp (by omega)]) ?_
    refine fj_imul C dX6_findPlace_40 ?_
    refine fj_put (Cn := RX6) (T := TX6) (N := 44) (ci := 6) C iX6 tyX6 tyX6_ok nmX6 0 (fm_at0 _ _ _ _ _) rfl 43 (by decide) kX6_307 rfl rfl rfl (Nat.le_of_ble_eq_true rfl) dX6_findPlace_41 (fm_si0_43 _ _ _ _ _ _) ?_
    refine fj_iconst (v := 1) C dX6_findPlace_44 (by decide) ?_
    exact fj_zret C E9 rfl dX6_findPlace_45 (Or.inl ⟨_, _, Or.inl ⟨h13, rfl, rfl⟩, _, fm_u2 n _ _, rfl, rfl, rfl, rfl⟩)

set_option maxHeartbeats 4000000 in
set_option maxRecDepth 100000 in
theorem d_X6_lies (l : Launch) (D : va_G) (ty : Nat → ClassId) (t0 : Nat → Nat) (bd : Nat → Nat) (a : Nat → Nat → Int32) (g : Nat → Nat → Int64) (n : Nat → Int32)  (i : Int32) (j : Int32) (q : Int32)  : fc l yX6_lies wsX6_lies (fj_rm 2 47 0 0) D ty t0 [.ref (bd 0), .int i, .int j, .int q] (fm_w bd ty a g n) 0 0 (fun v w => (¬ (((0 ≤ i ∧ i ≤ 8) ∧ (0 ≤ j ∧ j ≤ 8)) ∧ (0 ≤ q ∧ q ≤ 2)) ∧ v = some (.int (-1002)) ∧ w = fm_w bd ty a g n) ∨ (∃ ci cj, ci ≤ 8 ∧ cj ≤ 8 ∧ i = nI ci ∧ j = nI cj ∧ (0 ≤ q ∧ q ≤ 2) ∧ ((q = 2 ∧ v = some (.int (if a 14 (9 * cj + ci) = 0 then 0 else 1)) ∧ w = fm_w bd ty a g n) ∨ (¬ q = 2 ∧ ∃ u : Nat → Int32, (∀ j, j < 9 → u j = n j) ∧ ((∃ x y, LIE (a 14) (a 15) (a 16) ci cj x y ∧ ((q = 0 ∧ v = some (.int x)) ∨ (¬ q = 0 ∧ v = some (.int y)))) ∨ (NOL (a 14) ci cj ∧ v = some (.int (-1003)))) ∧ w = fm_w bd ty a g u)))) := by
  refine fc_start (own := RX6) (cc := cX6_lies) (maxL := 4) (ret := (some .int)) (by decide) rfl (Nat.le_of_ble_eq_true rfl) rfl ?_
  intro p e s m args below meth c Q A C hmn E9
  have kL314 : Cond.constantLong RX6 314 (2) ∈ wsX6_lies := ptX6_lies_woX6_lies _ (by decide +kernel)
  have iX6 : ∀ w ∈ u_ws RX6 TX6 44, w ∈ wsX6_lies := ptX6_lies_wsX60
  have kX6_307 : Cond.fieldLink RX6 307 "FreeLandModel" "lieY" "I" ∈ wsX6_lies := ptX6_lies_woX6_lies _ (by decide +kernel)
  have kX6_304 : Cond.fieldLink RX6 304 "FreeLandModel" "lieX" "I" ∈ wsX6_lies := ptX6_lies_woX6_lies _ (by decide +kernel)
  have kX6_58 : Cond.fieldLink RX6 58 "FreeLandModel" "known" "[Z" ∈ wsX6_lies := ptX6_lies_woX6_lies _ (by decide +kernel)
  refine fj_lv (lv' := [(0, .ref (bd 0)), (1, .int i), (2, .int j), (3, .int q)]) [0, 1, 2, 3] rfl ?_
  refine fj_iload_n C 1 dX6_lies_0 rfl rfl ?_
  refine fj_iload_n C 2 dX6_lies_1 rfl rfl ?_
  refine fj_callSw (As := [.int i, .int j]) (rest := []) C (d_X6_isCorner l D ty t0 (fm_w bd ty a g n) i j) (va_cwS 2 C.2.2.2.2.1 gX6_lies_X6_isCorner rfl rfl rfl (by decide +kernel) ⟨Nat.le_of_ble_eq_true rfl, Nat.le_of_ble_eq_true rfl⟩)  rfl (Nat.le_of_ble_eq_true rfl) dX6_lies_2 ⟨Nat.zero_le _, Nat.zero_le _⟩ (fun v9 w9 hp9 => ?_)
  obtain ⟨rfl, rfl⟩ := hp9
  refine fj_st (st' := .int (if ((0 ≤ i ∧ i ≤ 8) ∧ (0 ≤ j ∧ j ≤ 8)) then 1 else 0) :: []) rfl ?_
  refine fj_ifb_eq (tgt := 20) C dX6_lies_5 (by decide) (fun h5 => ?_) (fun h5 => ?_)
  · refine fj_sipush (v := (-1002)) C dX6_lies_20 (by decide) ?_
    exact fj_iret C E9 dX6_lies_23 (Or.inl ⟨by grind, rfl, rfl⟩)
  · obtain ⟨ci, hci, rfl⟩ := fx_le8 h5.1 (N := 8) rfl (by decide)
    obtain ⟨cj, hcj, rfl⟩ := fx_le8 h5.2 (N := 8) rfl (by decide)
    refine fj_iload_n C 3 dX6_lies_8 rfl rfl ?_
    refine fj_i2l C dX6_lies_9 ?_
    refine fj_lconst (v := 0) C dX6_lies_10 (by decide) ?_
    refine fj_ldc2 (v := 2) C dX6_lies_11 kL314 ?_
    refine fj_callSw (As := [.long q.toInt64, .long 0, .long 2]) (rest := []) C (d_X6_inI l D ty t0 (fm_w bd ty a g n) q 0 2 0 2 (by decide) (by decide)) (va_cwS 3 C.2.2.2.2.1 gX6_lies_X6_in rfl rfl rfl (by decide +kernel) ⟨Nat.le_of_ble_eq_true rfl, Nat.le_of_ble_eq_true rfl⟩)  rfl (Nat.le_of_ble_eq_true rfl) dX6_lies_14 ⟨Nat.zero_le _, Nat.zero_le _⟩ (fun v9 w9 hp9 => ?_)
    obtain ⟨rfl, rfl⟩ := hp9
    refine fj_st (st' := .int (if (0 ≤ q ∧ q ≤ 2) then 1 else 0) :: []) rfl ?_
    refine fj_ifb_ne (tgt := 24) C dX6_lies_17 (by decide) (fun h17 => ?_) (fun h17 => ?_)
    · refine fj_iload_n C 3 dX6_lies_24 rfl rfl ?_
      refine fj_iconst (v := 2) C dX6_lies_25 (by decide) ?_
      refine fj_icmp_ne (tgt := 49) C dX6_lies_26 (by decide) (fun h26 => ?_) (fun h26 => ?_)
      · refine fj_aload_n C 0 dX6_lies_49 rfl rfl ?_
        refine fj_iload_n C 1 dX6_lies_50 rfl rfl ?_
        refine fj_iload_n C 2 dX6_lies_51 rfl rfl ?_
        refine fj_callVw (As := [.int (nI ci), .int (nI cj)]) (rest := []) C (d_X6_findPlace l D ty t0 bd a g n (nI ci) (nI cj) ci cj rfl rfl hci hcj) (cwV 2 C.2.2.2.2.1 gX6_lies_X6_findPlace rfl rfl rfl (by decide +kernel) ⟨Nat.le_of_ble_eq_true rfl, Nat.le_of_ble_eq_true rfl⟩) ⟨0, 6, _, _, fm_at0 _ _ _ _ _, rfl, rfl⟩ rfl (Nat.le_of_ble_eq_true rfl) dX6_lies_52 ⟨Nat.zero_le _, Nat.zero_le _⟩ (fun v9 w9 hp9 => ?_)
        rcases hp9 with ⟨x0, y0, L0, u0, hu0, ex0, ey0, rfl, rfl⟩ | ⟨L0, u0, hu0, rfl, rfl⟩
        · refine fj_st (st' := .int 1 :: []) rfl ?_
          refine fj_if_ne (tgt := 64) C dX6_lies_55 (by decide) (fun _ => ?_) (fun h => absurd h (by decide))
          refine fj_iload_n C 3 dX6_lies_64 rfl rfl ?_
          refine fj_if_ne (tgt := 75) C dX6_lies_65 (by decide) (fun h65 => ?_) (fun h65 => ?_)
          · refine fj_aload_n C 0 dX6_lies_75 rfl rfl ?_
            refine fj_get (Cn := RX6) (T := TX6) (N := 44) (ci := 6) (v := .int (u0 14)) C iX6 0 (fm_at0 _ _ _ _ _) rfl 43 (by decide) kX6_307 rfl dX6_lies_76 ?_
            refine fj_at (y := y0) ey0 ?_
            exact fj_iret C E9 dX6_lies_79 (Or.inr ⟨ci, cj, hci, hcj, rfl, rfl, h17, Or.inr ⟨h26, u0, hu0, Or.inl ⟨x0, y0, L0, by first | exact Or.inl ⟨h65, rfl⟩ | exact Or.inr ⟨h65, rfl⟩⟩, rfl⟩⟩)
          · refine fj_aload_n C 0 dX6_lies_68 rfl rfl ?_
            refine fj_get (Cn := RX6) (T := TX6) (N := 44) (ci := 6) (v := .int (u0 13)) C iX6 0 (fm_at0 _ _ _ _ _) rfl 42 (by decide) kX6_304 rfl dX6_lies_69 ?_
            refine fj_at (y := x0) ex0 ?_
            refine fj_goto (tgt := 79) C dX6_lies_72 (by decide) ?_
            exact fj_iret C E9 dX6_lies_79 (Or.inr ⟨ci, cj, hci, hcj, rfl, rfl, h17, Or.inr ⟨h26, u0, hu0, Or.inl ⟨x0, y0, L0, by first | exact Or.inl ⟨h65, rfl⟩ | exact Or.inr ⟨h65, rfl⟩⟩, rfl⟩⟩)
        · refine fj_st (st' := .int 0 :: []) rfl ?_
          refine fj_if_ne (tgt := 64) C dX6_lies_55 (by decide) (fun h => absurd (by decide) h) (fun _ => ?_)
          refine fj_sipush (v := (-1003)) C dX6_lies_58 (by decide) ?_
          refine fj_goto (tgt := 79) C dX6_lies_61 (by decide) ?_
          exact fj_iret C E9 dX6_lies_79 (Or.inr ⟨ci, cj, hci, hcj, rfl, rfl, h17, Or.inr ⟨h26, u0, hu0, Or.inr ⟨L0, rfl⟩, rfl⟩⟩)
      · refine fj_aload_n C 0 dX6_lies_29 rfl rfl ?_
        refine fj_get (Cn := RX6) (T := TX6) (N := 44) (ci := 6) (v := .ref (bd 14)) C iX6 0 (fm_at0 _ _ _ _ _) rfl 19 (by decide) kX6_58 rfl dX6_lies_30 ?_
        refine fj_bipush (v := 9) C dX6_lies_33 (by decide) ?_
        refine fj_iload_n C 2 dX6_lies_35 rfl rfl ?_
        refine fj_imul C dX6_lies_36 ?_
        refine fj_at (y := nI (9 * cj)) (pk_mul 9 cj) ?_
        refine fj_iload_n C 1 dX6_lies_37 rfl rfl ?_
        refine fj_iadd C dX6_lies_38 ?_
        refine fj_at (y := nI (9 * cj + ci)) (nI_add (9 * cj) ci) ?_
        refine fj_zald (f := (a 14)) C 14 (fm_at14 _ _ _ _ _) (vp_in_nI (by omega) (by decide)) dX6_lies_39 ?_
        refine fj_at (y := a 14 (9 * cj + ci)) (by rw [nI_clamp (by omega)]) ?_
        refine fj_if_eq (tgt := 47) C dX6_lies_40 (by decide) (fun h40 => ?_) (fun h40 => ?_)
        · refine fj_iconst (v := 0) C dX6_lies_47 (by decide) ?_
          exact fj_iret C E9 dX6_lies_48 (Or.inr ⟨ci, cj, hci, hcj, rfl, rfl, h17, Or.inl ⟨h26, by first | (rw [if_pos h40]; done) | (rw [if_neg h40]; done), rfl⟩⟩)
        · refine fj_iconst (v := 1) C dX6_lies_43 (by decide) ?_
          refine fj_goto (tgt := 48) C dX6_lies_44 (by decide) ?_
          exact fj_iret C E9 dX6_lies_48 (Or.inr ⟨ci, cj, hci, hcj, rfl, rfl, h17, Or.inl ⟨h26, by first | (rw [if_pos h40]; done) | (rw [if_neg h40]; done), rfl⟩⟩)
    · refine fj_sipush (v := (-1002)) C dX6_lies_20 (by decide) ?_
      exact fj_iret C E9 dX6_lies_23 (Or.inl ⟨by grind, rfl, rfl⟩)

set_option maxHeartbeats 4000000 in
set_option maxRecDepth 100000 in
theorem d_X6_area (l : Launch) (D : va_G) (ty : Nat → ClassId) (t0 : Nat → Nat) (bd : Nat → Nat) (a : Nat → Nat → Int32) (g : Nat → Nat → Int64) (n : Nat → Int32)  (q : Int32)  : fc l yX6_area wsX6_area (fj_rm 2 47 0 0) D ty t0 [.ref (bd 0), .int q] (fm_w bd ty a g n) 0 0 (fun v w => (¬ (0 ≤ q ∧ q ≤ 63) ∧ v = some (.long (-1001)) ∧ w = fm_w bd ty a g n) ∨ (∃ k, k ≤ 63 ∧ q = nI k ∧ ∃ u : Nat → Int32, (∀ j, j < 9 → u j = n j) ∧ w = fm_w bd ty a g u ∧ ((∃ x y x0 y0 x1 y1 x2 y2 x3 y3, LIE (a 14) (a 15) (a 16) (k % 8) (k / 8 + 1) x y ∧ LIE (a 14) (a 15) (a 16) (k % 8) (k / 8) x0 y0 ∧ LIE (a 14) (a 15) (a 16) (k % 8 + 1) (k / 8) x1 y1 ∧ LIE (a 14) (a 15) (a 16) (k % 8 + 1) (k / 8 + 1) x2 y2 ∧ LIE (a 14) (a 15) (a 16) (k % 8) (k / 8 + 1) x3 y3 ∧ v = some (.long (cs5 x y x0 y0 x1 y1 x2 y2 x3 y3))) ∨ ((NOL (a 14) (k % 8) (k / 8) ∨ NOL (a 14) (k % 8 + 1) (k / 8) ∨ NOL (a 14) (k % 8 + 1) (k / 8 + 1) ∨ NOL (a 14) (k % 8) (k / 8 + 1)) ∧ v = some (.long (-1003)))))) := by
  refine fc_start (own := RX6) (cc := cX6_area) (maxL := 12) (ret := (some .long)) (by decide) rfl (Nat.le_of_ble_eq_true rfl) rfl ?_
  intro p e s m args below meth c Q A C hmn E9
  have iX6 : ∀ w ∈ u_ws RX6 TX6 44, w ∈ wsX6_area := ptX6_area_wsX60
  have kX6_304 : Cond.fieldLink RX6 304 "FreeLandModel" "lieX" "I" ∈ wsX6_area := ptX6_area_woX6_area _ (by decide +kernel)
  have kX6_307 : Cond.fieldLink RX6 307 "FreeLandModel" "lieY" "I" ∈ wsX6_area := ptX6_area_woX6_area _ (by decide +kernel)
  have kL321 : Cond.constantLong RX6 321 (-1003) ∈ wsX6_area := ptX6_area_woX6_area _ (by decide +kernel)
  have kL319 : Cond.constantLong RX6 319 (-1001) ∈ wsX6_area := ptX6_area_woX6_area _ (by decide +kernel)
  refine fj_lv (lv' := [(0, .ref (bd 0)), (1, .int q)]) [0, 1] rfl ?_
  refine fj_iload_n C 1 dX6_area_0 rfl rfl ?_
  refine fj_callSw (As := [.int q]) (rest := []) C (d_X6_isQuarter l D ty t0 (fm_w bd ty a g n) q) (va_cwS 1 C.2.2.2.2.1 gX6_area_X6_isQuarter rfl rfl rfl (by decide +kernel) ⟨Nat.le_of_ble_eq_true rfl, Nat.le_of_ble_eq_true rfl⟩)  rfl (Nat.le_of_ble_eq_true rfl) dX6_area_1 ⟨Nat.zero_le _, Nat.zero_le _⟩ (fun v9 w9 hp9 => ?_)
  obtain ⟨rfl, rfl⟩ := hp9
  refine fj_st (st' := .int (if (0 ≤ q ∧ q ≤ 63) then 1 else 0) :: []) rfl ?_
  refine fj_ifb_ne (tgt := 11) C dX6_area_4 (by decide) (fun h4 => ?_) (fun h4 => ?_)
  · obtain ⟨k, hk, rfl⟩ := fx_le8 h4 (N := 63) rfl (by decide)
    refine fj_iload_n C 1 dX6_area_11 rfl rfl ?_
    refine fj_bipush (v := 8) C dX6_area_12 (by decide) ?_
    refine fj_irem C dX6_area_14 (by decide) ?_
    refine fj_at (y := nI (k % 8)) (q_mod k (by omega)) ?_
    refine fj_istore_n (lv' := [(2, .int (nI (k % 8))), (0, .ref (bd 0)), (1, .int (nI k))]) C dX6_area_15 rfl (by decide) rfl ?_
    refine fj_iload_n C 2 dX6_area_16 rfl rfl ?_
    refine fj_bipush (v := 8) C dX6_area_17 (by decide) ?_
    refine fj_idiv C dX6_area_19 (by decide) ?_
    refine fj_at (y := nI (k / 8)) (q_div k (by omega)) ?_
    refine fj_istore_n (lv' := [(3, .int (nI (k / 8))), (2, .int (nI (k % 8))), (0, .ref (bd 0)), (1, .int (nI k))]) C dX6_area_20 rfl (by decide) rfl ?_
    refine fj_lconst (v := 0) C dX6_area_21 (by decide) ?_
    refine fj_lstore (lv' := [(4, .long 0), (3, .int (nI (k / 8))), (2, .int (nI (k % 8))), (0, .ref (bd 0)), (1, .int (nI k))]) C dX6_area_22 (by decide) rfl ?_
    refine fj_aload_n C 3 dX6_area_24 rfl rfl ?_
    refine fj_iload_n C 2 dX6_area_25 rfl rfl ?_
    refine fj_iload_n C 1 dX6_area_26 rfl rfl ?_
    refine fj_iconst (v := 1) C dX6_area_27 (by decide) ?_
    refine fj_iadd C dX6_area_28 ?_
    refine fj_at (y := nI (k / 8 + 1)) (nI_1 _) ?_
    refine fj_callVw (As := [.int (nI (k % 8)), .int (nI (k / 8 + 1))]) (rest := []) C (d_X6_findPlace l D ty t0 bd a g n (nI (k % 8)) (nI (k / 8 + 1)) (k % 8) (k / 8 + 1) rfl rfl (by omega) (by omega)) (cwV 2 C.2.2.2.2.1 gX6_area_X6_findPlace rfl rfl rfl (by decide +kernel) ⟨Nat.le_of_ble_eq_true rfl, Nat.le_of_ble_eq_true rfl⟩) ⟨0, 6, _, _, fm_at0 _ _ _ _ _, rfl, rfl⟩ rfl (Nat.le_of_ble_eq_true rfl) dX6_area_29 ⟨Nat.zero_le _, Nat.zero_le _⟩ (fun v9 w9 hp9 => ?_)
    rcases hp9 with ⟨x0, y0, L0, u0, hu0, ex0, ey0, rfl, rfl⟩ | ⟨L0, u0, hu0, rfl, rfl⟩
    · refine fj_st (st' := .int 1 :: []) rfl ?_
      refine fj_istore (lv' := [(6, .int 1), (4, .long 0), (3, .int (nI (k / 8))), (2, .int (nI (k % 8))), (0, .ref (bd 0)), (1, .int (nI k))]) C dX6_area_32 (by decide) rfl ?_
      refine fj_aload_n C 4 dX6_area_34 rfl rfl ?_
      refine fj_get (Cn := RX6) (T := TX6) (N := 44) (ci := 6) (v := .int (u0 13)) C iX6 0 (fm_at0 _ _ _ _ _) rfl 42 (by decide) kX6_304 rfl dX6_area_35 ?_
      refine fj_at (y := x0) ex0 ?_
      refine fj_i2l C dX6_area_38 ?_
      refine fj_lstore (lv' := [(7, .long x0.toInt64), (6, .int 1), (4, .long 0), (3, .int (nI (k / 8))), (2, .int (nI (k % 8))), (0, .ref (bd 0)), (1, .int (nI k))]) C dX6_area_39 (by decide) rfl ?_
      refine fj_aload_n C 5 dX6_area_41 rfl rfl ?_
      refine fj_get (Cn := RX6) (T := TX6) (N := 44) (ci := 6) (v := .int (u0 14)) C iX6 0 (fm_at0 _ _ _ _ _) rfl 43 (by decide) kX6_307 rfl dX6_area_42 ?_
      refine fj_at (y := y0) ey0 ?_
      refine fj_i2l C dX6_area_45 ?_
      refine fj_lstore (lv' := [(9, .long y0.toInt64), (7, .long x0.toInt64), (6, .int 1), (4, .long 0), (3, .int (nI (k / 8))), (2, .int (nI (k % 8))), (0, .ref (bd 0)), (1, .int (nI k))]) C dX6_area_46 (by decide) rfl ?_
      refine fj_iconst (v := 0) C dX6_area_48 (by decide) ?_
      refine fj_istore (lv' := [(11, .int 0), (9, .long y0.toInt64), (7, .long x0.toInt64), (6, .int 1), (4, .long 0), (3, .int (nI (k / 8))), (2, .int (nI (k % 8))), (0, .ref (bd 0)), (1, .int (nI k))]) C dX6_area_49 (by decide) rfl ?_
      refine fj_iload C 0 dX6_area_51 rfl ?_
      refine fj_iconst (v := 4) C dX6_area_53 (by decide) ?_
      refine fj_icmp_ge (tgt := 150) C dX6_area_54 (by decide) (fun h => absurd h (by decide)) (fun _ => ?_)
      refine fj_aload_n C 7 dX6_area_57 rfl rfl ?_
      refine fj_iload C 0 dX6_area_58 rfl ?_
      refine fj_iconst (v := 1) C dX6_area_60 (by decide) ?_
      refine fj_icmp_eq (tgt := 70) C dX6_area_61 (by decide) (fun h => absurd h (by decide)) (fun _ => ?_)
      refine fj_iload C 0 dX6_area_64 rfl ?_
      refine fj_iconst (v := 2) C dX6_area_66 (by decide) ?_
      refine fj_icmp_ne (tgt := 76) C dX6_area_67 (by decide) (fun _ => ?_) (fun h => absurd h (by decide))
      refine fj_iload_n C 6 dX6_area_76 rfl rfl ?_
      refine fj_iload C 0 dX6_area_77 rfl ?_
      refine fj_iconst (v := 1) C dX6_area_79 (by decide) ?_
      refine fj_icmp_le (tgt := 89) C dX6_area_80 (by decide) (fun _ => ?_) (fun h => absurd (by decide) h)
      refine fj_iload_n C 5 dX6_area_89 rfl rfl ?_
      refine fj_callVw (As := [.int (nI (k % 8)), .int (nI (k / 8))]) (rest := []) C (d_X6_findPlace l D ty t0 bd a g u0 (nI (k % 8)) (nI (k / 8)) (k % 8) (k / 8) rfl rfl (by omega) (by omega)) (cwV 2 C.2.2.2.2.1 gX6_area_X6_findPlace rfl rfl rfl (by decide +kernel) ⟨Nat.le_of_ble_eq_true rfl, Nat.le_of_ble_eq_true rfl⟩) ⟨0, 6, _, _, fm_at0 _ _ _ _ _, rfl, rfl⟩ rfl (Nat.le_of_ble_eq_true rfl) dX6_area_90 ⟨Nat.zero_le _, Nat.zero_le _⟩ (fun v9 w9 hp9 => ?_)
      rcases hp9 with ⟨x1, y1, L1, u1, hu1, ex1, ey1, rfl, rfl⟩ | ⟨L1, u1, hu1, rfl, rfl⟩
      · refine fj_st (st' := .int 1 :: []) rfl ?_
        refine fj_if_eq (tgt := 105) C dX6_area_93 (by decide) (fun h => absurd h (by decide)) (fun _ => ?_)
        refine fj_iload C 3 dX6_area_96 rfl ?_
        refine fj_if_eq (tgt := 105) C dX6_area_98 (by decide) (fun h => absurd h (by decide)) (fun _ => ?_)
        refine fj_iconst (v := 1) C dX6_area_101 (by decide) ?_
        refine fj_goto (tgt := 106) C dX6_area_102 (by decide) ?_
        refine fj_istore (lv' := [(6, .int 1), (11, .int 0), (9, .long y0.toInt64), (7, .long x0.toInt64), (4, .long 0), (3, .int (nI (k / 8))), (2, .int (nI (k % 8))), (0, .ref (bd 0)), (1, .int (nI k))]) C dX6_area_106 (by decide) rfl ?_
        refine fj_lload C 4 dX6_area_108 rfl ?_
        refine fj_lload C 3 dX6_area_110 rfl ?_
        refine fj_aload_n C 7 dX6_area_112 rfl rfl ?_
        refine fj_get (Cn := RX6) (T := TX6) (N := 44) (ci := 6) (v := .int (u1 14)) C iX6 0 (fm_at0 _ _ _ _ _) rfl 43 (by decide) kX6_307 rfl dX6_area_113 ?_
        refine fj_at (y := y1) ey1 ?_
        refine fj_i2l C dX6_area_116 ?_
        refine fj_lmul C dX6_area_117 ?_
        refine fj_aload_n C 7 dX6_area_118 rfl rfl ?_
        refine fj_get (Cn := RX6) (T := TX6) (N := 44) (ci := 6) (v := .int (u1 13)) C iX6 0 (fm_at0 _ _ _ _ _) rfl 42 (by decide) kX6_304 rfl dX6_area_119 ?_
        refine fj_at (y := x1) ex1 ?_
        refine fj_i2l C dX6_area_122 ?_
        refine fj_lload C 2 dX6_area_123 rfl ?_
        refine fj_lmul C dX6_area_125 ?_
        refine fj_lsub C dX6_area_126 ?_
        refine fj_ladd C dX6_area_127 ?_
        refine fj_lstore (lv' := [(4, .long (0 + ((x0.toInt64 * y1.toInt64) - (x1.toInt64 * y0.toInt64)))), (6, .int 1), (11, .int 0), (9, .long y0.toInt64), (7, .long x0.toInt64), (3, .int (nI (k / 8))), (2, .int (nI (k % 8))), (0, .ref (bd 0)), (1, .int (nI k))]) C dX6_area_128 (by decide) rfl ?_
        refine fj_aload_n C 7 dX6_area_130 rfl rfl ?_
        refine fj_get (Cn := RX6) (T := TX6) (N := 44) (ci := 6) (v := .int (u1 13)) C iX6 0 (fm_at0 _ _ _ _ _) rfl 42 (by decide) kX6_304 rfl dX6_area_131 ?_
        refine fj_at (y := x1) ex1 ?_
        refine fj_i2l C dX6_area_134 ?_
        refine fj_lstore (lv' := [(7, .long x1.toInt64), (4, .long (0 + ((x0.toInt64 * y1.toInt64) - (x1.toInt64 * y0.toInt64)))), (6, .int 1), (11, .int 0), (9, .long y0.toInt64), (3, .int (nI (k / 8))), (2, .int (nI (k % 8))), (0, .ref (bd 0)), (1, .int (nI k))]) C dX6_area_135 (by decide) rfl ?_
        refine fj_aload_n C 7 dX6_area_137 rfl rfl ?_
        refine fj_get (Cn := RX6) (T := TX6) (N := 44) (ci := 6) (v := .int (u1 14)) C iX6 0 (fm_at0 _ _ _ _ _) rfl 43 (by decide) kX6_307 rfl dX6_area_138 ?_
        refine fj_at (y := y1) ey1 ?_
        refine fj_i2l C dX6_area_141 ?_
        refine fj_lstore (lv' := [(9, .long y1.toInt64), (7, .long x1.toInt64), (4, .long (0 + ((x0.toInt64 * y1.toInt64) - (x1.toInt64 * y0.toInt64)))), (6, .int 1), (11, .int 0), (3, .int (nI (k / 8))), (2, .int (nI (k % 8))), (0, .ref (bd 0)), (1, .int (nI k))]) C dX6_area_142 (by decide) rfl ?_
        refine fj_iinc (v := 1) (lv' := [(11, .int 1), (9, .long y1.toInt64), (7, .long x1.toInt64), (4, .long (0 + ((x0.toInt64 * y1.toInt64) - (x1.toInt64 * y0.toInt64)))), (6, .int 1), (3, .int (nI (k / 8))), (2, .int (nI (k % 8))), (0, .ref (bd 0)), (1, .int (nI k))]) C 4 dX6_area_144 rfl (by decide) (by decide) rfl ?_
        refine fj_goto (tgt := 51) C dX6_area_147 (by decide) ?_
        refine fj_iload C 0 dX6_area_51 rfl ?_
        refine fj_iconst (v := 4) C dX6_area_53 (by decide) ?_
        refine fj_icmp_ge (tgt := 150) C dX6_area_54 (by decide) (fun h => absurd h (by decide)) (fun _ => ?_)
        refine fj_aload_n C 7 dX6_area_57 rfl rfl ?_
        refine fj_iload C 0 dX6_area_58 rfl ?_
        refine fj_iconst (v := 1) C dX6_area_60 (by decide) ?_
        refine fj_icmp_eq (tgt := 70) C dX6_area_61 (by decide) (fun _ => ?_) (fun h => absurd (by decide) h)
        refine fj_iload_n C 6 dX6_area_70 rfl rfl ?_
        refine fj_iconst (v := 1) C dX6_area_71 (by decide) ?_
        refine fj_iadd C dX6_area_72 ?_
        refine fj_at (y := nI (k % 8 + 1)) (nI_1 _) ?_
        refine fj_goto (tgt := 77) C dX6_area_73 (by decide) ?_
        refine fj_iload C 0 dX6_area_77 rfl ?_
        refine fj_iconst (v := 1) C dX6_area_79 (by decide) ?_
        refine fj_icmp_le (tgt := 89) C dX6_area_80 (by decide) (fun _ => ?_) (fun h => absurd (by decide) h)
        refine fj_iload_n C 5 dX6_area_89 rfl rfl ?_
        refine fj_callVw (As := [.int (nI (k % 8 + 1)), .int (nI (k / 8))]) (rest := []) C (d_X6_findPlace l D ty t0 bd a g u1 (nI (k % 8 + 1)) (nI (k / 8)) (k % 8 + 1) (k / 8) rfl rfl (by omega) (by omega)) (cwV 2 C.2.2.2.2.1 gX6_area_X6_findPlace rfl rfl rfl (by decide +kernel) ⟨Nat.le_of_ble_eq_true rfl, Nat.le_of_ble_eq_true rfl⟩) ⟨0, 6, _, _, fm_at0 _ _ _ _ _, rfl, rfl⟩ rfl (Nat.le_of_ble_eq_true rfl) dX6_area_90 ⟨Nat.zero_le _, Nat.zero_le _⟩ (fun v9 w9 hp9 => ?_)
        rcases hp9 with ⟨x2, y2, L2, u2, hu2, ex2, ey2, rfl, rfl⟩ | ⟨L2, u2, hu2, rfl, rfl⟩
        · refine fj_st (st' := .int 1 :: []) rfl ?_
          refine fj_if_eq (tgt := 105) C dX6_area_93 (by decide) (fun h => absurd h (by decide)) (fun _ => ?_)
          refine fj_iload C 4 dX6_area_96 rfl ?_
          refine fj_if_eq (tgt := 105) C dX6_area_98 (by decide) (fun h => absurd h (by decide)) (fun _ => ?_)
          refine fj_iconst (v := 1) C dX6_area_101 (by decide) ?_
          refine fj_goto (tgt := 106) C dX6_area_102 (by decide) ?_
          refine fj_istore (lv' := [(6, .int 1), (11, .int 1), (9, .long y1.toInt64), (7, .long x1.toInt64), (4, .long (0 + ((x0.toInt64 * y1.toInt64) - (x1.toInt64 * y0.toInt64)))), (3, .int (nI (k / 8))), (2, .int (nI (k % 8))), (0, .ref (bd 0)), (1, .int (nI k))]) C dX6_area_106 (by decide) rfl ?_
          refine fj_lload C 4 dX6_area_108 rfl ?_
          refine fj_lload C 3 dX6_area_110 rfl ?_
          refine fj_aload_n C 7 dX6_area_112 rfl rfl ?_
          refine fj_get (Cn := RX6) (T := TX6) (N := 44) (ci := 6) (v := .int (u2 14)) C iX6 0 (fm_at0 _ _ _ _ _) rfl 43 (by decide) kX6_307 rfl dX6_area_113 ?_
          refine fj_at (y := y2) ey2 ?_
          refine fj_i2l C dX6_area_116 ?_
          refine fj_lmul C dX6_area_117 ?_
          refine fj_aload_n C 7 dX6_area_118 rfl rfl ?_
          refine fj_get (Cn := RX6) (T := TX6) (N := 44) (ci := 6) (v := .int (u2 13)) C iX6 0 (fm_at0 _ _ _ _ _) rfl 42 (by decide) kX6_304 rfl dX6_area_119 ?_
          refine fj_at (y := x2) ex2 ?_
          refine fj_i2l C dX6_area_122 ?_
          refine fj_lload C 2 dX6_area_123 rfl ?_
          refine fj_lmul C dX6_area_125 ?_
          refine fj_lsub C dX6_area_126 ?_
          refine fj_ladd C dX6_area_127 ?_
          refine fj_lstore (lv' := [(4, .long ((0 + ((x0.toInt64 * y1.toInt64) - (x1.toInt64 * y0.toInt64))) + ((x1.toInt64 * y2.toInt64) - (x2.toInt64 * y1.toInt64)))), (6, .int 1), (11, .int 1), (9, .long y1.toInt64), (7, .long x1.toInt64), (3, .int (nI (k / 8))), (2, .int (nI (k % 8))), (0, .ref (bd 0)), (1, .int (nI k))]) C dX6_area_128 (by decide) rfl ?_
          refine fj_aload_n C 7 dX6_area_130 rfl rfl ?_
          refine fj_get (Cn := RX6) (T := TX6) (N := 44) (ci := 6) (v := .int (u2 13)) C iX6 0 (fm_at0 _ _ _ _ _) rfl 42 (by decide) kX6_304 rfl dX6_area_131 ?_
          refine fj_at (y := x2) ex2 ?_
          refine fj_i2l C dX6_area_134 ?_
          refine fj_lstore (lv' := [(7, .long x2.toInt64), (4, .long ((0 + ((x0.toInt64 * y1.toInt64) - (x1.toInt64 * y0.toInt64))) + ((x1.toInt64 * y2.toInt64) - (x2.toInt64 * y1.toInt64)))), (6, .int 1), (11, .int 1), (9, .long y1.toInt64), (3, .int (nI (k / 8))), (2, .int (nI (k % 8))), (0, .ref (bd 0)), (1, .int (nI k))]) C dX6_area_135 (by decide) rfl ?_
          refine fj_aload_n C 7 dX6_area_137 rfl rfl ?_
          refine fj_get (Cn := RX6) (T := TX6) (N := 44) (ci := 6) (v := .int (u2 14)) C iX6 0 (fm_at0 _ _ _ _ _) rfl 43 (by decide) kX6_307 rfl dX6_area_138 ?_
          refine fj_at (y := y2) ey2 ?_
          refine fj_i2l C dX6_area_141 ?_
          refine fj_lstore (lv' := [(9, .long y2.toInt64), (7, .long x2.toInt64), (4, .long ((0 + ((x0.toInt64 * y1.toInt64) - (x1.toInt64 * y0.toInt64))) + ((x1.toInt64 * y2.toInt64) - (x2.toInt64 * y1.toInt64)))), (6, .int 1), (11, .int 1), (3, .int (nI (k / 8))), (2, .int (nI (k % 8))), (0, .ref (bd 0)), (1, .int (nI k))]) C dX6_area_142 (by decide) rfl ?_
          refine fj_iinc (v := 2) (lv' := [(11, .int 2), (9, .long y2.toInt64), (7, .long x2.toInt64), (4, .long ((0 + ((x0.toInt64 * y1.toInt64) - (x1.toInt64 * y0.toInt64))) + ((x1.toInt64 * y2.toInt64) - (x2.toInt64 * y1.toInt64)))), (6, .int 1), (3, .int (nI (k / 8))), (2, .int (nI (k % 8))), (0, .ref (bd 0)), (1, .int (nI k))]) C 4 dX6_area_144 rfl (by decide) (by decide) rfl ?_
          refine fj_goto (tgt := 51) C dX6_area_147 (by decide) ?_
          refine fj_iload C 0 dX6_area_51 rfl ?_
          refine fj_iconst (v := 4) C dX6_area_53 (by decide) ?_
          refine fj_icmp_ge (tgt := 150) C dX6_area_54 (by decide) (fun h => absurd h (by decide)) (fun _ => ?_)
          refine fj_aload_n C 7 dX6_area_57 rfl rfl ?_
          refine fj_iload C 0 dX6_area_58 rfl ?_
          refine fj_iconst (v := 1) C dX6_area_60 (by decide) ?_
          refine fj_icmp_eq (tgt := 70) C dX6_area_61 (by decide) (fun h => absurd h (by decide)) (fun _ => ?_)
          refine fj_iload C 0 dX6_area_64 rfl ?_
          refine fj_iconst (v := 2) C dX6_area_66 (by decide) ?_
          refine fj_icmp_ne (tgt := 76) C dX6_area_67 (by decide) (fun h => absurd (by decide) h) (fun _ => ?_)
          refine fj_iload_n C 6 dX6_area_70 rfl rfl ?_
          refine fj_iconst (v := 1) C dX6_area_71 (by decide) ?_
          refine fj_iadd C dX6_area_72 ?_
          refine fj_at (y := nI (k % 8 + 1)) (nI_1 _) ?_
          refine fj_goto (tgt := 77) C dX6_area_73 (by decide) ?_
          refine fj_iload C 0 dX6_area_77 rfl ?_
          refine fj_iconst (v := 1) C dX6_area_79 (by decide) ?_
          refine fj_icmp_le (tgt := 89) C dX6_area_80 (by decide) (fun h => absurd h (by decide)) (fun _ => ?_)
          refine fj_iload_n C 5 dX6_area_83 rfl rfl ?_
          refine fj_iconst (v := 1) C dX6_area_84 (by decide) ?_
          refine fj_iadd C dX6_area_85 ?_
          refine fj_at (y := nI (k / 8 + 1)) (nI_1 _) ?_
          refine fj_goto (tgt := 90) C dX6_area_86 (by decide) ?_
          refine fj_callVw (As := [.int (nI (k % 8 + 1)), .int (nI (k / 8 + 1))]) (rest := []) C (d_X6_findPlace l D ty t0 bd a g u2 (nI (k % 8 + 1)) (nI (k / 8 + 1)) (k % 8 + 1) (k / 8 + 1) rfl rfl (by omega) (by omega)) (cwV 2 C.2.2.2.2.1 gX6_area_X6_findPlace rfl rfl rfl (by decide +kernel) ⟨Nat.le_of_ble_eq_true rfl, Nat.le_of_ble_eq_true rfl⟩) ⟨0, 6, _, _, fm_at0 _ _ _ _ _, rfl, rfl⟩ rfl (Nat.le_of_ble_eq_true rfl) dX6_area_90 ⟨Nat.zero_le _, Nat.zero_le _⟩ (fun v9 w9 hp9 => ?_)
          rcases hp9 with ⟨x3, y3, L3, u3, hu3, ex3, ey3, rfl, rfl⟩ | ⟨L3, u3, hu3, rfl, rfl⟩
          · refine fj_st (st' := .int 1 :: []) rfl ?_
            refine fj_if_eq (tgt := 105) C dX6_area_93 (by decide) (fun h => absurd h (by decide)) (fun _ => ?_)
            refine fj_iload C 4 dX6_area_96 rfl ?_
            refine fj_if_eq (tgt := 105) C dX6_area_98 (by decide) (fun h => absurd h (by decide)) (fun _ => ?_)
            refine fj_iconst (v := 1) C dX6_area_101 (by decide) ?_
            refine fj_goto (tgt := 106) C dX6_area_102 (by decide) ?_
            refine fj_istore (lv' := [(6, .int 1), (11, .int 2), (9, .long y2.toInt64), (7, .long x2.toInt64), (4, .long ((0 + ((x0.toInt64 * y1.toInt64) - (x1.toInt64 * y0.toInt64))) + ((x1.toInt64 * y2.toInt64) - (x2.toInt64 * y1.toInt64)))), (3, .int (nI (k / 8))), (2, .int (nI (k % 8))), (0, .ref (bd 0)), (1, .int (nI k))]) C dX6_area_106 (by decide) rfl ?_
            refine fj_lload C 4 dX6_area_108 rfl ?_
            refine fj_lload C 3 dX6_area_110 rfl ?_
            refine fj_aload_n C 7 dX6_area_112 rfl rfl ?_
            refine fj_get (Cn := RX6) (T := TX6) (N := 44) (ci := 6) (v := .int (u3 14)) C iX6 0 (fm_at0 _ _ _ _ _) rfl 43 (by decide) kX6_307 rfl dX6_area_113 ?_
            refine fj_at (y := y3) ey3 ?_
            refine fj_i2l C dX6_area_116 ?_
            refine fj_lmul C dX6_area_117 ?_
            refine fj_aload_n C 7 dX6_area_118 rfl rfl ?_
            refine fj_get (Cn := RX6) (T := TX6) (N := 44) (ci := 6) (v := .int (u3 13)) C iX6 0 (fm_at0 _ _ _ _ _) rfl 42 (by decide) kX6_304 rfl dX6_area_119 ?_
            refine fj_at (y := x3) ex3 ?_
            refine fj_i2l C dX6_area_122 ?_
            refine fj_lload C 2 dX6_area_123 rfl ?_
            refine fj_lmul C dX6_area_125 ?_
            refine fj_lsub C dX6_area_126 ?_
            refine fj_ladd C dX6_area_127 ?_
            refine fj_lstore (lv' := [(4, .long (((0 + ((x0.toInt64 * y1.toInt64) - (x1.toInt64 * y0.toInt64))) + ((x1.toInt64 * y2.toInt64) - (x2.toInt64 * y1.toInt64))) + ((x2.toInt64 * y3.toInt64) - (x3.toInt64 * y2.toInt64)))), (6, .int 1), (11, .int 2), (9, .long y2.toInt64), (7, .long x2.toInt64), (3, .int (nI (k / 8))), (2, .int (nI (k % 8))), (0, .ref (bd 0)), (1, .int (nI k))]) C dX6_area_128 (by decide) rfl ?_
            refine fj_aload_n C 7 dX6_area_130 rfl rfl ?_
            refine fj_get (Cn := RX6) (T := TX6) (N := 44) (ci := 6) (v := .int (u3 13)) C iX6 0 (fm_at0 _ _ _ _ _) rfl 42 (by decide) kX6_304 rfl dX6_area_131 ?_
            refine fj_at (y := x3) ex3 ?_
            refine fj_i2l C dX6_area_134 ?_
            refine fj_lstore (lv' := [(7, .long x3.toInt64), (4, .long (((0 + ((x0.toInt64 * y1.toInt64) - (x1.toInt64 * y0.toInt64))) + ((x1.toInt64 * y2.toInt64) - (x2.toInt64 * y1.toInt64))) + ((x2.toInt64 * y3.toInt64) - (x3.toInt64 * y2.toInt64)))), (6, .int 1), (11, .int 2), (9, .long y2.toInt64), (3, .int (nI (k / 8))), (2, .int (nI (k % 8))), (0, .ref (bd 0)), (1, .int (nI k))]) C dX6_area_135 (by decide) rfl ?_
            refine fj_aload_n C 7 dX6_area_137 rfl rfl ?_
            refine fj_get (Cn := RX6) (T := TX6) (N := 44) (ci := 6) (v := .int (u3 14)) C iX6 0 (fm_at0 _ _ _ _ _) rfl 43 (by decide) kX6_307 rfl dX6_area_138 ?_
            refine fj_at (y := y3) ey3 ?_
            refine fj_i2l C dX6_area_141 ?_
            refine fj_lstore (lv' := [(9, .long y3.toInt64), (7, .long x3.toInt64), (4, .long (((0 + ((x0.toInt64 * y1.toInt64) - (x1.toInt64 * y0.toInt64))) + ((x1.toInt64 * y2.toInt64) - (x2.toInt64 * y1.toInt64))) + ((x2.toInt64 * y3.toInt64) - (x3.toInt64 * y2.toInt64)))), (6, .int 1), (11, .int 2), (3, .int (nI (k / 8))), (2, .int (nI (k % 8))), (0, .ref (bd 0)), (1, .int (nI k))]) C dX6_area_142 (by decide) rfl ?_
            refine fj_iinc (v := 3) (lv' := [(11, .int 3), (9, .long y3.toInt64), (7, .long x3.toInt64), (4, .long (((0 + ((x0.toInt64 * y1.toInt64) - (x1.toInt64 * y0.toInt64))) + ((x1.toInt64 * y2.toInt64) - (x2.toInt64 * y1.toInt64))) + ((x2.toInt64 * y3.toInt64) - (x3.toInt64 * y2.toInt64)))), (6, .int 1), (3, .int (nI (k / 8))), (2, .int (nI (k % 8))), (0, .ref (bd 0)), (1, .int (nI k))]) C 4 dX6_area_144 rfl (by decide) (by decide) rfl ?_
            refine fj_goto (tgt := 51) C dX6_area_147 (by decide) ?_
            refine fj_iload C 0 dX6_area_51 rfl ?_
            refine fj_iconst (v := 4) C dX6_area_53 (by decide) ?_
            refine fj_icmp_ge (tgt := 150) C dX6_area_54 (by decide) (fun h => absurd h (by decide)) (fun _ => ?_)
            refine fj_aload_n C 7 dX6_area_57 rfl rfl ?_
            refine fj_iload C 0 dX6_area_58 rfl ?_
            refine fj_iconst (v := 1) C dX6_area_60 (by decide) ?_
            refine fj_icmp_eq (tgt := 70) C dX6_area_61 (by decide) (fun h => absurd h (by decide)) (fun _ => ?_)
            refine fj_iload C 0 dX6_area_64 rfl ?_
            refine fj_iconst (v := 2) C dX6_area_66 (by decide) ?_
            refine fj_icmp_ne (tgt := 76) C dX6_area_67 (by decide) (fun _ => ?_) (fun h => absurd h (by decide))
            refine fj_iload_n C 6 dX6_area_76 rfl rfl ?_
            refine fj_iload C 0 dX6_area_77 rfl ?_
            refine fj_iconst (v := 1) C dX6_area_79 (by decide) ?_
            refine fj_icmp_le (tgt := 89) C dX6_area_80 (by decide) (fun h => absurd h (by decide)) (fun _ => ?_)
            refine fj_iload_n C 5 dX6_area_83 rfl rfl ?_
            refine fj_iconst (v := 1) C dX6_area_84 (by decide) ?_
            refine fj_iadd C dX6_area_85 ?_
            refine fj_at (y := nI (k / 8 + 1)) (nI_1 _) ?_
            refine fj_goto (tgt := 90) C dX6_area_86 (by decide) ?_
            refine fj_callVw (As := [.int (nI (k % 8)), .int (nI (k / 8 + 1))]) (rest := []) C (d_X6_findPlace l D ty t0 bd a g u3 (nI (k % 8)) (nI (k / 8 + 1)) (k % 8) (k / 8 + 1) rfl rfl (by omega) (by omega)) (cwV 2 C.2.2.2.2.1 gX6_area_X6_findPlace rfl rfl rfl (by decide +kernel) ⟨Nat.le_of_ble_eq_true rfl, Nat.le_of_ble_eq_true rfl⟩) ⟨0, 6, _, _, fm_at0 _ _ _ _ _, rfl, rfl⟩ rfl (Nat.le_of_ble_eq_true rfl) dX6_area_90 ⟨Nat.zero_le _, Nat.zero_le _⟩ (fun v9 w9 hp9 => ?_)
            rcases hp9 with ⟨x4, y4, L4, u4, hu4, ex4, ey4, rfl, rfl⟩ | ⟨L4, u4, hu4, rfl, rfl⟩
            · refine fj_st (st' := .int 1 :: []) rfl ?_
              refine fj_if_eq (tgt := 105) C dX6_area_93 (by decide) (fun h => absurd h (by decide)) (fun _ => ?_)
              refine fj_iload C 4 dX6_area_96 rfl ?_
              refine fj_if_eq (tgt := 105) C dX6_area_98 (by decide) (fun h => absurd h (by decide)) (fun _ => ?_)
              refine fj_iconst (v := 1) C dX6_area_101 (by decide) ?_
              refine fj_goto (tgt := 106) C dX6_area_102 (by decide) ?_
              refine fj_istore (lv' := [(6, .int 1), (11, .int 3), (9, .long y3.toInt64), (7, .long x3.toInt64), (4, .long (((0 + ((x0.toInt64 * y1.toInt64) - (x1.toInt64 * y0.toInt64))) + ((x1.toInt64 * y2.toInt64) - (x2.toInt64 * y1.toInt64))) + ((x2.toInt64 * y3.toInt64) - (x3.toInt64 * y2.toInt64)))), (3, .int (nI (k / 8))), (2, .int (nI (k % 8))), (0, .ref (bd 0)), (1, .int (nI k))]) C dX6_area_106 (by decide) rfl ?_
              refine fj_lload C 4 dX6_area_108 rfl ?_
              refine fj_lload C 3 dX6_area_110 rfl ?_
              refine fj_aload_n C 7 dX6_area_112 rfl rfl ?_
              refine fj_get (Cn := RX6) (T := TX6) (N := 44) (ci := 6) (v := .int (u4 14)) C iX6 0 (fm_at0 _ _ _ _ _) rfl 43 (by decide) kX6_307 rfl dX6_area_113 ?_
              refine fj_at (y := y4) ey4 ?_
              refine fj_i2l C dX6_area_116 ?_
              refine fj_lmul C dX6_area_117 ?_
              refine fj_aload_n C 7 dX6_area_118 rfl rfl ?_
              refine fj_get (Cn := RX6) (T := TX6) (N := 44) (ci := 6) (v := .int (u4 13)) C iX6 0 (fm_at0 _ _ _ _ _) rfl 42 (by decide) kX6_304 rfl dX6_area_119 ?_
              refine fj_at (y := x4) ex4 ?_
              refine fj_i2l C dX6_area_122 ?_
              refine fj_lload C 2 dX6_area_123 rfl ?_
              refine fj_lmul C dX6_area_125 ?_
              refine fj_lsub C dX6_area_126 ?_
              refine fj_ladd C dX6_area_127 ?_
              refine fj_lstore (lv' := [(4, .long ((((0 + ((x0.toInt64 * y1.toInt64) - (x1.toInt64 * y0.toInt64))) + ((x1.toInt64 * y2.toInt64) - (x2.toInt64 * y1.toInt64))) + ((x2.toInt64 * y3.toInt64) - (x3.toInt64 * y2.toInt64))) + ((x3.toInt64 * y4.toInt64) - (x4.toInt64 * y3.toInt64)))), (6, .int 1), (11, .int 3), (9, .long y3.toInt64), (7, .long x3.toInt64), (3, .int (nI (k / 8))), (2, .int (nI (k % 8))), (0, .ref (bd 0)), (1, .int (nI k))]) C dX6_area_128 (by decide) rfl ?_
              refine fj_aload_n C 7 dX6_area_130 rfl rfl ?_
              refine fj_get (Cn := RX6) (T := TX6) (N := 44) (ci := 6) (v := .int (u4 13)) C iX6 0 (fm_at0 _ _ _ _ _) rfl 42 (by decide) kX6_304 rfl dX6_area_131 ?_
              refine fj_at (y := x4) ex4 ?_
              refine fj_i2l C dX6_area_134 ?_
              refine fj_lstore (lv' := [(7, .long x4.toInt64), (4, .long ((((0 + ((x0.toInt64 * y1.toInt64) - (x1.toInt64 * y0.toInt64))) + ((x1.toInt64 * y2.toInt64) - (x2.toInt64 * y1.toInt64))) + ((x2.toInt64 * y3.toInt64) - (x3.toInt64 * y2.toInt64))) + ((x3.toInt64 * y4.toInt64) - (x4.toInt64 * y3.toInt64)))), (6, .int 1), (11, .int 3), (9, .long y3.toInt64), (3, .int (nI (k / 8))), (2, .int (nI (k % 8))), (0, .ref (bd 0)), (1, .int (nI k))]) C dX6_area_135 (by decide) rfl ?_
              refine fj_aload_n C 7 dX6_area_137 rfl rfl ?_
              refine fj_get (Cn := RX6) (T := TX6) (N := 44) (ci := 6) (v := .int (u4 14)) C iX6 0 (fm_at0 _ _ _ _ _) rfl 43 (by decide) kX6_307 rfl dX6_area_138 ?_
              refine fj_at (y := y4) ey4 ?_
              refine fj_i2l C dX6_area_141 ?_
              refine fj_lstore (lv' := [(9, .long y4.toInt64), (7, .long x4.toInt64), (4, .long ((((0 + ((x0.toInt64 * y1.toInt64) - (x1.toInt64 * y0.toInt64))) + ((x1.toInt64 * y2.toInt64) - (x2.toInt64 * y1.toInt64))) + ((x2.toInt64 * y3.toInt64) - (x3.toInt64 * y2.toInt64))) + ((x3.toInt64 * y4.toInt64) - (x4.toInt64 * y3.toInt64)))), (6, .int 1), (11, .int 3), (3, .int (nI (k / 8))), (2, .int (nI (k % 8))), (0, .ref (bd 0)), (1, .int (nI k))]) C dX6_area_142 (by decide) rfl ?_
              refine fj_iinc (v := 4) (lv' := [(11, .int 4), (9, .long y4.toInt64), (7, .long x4.toInt64), (4, .long ((((0 + ((x0.toInt64 * y1.toInt64) - (x1.toInt64 * y0.toInt64))) + ((x1.toInt64 * y2.toInt64) - (x2.toInt64 * y1.toInt64))) + ((x2.toInt64 * y3.toInt64) - (x3.toInt64 * y2.toInt64))) + ((x3.toInt64 * y4.toInt64) - (x4.toInt64 * y3.toInt64)))), (6, .int 1), (3, .int (nI (k / 8))), (2, .int (nI (k % 8))), (0, .ref (bd 0)), (1, .int (nI k))]) C 4 dX6_area_144 rfl (by decide) (by decide) rfl ?_
              refine fj_goto (tgt := 51) C dX6_area_147 (by decide) ?_
              refine fj_iload C 0 dX6_area_51 rfl ?_
              refine fj_iconst (v := 4) C dX6_area_53 (by decide) ?_
              refine fj_icmp_ge (tgt := 150) C dX6_area_54 (by decide) (fun _ => ?_) (fun h => absurd (by decide) h)
              refine fj_iload C 4 dX6_area_150 rfl ?_
              refine fj_if_eq (tgt := 160) C dX6_area_152 (by decide) (fun h => absurd h (by decide)) (fun _ => ?_)
              refine fj_lload C 3 dX6_area_155 rfl ?_
              refine fj_goto (tgt := 163) C dX6_area_157 (by decide) ?_
              exact fj_lret C E9 dX6_area_163 (Or.inr ⟨k, hk, rfl, u4, (fun j hj => (hu4 j hj).trans ((hu3 j hj).trans ((hu2 j hj).trans ((hu1 j hj).trans (hu0 j hj))))), rfl, Or.inl ⟨x0, y0, x1, y1, x2, y2, x3, y3, x4, y4, L0, L1, L2, L3, L4, rfl⟩⟩)
            · refine fj_st (st' := .int 0 :: []) rfl ?_
              refine fj_if_eq (tgt := 105) C dX6_area_93 (by decide) (fun _ => ?_) (fun h => absurd (by decide) h)
              refine fj_iconst (v := 0) C dX6_area_105 (by decide) ?_
              refine fj_istore (lv' := [(6, .int 0), (11, .int 3), (9, .long y3.toInt64), (7, .long x3.toInt64), (4, .long (((0 + ((x0.toInt64 * y1.toInt64) - (x1.toInt64 * y0.toInt64))) + ((x1.toInt64 * y2.toInt64) - (x2.toInt64 * y1.toInt64))) + ((x2.toInt64 * y3.toInt64) - (x3.toInt64 * y2.toInt64)))), (3, .int (nI (k / 8))), (2, .int (nI (k % 8))), (0, .ref (bd 0)), (1, .int (nI k))]) C dX6_area_106 (by decide) rfl ?_
              refine fj_lload C 4 dX6_area_108 rfl ?_
              refine fj_lload C 3 dX6_area_110 rfl ?_
              refine fj_aload_n C 7 dX6_area_112 rfl rfl ?_
              refine fj_get (Cn := RX6) (T := TX6) (N := 44) (ci := 6) (v := .int (u4 14)) C iX6 0 (fm_at0 _ _ _ _ _) rfl 43 (by decide) kX6_307 rfl dX6_area_113 ?_
              refine fj_i2l C dX6_area_116 ?_
              refine fj_lmul C dX6_area_117 ?_
              refine fj_aload_n C 7 dX6_area_118 rfl rfl ?_
              refine fj_get (Cn := RX6) (T := TX6) (N := 44) (ci := 6) (v := .int (u4 13)) C iX6 0 (fm_at0 _ _ _ _ _) rfl 42 (by decide) kX6_304 rfl dX6_area_119 ?_
              refine fj_i2l C dX6_area_122 ?_
              refine fj_lload C 2 dX6_area_123 rfl ?_
              refine fj_lmul C dX6_area_125 ?_
              refine fj_lsub C dX6_area_126 ?_
              refine fj_ladd C dX6_area_127 ?_
              refine fj_lstore (lv' := [(4, .long ((((0 + ((x0.toInt64 * y1.toInt64) - (x1.toInt64 * y0.toInt64))) + ((x1.toInt64 * y2.toInt64) - (x2.toInt64 * y1.toInt64))) + ((x2.toInt64 * y3.toInt64) - (x3.toInt64 * y2.toInt64))) + ((x3.toInt64 * ((u4 14).toInt64)) - (((u4 13).toInt64) * y3.toInt64)))), (6, .int 0), (11, .int 3), (9, .long y3.toInt64), (7, .long x3.toInt64), (3, .int (nI (k / 8))), (2, .int (nI (k % 8))), (0, .ref (bd 0)), (1, .int (nI k))]) C dX6_area_128 (by decide) rfl ?_
              refine fj_aload_n C 7 dX6_area_130 rfl rfl ?_
              refine fj_get (Cn := RX6) (T := TX6) (N := 44) (ci := 6) (v := .int (u4 13)) C iX6 0 (fm_at0 _ _ _ _ _) rfl 42 (by decide) kX6_304 rfl dX6_area_131 ?_
              refine fj_i2l C dX6_area_134 ?_
              refine fj_lstore (lv' := [(7, .long ((u4 13).toInt64)), (4, .long ((((0 + ((x0.toInt64 * y1.toInt64) - (x1.toInt64 * y0.toInt64))) + ((x1.toInt64 * y2.toInt64) - (x2.toInt64 * y1.toInt64))) + ((x2.toInt64 * y3.toInt64) - (x3.toInt64 * y2.toInt64))) + ((x3.toInt64 * ((u4 14).toInt64)) - (((u4 13).toInt64) * y3.toInt64)))), (6, .int 0), (11, .int 3), (9, .long y3.toInt64), (3, .int (nI (k / 8))), (2, .int (nI (k % 8))), (0, .ref (bd 0)), (1, .int (nI k))]) C dX6_area_135 (by decide) rfl ?_
              refine fj_aload_n C 7 dX6_area_137 rfl rfl ?_
              refine fj_get (Cn := RX6) (T := TX6) (N := 44) (ci := 6) (v := .int (u4 14)) C iX6 0 (fm_at0 _ _ _ _ _) rfl 43 (by decide) kX6_307 rfl dX6_area_138 ?_
              refine fj_i2l C dX6_area_141 ?_
              refine fj_lstore (lv' := [(9, .long ((u4 14).toInt64)), (7, .long ((u4 13).toInt64)), (4, .long ((((0 + ((x0.toInt64 * y1.toInt64) - (x1.toInt64 * y0.toInt64))) + ((x1.toInt64 * y2.toInt64) - (x2.toInt64 * y1.toInt64))) + ((x2.toInt64 * y3.toInt64) - (x3.toInt64 * y2.toInt64))) + ((x3.toInt64 * ((u4 14).toInt64)) - (((u4 13).toInt64) * y3.toInt64)))), (6, .int 0), (11, .int 3), (3, .int (nI (k / 8))), (2, .int (nI (k % 8))), (0, .ref (bd 0)), (1, .int (nI k))]) C dX6_area_142 (by decide) rfl ?_
              refine fj_iinc (v := 4) (lv' := [(11, .int 4), (9, .long ((u4 14).toInt64)), (7, .long ((u4 13).toInt64)), (4, .long ((((0 + ((x0.toInt64 * y1.toInt64) - (x1.toInt64 * y0.toInt64))) + ((x1.toInt64 * y2.toInt64) - (x2.toInt64 * y1.toInt64))) + ((x2.toInt64 * y3.toInt64) - (x3.toInt64 * y2.toInt64))) + ((x3.toInt64 * ((u4 14).toInt64)) - (((u4 13).toInt64) * y3.toInt64)))), (6, .int 0), (3, .int (nI (k / 8))), (2, .int (nI (k % 8))), (0, .ref (bd 0)), (1, .int (nI k))]) C 4 dX6_area_144 rfl (by decide) (by decide) rfl ?_
              refine fj_goto (tgt := 51) C dX6_area_147 (by decide) ?_
              refine fj_iload C 0 dX6_area_51 rfl ?_
              refine fj_iconst (v := 4) C dX6_area_53 (by decide) ?_
              refine fj_icmp_ge (tgt := 150) C dX6_area_54 (by decide) (fun _ => ?_) (fun h => absurd (by decide) h)
              refine fj_iload C 4 dX6_area_150 rfl ?_
              refine fj_if_eq (tgt := 160) C dX6_area_152 (by decide) (fun _ => ?_) (fun h => absurd (by decide) h)
              refine fj_ldc2 (v := (-1003)) C dX6_area_160 kL321 ?_
              exact fj_lret C E9 dX6_area_163 (Or.inr ⟨k, hk, rfl, u4, (fun j hj => (hu4 j hj).trans ((hu3 j hj).trans ((hu2 j hj).trans ((hu1 j hj).trans (hu0 j hj))))), rfl, Or.inr ⟨(Or.inr (Or.inr (Or.inr (L4)))), rfl⟩⟩)
          · refine fj_st (st' := .int 0 :: []) rfl ?_
            refine fj_if_eq (tgt := 105) C dX6_area_93 (by decide) (fun _ => ?_) (fun h => absurd (by decide) h)
            refine fj_iconst (v := 0) C dX6_area_105 (by decide) ?_
            refine fj_istore (lv' := [(6, .int 0), (11, .int 2), (9, .long y2.toInt64), (7, .long x2.toInt64), (4, .long ((0 + ((x0.toInt64 * y1.toInt64) - (x1.toInt64 * y0.toInt64))) + ((x1.toInt64 * y2.toInt64) - (x2.toInt64 * y1.toInt64)))), (3, .int (nI (k / 8))), (2, .int (nI (k % 8))), (0, .ref (bd 0)), (1, .int (nI k))]) C dX6_area_106 (by decide) rfl ?_
            refine fj_lload C 4 dX6_area_108 rfl ?_
            refine fj_lload C 3 dX6_area_110 rfl ?_
            refine fj_aload_n C 7 dX6_area_112 rfl rfl ?_
            refine fj_get (Cn := RX6) (T := TX6) (N := 44) (ci := 6) (v := .int (u3 14)) C iX6 0 (fm_at0 _ _ _ _ _) rfl 43 (by decide) kX6_307 rfl dX6_area_113 ?_
            refine fj_i2l C dX6_area_116 ?_
            refine fj_lmul C dX6_area_117 ?_
            refine fj_aload_n C 7 dX6_area_118 rfl rfl ?_
            refine fj_get (Cn := RX6) (T := TX6) (N := 44) (ci := 6) (v := .int (u3 13)) C iX6 0 (fm_at0 _ _ _ _ _) rfl 42 (by decide) kX6_304 rfl dX6_area_119 ?_
            refine fj_i2l C dX6_area_122 ?_
            refine fj_lload C 2 dX6_area_123 rfl ?_
            refine fj_lmul C dX6_area_125 ?_
            refine fj_lsub C dX6_area_126 ?_
            refine fj_ladd C dX6_area_127 ?_
            refine fj_lstore (lv' := [(4, .long (((0 + ((x0.toInt64 * y1.toInt64) - (x1.toInt64 * y0.toInt64))) + ((x1.toInt64 * y2.toInt64) - (x2.toInt64 * y1.toInt64))) + ((x2.toInt64 * ((u3 14).toInt64)) - (((u3 13).toInt64) * y2.toInt64)))), (6, .int 0), (11, .int 2), (9, .long y2.toInt64), (7, .long x2.toInt64), (3, .int (nI (k / 8))), (2, .int (nI (k % 8))), (0, .ref (bd 0)), (1, .int (nI k))]) C dX6_area_128 (by decide) rfl ?_
            refine fj_aload_n C 7 dX6_area_130 rfl rfl ?_
            refine fj_get (Cn := RX6) (T := TX6) (N := 44) (ci := 6) (v := .int (u3 13)) C iX6 0 (fm_at0 _ _ _ _ _) rfl 42 (by decide) kX6_304 rfl dX6_area_131 ?_
            refine fj_i2l C dX6_area_134 ?_
            refine fj_lstore (lv' := [(7, .long ((u3 13).toInt64)), (4, .long (((0 + ((x0.toInt64 * y1.toInt64) - (x1.toInt64 * y0.toInt64))) + ((x1.toInt64 * y2.toInt64) - (x2.toInt64 * y1.toInt64))) + ((x2.toInt64 * ((u3 14).toInt64)) - (((u3 13).toInt64) * y2.toInt64)))), (6, .int 0), (11, .int 2), (9, .long y2.toInt64), (3, .int (nI (k / 8))), (2, .int (nI (k % 8))), (0, .ref (bd 0)), (1, .int (nI k))]) C dX6_area_135 (by decide) rfl ?_
            refine fj_aload_n C 7 dX6_area_137 rfl rfl ?_
            refine fj_get (Cn := RX6) (T := TX6) (N := 44) (ci := 6) (v := .int (u3 14)) C iX6 0 (fm_at0 _ _ _ _ _) rfl 43 (by decide) kX6_307 rfl dX6_area_138 ?_
            refine fj_i2l C dX6_area_141 ?_
            refine fj_lstore (lv' := [(9, .long ((u3 14).toInt64)), (7, .long ((u3 13).toInt64)), (4, .long (((0 + ((x0.toInt64 * y1.toInt64) - (x1.toInt64 * y0.toInt64))) + ((x1.toInt64 * y2.toInt64) - (x2.toInt64 * y1.toInt64))) + ((x2.toInt64 * ((u3 14).toInt64)) - (((u3 13).toInt64) * y2.toInt64)))), (6, .int 0), (11, .int 2), (3, .int (nI (k / 8))), (2, .int (nI (k % 8))), (0, .ref (bd 0)), (1, .int (nI k))]) C dX6_area_142 (by decide) rfl ?_
            refine fj_iinc (v := 3) (lv' := [(11, .int 3), (9, .long ((u3 14).toInt64)), (7, .long ((u3 13).toInt64)), (4, .long (((0 + ((x0.toInt64 * y1.toInt64) - (x1.toInt64 * y0.toInt64))) + ((x1.toInt64 * y2.toInt64) - (x2.toInt64 * y1.toInt64))) + ((x2.toInt64 * ((u3 14).toInt64)) - (((u3 13).toInt64) * y2.toInt64)))), (6, .int 0), (3, .int (nI (k / 8))), (2, .int (nI (k % 8))), (0, .ref (bd 0)), (1, .int (nI k))]) C 4 dX6_area_144 rfl (by decide) (by decide) rfl ?_
            refine fj_goto (tgt := 51) C dX6_area_147 (by decide) ?_
            refine fj_iload C 0 dX6_area_51 rfl ?_
            refine fj_iconst (v := 4) C dX6_area_53 (by decide) ?_
            refine fj_icmp_ge (tgt := 150) C dX6_area_54 (by decide) (fun h => absurd h (by decide)) (fun _ => ?_)
            refine fj_aload_n C 7 dX6_area_57 rfl rfl ?_
            refine fj_iload C 0 dX6_area_58 rfl ?_
            refine fj_iconst (v := 1) C dX6_area_60 (by decide) ?_
            refine fj_icmp_eq (tgt := 70) C dX6_area_61 (by decide) (fun h => absurd h (by decide)) (fun _ => ?_)
            refine fj_iload C 0 dX6_area_64 rfl ?_
            refine fj_iconst (v := 2) C dX6_area_66 (by decide) ?_
            refine fj_icmp_ne (tgt := 76) C dX6_area_67 (by decide) (fun _ => ?_) (fun h => absurd h (by decide))
            refine fj_iload_n C 6 dX6_area_76 rfl rfl ?_
            refine fj_iload C 0 dX6_area_77 rfl ?_
            refine fj_iconst (v := 1) C dX6_area_79 (by decide) ?_
            refine fj_icmp_le (tgt := 89) C dX6_area_80 (by decide) (fun h => absurd h (by decide)) (fun _ => ?_)
            refine fj_iload_n C 5 dX6_area_83 rfl rfl ?_
            refine fj_iconst (v := 1) C dX6_area_84 (by decide) ?_
            refine fj_iadd C dX6_area_85 ?_
            refine fj_at (y := nI (k / 8 + 1)) (nI_1 _) ?_
            refine fj_goto (tgt := 90) C dX6_area_86 (by decide) ?_
            refine fj_callVw (As := [.int (nI (k % 8)), .int (nI (k / 8 + 1))]) (rest := []) C (d_X6_findPlace l D ty t0 bd a g u3 (nI (k % 8)) (nI (k / 8 + 1)) (k % 8) (k / 8 + 1) rfl rfl (by omega) (by omega)) (cwV 2 C.2.2.2.2.1 gX6_area_X6_findPlace rfl rfl rfl (by decide +kernel) ⟨Nat.le_of_ble_eq_true rfl, Nat.le_of_ble_eq_true rfl⟩) ⟨0, 6, _, _, fm_at0 _ _ _ _ _, rfl, rfl⟩ rfl (Nat.le_of_ble_eq_true rfl) dX6_area_90 ⟨Nat.zero_le _, Nat.zero_le _⟩ (fun v9 w9 hp9 => ?_)
            rcases hp9 with ⟨x4, y4, L4, u4, hu4, ex4, ey4, rfl, rfl⟩ | ⟨L4, u4, hu4, rfl, rfl⟩
            · refine fj_st (st' := .int 1 :: []) rfl ?_
              refine fj_if_eq (tgt := 105) C dX6_area_93 (by decide) (fun h => absurd h (by decide)) (fun _ => ?_)
              refine fj_iload C 4 dX6_area_96 rfl ?_
              refine fj_if_eq (tgt := 105) C dX6_area_98 (by decide) (fun _ => ?_) (fun h => absurd (by decide) h)
              refine fj_iconst (v := 0) C dX6_area_105 (by decide) ?_
              refine fj_istore (lv' := [(6, .int 0), (11, .int 3), (9, .long ((u3 14).toInt64)), (7, .long ((u3 13).toInt64)), (4, .long (((0 + ((x0.toInt64 * y1.toInt64) - (x1.toInt64 * y0.toInt64))) + ((x1.toInt64 * y2.toInt64) - (x2.toInt64 * y1.toInt64))) + ((x2.toInt64 * ((u3 14).toInt64)) - (((u3 13).toInt64) * y2.toInt64)))), (3, .int (nI (k / 8))), (2, .int (nI (k % 8))), (0, .ref (bd 0)), (1, .int (nI k))]) C dX6_area_106 (by decide) rfl ?_
              refine fj_lload C 4 dX6_area_108 rfl ?_
              refine fj_lload C 3 dX6_area_110 rfl ?_
              refine fj_aload_n C 7 dX6_area_112 rfl rfl ?_
              refine fj_get (Cn := RX6) (T := TX6) (N := 44) (ci := 6) (v := .int (u4 14)) C iX6 0 (fm_at0 _ _ _ _ _) rfl 43 (by decide) kX6_307 rfl dX6_area_113 ?_
              refine fj_at (y := y4) ey4 ?_
              refine fj_i2l C dX6_area_116 ?_
              refine fj_lmul C dX6_area_117 ?_
              refine fj_aload_n C 7 dX6_area_118 rfl rfl ?_
              refine fj_get (Cn := RX6) (T := TX6) (N := 44) (ci := 6) (v := .int (u4 13)) C iX6 0 (fm_at0 _ _ _ _ _) rfl 42 (by decide) kX6_304 rfl dX6_area_119 ?_
              refine fj_at (y := x4) ex4 ?_
              refine fj_i2l C dX6_area_122 ?_
              refine fj_lload C 2 dX6_area_123 rfl ?_
              refine fj_lmul C dX6_area_125 ?_
              refine fj_lsub C dX6_area_126 ?_
              refine fj_ladd C dX6_area_127 ?_
              refine fj_lstore (lv' := [(4, .long ((((0 + ((x0.toInt64 * y1.toInt64) - (x1.toInt64 * y0.toInt64))) + ((x1.toInt64 * y2.toInt64) - (x2.toInt64 * y1.toInt64))) + ((x2.toInt64 * ((u3 14).toInt64)) - (((u3 13).toInt64) * y2.toInt64))) + ((((u3 13).toInt64) * y4.toInt64) - (x4.toInt64 * ((u3 14).toInt64))))), (6, .int 0), (11, .int 3), (9, .long ((u3 14).toInt64)), (7, .long ((u3 13).toInt64)), (3, .int (nI (k / 8))), (2, .int (nI (k % 8))), (0, .ref (bd 0)), (1, .int (nI k))]) C dX6_area_128 (by decide) rfl ?_
              refine fj_aload_n C 7 dX6_area_130 rfl rfl ?_
              refine fj_get (Cn := RX6) (T := TX6) (N := 44) (ci := 6) (v := .int (u4 13)) C iX6 0 (fm_at0 _ _ _ _ _) rfl 42 (by decide) kX6_304 rfl dX6_area_131 ?_
              refine fj_at (y := x4) ex4 ?_
              refine fj_i2l C dX6_area_134 ?_
              refine fj_lstore (lv' := [(7, .long x4.toInt64), (4, .long ((((0 + ((x0.toInt64 * y1.toInt64) - (x1.toInt64 * y0.toInt64))) + ((x1.toInt64 * y2.toInt64) - (x2.toInt64 * y1.toInt64))) + ((x2.toInt64 * ((u3 14).toInt64)) - (((u3 13).toInt64) * y2.toInt64))) + ((((u3 13).toInt64) * y4.toInt64) - (x4.toInt64 * ((u3 14).toInt64))))), (6, .int 0), (11, .int 3), (9, .long ((u3 14).toInt64)), (3, .int (nI (k / 8))), (2, .int (nI (k % 8))), (0, .ref (bd 0)), (1, .int (nI k))]) C dX6_area_135 (by decide) rfl ?_
              refine fj_aload_n C 7 dX6_area_137 rfl rfl ?_
              refine fj_get (Cn := RX6) (T := TX6) (N := 44) (ci := 6) (v := .int (u4 14)) C iX6 0 (fm_at0 _ _ _ _ _) rfl 43 (by decide) kX6_307 rfl dX6_area_138 ?_
              refine fj_at (y := y4) ey4 ?_
              refine fj_i2l C dX6_area_141 ?_
              refine fj_lstore (lv' := [(9, .long y4.toInt64), (7, .long x4.toInt64), (4, .long ((((0 + ((x0.toInt64 * y1.toInt64) - (x1.toInt64 * y0.toInt64))) + ((x1.toInt64 * y2.toInt64) - (x2.toInt64 * y1.toInt64))) + ((x2.toInt64 * ((u3 14).toInt64)) - (((u3 13).toInt64) * y2.toInt64))) + ((((u3 13).toInt64) * y4.toInt64) - (x4.toInt64 * ((u3 14).toInt64))))), (6, .int 0), (11, .int 3), (3, .int (nI (k / 8))), (2, .int (nI (k % 8))), (0, .ref (bd 0)), (1, .int (nI k))]) C dX6_area_142 (by decide) rfl ?_
              refine fj_iinc (v := 4) (lv' := [(11, .int 4), (9, .long y4.toInt64), (7, .long x4.toInt64), (4, .long ((((0 + ((x0.toInt64 * y1.toInt64) - (x1.toInt64 * y0.toInt64))) + ((x1.toInt64 * y2.toInt64) - (x2.toInt64 * y1.toInt64))) + ((x2.toInt64 * ((u3 14).toInt64)) - (((u3 13).toInt64) * y2.toInt64))) + ((((u3 13).toInt64) * y4.toInt64) - (x4.toInt64 * ((u3 14).toInt64))))), (6, .int 0), (3, .int (nI (k / 8))), (2, .int (nI (k % 8))), (0, .ref (bd 0)), (1, .int (nI k))]) C 4 dX6_area_144 rfl (by decide) (by decide) rfl ?_
              refine fj_goto (tgt := 51) C dX6_area_147 (by decide) ?_
              refine fj_iload C 0 dX6_area_51 rfl ?_
              refine fj_iconst (v := 4) C dX6_area_53 (by decide) ?_
              refine fj_icmp_ge (tgt := 150) C dX6_area_54 (by decide) (fun _ => ?_) (fun h => absurd (by decide) h)
              refine fj_iload C 4 dX6_area_150 rfl ?_
              refine fj_if_eq (tgt := 160) C dX6_area_152 (by decide) (fun _ => ?_) (fun h => absurd (by decide) h)
              refine fj_ldc2 (v := (-1003)) C dX6_area_160 kL321 ?_
              exact fj_lret C E9 dX6_area_163 (Or.inr ⟨k, hk, rfl, u4, (fun j hj => (hu4 j hj).trans ((hu3 j hj).trans ((hu2 j hj).trans ((hu1 j hj).trans (hu0 j hj))))), rfl, Or.inr ⟨(Or.inr (Or.inr (Or.inl L3))), rfl⟩⟩)
            · refine fj_st (st' := .int 0 :: []) rfl ?_
              refine fj_if_eq (tgt := 105) C dX6_area_93 (by decide) (fun _ => ?_) (fun h => absurd (by decide) h)
              refine fj_iconst (v := 0) C dX6_area_105 (by decide) ?_
              refine fj_istore (lv' := [(6, .int 0), (11, .int 3), (9, .long ((u3 14).toInt64)), (7, .long ((u3 13).toInt64)), (4, .long (((0 + ((x0.toInt64 * y1.toInt64) - (x1.toInt64 * y0.toInt64))) + ((x1.toInt64 * y2.toInt64) - (x2.toInt64 * y1.toInt64))) + ((x2.toInt64 * ((u3 14).toInt64)) - (((u3 13).toInt64) * y2.toInt64)))), (3, .int (nI (k / 8))), (2, .int (nI (k % 8))), (0, .ref (bd 0)), (1, .int (nI k))]) C dX6_area_106 (by decide) rfl ?_
              refine fj_lload C 4 dX6_area_108 rfl ?_
              refine fj_lload C 3 dX6_area_110 rfl ?_
              refine fj_aload_n C 7 dX6_area_112 rfl rfl ?_
              refine fj_get (Cn := RX6) (T := TX6) (N := 44) (ci := 6) (v := .int (u4 14)) C iX6 0 (fm_at0 _ _ _ _ _) rfl 43 (by decide) kX6_307 rfl dX6_area_113 ?_
              refine fj_i2l C dX6_area_116 ?_
              refine fj_lmul C dX6_area_117 ?_
              refine fj_aload_n C 7 dX6_area_118 rfl rfl ?_
              refine fj_get (Cn := RX6) (T := TX6) (N := 44) (ci := 6) (v := .int (u4 13)) C iX6 0 (fm_at0 _ _ _ _ _) rfl 42 (by decide) kX6_304 rfl dX6_area_119 ?_
              refine fj_i2l C dX6_area_122 ?_
              refine fj_lload C 2 dX6_area_123 rfl ?_
              refine fj_lmul C dX6_area_125 ?_
              refine fj_lsub C dX6_area_126 ?_
              refine fj_ladd C dX6_area_127 ?_
              refine fj_lstore (lv' := [(4, .long ((((0 + ((x0.toInt64 * y1.toInt64) - (x1.toInt64 * y0.toInt64))) + ((x1.toInt64 * y2.toInt64) - (x2.toInt64 * y1.toInt64))) + ((x2.toInt64 * ((u3 14).toInt64)) - (((u3 13).toInt64) * y2.toInt64))) + ((((u3 13).toInt64) * ((u4 14).toInt64)) - (((u4 13).toInt64) * ((u3 14).toInt64))))), (6, .int 0), (11, .int 3), (9, .long ((u3 14).toInt64)), (7, .long ((u3 13).toInt64)), (3, .int (nI (k / 8))), (2, .int (nI (k % 8))), (0, .ref (bd 0)), (1, .int (nI k))]) C dX6_area_128 (by decide) rfl ?_
              refine fj_aload_n C 7 dX6_area_130 rfl rfl ?_
              refine fj_get (Cn := RX6) (T := TX6) (N := 44) (ci := 6) (v := .int (u4 13)) C iX6 0 (fm_at0 _ _ _ _ _) rfl 42 (by decide) kX6_304 rfl dX6_area_131 ?_
              refine fj_i2l C dX6_area_134 ?_
              refine fj_lstore (lv' := [(7, .long ((u4 13).toInt64)), (4, .long ((((0 + ((x0.toInt64 * y1.toInt64) - (x1.toInt64 * y0.toInt64))) + ((x1.toInt64 * y2.toInt64) - (x2.toInt64 * y1.toInt64))) + ((x2.toInt64 * ((u3 14).toInt64)) - (((u3 13).toInt64) * y2.toInt64))) + ((((u3 13).toInt64) * ((u4 14).toInt64)) - (((u4 13).toInt64) * ((u3 14).toInt64))))), (6, .int 0), (11, .int 3), (9, .long ((u3 14).toInt64)), (3, .int (nI (k / 8))), (2, .int (nI (k % 8))), (0, .ref (bd 0)), (1, .int (nI k))]) C dX6_area_135 (by decide) rfl ?_
              refine fj_aload_n C 7 dX6_area_137 rfl rfl ?_
              refine fj_get (Cn := RX6) (T := TX6) (N := 44) (ci := 6) (v := .int (u4 14)) C iX6 0 (fm_at0 _ _ _ _ _) rfl 43 (by decide) kX6_307 rfl dX6_area_138 ?_
              refine fj_i2l C dX6_area_141 ?_
              refine fj_lstore (lv' := [(9, .long ((u4 14).toInt64)), (7, .long ((u4 13).toInt64)), (4, .long ((((0 + ((x0.toInt64 * y1.toInt64) - (x1.toInt64 * y0.toInt64))) + ((x1.toInt64 * y2.toInt64) - (x2.toInt64 * y1.toInt64))) + ((x2.toInt64 * ((u3 14).toInt64)) - (((u3 13).toInt64) * y2.toInt64))) + ((((u3 13).toInt64) * ((u4 14).toInt64)) - (((u4 13).toInt64) * ((u3 14).toInt64))))), (6, .int 0), (11, .int 3), (3, .int (nI (k / 8))), (2, .int (nI (k % 8))), (0, .ref (bd 0)), (1, .int (nI k))]) C dX6_area_142 (by decide) rfl ?_
              refine fj_iinc (v := 4) (lv' := [(11, .int 4), (9, .long ((u4 14).toInt64)), (7, .long ((u4 13).toInt64)), (4, .long ((((0 + ((x0.toInt64 * y1.toInt64) - (x1.toInt64 * y0.toInt64))) + ((x1.toInt64 * y2.toInt64) - (x2.toInt64 * y1.toInt64))) + ((x2.toInt64 * ((u3 14).toInt64)) - (((u3 13).toInt64) * y2.toInt64))) + ((((u3 13).toInt64) * ((u4 14).toInt64)) - (((u4 13).toInt64) * ((u3 14).toInt64))))), (6, .int 0), (3, .int (nI (k / 8))), (2, .int (nI (k % 8))), (0, .ref (bd 0)), (1, .int (nI k))]) C 4 dX6_area_144 rfl (by decide) (by decide) rfl ?_
              refine fj_goto (tgt := 51) C dX6_area_147 (by decide) ?_
              refine fj_iload C 0 dX6_area_51 rfl ?_
              refine fj_iconst (v := 4) C dX6_area_53 (by decide) ?_
              refine fj_icmp_ge (tgt := 150) C dX6_area_54 (by decide) (fun _ => ?_) (fun h => absurd (by decide) h)
              refine fj_iload C 4 dX6_area_150 rfl ?_
              refine fj_if_eq (tgt := 160) C dX6_area_152 (by decide) (fun _ => ?_) (fun h => absurd (by decide) h)
              refine fj_ldc2 (v := (-1003)) C dX6_area_160 kL321 ?_
              exact fj_lret C E9 dX6_area_163 (Or.inr ⟨k, hk, rfl, u4, (fun j hj => (hu4 j hj).trans ((hu3 j hj).trans ((hu2 j hj).trans ((hu1 j hj).trans (hu0 j hj))))), rfl, Or.inr ⟨(Or.inr (Or.inr (Or.inl L3))), rfl⟩⟩)
        · refine fj_st (st' := .int 0 :: []) rfl ?_
          refine fj_if_eq (tgt := 105) C dX6_area_93 (by decide) (fun _ => ?_) (fun h => absurd (by decide) h)
          refine fj_iconst (v := 0) C dX6_area_105 (by decide) ?_
          refine fj_istore (lv' := [(6, .int 0), (11, .int 1), (9, .long y1.toInt64), (7, .long x1.toInt64), (4, .long (0 + ((x0.toInt64 * y1.toInt64) - (x1.toInt64 * y0.toInt64)))), (3, .int (nI (k / 8))), (2, .int (nI (k % 8))), (0, .ref (bd 0)), (1, .int (nI k))]) C dX6_area_106 (by decide) rfl ?_
          refine fj_lload C 4 dX6_area_108 rfl ?_
          refine fj_lload C 3 dX6_area_110 rfl ?_
          refine fj_aload_n C 7 dX6_area_112 rfl rfl ?_
          refine fj_get (Cn := RX6) (T := TX6) (N := 44) (ci := 6) (v := .int (u2 14)) C iX6 0 (fm_at0 _ _ _ _ _) rfl 43 (by decide) kX6_307 rfl dX6_area_113 ?_
          refine fj_i2l C dX6_area_116 ?_
          refine fj_lmul C dX6_area_117 ?_
          refine fj_aload_n C 7 dX6_area_118 rfl rfl ?_
          refine fj_get (Cn := RX6) (T := TX6) (N := 44) (ci := 6) (v := .int (u2 13)) C iX6 0 (fm_at0 _ _ _ _ _) rfl 42 (by decide) kX6_304 rfl dX6_area_119 ?_
          refine fj_i2l C dX6_area_122 ?_
          refine fj_lload C 2 dX6_area_123 rfl ?_
          refine fj_lmul C dX6_area_125 ?_
          refine fj_lsub C dX6_area_126 ?_
          refine fj_ladd C dX6_area_127 ?_
          refine fj_lstore (lv' := [(4, .long ((0 + ((x0.toInt64 * y1.toInt64) - (x1.toInt64 * y0.toInt64))) + ((x1.toInt64 * ((u2 14).toInt64)) - (((u2 13).toInt64) * y1.toInt64)))), (6, .int 0), (11, .int 1), (9, .long y1.toInt64), (7, .long x1.toInt64), (3, .int (nI (k / 8))), (2, .int (nI (k % 8))), (0, .ref (bd 0)), (1, .int (nI k))]) C dX6_area_128 (by decide) rfl ?_
          refine fj_aload_n C 7 dX6_area_130 rfl rfl ?_
          refine fj_get (Cn := RX6) (T := TX6) (N := 44) (ci := 6) (v := .int (u2 13)) C iX6 0 (fm_at0 _ _ _ _ _) rfl 42 (by decide) kX6_304 rfl dX6_area_131 ?_
          refine fj_i2l C dX6_area_134 ?_
          refine fj_lstore (lv' := [(7, .long ((u2 13).toInt64)), (4, .long ((0 + ((x0.toInt64 * y1.toInt64) - (x1.toInt64 * y0.toInt64))) + ((x1.toInt64 * ((u2 14).toInt64)) - (((u2 13).toInt64) * y1.toInt64)))), (6, .int 0), (11, .int 1), (9, .long y1.toInt64), (3, .int (nI (k / 8))), (2, .int (nI (k % 8))), (0, .ref (bd 0)), (1, .int (nI k))]) C dX6_area_135 (by decide) rfl ?_
          refine fj_aload_n C 7 dX6_area_137 rfl rfl ?_
          refine fj_get (Cn := RX6) (T := TX6) (N := 44) (ci := 6) (v := .int (u2 14)) C iX6 0 (fm_at0 _ _ _ _ _) rfl 43 (by decide) kX6_307 rfl dX6_area_138 ?_
          refine fj_i2l C dX6_area_141 ?_
          refine fj_lstore (lv' := [(9, .long ((u2 14).toInt64)), (7, .long ((u2 13).toInt64)), (4, .long ((0 + ((x0.toInt64 * y1.toInt64) - (x1.toInt64 * y0.toInt64))) + ((x1.toInt64 * ((u2 14).toInt64)) - (((u2 13).toInt64) * y1.toInt64)))), (6, .int 0), (11, .int 1), (3, .int (nI (k / 8))), (2, .int (nI (k % 8))), (0, .ref (bd 0)), (1, .int (nI k))]) C dX6_area_142 (by decide) rfl ?_
          refine fj_iinc (v := 2) (lv' := [(11, .int 2), (9, .long ((u2 14).toInt64)), (7, .long ((u2 13).toInt64)), (4, .long ((0 + ((x0.toInt64 * y1.toInt64) - (x1.toInt64 * y0.toInt64))) + ((x1.toInt64 * ((u2 14).toInt64)) - (((u2 13).toInt64) * y1.toInt64)))), (6, .int 0), (3, .int (nI (k / 8))), (2, .int (nI (k % 8))), (0, .ref (bd 0)), (1, .int (nI k))]) C 4 dX6_area_144 rfl (by decide) (by decide) rfl ?_
          refine fj_goto (tgt := 51) C dX6_area_147 (by decide) ?_
          refine fj_iload C 0 dX6_area_51 rfl ?_
          refine fj_iconst (v := 4) C dX6_area_53 (by decide) ?_
          refine fj_icmp_ge (tgt := 150) C dX6_area_54 (by decide) (fun h => absurd h (by decide)) (fun _ => ?_)
          refine fj_aload_n C 7 dX6_area_57 rfl rfl ?_
          refine fj_iload C 0 dX6_area_58 rfl ?_
          refine fj_iconst (v := 1) C dX6_area_60 (by decide) ?_
          refine fj_icmp_eq (tgt := 70) C dX6_area_61 (by decide) (fun h => absurd h (by decide)) (fun _ => ?_)
          refine fj_iload C 0 dX6_area_64 rfl ?_
          refine fj_iconst (v := 2) C dX6_area_66 (by decide) ?_
          refine fj_icmp_ne (tgt := 76) C dX6_area_67 (by decide) (fun h => absurd (by decide) h) (fun _ => ?_)
          refine fj_iload_n C 6 dX6_area_70 rfl rfl ?_
          refine fj_iconst (v := 1) C dX6_area_71 (by decide) ?_
          refine fj_iadd C dX6_area_72 ?_
          refine fj_at (y := nI (k % 8 + 1)) (nI_1 _) ?_
          refine fj_goto (tgt := 77) C dX6_area_73 (by decide) ?_
          refine fj_iload C 0 dX6_area_77 rfl ?_
          refine fj_iconst (v := 1) C dX6_area_79 (by decide) ?_
          refine fj_icmp_le (tgt := 89) C dX6_area_80 (by decide) (fun h => absurd h (by decide)) (fun _ => ?_)
          refine fj_iload_n C 5 dX6_area_83 rfl rfl ?_
          refine fj_iconst (v := 1) C dX6_area_84 (by decide) ?_
          refine fj_iadd C dX6_area_85 ?_
          refine fj_at (y := nI (k / 8 + 1)) (nI_1 _) ?_
          refine fj_goto (tgt := 90) C dX6_area_86 (by decide) ?_
          refine fj_callVw (As := [.int (nI (k % 8 + 1)), .int (nI (k / 8 + 1))]) (rest := []) C (d_X6_findPlace l D ty t0 bd a g u2 (nI (k % 8 + 1)) (nI (k / 8 + 1)) (k % 8 + 1) (k / 8 + 1) rfl rfl (by omega) (by omega)) (cwV 2 C.2.2.2.2.1 gX6_area_X6_findPlace rfl rfl rfl (by decide +kernel) ⟨Nat.le_of_ble_eq_true rfl, Nat.le_of_ble_eq_true rfl⟩) ⟨0, 6, _, _, fm_at0 _ _ _ _ _, rfl, rfl⟩ rfl (Nat.le_of_ble_eq_true rfl) dX6_area_90 ⟨Nat.zero_le _, Nat.zero_le _⟩ (fun v9 w9 hp9 => ?_)
          rcases hp9 with ⟨x3, y3, L3, u3, hu3, ex3, ey3, rfl, rfl⟩ | ⟨L3, u3, hu3, rfl, rfl⟩
          · refine fj_st (st' := .int 1 :: []) rfl ?_
            refine fj_if_eq (tgt := 105) C dX6_area_93 (by decide) (fun h => absurd h (by decide)) (fun _ => ?_)
            refine fj_iload C 4 dX6_area_96 rfl ?_
            refine fj_if_eq (tgt := 105) C dX6_area_98 (by decide) (fun _ => ?_) (fun h => absurd (by decide) h)
            refine fj_iconst (v := 0) C dX6_area_105 (by decide) ?_
            refine fj_istore (lv' := [(6, .int 0), (11, .int 2), (9, .long ((u2 14).toInt64)), (7, .long ((u2 13).toInt64)), (4, .long ((0 + ((x0.toInt64 * y1.toInt64) - (x1.toInt64 * y0.toInt64))) + ((x1.toInt64 * ((u2 14).toInt64)) - (((u2 13).toInt64) * y1.toInt64)))), (3, .int (nI (k / 8))), (2, .int (nI (k % 8))), (0, .ref (bd 0)), (1, .int (nI k))]) C dX6_area_106 (by decide) rfl ?_
            refine fj_lload C 4 dX6_area_108 rfl ?_
            refine fj_lload C 3 dX6_area_110 rfl ?_
            refine fj_aload_n C 7 dX6_area_112 rfl rfl ?_
            refine fj_get (Cn := RX6) (T := TX6) (N := 44) (ci := 6) (v := .int (u3 14)) C iX6 0 (fm_at0 _ _ _ _ _) rfl 43 (by decide) kX6_307 rfl dX6_area_113 ?_
            refine fj_at (y := y3) ey3 ?_
            refine fj_i2l C dX6_area_116 ?_
            refine fj_lmul C dX6_area_117 ?_
            refine fj_aload_n C 7 dX6_area_118 rfl rfl ?_
            refine fj_get (Cn := RX6) (T := TX6) (N := 44) (ci := 6) (v := .int (u3 13)) C iX6 0 (fm_at0 _ _ _ _ _) rfl 42 (by decide) kX6_304 rfl dX6_area_119 ?_
            refine fj_at (y := x3) ex3 ?_
            refine fj_i2l C dX6_area_122 ?_
            refine fj_lload C 2 dX6_area_123 rfl ?_
            refine fj_lmul C dX6_area_125 ?_
            refine fj_lsub C dX6_area_126 ?_
            refine fj_ladd C dX6_area_127 ?_
            refine fj_lstore (lv' := [(4, .long (((0 + ((x0.toInt64 * y1.toInt64) - (x1.toInt64 * y0.toInt64))) + ((x1.toInt64 * ((u2 14).toInt64)) - (((u2 13).toInt64) * y1.toInt64))) + ((((u2 13).toInt64) * y3.toInt64) - (x3.toInt64 * ((u2 14).toInt64))))), (6, .int 0), (11, .int 2), (9, .long ((u2 14).toInt64)), (7, .long ((u2 13).toInt64)), (3, .int (nI (k / 8))), (2, .int (nI (k % 8))), (0, .ref (bd 0)), (1, .int (nI k))]) C dX6_area_128 (by decide) rfl ?_
            refine fj_aload_n C 7 dX6_area_130 rfl rfl ?_
            refine fj_get (Cn := RX6) (T := TX6) (N := 44) (ci := 6) (v := .int (u3 13)) C iX6 0 (fm_at0 _ _ _ _ _) rfl 42 (by decide) kX6_304 rfl dX6_area_131 ?_
            refine fj_at (y := x3) ex3 ?_
            refine fj_i2l C dX6_area_134 ?_
            refine fj_lstore (lv' := [(7, .long x3.toInt64), (4, .long (((0 + ((x0.toInt64 * y1.toInt64) - (x1.toInt64 * y0.toInt64))) + ((x1.toInt64 * ((u2 14).toInt64)) - (((u2 13).toInt64) * y1.toInt64))) + ((((u2 13).toInt64) * y3.toInt64) - (x3.toInt64 * ((u2 14).toInt64))))), (6, .int 0), (11, .int 2), (9, .long ((u2 14).toInt64)), (3, .int (nI (k / 8))), (2, .int (nI (k % 8))), (0, .ref (bd 0)), (1, .int (nI k))]) C dX6_area_135 (by decide) rfl ?_
            refine fj_aload_n C 7 dX6_area_137 rfl rfl ?_
            refine fj_get (Cn := RX6) (T := TX6) (N := 44) (ci := 6) (v := .int (u3 14)) C iX6 0 (fm_at0 _ _ _ _ _) rfl 43 (by decide) kX6_307 rfl dX6_area_138 ?_
            refine fj_at (y := y3) ey3 ?_
            refine fj_i2l C dX6_area_141 ?_
            refine fj_lstore (lv' := [(9, .long y3.toInt64), (7, .long x3.toInt64), (4, .long (((0 + ((x0.toInt64 * y1.toInt64) - (x1.toInt64 * y0.toInt64))) + ((x1.toInt64 * ((u2 14).toInt64)) - (((u2 13).toInt64) * y1.toInt64))) + ((((u2 13).toInt64) * y3.toInt64) - (x3.toInt64 * ((u2 14).toInt64))))), (6, .int 0), (11, .int 2), (3, .int (nI (k / 8))), (2, .int (nI (k % 8))), (0, .ref (bd 0)), (1, .int (nI k))]) C dX6_area_142 (by decide) rfl ?_
            refine fj_iinc (v := 3) (lv' := [(11, .int 3), (9, .long y3.toInt64), (7, .long x3.toInt64), (4, .long (((0 + ((x0.toInt64 * y1.toInt64) - (x1.toInt64 * y0.toInt64))) + ((x1.toInt64 * ((u2 14).toInt64)) - (((u2 13).toInt64) * y1.toInt64))) + ((((u2 13).toInt64) * y3.toInt64) - (x3.toInt64 * ((u2 14).toInt64))))), (6, .int 0), (3, .int (nI (k / 8))), (2, .int (nI (k % 8))), (0, .ref (bd 0)), (1, .int (nI k))]) C 4 dX6_area_144 rfl (by decide) (by decide) rfl ?_
            refine fj_goto (tgt := 51) C dX6_area_147 (by decide) ?_
            refine fj_iload C 0 dX6_area_51 rfl ?_
            refine fj_iconst (v := 4) C dX6_area_53 (by decide) ?_
            refine fj_icmp_ge (tgt := 150) C dX6_area_54 (by decide) (fun h => absurd h (by decide)) (fun _ => ?_)
            refine fj_aload_n C 7 dX6_area_57 rfl rfl ?_
            refine fj_iload C 0 dX6_area_58 rfl ?_
            refine fj_iconst (v := 1) C dX6_area_60 (by decide) ?_
            refine fj_icmp_eq (tgt := 70) C dX6_area_61 (by decide) (fun h => absurd h (by decide)) (fun _ => ?_)
            refine fj_iload C 0 dX6_area_64 rfl ?_
            refine fj_iconst (v := 2) C dX6_area_66 (by decide) ?_
            refine fj_icmp_ne (tgt := 76) C dX6_area_67 (by decide) (fun _ => ?_) (fun h => absurd h (by decide))
            refine fj_iload_n C 6 dX6_area_76 rfl rfl ?_
            refine fj_iload C 0 dX6_area_77 rfl ?_
            refine fj_iconst (v := 1) C dX6_area_79 (by decide) ?_
            refine fj_icmp_le (tgt := 89) C dX6_area_80 (by decide) (fun h => absurd h (by decide)) (fun _ => ?_)
            refine fj_iload_n C 5 dX6_area_83 rfl rfl ?_
            refine fj_iconst (v := 1) C dX6_area_84 (by decide) ?_
            refine fj_iadd C dX6_area_85 ?_
            refine fj_at (y := nI (k / 8 + 1)) (nI_1 _) ?_
            refine fj_goto (tgt := 90) C dX6_area_86 (by decide) ?_
            refine fj_callVw (As := [.int (nI (k % 8)), .int (nI (k / 8 + 1))]) (rest := []) C (d_X6_findPlace l D ty t0 bd a g u3 (nI (k % 8)) (nI (k / 8 + 1)) (k % 8) (k / 8 + 1) rfl rfl (by omega) (by omega)) (cwV 2 C.2.2.2.2.1 gX6_area_X6_findPlace rfl rfl rfl (by decide +kernel) ⟨Nat.le_of_ble_eq_true rfl, Nat.le_of_ble_eq_true rfl⟩) ⟨0, 6, _, _, fm_at0 _ _ _ _ _, rfl, rfl⟩ rfl (Nat.le_of_ble_eq_true rfl) dX6_area_90 ⟨Nat.zero_le _, Nat.zero_le _⟩ (fun v9 w9 hp9 => ?_)
            rcases hp9 with ⟨x4, y4, L4, u4, hu4, ex4, ey4, rfl, rfl⟩ | ⟨L4, u4, hu4, rfl, rfl⟩
            · refine fj_st (st' := .int 1 :: []) rfl ?_
              refine fj_if_eq (tgt := 105) C dX6_area_93 (by decide) (fun h => absurd h (by decide)) (fun _ => ?_)
              refine fj_iload C 4 dX6_area_96 rfl ?_
              refine fj_if_eq (tgt := 105) C dX6_area_98 (by decide) (fun _ => ?_) (fun h => absurd (by decide) h)
              refine fj_iconst (v := 0) C dX6_area_105 (by decide) ?_
              refine fj_istore (lv' := [(6, .int 0), (11, .int 3), (9, .long y3.toInt64), (7, .long x3.toInt64), (4, .long (((0 + ((x0.toInt64 * y1.toInt64) - (x1.toInt64 * y0.toInt64))) + ((x1.toInt64 * ((u2 14).toInt64)) - (((u2 13).toInt64) * y1.toInt64))) + ((((u2 13).toInt64) * y3.toInt64) - (x3.toInt64 * ((u2 14).toInt64))))), (3, .int (nI (k / 8))), (2, .int (nI (k % 8))), (0, .ref (bd 0)), (1, .int (nI k))]) C dX6_area_106 (by decide) rfl ?_
              refine fj_lload C 4 dX6_area_108 rfl ?_
              refine fj_lload C 3 dX6_area_110 rfl ?_
              refine fj_aload_n C 7 dX6_area_112 rfl rfl ?_
              refine fj_get (Cn := RX6) (T := TX6) (N := 44) (ci := 6) (v := .int (u4 14)) C iX6 0 (fm_at0 _ _ _ _ _) rfl 43 (by decide) kX6_307 rfl dX6_area_113 ?_
              refine fj_at (y := y4) ey4 ?_
              refine fj_i2l C dX6_area_116 ?_
              refine fj_lmul C dX6_area_117 ?_
              refine fj_aload_n C 7 dX6_area_118 rfl rfl ?_
              refine fj_get (Cn := RX6) (T := TX6) (N := 44) (ci := 6) (v := .int (u4 13)) C iX6 0 (fm_at0 _ _ _ _ _) rfl 42 (by decide) kX6_304 rfl dX6_area_119 ?_
              refine fj_at (y := x4) ex4 ?_
              refine fj_i2l C dX6_area_122 ?_
              refine fj_lload C 2 dX6_area_123 rfl ?_
              refine fj_lmul C dX6_area_125 ?_
              refine fj_lsub C dX6_area_126 ?_
              refine fj_ladd C dX6_area_127 ?_
              refine fj_lstore (lv' := [(4, .long ((((0 + ((x0.toInt64 * y1.toInt64) - (x1.toInt64 * y0.toInt64))) + ((x1.toInt64 * ((u2 14).toInt64)) - (((u2 13).toInt64) * y1.toInt64))) + ((((u2 13).toInt64) * y3.toInt64) - (x3.toInt64 * ((u2 14).toInt64)))) + ((x3.toInt64 * y4.toInt64) - (x4.toInt64 * y3.toInt64)))), (6, .int 0), (11, .int 3), (9, .long y3.toInt64), (7, .long x3.toInt64), (3, .int (nI (k / 8))), (2, .int (nI (k % 8))), (0, .ref (bd 0)), (1, .int (nI k))]) C dX6_area_128 (by decide) rfl ?_
              refine fj_aload_n C 7 dX6_area_130 rfl rfl ?_
              refine fj_get (Cn := RX6) (T := TX6) (N := 44) (ci := 6) (v := .int (u4 13)) C iX6 0 (fm_at0 _ _ _ _ _) rfl 42 (by decide) kX6_304 rfl dX6_area_131 ?_
              refine fj_at (y := x4) ex4 ?_
              refine fj_i2l C dX6_area_134 ?_
              refine fj_lstore (lv' := [(7, .long x4.toInt64), (4, .long ((((0 + ((x0.toInt64 * y1.toInt64) - (x1.toInt64 * y0.toInt64))) + ((x1.toInt64 * ((u2 14).toInt64)) - (((u2 13).toInt64) * y1.toInt64))) + ((((u2 13).toInt64) * y3.toInt64) - (x3.toInt64 * ((u2 14).toInt64)))) + ((x3.toInt64 * y4.toInt64) - (x4.toInt64 * y3.toInt64)))), (6, .int 0), (11, .int 3), (9, .long y3.toInt64), (3, .int (nI (k / 8))), (2, .int (nI (k % 8))), (0, .ref (bd 0)), (1, .int (nI k))]) C dX6_area_135 (by decide) rfl ?_
              refine fj_aload_n C 7 dX6_area_137 rfl rfl ?_
              refine fj_get (Cn := RX6) (T := TX6) (N := 44) (ci := 6) (v := .int (u4 14)) C iX6 0 (fm_at0 _ _ _ _ _) rfl 43 (by decide) kX6_307 rfl dX6_area_138 ?_
              refine fj_at (y := y4) ey4 ?_
              refine fj_i2l C dX6_area_141 ?_
              refine fj_lstore (lv' := [(9, .long y4.toInt64), (7, .long x4.toInt64), (4, .long ((((0 + ((x0.toInt64 * y1.toInt64) - (x1.toInt64 * y0.toInt64))) + ((x1.toInt64 * ((u2 14).toInt64)) - (((u2 13).toInt64) * y1.toInt64))) + ((((u2 13).toInt64) * y3.toInt64) - (x3.toInt64 * ((u2 14).toInt64)))) + ((x3.toInt64 * y4.toInt64) - (x4.toInt64 * y3.toInt64)))), (6, .int 0), (11, .int 3), (3, .int (nI (k / 8))), (2, .int (nI (k % 8))), (0, .ref (bd 0)), (1, .int (nI k))]) C dX6_area_142 (by decide) rfl ?_
              refine fj_iinc (v := 4) (lv' := [(11, .int 4), (9, .long y4.toInt64), (7, .long x4.toInt64), (4, .long ((((0 + ((x0.toInt64 * y1.toInt64) - (x1.toInt64 * y0.toInt64))) + ((x1.toInt64 * ((u2 14).toInt64)) - (((u2 13).toInt64) * y1.toInt64))) + ((((u2 13).toInt64) * y3.toInt64) - (x3.toInt64 * ((u2 14).toInt64)))) + ((x3.toInt64 * y4.toInt64) - (x4.toInt64 * y3.toInt64)))), (6, .int 0), (3, .int (nI (k / 8))), (2, .int (nI (k % 8))), (0, .ref (bd 0)), (1, .int (nI k))]) C 4 dX6_area_144 rfl (by decide) (by decide) rfl ?_
              refine fj_goto (tgt := 51) C dX6_area_147 (by decide) ?_
              refine fj_iload C 0 dX6_area_51 rfl ?_
              refine fj_iconst (v := 4) C dX6_area_53 (by decide) ?_
              refine fj_icmp_ge (tgt := 150) C dX6_area_54 (by decide) (fun _ => ?_) (fun h => absurd (by decide) h)
              refine fj_iload C 4 dX6_area_150 rfl ?_
              refine fj_if_eq (tgt := 160) C dX6_area_152 (by decide) (fun _ => ?_) (fun h => absurd (by decide) h)
              refine fj_ldc2 (v := (-1003)) C dX6_area_160 kL321 ?_
              exact fj_lret C E9 dX6_area_163 (Or.inr ⟨k, hk, rfl, u4, (fun j hj => (hu4 j hj).trans ((hu3 j hj).trans ((hu2 j hj).trans ((hu1 j hj).trans (hu0 j hj))))), rfl, Or.inr ⟨(Or.inr (Or.inl L2)), rfl⟩⟩)
            · refine fj_st (st' := .int 0 :: []) rfl ?_
              refine fj_if_eq (tgt := 105) C dX6_area_93 (by decide) (fun _ => ?_) (fun h => absurd (by decide) h)
              refine fj_iconst (v := 0) C dX6_area_105 (by decide) ?_
              refine fj_istore (lv' := [(6, .int 0), (11, .int 3), (9, .long y3.toInt64), (7, .long x3.toInt64), (4, .long (((0 + ((x0.toInt64 * y1.toInt64) - (x1.toInt64 * y0.toInt64))) + ((x1.toInt64 * ((u2 14).toInt64)) - (((u2 13).toInt64) * y1.toInt64))) + ((((u2 13).toInt64) * y3.toInt64) - (x3.toInt64 * ((u2 14).toInt64))))), (3, .int (nI (k / 8))), (2, .int (nI (k % 8))), (0, .ref (bd 0)), (1, .int (nI k))]) C dX6_area_106 (by decide) rfl ?_
              refine fj_lload C 4 dX6_area_108 rfl ?_
              refine fj_lload C 3 dX6_area_110 rfl ?_
              refine fj_aload_n C 7 dX6_area_112 rfl rfl ?_
              refine fj_get (Cn := RX6) (T := TX6) (N := 44) (ci := 6) (v := .int (u4 14)) C iX6 0 (fm_at0 _ _ _ _ _) rfl 43 (by decide) kX6_307 rfl dX6_area_113 ?_
              refine fj_i2l C dX6_area_116 ?_
              refine fj_lmul C dX6_area_117 ?_
              refine fj_aload_n C 7 dX6_area_118 rfl rfl ?_
              refine fj_get (Cn := RX6) (T := TX6) (N := 44) (ci := 6) (v := .int (u4 13)) C iX6 0 (fm_at0 _ _ _ _ _) rfl 42 (by decide) kX6_304 rfl dX6_area_119 ?_
              refine fj_i2l C dX6_area_122 ?_
              refine fj_lload C 2 dX6_area_123 rfl ?_
              refine fj_lmul C dX6_area_125 ?_
              refine fj_lsub C dX6_area_126 ?_
              refine fj_ladd C dX6_area_127 ?_
              refine fj_lstore (lv' := [(4, .long ((((0 + ((x0.toInt64 * y1.toInt64) - (x1.toInt64 * y0.toInt64))) + ((x1.toInt64 * ((u2 14).toInt64)) - (((u2 13).toInt64) * y1.toInt64))) + ((((u2 13).toInt64) * y3.toInt64) - (x3.toInt64 * ((u2 14).toInt64)))) + ((x3.toInt64 * ((u4 14).toInt64)) - (((u4 13).toInt64) * y3.toInt64)))), (6, .int 0), (11, .int 3), (9, .long y3.toInt64), (7, .long x3.toInt64), (3, .int (nI (k / 8))), (2, .int (nI (k % 8))), (0, .ref (bd 0)), (1, .int (nI k))]) C dX6_area_128 (by decide) rfl ?_
              refine fj_aload_n C 7 dX6_area_130 rfl rfl ?_
              refine fj_get (Cn := RX6) (T := TX6) (N := 44) (ci := 6) (v := .int (u4 13)) C iX6 0 (fm_at0 _ _ _ _ _) rfl 42 (by decide) kX6_304 rfl dX6_area_131 ?_
              refine fj_i2l C dX6_area_134 ?_
              refine fj_lstore (lv' := [(7, .long ((u4 13).toInt64)), (4, .long ((((0 + ((x0.toInt64 * y1.toInt64) - (x1.toInt64 * y0.toInt64))) + ((x1.toInt64 * ((u2 14).toInt64)) - (((u2 13).toInt64) * y1.toInt64))) + ((((u2 13).toInt64) * y3.toInt64) - (x3.toInt64 * ((u2 14).toInt64)))) + ((x3.toInt64 * ((u4 14).toInt64)) - (((u4 13).toInt64) * y3.toInt64)))), (6, .int 0), (11, .int 3), (9, .long y3.toInt64), (3, .int (nI (k / 8))), (2, .int (nI (k % 8))), (0, .ref (bd 0)), (1, .int (nI k))]) C dX6_area_135 (by decide) rfl ?_
              refine fj_aload_n C 7 dX6_area_137 rfl rfl ?_
              refine fj_get (Cn := RX6) (T := TX6) (N := 44) (ci := 6) (v := .int (u4 14)) C iX6 0 (fm_at0 _ _ _ _ _) rfl 43 (by decide) kX6_307 rfl dX6_area_138 ?_
              refine fj_i2l C dX6_area_141 ?_
              refine fj_lstore (lv' := [(9, .long ((u4 14).toInt64)), (7, .long ((u4 13).toInt64)), (4, .long ((((0 + ((x0.toInt64 * y1.toInt64) - (x1.toInt64 * y0.toInt64))) + ((x1.toInt64 * ((u2 14).toInt64)) - (((u2 13).toInt64) * y1.toInt64))) + ((((u2 13).toInt64) * y3.toInt64) - (x3.toInt64 * ((u2 14).toInt64)))) + ((x3.toInt64 * ((u4 14).toInt64)) - (((u4 13).toInt64) * y3.toInt64)))), (6, .int 0), (11, .int 3), (3, .int (nI (k / 8))), (2, .int (nI (k % 8))), (0, .ref (bd 0)), (1, .int (nI k))]) C dX6_area_142 (by decide) rfl ?_
              refine fj_iinc (v := 4) (lv' := [(11, .int 4), (9, .long ((u4 14).toInt64)), (7, .long ((u4 13).toInt64)), (4, .long ((((0 + ((x0.toInt64 * y1.toInt64) - (x1.toInt64 * y0.toInt64))) + ((x1.toInt64 * ((u2 14).toInt64)) - (((u2 13).toInt64) * y1.toInt64))) + ((((u2 13).toInt64) * y3.toInt64) - (x3.toInt64 * ((u2 14).toInt64)))) + ((x3.toInt64 * ((u4 14).toInt64)) - (((u4 13).toInt64) * y3.toInt64)))), (6, .int 0), (3, .int (nI (k / 8))), (2, .int (nI (k % 8))), (0, .ref (bd 0)), (1, .int (nI k))]) C 4 dX6_area_144 rfl (by decide) (by decide) rfl ?_
              refine fj_goto (tgt := 51) C dX6_area_147 (by decide) ?_
              refine fj_iload C 0 dX6_area_51 rfl ?_
              refine fj_iconst (v := 4) C dX6_area_53 (by decide) ?_
              refine fj_icmp_ge (tgt := 150) C dX6_area_54 (by decide) (fun _ => ?_) (fun h => absurd (by decide) h)
              refine fj_iload C 4 dX6_area_150 rfl ?_
              refine fj_if_eq (tgt := 160) C dX6_area_152 (by decide) (fun _ => ?_) (fun h => absurd (by decide) h)
              refine fj_ldc2 (v := (-1003)) C dX6_area_160 kL321 ?_
              exact fj_lret C E9 dX6_area_163 (Or.inr ⟨k, hk, rfl, u4, (fun j hj => (hu4 j hj).trans ((hu3 j hj).trans ((hu2 j hj).trans ((hu1 j hj).trans (hu0 j hj))))), rfl, Or.inr ⟨(Or.inr (Or.inl L2)), rfl⟩⟩)
          · refine fj_st (st' := .int 0 :: []) rfl ?_
            refine fj_if_eq (tgt := 105) C dX6_area_93 (by decide) (fun _ => ?_) (fun h => absurd (by decide) h)
            refine fj_iconst (v := 0) C dX6_area_105 (by decide) ?_
            refine fj_istore (lv' := [(6, .int 0), (11, .int 2), (9, .long ((u2 14).toInt64)), (7, .long ((u2 13).toInt64)), (4, .long ((0 + ((x0.toInt64 * y1.toInt64) - (x1.toInt64 * y0.toInt64))) + ((x1.toInt64 * ((u2 14).toInt64)) - (((u2 13).toInt64) * y1.toInt64)))), (3, .int (nI (k / 8))), (2, .int (nI (k % 8))), (0, .ref (bd 0)), (1, .int (nI k))]) C dX6_area_106 (by decide) rfl ?_
            refine fj_lload C 4 dX6_area_108 rfl ?_
            refine fj_lload C 3 dX6_area_110 rfl ?_
            refine fj_aload_n C 7 dX6_area_112 rfl rfl ?_
            refine fj_get (Cn := RX6) (T := TX6) (N := 44) (ci := 6) (v := .int (u3 14)) C iX6 0 (fm_at0 _ _ _ _ _) rfl 43 (by decide) kX6_307 rfl dX6_area_113 ?_
            refine fj_i2l C dX6_area_116 ?_
            refine fj_lmul C dX6_area_117 ?_
            refine fj_aload_n C 7 dX6_area_118 rfl rfl ?_
            refine fj_get (Cn := RX6) (T := TX6) (N := 44) (ci := 6) (v := .int (u3 13)) C iX6 0 (fm_at0 _ _ _ _ _) rfl 42 (by decide) kX6_304 rfl dX6_area_119 ?_
            refine fj_i2l C dX6_area_122 ?_
            refine fj_lload C 2 dX6_area_123 rfl ?_
            refine fj_lmul C dX6_area_125 ?_
            refine fj_lsub C dX6_area_126 ?_
            refine fj_ladd C dX6_area_127 ?_
            refine fj_lstore (lv' := [(4, .long (((0 + ((x0.toInt64 * y1.toInt64) - (x1.toInt64 * y0.toInt64))) + ((x1.toInt64 * ((u2 14).toInt64)) - (((u2 13).toInt64) * y1.toInt64))) + ((((u2 13).toInt64) * ((u3 14).toInt64)) - (((u3 13).toInt64) * ((u2 14).toInt64))))), (6, .int 0), (11, .int 2), (9, .long ((u2 14).toInt64)), (7, .long ((u2 13).toInt64)), (3, .int (nI (k / 8))), (2, .int (nI (k % 8))), (0, .ref (bd 0)), (1, .int (nI k))]) C dX6_area_128 (by decide) rfl ?_
            refine fj_aload_n C 7 dX6_area_130 rfl rfl ?_
            refine fj_get (Cn := RX6) (T := TX6) (N := 44) (ci := 6) (v := .int (u3 13)) C iX6 0 (fm_at0 _ _ _ _ _) rfl 42 (by decide) kX6_304 rfl dX6_area_131 ?_
            refine fj_i2l C dX6_area_134 ?_
            refine fj_lstore (lv' := [(7, .long ((u3 13).toInt64)), (4, .long (((0 + ((x0.toInt64 * y1.toInt64) - (x1.toInt64 * y0.toInt64))) + ((x1.toInt64 * ((u2 14).toInt64)) - (((u2 13).toInt64) * y1.toInt64))) + ((((u2 13).toInt64) * ((u3 14).toInt64)) - (((u3 13).toInt64) * ((u2 14).toInt64))))), (6, .int 0), (11, .int 2), (9, .long ((u2 14).toInt64)), (3, .int (nI (k / 8))), (2, .int (nI (k % 8))), (0, .ref (bd 0)), (1, .int (nI k))]) C dX6_area_135 (by decide) rfl ?_
            refine fj_aload_n C 7 dX6_area_137 rfl rfl ?_
            refine fj_get (Cn := RX6) (T := TX6) (N := 44) (ci := 6) (v := .int (u3 14)) C iX6 0 (fm_at0 _ _ _ _ _) rfl 43 (by decide) kX6_307 rfl dX6_area_138 ?_
            refine fj_i2l C dX6_area_141 ?_
            refine fj_lstore (lv' := [(9, .long ((u3 14).toInt64)), (7, .long ((u3 13).toInt64)), (4, .long (((0 + ((x0.toInt64 * y1.toInt64) - (x1.toInt64 * y0.toInt64))) + ((x1.toInt64 * ((u2 14).toInt64)) - (((u2 13).toInt64) * y1.toInt64))) + ((((u2 13).toInt64) * ((u3 14).toInt64)) - (((u3 13).toInt64) * ((u2 14).toInt64))))), (6, .int 0), (11, .int 2), (3, .int (nI (k / 8))), (2, .int (nI (k % 8))), (0, .ref (bd 0)), (1, .int (nI k))]) C dX6_area_142 (by decide) rfl ?_
            refine fj_iinc (v := 3) (lv' := [(11, .int 3), (9, .long ((u3 14).toInt64)), (7, .long ((u3 13).toInt64)), (4, .long (((0 + ((x0.toInt64 * y1.toInt64) - (x1.toInt64 * y0.toInt64))) + ((x1.toInt64 * ((u2 14).toInt64)) - (((u2 13).toInt64) * y1.toInt64))) + ((((u2 13).toInt64) * ((u3 14).toInt64)) - (((u3 13).toInt64) * ((u2 14).toInt64))))), (6, .int 0), (3, .int (nI (k / 8))), (2, .int (nI (k % 8))), (0, .ref (bd 0)), (1, .int (nI k))]) C 4 dX6_area_144 rfl (by decide) (by decide) rfl ?_
            refine fj_goto (tgt := 51) C dX6_area_147 (by decide) ?_
            refine fj_iload C 0 dX6_area_51 rfl ?_
            refine fj_iconst (v := 4) C dX6_area_53 (by decide) ?_
            refine fj_icmp_ge (tgt := 150) C dX6_area_54 (by decide) (fun h => absurd h (by decide)) (fun _ => ?_)
            refine fj_aload_n C 7 dX6_area_57 rfl rfl ?_
            refine fj_iload C 0 dX6_area_58 rfl ?_
            refine fj_iconst (v := 1) C dX6_area_60 (by decide) ?_
            refine fj_icmp_eq (tgt := 70) C dX6_area_61 (by decide) (fun h => absurd h (by decide)) (fun _ => ?_)
            refine fj_iload C 0 dX6_area_64 rfl ?_
            refine fj_iconst (v := 2) C dX6_area_66 (by decide) ?_
            refine fj_icmp_ne (tgt := 76) C dX6_area_67 (by decide) (fun _ => ?_) (fun h => absurd h (by decide))
            refine fj_iload_n C 6 dX6_area_76 rfl rfl ?_
            refine fj_iload C 0 dX6_area_77 rfl ?_
            refine fj_iconst (v := 1) C dX6_area_79 (by decide) ?_
            refine fj_icmp_le (tgt := 89) C dX6_area_80 (by decide) (fun h => absurd h (by decide)) (fun _ => ?_)
            refine fj_iload_n C 5 dX6_area_83 rfl rfl ?_
            refine fj_iconst (v := 1) C dX6_area_84 (by decide) ?_
            refine fj_iadd C dX6_area_85 ?_
            refine fj_at (y := nI (k / 8 + 1)) (nI_1 _) ?_
            refine fj_goto (tgt := 90) C dX6_area_86 (by decide) ?_
            refine fj_callVw (As := [.int (nI (k % 8)), .int (nI (k / 8 + 1))]) (rest := []) C (d_X6_findPlace l D ty t0 bd a g u3 (nI (k % 8)) (nI (k / 8 + 1)) (k % 8) (k / 8 + 1) rfl rfl (by omega) (by omega)) (cwV 2 C.2.2.2.2.1 gX6_area_X6_findPlace rfl rfl rfl (by decide +kernel) ⟨Nat.le_of_ble_eq_true rfl, Nat.le_of_ble_eq_true rfl⟩) ⟨0, 6, _, _, fm_at0 _ _ _ _ _, rfl, rfl⟩ rfl (Nat.le_of_ble_eq_true rfl) dX6_area_90 ⟨Nat.zero_le _, Nat.zero_le _⟩ (fun v9 w9 hp9 => ?_)
            rcases hp9 with ⟨x4, y4, L4, u4, hu4, ex4, ey4, rfl, rfl⟩ | ⟨L4, u4, hu4, rfl, rfl⟩
            · refine fj_st (st' := .int 1 :: []) rfl ?_
              refine fj_if_eq (tgt := 105) C dX6_area_93 (by decide) (fun h => absurd h (by decide)) (fun _ => ?_)
              refine fj_iload C 4 dX6_area_96 rfl ?_
              refine fj_if_eq (tgt := 105) C dX6_area_98 (by decide) (fun _ => ?_) (fun h => absurd (by decide) h)
              refine fj_iconst (v := 0) C dX6_area_105 (by decide) ?_
              refine fj_istore (lv' := [(6, .int 0), (11, .int 3), (9, .long ((u3 14).toInt64)), (7, .long ((u3 13).toInt64)), (4, .long (((0 + ((x0.toInt64 * y1.toInt64) - (x1.toInt64 * y0.toInt64))) + ((x1.toInt64 * ((u2 14).toInt64)) - (((u2 13).toInt64) * y1.toInt64))) + ((((u2 13).toInt64) * ((u3 14).toInt64)) - (((u3 13).toInt64) * ((u2 14).toInt64))))), (3, .int (nI (k / 8))), (2, .int (nI (k % 8))), (0, .ref (bd 0)), (1, .int (nI k))]) C dX6_area_106 (by decide) rfl ?_
              refine fj_lload C 4 dX6_area_108 rfl ?_
              refine fj_lload C 3 dX6_area_110 rfl ?_
              refine fj_aload_n C 7 dX6_area_112 rfl rfl ?_
              refine fj_get (Cn := RX6) (T := TX6) (N := 44) (ci := 6) (v := .int (u4 14)) C iX6 0 (fm_at0 _ _ _ _ _) rfl 43 (by decide) kX6_307 rfl dX6_area_113 ?_
              refine fj_at (y := y4) ey4 ?_
              refine fj_i2l C dX6_area_116 ?_
              refine fj_lmul C dX6_area_117 ?_
              refine fj_aload_n C 7 dX6_area_118 rfl rfl ?_
              refine fj_get (Cn := RX6) (T := TX6) (N := 44) (ci := 6) (v := .int (u4 13)) C iX6 0 (fm_at0 _ _ _ _ _) rfl 42 (by decide) kX6_304 rfl dX6_area_119 ?_
              refine fj_at (y := x4) ex4 ?_
              refine fj_i2l C dX6_area_122 ?_
              refine fj_lload C 2 dX6_area_123 rfl ?_
              refine fj_lmul C dX6_area_125 ?_
              refine fj_lsub C dX6_area_126 ?_
              refine fj_ladd C dX6_area_127 ?_
              refine fj_lstore (lv' := [(4, .long ((((0 + ((x0.toInt64 * y1.toInt64) - (x1.toInt64 * y0.toInt64))) + ((x1.toInt64 * ((u2 14).toInt64)) - (((u2 13).toInt64) * y1.toInt64))) + ((((u2 13).toInt64) * ((u3 14).toInt64)) - (((u3 13).toInt64) * ((u2 14).toInt64)))) + ((((u3 13).toInt64) * y4.toInt64) - (x4.toInt64 * ((u3 14).toInt64))))), (6, .int 0), (11, .int 3), (9, .long ((u3 14).toInt64)), (7, .long ((u3 13).toInt64)), (3, .int (nI (k / 8))), (2, .int (nI (k % 8))), (0, .ref (bd 0)), (1, .int (nI k))]) C dX6_area_128 (by decide) rfl ?_
              refine fj_aload_n C 7 dX6_area_130 rfl rfl ?_
              refine fj_get (Cn := RX6) (T := TX6) (N := 44) (ci := 6) (v := .int (u4 13)) C iX6 0 (fm_at0 _ _ _ _ _) rfl 42 (by decide) kX6_304 rfl dX6_area_131 ?_
              refine fj_at (y := x4) ex4 ?_
              refine fj_i2l C dX6_area_134 ?_
              refine fj_lstore (lv' := [(7, .long x4.toInt64), (4, .long ((((0 + ((x0.toInt64 * y1.toInt64) - (x1.toInt64 * y0.toInt64))) + ((x1.toInt64 * ((u2 14).toInt64)) - (((u2 13).toInt64) * y1.toInt64))) + ((((u2 13).toInt64) * ((u3 14).toInt64)) - (((u3 13).toInt64) * ((u2 14).toInt64)))) + ((((u3 13).toInt64) * y4.toInt64) - (x4.toInt64 * ((u3 14).toInt64))))), (6, .int 0), (11, .int 3), (9, .long ((u3 14).toInt64)), (3, .int (nI (k / 8))), (2, .int (nI (k % 8))), (0, .ref (bd 0)), (1, .int (nI k))]) C dX6_area_135 (by decide) rfl ?_
              refine fj_aload_n C 7 dX6_area_137 rfl rfl ?_
              refine fj_get (Cn := RX6) (T := TX6) (N := 44) (ci := 6) (v := .int (u4 14)) C iX6 0 (fm_at0 _ _ _ _ _) rfl 43 (by decide) kX6_307 rfl dX6_area_138 ?_
              refine fj_at (y := y4) ey4 ?_
              refine fj_i2l C dX6_area_141 ?_
              refine fj_lstore (lv' := [(9, .long y4.toInt64), (7, .long x4.toInt64), (4, .long ((((0 + ((x0.toInt64 * y1.toInt64) - (x1.toInt64 * y0.toInt64))) + ((x1.toInt64 * ((u2 14).toInt64)) - (((u2 13).toInt64) * y1.toInt64))) + ((((u2 13).toInt64) * ((u3 14).toInt64)) - (((u3 13).toInt64) * ((u2 14).toInt64)))) + ((((u3 13).toInt64) * y4.toInt64) - (x4.toInt64 * ((u3 14).toInt64))))), (6, .int 0), (11, .int 3), (3, .int (nI (k / 8))), (2, .int (nI (k % 8))), (0, .ref (bd 0)), (1, .int (nI k))]) C dX6_area_142 (by decide) rfl ?_
              refine fj_iinc (v := 4) (lv' := [(11, .int 4), (9, .long y4.toInt64), (7, .long x4.toInt64), (4, .long ((((0 + ((x0.toInt64 * y1.toInt64) - (x1.toInt64 * y0.toInt64))) + ((x1.toInt64 * ((u2 14).toInt64)) - (((u2 13).toInt64) * y1.toInt64))) + ((((u2 13).toInt64) * ((u3 14).toInt64)) - (((u3 13).toInt64) * ((u2 14).toInt64)))) + ((((u3 13).toInt64) * y4.toInt64) - (x4.toInt64 * ((u3 14).toInt64))))), (6, .int 0), (3, .int (nI (k / 8))), (2, .int (nI (k % 8))), (0, .ref (bd 0)), (1, .int (nI k))]) C 4 dX6_area_144 rfl (by decide) (by decide) rfl ?_
              refine fj_goto (tgt := 51) C dX6_area_147 (by decide) ?_
              refine fj_iload C 0 dX6_area_51 rfl ?_
              refine fj_iconst (v := 4) C dX6_area_53 (by decide) ?_
              refine fj_icmp_ge (tgt := 150) C dX6_area_54 (by decide) (fun _ => ?_) (fun h => absurd (by decide) h)
              refine fj_iload C 4 dX6_area_150 rfl ?_
              refine fj_if_eq (tgt := 160) C dX6_area_152 (by decide) (fun _ => ?_) (fun h => absurd (by decide) h)
              refine fj_ldc2 (v := (-1003)) C dX6_area_160 kL321 ?_
              exact fj_lret C E9 dX6_area_163 (Or.inr ⟨k, hk, rfl, u4, (fun j hj => (hu4 j hj).trans ((hu3 j hj).trans ((hu2 j hj).trans ((hu1 j hj).trans (hu0 j hj))))), rfl, Or.inr ⟨(Or.inr (Or.inl L2)), rfl⟩⟩)
            · refine fj_st (st' := .int 0 :: []) rfl ?_
              refine fj_if_eq (tgt := 105) C dX6_area_93 (by decide) (fun _ => ?_) (fun h => absurd (by decide) h)
              refine fj_iconst (v := 0) C dX6_area_105 (by decide) ?_
              refine fj_istore (lv' := [(6, .int 0), (11, .int 3), (9, .long ((u3 14).toInt64)), (7, .long ((u3 13).toInt64)), (4, .long (((0 + ((x0.toInt64 * y1.toInt64) - (x1.toInt64 * y0.toInt64))) + ((x1.toInt64 * ((u2 14).toInt64)) - (((u2 13).toInt64) * y1.toInt64))) + ((((u2 13).toInt64) * ((u3 14).toInt64)) - (((u3 13).toInt64) * ((u2 14).toInt64))))), (3, .int (nI (k / 8))), (2, .int (nI (k % 8))), (0, .ref (bd 0)), (1, .int (nI k))]) C dX6_area_106 (by decide) rfl ?_
              refine fj_lload C 4 dX6_area_108 rfl ?_
              refine fj_lload C 3 dX6_area_110 rfl ?_
              refine fj_aload_n C 7 dX6_area_112 rfl rfl ?_
              refine fj_get (Cn := RX6) (T := TX6) (N := 44) (ci := 6) (v := .int (u4 14)) C iX6 0 (fm_at0 _ _ _ _ _) rfl 43 (by decide) kX6_307 rfl dX6_area_113 ?_
              refine fj_i2l C dX6_area_116 ?_
              refine fj_lmul C dX6_area_117 ?_
              refine fj_aload_n C 7 dX6_area_118 rfl rfl ?_
              refine fj_get (Cn := RX6) (T := TX6) (N := 44) (ci := 6) (v := .int (u4 13)) C iX6 0 (fm_at0 _ _ _ _ _) rfl 42 (by decide) kX6_304 rfl dX6_area_119 ?_
              refine fj_i2l C dX6_area_122 ?_
              refine fj_lload C 2 dX6_area_123 rfl ?_
              refine fj_lmul C dX6_area_125 ?_
              refine fj_lsub C dX6_area_126 ?_
              refine fj_ladd C dX6_area_127 ?_
              refine fj_lstore (lv' := [(4, .long ((((0 + ((x0.toInt64 * y1.toInt64) - (x1.toInt64 * y0.toInt64))) + ((x1.toInt64 * ((u2 14).toInt64)) - (((u2 13).toInt64) * y1.toInt64))) + ((((u2 13).toInt64) * ((u3 14).toInt64)) - (((u3 13).toInt64) * ((u2 14).toInt64)))) + ((((u3 13).toInt64) * ((u4 14).toInt64)) - (((u4 13).toInt64) * ((u3 14).toInt64))))), (6, .int 0), (11, .int 3), (9, .long ((u3 14).toInt64)), (7, .long ((u3 13).toInt64)), (3, .int (nI (k / 8))), (2, .int (nI (k % 8))), (0, .ref (bd 0)), (1, .int (nI k))]) C dX6_area_128 (by decide) rfl ?_
              refine fj_aload_n C 7 dX6_area_130 rfl rfl ?_
              refine fj_get (Cn := RX6) (T := TX6) (N := 44) (ci := 6) (v := .int (u4 13)) C iX6 0 (fm_at0 _ _ _ _ _) rfl 42 (by decide) kX6_304 rfl dX6_area_131 ?_
              refine fj_i2l C dX6_area_134 ?_
              refine fj_lstore (lv' := [(7, .long ((u4 13).toInt64)), (4, .long ((((0 + ((x0.toInt64 * y1.toInt64) - (x1.toInt64 * y0.toInt64))) + ((x1.toInt64 * ((u2 14).toInt64)) - (((u2 13).toInt64) * y1.toInt64))) + ((((u2 13).toInt64) * ((u3 14).toInt64)) - (((u3 13).toInt64) * ((u2 14).toInt64)))) + ((((u3 13).toInt64) * ((u4 14).toInt64)) - (((u4 13).toInt64) * ((u3 14).toInt64))))), (6, .int 0), (11, .int 3), (9, .long ((u3 14).toInt64)), (3, .int (nI (k / 8))), (2, .int (nI (k % 8))), (0, .ref (bd 0)), (1, .int (nI k))]) C dX6_area_135 (by decide) rfl ?_
              refine fj_aload_n C 7 dX6_area_137 rfl rfl ?_
              refine fj_get (Cn := RX6) (T := TX6) (N := 44) (ci := 6) (v := .int (u4 14)) C iX6 0 (fm_at0 _ _ _ _ _) rfl 43 (by decide) kX6_307 rfl dX6_area_138 ?_
              refine fj_i2l C dX6_area_141 ?_
              refine fj_lstore (lv' := [(9, .long ((u4 14).toInt64)), (7, .long ((u4 13).toInt64)), (4, .long ((((0 + ((x0.toInt64 * y1.toInt64) - (x1.toInt64 * y0.toInt64))) + ((x1.toInt64 * ((u2 14).toInt64)) - (((u2 13).toInt64) * y1.toInt64))) + ((((u2 13).toInt64) * ((u3 14).toInt64)) - (((u3 13).toInt64) * ((u2 14).toInt64)))) + ((((u3 13).toInt64) * ((u4 14).toInt64)) - (((u4 13).toInt64) * ((u3 14).toInt64))))), (6, .int 0), (11, .int 3), (3, .int (nI (k / 8))), (2, .int (nI (k % 8))), (0, .ref (bd 0)), (1, .int (nI k))]) C dX6_area_142 (by decide) rfl ?_
              refine fj_iinc (v := 4) (lv' := [(11, .int 4), (9, .long ((u4 14).toInt64)), (7, .long ((u4 13).toInt64)), (4, .long ((((0 + ((x0.toInt64 * y1.toInt64) - (x1.toInt64 * y0.toInt64))) + ((x1.toInt64 * ((u2 14).toInt64)) - (((u2 13).toInt64) * y1.toInt64))) + ((((u2 13).toInt64) * ((u3 14).toInt64)) - (((u3 13).toInt64) * ((u2 14).toInt64)))) + ((((u3 13).toInt64) * ((u4 14).toInt64)) - (((u4 13).toInt64) * ((u3 14).toInt64))))), (6, .int 0), (3, .int (nI (k / 8))), (2, .int (nI (k % 8))), (0, .ref (bd 0)), (1, .int (nI k))]) C 4 dX6_area_144 rfl (by decide) (by decide) rfl ?_
              refine fj_goto (tgt := 51) C dX6_area_147 (by decide) ?_
              refine fj_iload C 0 dX6_area_51 rfl ?_
              refine fj_iconst (v := 4) C dX6_area_53 (by decide) ?_
              refine fj_icmp_ge (tgt := 150) C dX6_area_54 (by decide) (fun _ => ?_) (fun h => absurd (by decide) h)
              refine fj_iload C 4 dX6_area_150 rfl ?_
              refine fj_if_eq (tgt := 160) C dX6_area_152 (by decide) (fun _ => ?_) (fun h => absurd (by decide) h)
              refine fj_ldc2 (v := (-1003)) C dX6_area_160 kL321 ?_
              exact fj_lret C E9 dX6_area_163 (Or.inr ⟨k, hk, rfl, u4, (fun j hj => (hu4 j hj).trans ((hu3 j hj).trans ((hu2 j hj).trans ((hu1 j hj).trans (hu0 j hj))))), rfl, Or.inr ⟨(Or.inr (Or.inl L2)), rfl⟩⟩)
      · refine fj_st (st' := .int 0 :: []) rfl ?_
        refine fj_if_eq (tgt := 105) C dX6_area_93 (by decide) (fun _ => ?_) (fun h => absurd (by decide) h)
        refine fj_iconst (v := 0) C dX6_area_105 (by decide) ?_
        refine fj_istore (lv' := [(6, .int 0), (11, .int 0), (9, .long y0.toInt64), (7, .long x0.toInt64), (4, .long 0), (3, .int (nI (k / 8))), (2, .int (nI (k % 8))), (0, .ref (bd 0)), (1, .int (nI k))]) C dX6_area_106 (by decide) rfl ?_
        refine fj_lload C 4 dX6_area_108 rfl ?_
        refine fj_lload C 3 dX6_area_110 rfl ?_
        refine fj_aload_n C 7 dX6_area_112 rfl rfl ?_
        refine fj_get (Cn := RX6) (T := TX6) (N := 44) (ci := 6) (v := .int (u1 14)) C iX6 0 (fm_at0 _ _ _ _ _) rfl 43 (by decide) kX6_307 rfl dX6_area_113 ?_
        refine fj_i2l C dX6_area_116 ?_
        refine fj_lmul C dX6_area_117 ?_
        refine fj_aload_n C 7 dX6_area_118 rfl rfl ?_
        refine fj_get (Cn := RX6) (T := TX6) (N := 44) (ci := 6) (v := .int (u1 13)) C iX6 0 (fm_at0 _ _ _ _ _) rfl 42 (by decide) kX6_304 rfl dX6_area_119 ?_
        refine fj_i2l C dX6_area_122 ?_
        refine fj_lload C 2 dX6_area_123 rfl ?_
        refine fj_lmul C dX6_area_125 ?_
        refine fj_lsub C dX6_area_126 ?_
        refine fj_ladd C dX6_area_127 ?_
        refine fj_lstore (lv' := [(4, .long (0 + ((x0.toInt64 * ((u1 14).toInt64)) - (((u1 13).toInt64) * y0.toInt64)))), (6, .int 0), (11, .int 0), (9, .long y0.toInt64), (7, .long x0.toInt64), (3, .int (nI (k / 8))), (2, .int (nI (k % 8))), (0, .ref (bd 0)), (1, .int (nI k))]) C dX6_area_128 (by decide) rfl ?_
        refine fj_aload_n C 7 dX6_area_130 rfl rfl ?_
        refine fj_get (Cn := RX6) (T := TX6) (N := 44) (ci := 6) (v := .int (u1 13)) C iX6 0 (fm_at0 _ _ _ _ _) rfl 42 (by decide) kX6_304 rfl dX6_area_131 ?_
        refine fj_i2l C dX6_area_134 ?_
        refine fj_lstore (lv' := [(7, .long ((u1 13).toInt64)), (4, .long (0 + ((x0.toInt64 * ((u1 14).toInt64)) - (((u1 13).toInt64) * y0.toInt64)))), (6, .int 0), (11, .int 0), (9, .long y0.toInt64), (3, .int (nI (k / 8))), (2, .int (nI (k % 8))), (0, .ref (bd 0)), (1, .int (nI k))]) C dX6_area_135 (by decide) rfl ?_
        refine fj_aload_n C 7 dX6_area_137 rfl rfl ?_
        refine fj_get (Cn := RX6) (T := TX6) (N := 44) (ci := 6) (v := .int (u1 14)) C iX6 0 (fm_at0 _ _ _ _ _) rfl 43 (by decide) kX6_307 rfl dX6_area_138 ?_
        refine fj_i2l C dX6_area_141 ?_
        refine fj_lstore (lv' := [(9, .long ((u1 14).toInt64)), (7, .long ((u1 13).toInt64)), (4, .long (0 + ((x0.toInt64 * ((u1 14).toInt64)) - (((u1 13).toInt64) * y0.toInt64)))), (6, .int 0), (11, .int 0), (3, .int (nI (k / 8))), (2, .int (nI (k % 8))), (0, .ref (bd 0)), (1, .int (nI k))]) C dX6_area_142 (by decide) rfl ?_
        refine fj_iinc (v := 1) (lv' := [(11, .int 1), (9, .long ((u1 14).toInt64)), (7, .long ((u1 13).toInt64)), (4, .long (0 + ((x0.toInt64 * ((u1 14).toInt64)) - (((u1 13).toInt64) * y0.toInt64)))), (6, .int 0), (3, .int (nI (k / 8))), (2, .int (nI (k % 8))), (0, .ref (bd 0)), (1, .int (nI k))]) C 4 dX6_area_144 rfl (by decide) (by decide) rfl ?_
        refine fj_goto (tgt := 51) C dX6_area_147 (by decide) ?_
        refine fj_iload C 0 dX6_area_51 rfl ?_
        refine fj_iconst (v := 4) C dX6_area_53 (by decide) ?_
        refine fj_icmp_ge (tgt := 150) C dX6_area_54 (by decide) (fun h => absurd h (by decide)) (fun _ => ?_)
        refine fj_aload_n C 7 dX6_area_57 rfl rfl ?_
        refine fj_iload C 0 dX6_area_58 rfl ?_
        refine fj_iconst (v := 1) C dX6_area_60 (by decide) ?_
        refine fj_icmp_eq (tgt := 70) C dX6_area_61 (by decide) (fun _ => ?_) (fun h => absurd (by decide) h)
        refine fj_iload_n C 6 dX6_area_70 rfl rfl ?_
        refine fj_iconst (v := 1) C dX6_area_71 (by decide) ?_
        refine fj_iadd C dX6_area_72 ?_
        refine fj_at (y := nI (k % 8 + 1)) (nI_1 _) ?_
        refine fj_goto (tgt := 77) C dX6_area_73 (by decide) ?_
        refine fj_iload C 0 dX6_area_77 rfl ?_
        refine fj_iconst (v := 1) C dX6_area_79 (by decide) ?_
        refine fj_icmp_le (tgt := 89) C dX6_area_80 (by decide) (fun _ => ?_) (fun h => absurd (by decide) h)
        refine fj_iload_n C 5 dX6_area_89 rfl rfl ?_
        refine fj_callVw (As := [.int (nI (k % 8 + 1)), .int (nI (k / 8))]) (rest := []) C (d_X6_findPlace l D ty t0 bd a g u1 (nI (k % 8 + 1)) (nI (k / 8)) (k % 8 + 1) (k / 8) rfl rfl (by omega) (by omega)) (cwV 2 C.2.2.2.2.1 gX6_area_X6_findPlace rfl rfl rfl (by decide +kernel) ⟨Nat.le_of_ble_eq_true rfl, Nat.le_of_ble_eq_true rfl⟩) ⟨0, 6, _, _, fm_at0 _ _ _ _ _, rfl, rfl⟩ rfl (Nat.le_of_ble_eq_true rfl) dX6_area_90 ⟨Nat.zero_le _, Nat.zero_le _⟩ (fun v9 w9 hp9 => ?_)
        rcases hp9 with ⟨x2, y2, L2, u2, hu2, ex2, ey2, rfl, rfl⟩ | ⟨L2, u2, hu2, rfl, rfl⟩
        · refine fj_st (st' := .int 1 :: []) rfl ?_
          refine fj_if_eq (tgt := 105) C dX6_area_93 (by decide) (fun h => absurd h (by decide)) (fun _ => ?_)
          refine fj_iload C 4 dX6_area_96 rfl ?_
          refine fj_if_eq (tgt := 105) C dX6_area_98 (by decide) (fun _ => ?_) (fun h => absurd (by decide) h)
          refine fj_iconst (v := 0) C dX6_area_105 (by decide) ?_
          refine fj_istore (lv' := [(6, .int 0), (11, .int 1), (9, .long ((u1 14).toInt64)), (7, .long ((u1 13).toInt64)), (4, .long (0 + ((x0.toInt64 * ((u1 14).toInt64)) - (((u1 13).toInt64) * y0.toInt64)))), (3, .int (nI (k / 8))), (2, .int (nI (k % 8))), (0, .ref (bd 0)), (1, .int (nI k))]) C dX6_area_106 (by decide) rfl ?_
          refine fj_lload C 4 dX6_area_108 rfl ?_
          refine fj_lload C 3 dX6_area_110 rfl ?_
          refine fj_aload_n C 7 dX6_area_112 rfl rfl ?_
          refine fj_get (Cn := RX6) (T := TX6) (N := 44) (ci := 6) (v := .int (u2 14)) C iX6 0 (fm_at0 _ _ _ _ _) rfl 43 (by decide) kX6_307 rfl dX6_area_113 ?_
          refine fj_at (y := y2) ey2 ?_
          refine fj_i2l C dX6_area_116 ?_
          refine fj_lmul C dX6_area_117 ?_
          refine fj_aload_n C 7 dX6_area_118 rfl rfl ?_
          refine fj_get (Cn := RX6) (T := TX6) (N := 44) (ci := 6) (v := .int (u2 13)) C iX6 0 (fm_at0 _ _ _ _ _) rfl 42 (by decide) kX6_304 rfl dX6_area_119 ?_
          refine fj_at (y := x2) ex2 ?_
          refine fj_i2l C dX6_area_122 ?_
          refine fj_lload C 2 dX6_area_123 rfl ?_
          refine fj_lmul C dX6_area_125 ?_
          refine fj_lsub C dX6_area_126 ?_
          refine fj_ladd C dX6_area_127 ?_
          refine fj_lstore (lv' := [(4, .long ((0 + ((x0.toInt64 * ((u1 14).toInt64)) - (((u1 13).toInt64) * y0.toInt64))) + ((((u1 13).toInt64) * y2.toInt64) - (x2.toInt64 * ((u1 14).toInt64))))), (6, .int 0), (11, .int 1), (9, .long ((u1 14).toInt64)), (7, .long ((u1 13).toInt64)), (3, .int (nI (k / 8))), (2, .int (nI (k % 8))), (0, .ref (bd 0)), (1, .int (nI k))]) C dX6_area_128 (by decide) rfl ?_
          refine fj_aload_n C 7 dX6_area_130 rfl rfl ?_
          refine fj_get (Cn := RX6) (T := TX6) (N := 44) (ci := 6) (v := .int (u2 13)) C iX6 0 (fm_at0 _ _ _ _ _) rfl 42 (by decide) kX6_304 rfl dX6_area_131 ?_
          refine fj_at (y := x2) ex2 ?_
          refine fj_i2l C dX6_area_134 ?_
          refine fj_lstore (lv' := [(7, .long x2.toInt64), (4, .long ((0 + ((x0.toInt64 * ((u1 14).toInt64)) - (((u1 13).toInt64) * y0.toInt64))) + ((((u1 13).toInt64) * y2.toInt64) - (x2.toInt64 * ((u1 14).toInt64))))), (6, .int 0), (11, .int 1), (9, .long ((u1 14).toInt64)), (3, .int (nI (k / 8))), (2, .int (nI (k % 8))), (0, .ref (bd 0)), (1, .int (nI k))]) C dX6_area_135 (by decide) rfl ?_
          refine fj_aload_n C 7 dX6_area_137 rfl rfl ?_
          refine fj_get (Cn := RX6) (T := TX6) (N := 44) (ci := 6) (v := .int (u2 14)) C iX6 0 (fm_at0 _ _ _ _ _) rfl 43 (by decide) kX6_307 rfl dX6_area_138 ?_
          refine fj_at (y := y2) ey2 ?_
          refine fj_i2l C dX6_area_141 ?_
          refine fj_lstore (lv' := [(9, .long y2.toInt64), (7, .long x2.toInt64), (4, .long ((0 + ((x0.toInt64 * ((u1 14).toInt64)) - (((u1 13).toInt64) * y0.toInt64))) + ((((u1 13).toInt64) * y2.toInt64) - (x2.toInt64 * ((u1 14).toInt64))))), (6, .int 0), (11, .int 1), (3, .int (nI (k / 8))), (2, .int (nI (k % 8))), (0, .ref (bd 0)), (1, .int (nI k))]) C dX6_area_142 (by decide) rfl ?_
          refine fj_iinc (v := 2) (lv' := [(11, .int 2), (9, .long y2.toInt64), (7, .long x2.toInt64), (4, .long ((0 + ((x0.toInt64 * ((u1 14).toInt64)) - (((u1 13).toInt64) * y0.toInt64))) + ((((u1 13).toInt64) * y2.toInt64) - (x2.toInt64 * ((u1 14).toInt64))))), (6, .int 0), (3, .int (nI (k / 8))), (2, .int (nI (k % 8))), (0, .ref (bd 0)), (1, .int (nI k))]) C 4 dX6_area_144 rfl (by decide) (by decide) rfl ?_
          refine fj_goto (tgt := 51) C dX6_area_147 (by decide) ?_
          refine fj_iload C 0 dX6_area_51 rfl ?_
          refine fj_iconst (v := 4) C dX6_area_53 (by decide) ?_
          refine fj_icmp_ge (tgt := 150) C dX6_area_54 (by decide) (fun h => absurd h (by decide)) (fun _ => ?_)
          refine fj_aload_n C 7 dX6_area_57 rfl rfl ?_
          refine fj_iload C 0 dX6_area_58 rfl ?_
          refine fj_iconst (v := 1) C dX6_area_60 (by decide) ?_
          refine fj_icmp_eq (tgt := 70) C dX6_area_61 (by decide) (fun h => absurd h (by decide)) (fun _ => ?_)
          refine fj_iload C 0 dX6_area_64 rfl ?_
          refine fj_iconst (v := 2) C dX6_area_66 (by decide) ?_
          refine fj_icmp_ne (tgt := 76) C dX6_area_67 (by decide) (fun h => absurd (by decide) h) (fun _ => ?_)
          refine fj_iload_n C 6 dX6_area_70 rfl rfl ?_
          refine fj_iconst (v := 1) C dX6_area_71 (by decide) ?_
          refine fj_iadd C dX6_area_72 ?_
          refine fj_at (y := nI (k % 8 + 1)) (nI_1 _) ?_
          refine fj_goto (tgt := 77) C dX6_area_73 (by decide) ?_
          refine fj_iload C 0 dX6_area_77 rfl ?_
          refine fj_iconst (v := 1) C dX6_area_79 (by decide) ?_
          refine fj_icmp_le (tgt := 89) C dX6_area_80 (by decide) (fun h => absurd h (by decide)) (fun _ => ?_)
          refine fj_iload_n C 5 dX6_area_83 rfl rfl ?_
          refine fj_iconst (v := 1) C dX6_area_84 (by decide) ?_
          refine fj_iadd C dX6_area_85 ?_
          refine fj_at (y := nI (k / 8 + 1)) (nI_1 _) ?_
          refine fj_goto (tgt := 90) C dX6_area_86 (by decide) ?_
          refine fj_callVw (As := [.int (nI (k % 8 + 1)), .int (nI (k / 8 + 1))]) (rest := []) C (d_X6_findPlace l D ty t0 bd a g u2 (nI (k % 8 + 1)) (nI (k / 8 + 1)) (k % 8 + 1) (k / 8 + 1) rfl rfl (by omega) (by omega)) (cwV 2 C.2.2.2.2.1 gX6_area_X6_findPlace rfl rfl rfl (by decide +kernel) ⟨Nat.le_of_ble_eq_true rfl, Nat.le_of_ble_eq_true rfl⟩) ⟨0, 6, _, _, fm_at0 _ _ _ _ _, rfl, rfl⟩ rfl (Nat.le_of_ble_eq_true rfl) dX6_area_90 ⟨Nat.zero_le _, Nat.zero_le _⟩ (fun v9 w9 hp9 => ?_)
          rcases hp9 with ⟨x3, y3, L3, u3, hu3, ex3, ey3, rfl, rfl⟩ | ⟨L3, u3, hu3, rfl, rfl⟩
          · refine fj_st (st' := .int 1 :: []) rfl ?_
            refine fj_if_eq (tgt := 105) C dX6_area_93 (by decide) (fun h => absurd h (by decide)) (fun _ => ?_)
            refine fj_iload C 4 dX6_area_96 rfl ?_
            refine fj_if_eq (tgt := 105) C dX6_area_98 (by decide) (fun _ => ?_) (fun h => absurd (by decide) h)
            refine fj_iconst (v := 0) C dX6_area_105 (by decide) ?_
            refine fj_istore (lv' := [(6, .int 0), (11, .int 2), (9, .long y2.toInt64), (7, .long x2.toInt64), (4, .long ((0 + ((x0.toInt64 * ((u1 14).toInt64)) - (((u1 13).toInt64) * y0.toInt64))) + ((((u1 13).toInt64) * y2.toInt64) - (x2.toInt64 * ((u1 14).toInt64))))), (3, .int (nI (k / 8))), (2, .int (nI (k % 8))), (0, .ref (bd 0)), (1, .int (nI k))]) C dX6_area_106 (by decide) rfl ?_
            refine fj_lload C 4 dX6_area_108 rfl ?_
            refine fj_lload C 3 dX6_area_110 rfl ?_
            refine fj_aload_n C 7 dX6_area_112 rfl rfl ?_
            refine fj_get (Cn := RX6) (T := TX6) (N := 44) (ci := 6) (v := .int (u3 14)) C iX6 0 (fm_at0 _ _ _ _ _) rfl 43 (by decide) kX6_307 rfl dX6_area_113 ?_
            refine fj_at (y := y3) ey3 ?_
            refine fj_i2l C dX6_area_116 ?_
            refine fj_lmul C dX6_area_117 ?_
            refine fj_aload_n C 7 dX6_area_118 rfl rfl ?_
            refine fj_get (Cn := RX6) (T := TX6) (N := 44) (ci := 6) (v := .int (u3 13)) C iX6 0 (fm_at0 _ _ _ _ _) rfl 42 (by decide) kX6_304 rfl dX6_area_119 ?_
            refine fj_at (y := x3) ex3 ?_
            refine fj_i2l C dX6_area_122 ?_
            refine fj_lload C 2 dX6_area_123 rfl ?_
            refine fj_lmul C dX6_area_125 ?_
            refine fj_lsub C dX6_area_126 ?_
            refine fj_ladd C dX6_area_127 ?_
            refine fj_lstore (lv' := [(4, .long (((0 + ((x0.toInt64 * ((u1 14).toInt64)) - (((u1 13).toInt64) * y0.toInt64))) + ((((u1 13).toInt64) * y2.toInt64) - (x2.toInt64 * ((u1 14).toInt64)))) + ((x2.toInt64 * y3.toInt64) - (x3.toInt64 * y2.toInt64)))), (6, .int 0), (11, .int 2), (9, .long y2.toInt64), (7, .long x2.toInt64), (3, .int (nI (k / 8))), (2, .int (nI (k % 8))), (0, .ref (bd 0)), (1, .int (nI k))]) C dX6_area_128 (by decide) rfl ?_
            refine fj_aload_n C 7 dX6_area_130 rfl rfl ?_
            refine fj_get (Cn := RX6) (T := TX6) (N := 44) (ci := 6) (v := .int (u3 13)) C iX6 0 (fm_at0 _ _ _ _ _) rfl 42 (by decide) kX6_304 rfl dX6_area_131 ?_
            refine fj_at (y := x3) ex3 ?_
            refine fj_i2l C dX6_area_134 ?_
            refine fj_lstore (lv' := [(7, .long x3.toInt64), (4, .long (((0 + ((x0.toInt64 * ((u1 14).toInt64)) - (((u1 13).toInt64) * y0.toInt64))) + ((((u1 13).toInt64) * y2.toInt64) - (x2.toInt64 * ((u1 14).toInt64)))) + ((x2.toInt64 * y3.toInt64) - (x3.toInt64 * y2.toInt64)))), (6, .int 0), (11, .int 2), (9, .long y2.toInt64), (3, .int (nI (k / 8))), (2, .int (nI (k % 8))), (0, .ref (bd 0)), (1, .int (nI k))]) C dX6_area_135 (by decide) rfl ?_
            refine fj_aload_n C 7 dX6_area_137 rfl rfl ?_
            refine fj_get (Cn := RX6) (T := TX6) (N := 44) (ci := 6) (v := .int (u3 14)) C iX6 0 (fm_at0 _ _ _ _ _) rfl 43 (by decide) kX6_307 rfl dX6_area_138 ?_
            refine fj_at (y := y3) ey3 ?_
            refine fj_i2l C dX6_area_141 ?_
            refine fj_lstore (lv' := [(9, .long y3.toInt64), (7, .long x3.toInt64), (4, .long (((0 + ((x0.toInt64 * ((u1 14).toInt64)) - (((u1 13).toInt64) * y0.toInt64))) + ((((u1 13).toInt64) * y2.toInt64) - (x2.toInt64 * ((u1 14).toInt64)))) + ((x2.toInt64 * y3.toInt64) - (x3.toInt64 * y2.toInt64)))), (6, .int 0), (11, .int 2), (3, .int (nI (k / 8))), (2, .int (nI (k % 8))), (0, .ref (bd 0)), (1, .int (nI k))]) C dX6_area_142 (by decide) rfl ?_
            refine fj_iinc (v := 3) (lv' := [(11, .int 3), (9, .long y3.toInt64), (7, .long x3.toInt64), (4, .long (((0 + ((x0.toInt64 * ((u1 14).toInt64)) - (((u1 13).toInt64) * y0.toInt64))) + ((((u1 13).toInt64) * y2.toInt64) - (x2.toInt64 * ((u1 14).toInt64)))) + ((x2.toInt64 * y3.toInt64) - (x3.toInt64 * y2.toInt64)))), (6, .int 0), (3, .int (nI (k / 8))), (2, .int (nI (k % 8))), (0, .ref (bd 0)), (1, .int (nI k))]) C 4 dX6_area_144 rfl (by decide) (by decide) rfl ?_
            refine fj_goto (tgt := 51) C dX6_area_147 (by decide) ?_
            refine fj_iload C 0 dX6_area_51 rfl ?_
            refine fj_iconst (v := 4) C dX6_area_53 (by decide) ?_
            refine fj_icmp_ge (tgt := 150) C dX6_area_54 (by decide) (fun h => absurd h (by decide)) (fun _ => ?_)
            refine fj_aload_n C 7 dX6_area_57 rfl rfl ?_
            refine fj_iload C 0 dX6_area_58 rfl ?_
            refine fj_iconst (v := 1) C dX6_area_60 (by decide) ?_
            refine fj_icmp_eq (tgt := 70) C dX6_area_61 (by decide) (fun h => absurd h (by decide)) (fun _ => ?_)
            refine fj_iload C 0 dX6_area_64 rfl ?_
            refine fj_iconst (v := 2) C dX6_area_66 (by decide) ?_
            refine fj_icmp_ne (tgt := 76) C dX6_area_67 (by decide) (fun _ => ?_) (fun h => absurd h (by decide))
            refine fj_iload_n C 6 dX6_area_76 rfl rfl ?_
            refine fj_iload C 0 dX6_area_77 rfl ?_
            refine fj_iconst (v := 1) C dX6_area_79 (by decide) ?_
            refine fj_icmp_le (tgt := 89) C dX6_area_80 (by decide) (fun h => absurd h (by decide)) (fun _ => ?_)
            refine fj_iload_n C 5 dX6_area_83 rfl rfl ?_
            refine fj_iconst (v := 1) C dX6_area_84 (by decide) ?_
            refine fj_iadd C dX6_area_85 ?_
            refine fj_at (y := nI (k / 8 + 1)) (nI_1 _) ?_
            refine fj_goto (tgt := 90) C dX6_area_86 (by decide) ?_
            refine fj_callVw (As := [.int (nI (k % 8)), .int (nI (k / 8 + 1))]) (rest := []) C (d_X6_findPlace l D ty t0 bd a g u3 (nI (k % 8)) (nI (k / 8 + 1)) (k % 8) (k / 8 + 1) rfl rfl (by omega) (by omega)) (cwV 2 C.2.2.2.2.1 gX6_area_X6_findPlace rfl rfl rfl (by decide +kernel) ⟨Nat.le_of_ble_eq_true rfl, Nat.le_of_ble_eq_true rfl⟩) ⟨0, 6, _, _, fm_at0 _ _ _ _ _, rfl, rfl⟩ rfl (Nat.le_of_ble_eq_true rfl) dX6_area_90 ⟨Nat.zero_le _, Nat.zero_le _⟩ (fun v9 w9 hp9 => ?_)
            rcases hp9 with ⟨x4, y4, L4, u4, hu4, ex4, ey4, rfl, rfl⟩ | ⟨L4, u4, hu4, rfl, rfl⟩
            · refine fj_st (st' := .int 1 :: []) rfl ?_
              refine fj_if_eq (tgt := 105) C dX6_area_93 (by decide) (fun h => absurd h (by decide)) (fun _ => ?_)
              refine fj_iload C 4 dX6_area_96 rfl ?_
              refine fj_if_eq (tgt := 105) C dX6_area_98 (by decide) (fun _ => ?_) (fun h => absurd (by decide) h)
              refine fj_iconst (v := 0) C dX6_area_105 (by decide) ?_
              refine fj_istore (lv' := [(6, .int 0), (11, .int 3), (9, .long y3.toInt64), (7, .long x3.toInt64), (4, .long (((0 + ((x0.toInt64 * ((u1 14).toInt64)) - (((u1 13).toInt64) * y0.toInt64))) + ((((u1 13).toInt64) * y2.toInt64) - (x2.toInt64 * ((u1 14).toInt64)))) + ((x2.toInt64 * y3.toInt64) - (x3.toInt64 * y2.toInt64)))), (3, .int (nI (k / 8))), (2, .int (nI (k % 8))), (0, .ref (bd 0)), (1, .int (nI k))]) C dX6_area_106 (by decide) rfl ?_
              refine fj_lload C 4 dX6_area_108 rfl ?_
              refine fj_lload C 3 dX6_area_110 rfl ?_
              refine fj_aload_n C 7 dX6_area_112 rfl rfl ?_
              refine fj_get (Cn := RX6) (T := TX6) (N := 44) (ci := 6) (v := .int (u4 14)) C iX6 0 (fm_at0 _ _ _ _ _) rfl 43 (by decide) kX6_307 rfl dX6_area_113 ?_
              refine fj_at (y := y4) ey4 ?_
              refine fj_i2l C dX6_area_116 ?_
              refine fj_lmul C dX6_area_117 ?_
              refine fj_aload_n C 7 dX6_area_118 rfl rfl ?_
              refine fj_get (Cn := RX6) (T := TX6) (N := 44) (ci := 6) (v := .int (u4 13)) C iX6 0 (fm_at0 _ _ _ _ _) rfl 42 (by decide) kX6_304 rfl dX6_area_119 ?_
              refine fj_at (y := x4) ex4 ?_
              refine fj_i2l C dX6_area_122 ?_
              refine fj_lload C 2 dX6_area_123 rfl ?_
              refine fj_lmul C dX6_area_125 ?_
              refine fj_lsub C dX6_area_126 ?_
              refine fj_ladd C dX6_area_127 ?_
              refine fj_lstore (lv' := [(4, .long ((((0 + ((x0.toInt64 * ((u1 14).toInt64)) - (((u1 13).toInt64) * y0.toInt64))) + ((((u1 13).toInt64) * y2.toInt64) - (x2.toInt64 * ((u1 14).toInt64)))) + ((x2.toInt64 * y3.toInt64) - (x3.toInt64 * y2.toInt64))) + ((x3.toInt64 * y4.toInt64) - (x4.toInt64 * y3.toInt64)))), (6, .int 0), (11, .int 3), (9, .long y3.toInt64), (7, .long x3.toInt64), (3, .int (nI (k / 8))), (2, .int (nI (k % 8))), (0, .ref (bd 0)), (1, .int (nI k))]) C dX6_area_128 (by decide) rfl ?_
              refine fj_aload_n C 7 dX6_area_130 rfl rfl ?_
              refine fj_get (Cn := RX6) (T := TX6) (N := 44) (ci := 6) (v := .int (u4 13)) C iX6 0 (fm_at0 _ _ _ _ _) rfl 42 (by decide) kX6_304 rfl dX6_area_131 ?_
              refine fj_at (y := x4) ex4 ?_
              refine fj_i2l C dX6_area_134 ?_
              refine fj_lstore (lv' := [(7, .long x4.toInt64), (4, .long ((((0 + ((x0.toInt64 * ((u1 14).toInt64)) - (((u1 13).toInt64) * y0.toInt64))) + ((((u1 13).toInt64) * y2.toInt64) - (x2.toInt64 * ((u1 14).toInt64)))) + ((x2.toInt64 * y3.toInt64) - (x3.toInt64 * y2.toInt64))) + ((x3.toInt64 * y4.toInt64) - (x4.toInt64 * y3.toInt64)))), (6, .int 0), (11, .int 3), (9, .long y3.toInt64), (3, .int (nI (k / 8))), (2, .int (nI (k % 8))), (0, .ref (bd 0)), (1, .int (nI k))]) C dX6_area_135 (by decide) rfl ?_
              refine fj_aload_n C 7 dX6_area_137 rfl rfl ?_
              refine fj_get (Cn := RX6) (T := TX6) (N := 44) (ci := 6) (v := .int (u4 14)) C iX6 0 (fm_at0 _ _ _ _ _) rfl 43 (by decide) kX6_307 rfl dX6_area_138 ?_
              refine fj_at (y := y4) ey4 ?_
              refine fj_i2l C dX6_area_141 ?_
              refine fj_lstore (lv' := [(9, .long y4.toInt64), (7, .long x4.toInt64), (4, .long ((((0 + ((x0.toInt64 * ((u1 14).toInt64)) - (((u1 13).toInt64) * y0.toInt64))) + ((((u1 13).toInt64) * y2.toInt64) - (x2.toInt64 * ((u1 14).toInt64)))) + ((x2.toInt64 * y3.toInt64) - (x3.toInt64 * y2.toInt64))) + ((x3.toInt64 * y4.toInt64) - (x4.toInt64 * y3.toInt64)))), (6, .int 0), (11, .int 3), (3, .int (nI (k / 8))), (2, .int (nI (k % 8))), (0, .ref (bd 0)), (1, .int (nI k))]) C dX6_area_142 (by decide) rfl ?_
              refine fj_iinc (v := 4) (lv' := [(11, .int 4), (9, .long y4.toInt64), (7, .long x4.toInt64), (4, .long ((((0 + ((x0.toInt64 * ((u1 14).toInt64)) - (((u1 13).toInt64) * y0.toInt64))) + ((((u1 13).toInt64) * y2.toInt64) - (x2.toInt64 * ((u1 14).toInt64)))) + ((x2.toInt64 * y3.toInt64) - (x3.toInt64 * y2.toInt64))) + ((x3.toInt64 * y4.toInt64) - (x4.toInt64 * y3.toInt64)))), (6, .int 0), (3, .int (nI (k / 8))), (2, .int (nI (k % 8))), (0, .ref (bd 0)), (1, .int (nI k))]) C 4 dX6_area_144 rfl (by decide) (by decide) rfl ?_
              refine fj_goto (tgt := 51) C dX6_area_147 (by decide) ?_
              refine fj_iload C 0 dX6_area_51 rfl ?_
              refine fj_iconst (v := 4) C dX6_area_53 (by decide) ?_
              refine fj_icmp_ge (tgt := 150) C dX6_area_54 (by decide) (fun _ => ?_) (fun h => absurd (by decide) h)
              refine fj_iload C 4 dX6_area_150 rfl ?_
              refine fj_if_eq (tgt := 160) C dX6_area_152 (by decide) (fun _ => ?_) (fun h => absurd (by decide) h)
              refine fj_ldc2 (v := (-1003)) C dX6_area_160 kL321 ?_
              exact fj_lret C E9 dX6_area_163 (Or.inr ⟨k, hk, rfl, u4, (fun j hj => (hu4 j hj).trans ((hu3 j hj).trans ((hu2 j hj).trans ((hu1 j hj).trans (hu0 j hj))))), rfl, Or.inr ⟨(Or.inl L1), rfl⟩⟩)
            · refine fj_st (st' := .int 0 :: []) rfl ?_
              refine fj_if_eq (tgt := 105) C dX6_area_93 (by decide) (fun _ => ?_) (fun h => absurd (by decide) h)
              refine fj_iconst (v := 0) C dX6_area_105 (by decide) ?_
              refine fj_istore (lv' := [(6, .int 0), (11, .int 3), (9, .long y3.toInt64), (7, .long x3.toInt64), (4, .long (((0 + ((x0.toInt64 * ((u1 14).toInt64)) - (((u1 13).toInt64) * y0.toInt64))) + ((((u1 13).toInt64) * y2.toInt64) - (x2.toInt64 * ((u1 14).toInt64)))) + ((x2.toInt64 * y3.toInt64) - (x3.toInt64 * y2.toInt64)))), (3, .int (nI (k / 8))), (2, .int (nI (k % 8))), (0, .ref (bd 0)), (1, .int (nI k))]) C dX6_area_106 (by decide) rfl ?_
              refine fj_lload C 4 dX6_area_108 rfl ?_
              refine fj_lload C 3 dX6_area_110 rfl ?_
              refine fj_aload_n C 7 dX6_area_112 rfl rfl ?_
              refine fj_get (Cn := RX6) (T := TX6) (N := 44) (ci := 6) (v := .int (u4 14)) C iX6 0 (fm_at0 _ _ _ _ _) rfl 43 (by decide) kX6_307 rfl dX6_area_113 ?_
              refine fj_i2l C dX6_area_116 ?_
              refine fj_lmul C dX6_area_117 ?_
              refine fj_aload_n C 7 dX6_area_118 rfl rfl ?_
              refine fj_get (Cn := RX6) (T := TX6) (N := 44) (ci := 6) (v := .int (u4 13)) C iX6 0 (fm_at0 _ _ _ _ _) rfl 42 (by decide) kX6_304 rfl dX6_area_119 ?_
              refine fj_i2l C dX6_area_122 ?_
              refine fj_lload C 2 dX6_area_123 rfl ?_
              refine fj_lmul C dX6_area_125 ?_
              refine fj_lsub C dX6_area_126 ?_
              refine fj_ladd C dX6_area_127 ?_
              refine fj_lstore (lv' := [(4, .long ((((0 + ((x0.toInt64 * ((u1 14).toInt64)) - (((u1 13).toInt64) * y0.toInt64))) + ((((u1 13).toInt64) * y2.toInt64) - (x2.toInt64 * ((u1 14).toInt64)))) + ((x2.toInt64 * y3.toInt64) - (x3.toInt64 * y2.toInt64))) + ((x3.toInt64 * ((u4 14).toInt64)) - (((u4 13).toInt64) * y3.toInt64)))), (6, .int 0), (11, .int 3), (9, .long y3.toInt64), (7, .long x3.toInt64), (3, .int (nI (k / 8))), (2, .int (nI (k % 8))), (0, .ref (bd 0)), (1, .int (nI k))]) C dX6_area_128 (by decide) rfl ?_
              refine fj_aload_n C 7 dX6_area_130 rfl rfl ?_
              refine fj_get (Cn := RX6) (T := TX6) (N := 44) (ci := 6) (v := .int (u4 13)) C iX6 0 (fm_at0 _ _ _ _ _) rfl 42 (by decide) kX6_304 rfl dX6_area_131 ?_
              refine fj_i2l C dX6_area_134 ?_
              refine fj_lstore (lv' := [(7, .long ((u4 13).toInt64)), (4, .long ((((0 + ((x0.toInt64 * ((u1 14).toInt64)) - (((u1 13).toInt64) * y0.toInt64))) + ((((u1 13).toInt64) * y2.toInt64) - (x2.toInt64 * ((u1 14).toInt64)))) + ((x2.toInt64 * y3.toInt64) - (x3.toInt64 * y2.toInt64))) + ((x3.toInt64 * ((u4 14).toInt64)) - (((u4 13).toInt64) * y3.toInt64)))), (6, .int 0), (11, .int 3), (9, .long y3.toInt64), (3, .int (nI (k / 8))), (2, .int (nI (k % 8))), (0, .ref (bd 0)), (1, .int (nI k))]) C dX6_area_135 (by decide) rfl ?_
              refine fj_aload_n C 7 dX6_area_137 rfl rfl ?_
              refine fj_get (Cn := RX6) (T := TX6) (N := 44) (ci := 6) (v := .int (u4 14)) C iX6 0 (fm_at0 _ _ _ _ _) rfl 43 (by decide) kX6_307 rfl dX6_area_138 ?_
              refine fj_i2l C dX6_area_141 ?_
              refine fj_lstore (lv' := [(9, .long ((u4 14).toInt64)), (7, .long ((u4 13).toInt64)), (4, .long ((((0 + ((x0.toInt64 * ((u1 14).toInt64)) - (((u1 13).toInt64) * y0.toInt64))) + ((((u1 13).toInt64) * y2.toInt64) - (x2.toInt64 * ((u1 14).toInt64)))) + ((x2.toInt64 * y3.toInt64) - (x3.toInt64 * y2.toInt64))) + ((x3.toInt64 * ((u4 14).toInt64)) - (((u4 13).toInt64) * y3.toInt64)))), (6, .int 0), (11, .int 3), (3, .int (nI (k / 8))), (2, .int (nI (k % 8))), (0, .ref (bd 0)), (1, .int (nI k))]) C dX6_area_142 (by decide) rfl ?_
              refine fj_iinc (v := 4) (lv' := [(11, .int 4), (9, .long ((u4 14).toInt64)), (7, .long ((u4 13).toInt64)), (4, .long ((((0 + ((x0.toInt64 * ((u1 14).toInt64)) - (((u1 13).toInt64) * y0.toInt64))) + ((((u1 13).toInt64) * y2.toInt64) - (x2.toInt64 * ((u1 14).toInt64)))) + ((x2.toInt64 * y3.toInt64) - (x3.toInt64 * y2.toInt64))) + ((x3.toInt64 * ((u4 14).toInt64)) - (((u4 13).toInt64) * y3.toInt64)))), (6, .int 0), (3, .int (nI (k / 8))), (2, .int (nI (k % 8))), (0, .ref (bd 0)), (1, .int (nI k))]) C 4 dX6_area_144 rfl (by decide) (by decide) rfl ?_
              refine fj_goto (tgt := 51) C dX6_area_147 (by decide) ?_
              refine fj_iload C 0 dX6_area_51 rfl ?_
              refine fj_iconst (v := 4) C dX6_area_53 (by decide) ?_
              refine fj_icmp_ge (tgt := 150) C dX6_area_54 (by decide) (fun _ => ?_) (fun h => absurd (by decide) h)
              refine fj_iload C 4 dX6_area_150 rfl ?_
              refine fj_if_eq (tgt := 160) C dX6_area_152 (by decide) (fun _ => ?_) (fun h => absurd (by decide) h)
              refine fj_ldc2 (v := (-1003)) C dX6_area_160 kL321 ?_
              exact fj_lret C E9 dX6_area_163 (Or.inr ⟨k, hk, rfl, u4, (fun j hj => (hu4 j hj).trans ((hu3 j hj).trans ((hu2 j hj).trans ((hu1 j hj).trans (hu0 j hj))))), rfl, Or.inr ⟨(Or.inl L1), rfl⟩⟩)
          · refine fj_st (st' := .int 0 :: []) rfl ?_
            refine fj_if_eq (tgt := 105) C dX6_area_93 (by decide) (fun _ => ?_) (fun h => absurd (by decide) h)
            refine fj_iconst (v := 0) C dX6_area_105 (by decide) ?_
            refine fj_istore (lv' := [(6, .int 0), (11, .int 2), (9, .long y2.toInt64), (7, .long x2.toInt64), (4, .long ((0 + ((x0.toInt64 * ((u1 14).toInt64)) - (((u1 13).toInt64) * y0.toInt64))) + ((((u1 13).toInt64) * y2.toInt64) - (x2.toInt64 * ((u1 14).toInt64))))), (3, .int (nI (k / 8))), (2, .int (nI (k % 8))), (0, .ref (bd 0)), (1, .int (nI k))]) C dX6_area_106 (by decide) rfl ?_
            refine fj_lload C 4 dX6_area_108 rfl ?_
            refine fj_lload C 3 dX6_area_110 rfl ?_
            refine fj_aload_n C 7 dX6_area_112 rfl rfl ?_
            refine fj_get (Cn := RX6) (T := TX6) (N := 44) (ci := 6) (v := .int (u3 14)) C iX6 0 (fm_at0 _ _ _ _ _) rfl 43 (by decide) kX6_307 rfl dX6_area_113 ?_
            refine fj_i2l C dX6_area_116 ?_
            refine fj_lmul C dX6_area_117 ?_
            refine fj_aload_n C 7 dX6_area_118 rfl rfl ?_
            refine fj_get (Cn := RX6) (T := TX6) (N := 44) (ci := 6) (v := .int (u3 13)) C iX6 0 (fm_at0 _ _ _ _ _) rfl 42 (by decide) kX6_304 rfl dX6_area_119 ?_
            refine fj_i2l C dX6_area_122 ?_
            refine fj_lload C 2 dX6_area_123 rfl ?_
            refine fj_lmul C dX6_area_125 ?_
            refine fj_lsub C dX6_area_126 ?_
            refine fj_ladd C dX6_area_127 ?_
            refine fj_lstore (lv' := [(4, .long (((0 + ((x0.toInt64 * ((u1 14).toInt64)) - (((u1 13).toInt64) * y0.toInt64))) + ((((u1 13).toInt64) * y2.toInt64) - (x2.toInt64 * ((u1 14).toInt64)))) + ((x2.toInt64 * ((u3 14).toInt64)) - (((u3 13).toInt64) * y2.toInt64)))), (6, .int 0), (11, .int 2), (9, .long y2.toInt64), (7, .long x2.toInt64), (3, .int (nI (k / 8))), (2, .int (nI (k % 8))), (0, .ref (bd 0)), (1, .int (nI k))]) C dX6_area_128 (by decide) rfl ?_
            refine fj_aload_n C 7 dX6_area_130 rfl rfl ?_
            refine fj_get (Cn := RX6) (T := TX6) (N := 44) (ci := 6) (v := .int (u3 13)) C iX6 0 (fm_at0 _ _ _ _ _) rfl 42 (by decide) kX6_304 rfl dX6_area_131 ?_
            refine fj_i2l C dX6_area_134 ?_
            refine fj_lstore (lv' := [(7, .long ((u3 13).toInt64)), (4, .long (((0 + ((x0.toInt64 * ((u1 14).toInt64)) - (((u1 13).toInt64) * y0.toInt64))) + ((((u1 13).toInt64) * y2.toInt64) - (x2.toInt64 * ((u1 14).toInt64)))) + ((x2.toInt64 * ((u3 14).toInt64)) - (((u3 13).toInt64) * y2.toInt64)))), (6, .int 0), (11, .int 2), (9, .long y2.toInt64), (3, .int (nI (k / 8))), (2, .int (nI (k % 8))), (0, .ref (bd 0)), (1, .int (nI k))]) C dX6_area_135 (by decide) rfl ?_
            refine fj_aload_n C 7 dX6_area_137 rfl rfl ?_
            refine fj_get (Cn := RX6) (T := TX6) (N := 44) (ci := 6) (v := .int (u3 14)) C iX6 0 (fm_at0 _ _ _ _ _) rfl 43 (by decide) kX6_307 rfl dX6_area_138 ?_
            refine fj_i2l C dX6_area_141 ?_
            refine fj_lstore (lv' := [(9, .long ((u3 14).toInt64)), (7, .long ((u3 13).toInt64)), (4, .long (((0 + ((x0.toInt64 * ((u1 14).toInt64)) - (((u1 13).toInt64) * y0.toInt64))) + ((((u1 13).toInt64) * y2.toInt64) - (x2.toInt64 * ((u1 14).toInt64)))) + ((x2.toInt64 * ((u3 14).toInt64)) - (((u3 13).toInt64) * y2.toInt64)))), (6, .int 0), (11, .int 2), (3, .int (nI (k / 8))), (2, .int (nI (k % 8))), (0, .ref (bd 0)), (1, .int (nI k))]) C dX6_area_142 (by decide) rfl ?_
            refine fj_iinc (v := 3) (lv' := [(11, .int 3), (9, .long ((u3 14).toInt64)), (7, .long ((u3 13).toInt64)), (4, .long (((0 + ((x0.toInt64 * ((u1 14).toInt64)) - (((u1 13).toInt64) * y0.toInt64))) + ((((u1 13).toInt64) * y2.toInt64) - (x2.toInt64 * ((u1 14).toInt64)))) + ((x2.toInt64 * ((u3 14).toInt64)) - (((u3 13).toInt64) * y2.toInt64)))), (6, .int 0), (3, .int (nI (k / 8))), (2, .int (nI (k % 8))), (0, .ref (bd 0)), (1, .int (nI k))]) C 4 dX6_area_144 rfl (by decide) (by decide) rfl ?_
            refine fj_goto (tgt := 51) C dX6_area_147 (by decide) ?_
            refine fj_iload C 0 dX6_area_51 rfl ?_
            refine fj_iconst (v := 4) C dX6_area_53 (by decide) ?_
            refine fj_icmp_ge (tgt := 150) C dX6_area_54 (by decide) (fun h => absurd h (by decide)) (fun _ => ?_)
            refine fj_aload_n C 7 dX6_area_57 rfl rfl ?_
            refine fj_iload C 0 dX6_area_58 rfl ?_
            refine fj_iconst (v := 1) C dX6_area_60 (by decide) ?_
            refine fj_icmp_eq (tgt := 70) C dX6_area_61 (by decide) (fun h => absurd h (by decide)) (fun _ => ?_)
            refine fj_iload C 0 dX6_area_64 rfl ?_
            refine fj_iconst (v := 2) C dX6_area_66 (by decide) ?_
            refine fj_icmp_ne (tgt := 76) C dX6_area_67 (by decide) (fun _ => ?_) (fun h => absurd h (by decide))
            refine fj_iload_n C 6 dX6_area_76 rfl rfl ?_
            refine fj_iload C 0 dX6_area_77 rfl ?_
            refine fj_iconst (v := 1) C dX6_area_79 (by decide) ?_
            refine fj_icmp_le (tgt := 89) C dX6_area_80 (by decide) (fun h => absurd h (by decide)) (fun _ => ?_)
            refine fj_iload_n C 5 dX6_area_83 rfl rfl ?_
            refine fj_iconst (v := 1) C dX6_area_84 (by decide) ?_
            refine fj_iadd C dX6_area_85 ?_
            refine fj_at (y := nI (k / 8 + 1)) (nI_1 _) ?_
            refine fj_goto (tgt := 90) C dX6_area_86 (by decide) ?_
            refine fj_callVw (As := [.int (nI (k % 8)), .int (nI (k / 8 + 1))]) (rest := []) C (d_X6_findPlace l D ty t0 bd a g u3 (nI (k % 8)) (nI (k / 8 + 1)) (k % 8) (k / 8 + 1) rfl rfl (by omega) (by omega)) (cwV 2 C.2.2.2.2.1 gX6_area_X6_findPlace rfl rfl rfl (by decide +kernel) ⟨Nat.le_of_ble_eq_true rfl, Nat.le_of_ble_eq_true rfl⟩) ⟨0, 6, _, _, fm_at0 _ _ _ _ _, rfl, rfl⟩ rfl (Nat.le_of_ble_eq_true rfl) dX6_area_90 ⟨Nat.zero_le _, Nat.zero_le _⟩ (fun v9 w9 hp9 => ?_)
            rcases hp9 with ⟨x4, y4, L4, u4, hu4, ex4, ey4, rfl, rfl⟩ | ⟨L4, u4, hu4, rfl, rfl⟩
            · refine fj_st (st' := .int 1 :: []) rfl ?_
              refine fj_if_eq (tgt := 105) C dX6_area_93 (by decide) (fun h => absurd h (by decide)) (fun _ => ?_)
              refine fj_iload C 4 dX6_area_96 rfl ?_
              refine fj_if_eq (tgt := 105) C dX6_area_98 (by decide) (fun _ => ?_) (fun h => absurd (by decide) h)
              refine fj_iconst (v := 0) C dX6_area_105 (by decide) ?_
              refine fj_istore (lv' := [(6, .int 0), (11, .int 3), (9, .long ((u3 14).toInt64)), (7, .long ((u3 13).toInt64)), (4, .long (((0 + ((x0.toInt64 * ((u1 14).toInt64)) - (((u1 13).toInt64) * y0.toInt64))) + ((((u1 13).toInt64) * y2.toInt64) - (x2.toInt64 * ((u1 14).toInt64)))) + ((x2.toInt64 * ((u3 14).toInt64)) - (((u3 13).toInt64) * y2.toInt64)))), (3, .int (nI (k / 8))), (2, .int (nI (k % 8))), (0, .ref (bd 0)), (1, .int (nI k))]) C dX6_area_106 (by decide) rfl ?_
              refine fj_lload C 4 dX6_area_108 rfl ?_
              refine fj_lload C 3 dX6_area_110 rfl ?_
              refine fj_aload_n C 7 dX6_area_112 rfl rfl ?_
              refine fj_get (Cn := RX6) (T := TX6) (N := 44) (ci := 6) (v := .int (u4 14)) C iX6 0 (fm_at0 _ _ _ _ _) rfl 43 (by decide) kX6_307 rfl dX6_area_113 ?_
              refine fj_at (y := y4) ey4 ?_
              refine fj_i2l C dX6_area_116 ?_
              refine fj_lmul C dX6_area_117 ?_
              refine fj_aload_n C 7 dX6_area_118 rfl rfl ?_
              refine fj_get (Cn := RX6) (T := TX6) (N := 44) (ci := 6) (v := .int (u4 13)) C iX6 0 (fm_at0 _ _ _ _ _) rfl 42 (by decide) kX6_304 rfl dX6_area_119 ?_
              refine fj_at (y := x4) ex4 ?_
              refine fj_i2l C dX6_area_122 ?_
              refine fj_lload C 2 dX6_area_123 rfl ?_
              refine fj_lmul C dX6_area_125 ?_
              refine fj_lsub C dX6_area_126 ?_
              refine fj_ladd C dX6_area_127 ?_
              refine fj_lstore (lv' := [(4, .long ((((0 + ((x0.toInt64 * ((u1 14).toInt64)) - (((u1 13).toInt64) * y0.toInt64))) + ((((u1 13).toInt64) * y2.toInt64) - (x2.toInt64 * ((u1 14).toInt64)))) + ((x2.toInt64 * ((u3 14).toInt64)) - (((u3 13).toInt64) * y2.toInt64))) + ((((u3 13).toInt64) * y4.toInt64) - (x4.toInt64 * ((u3 14).toInt64))))), (6, .int 0), (11, .int 3), (9, .long ((u3 14).toInt64)), (7, .long ((u3 13).toInt64)), (3, .int (nI (k / 8))), (2, .int (nI (k % 8))), (0, .ref (bd 0)), (1, .int (nI k))]) C dX6_area_128 (by decide) rfl ?_
              refine fj_aload_n C 7 dX6_area_130 rfl rfl ?_
              refine fj_get (Cn := RX6) (T := TX6) (N := 44) (ci := 6) (v := .int (u4 13)) C iX6 0 (fm_at0 _ _ _ _ _) rfl 42 (by decide) kX6_304 rfl dX6_area_131 ?_
              refine fj_at (y := x4) ex4 ?_
              refine fj_i2l C dX6_area_134 ?_
              refine fj_lstore (lv' := [(7, .long x4.toInt64), (4, .long ((((0 + ((x0.toInt64 * ((u1 14).toInt64)) - (((u1 13).toInt64) * y0.toInt64))) + ((((u1 13).toInt64) * y2.toInt64) - (x2.toInt64 * ((u1 14).toInt64)))) + ((x2.toInt64 * ((u3 14).toInt64)) - (((u3 13).toInt64) * y2.toInt64))) + ((((u3 13).toInt64) * y4.toInt64) - (x4.toInt64 * ((u3 14).toInt64))))), (6, .int 0), (11, .int 3), (9, .long ((u3 14).toInt64)), (3, .int (nI (k / 8))), (2, .int (nI (k % 8))), (0, .ref (bd 0)), (1, .int (nI k))]) C dX6_area_135 (by decide) rfl ?_
              refine fj_aload_n C 7 dX6_area_137 rfl rfl ?_
              refine fj_get (Cn := RX6) (T := TX6) (N := 44) (ci := 6) (v := .int (u4 14)) C iX6 0 (fm_at0 _ _ _ _ _) rfl 43 (by decide) kX6_307 rfl dX6_area_138 ?_
              refine fj_at (y := y4) ey4 ?_
              refine fj_i2l C dX6_area_141 ?_
              refine fj_lstore (lv' := [(9, .long y4.toInt64), (7, .long x4.toInt64), (4, .long ((((0 + ((x0.toInt64 * ((u1 14).toInt64)) - (((u1 13).toInt64) * y0.toInt64))) + ((((u1 13).toInt64) * y2.toInt64) - (x2.toInt64 * ((u1 14).toInt64)))) + ((x2.toInt64 * ((u3 14).toInt64)) - (((u3 13).toInt64) * y2.toInt64))) + ((((u3 13).toInt64) * y4.toInt64) - (x4.toInt64 * ((u3 14).toInt64))))), (6, .int 0), (11, .int 3), (3, .int (nI (k / 8))), (2, .int (nI (k % 8))), (0, .ref (bd 0)), (1, .int (nI k))]) C dX6_area_142 (by decide) rfl ?_
              refine fj_iinc (v := 4) (lv' := [(11, .int 4), (9, .long y4.toInt64), (7, .long x4.toInt64), (4, .long ((((0 + ((x0.toInt64 * ((u1 14).toInt64)) - (((u1 13).toInt64) * y0.toInt64))) + ((((u1 13).toInt64) * y2.toInt64) - (x2.toInt64 * ((u1 14).toInt64)))) + ((x2.toInt64 * ((u3 14).toInt64)) - (((u3 13).toInt64) * y2.toInt64))) + ((((u3 13).toInt64) * y4.toInt64) - (x4.toInt64 * ((u3 14).toInt64))))), (6, .int 0), (3, .int (nI (k / 8))), (2, .int (nI (k % 8))), (0, .ref (bd 0)), (1, .int (nI k))]) C 4 dX6_area_144 rfl (by decide) (by decide) rfl ?_
              refine fj_goto (tgt := 51) C dX6_area_147 (by decide) ?_
              refine fj_iload C 0 dX6_area_51 rfl ?_
              refine fj_iconst (v := 4) C dX6_area_53 (by decide) ?_
              refine fj_icmp_ge (tgt := 150) C dX6_area_54 (by decide) (fun _ => ?_) (fun h => absurd (by decide) h)
              refine fj_iload C 4 dX6_area_150 rfl ?_
              refine fj_if_eq (tgt := 160) C dX6_area_152 (by decide) (fun _ => ?_) (fun h => absurd (by decide) h)
              refine fj_ldc2 (v := (-1003)) C dX6_area_160 kL321 ?_
              exact fj_lret C E9 dX6_area_163 (Or.inr ⟨k, hk, rfl, u4, (fun j hj => (hu4 j hj).trans ((hu3 j hj).trans ((hu2 j hj).trans ((hu1 j hj).trans (hu0 j hj))))), rfl, Or.inr ⟨(Or.inl L1), rfl⟩⟩)
            · refine fj_st (st' := .int 0 :: []) rfl ?_
              refine fj_if_eq (tgt := 105) C dX6_area_93 (by decide) (fun _ => ?_) (fun h => absurd (by decide) h)
              refine fj_iconst (v := 0) C dX6_area_105 (by decide) ?_
              refine fj_istore (lv' := [(6, .int 0), (11, .int 3), (9, .long ((u3 14).toInt64)), (7, .long ((u3 13).toInt64)), (4, .long (((0 + ((x0.toInt64 * ((u1 14).toInt64)) - (((u1 13).toInt64) * y0.toInt64))) + ((((u1 13).toInt64) * y2.toInt64) - (x2.toInt64 * ((u1 14).toInt64)))) + ((x2.toInt64 * ((u3 14).toInt64)) - (((u3 13).toInt64) * y2.toInt64)))), (3, .int (nI (k / 8))), (2, .int (nI (k % 8))), (0, .ref (bd 0)), (1, .int (nI k))]) C dX6_area_106 (by decide) rfl ?_
              refine fj_lload C 4 dX6_area_108 rfl ?_
              refine fj_lload C 3 dX6_area_110 rfl ?_
              refine fj_aload_n C 7 dX6_area_112 rfl rfl ?_
              refine fj_get (Cn := RX6) (T := TX6) (N := 44) (ci := 6) (v := .int (u4 14)) C iX6 0 (fm_at0 _ _ _ _ _) rfl 43 (by decide) kX6_307 rfl dX6_area_113 ?_
              refine fj_i2l C dX6_area_116 ?_
              refine fj_lmul C dX6_area_117 ?_
              refine fj_aload_n C 7 dX6_area_118 rfl rfl ?_
              refine fj_get (Cn := RX6) (T := TX6) (N := 44) (ci := 6) (v := .int (u4 13)) C iX6 0 (fm_at0 _ _ _ _ _) rfl 42 (by decide) kX6_304 rfl dX6_area_119 ?_
              refine fj_i2l C dX6_area_122 ?_
              refine fj_lload C 2 dX6_area_123 rfl ?_
              refine fj_lmul C dX6_area_125 ?_
              refine fj_lsub C dX6_area_126 ?_
              refine fj_ladd C dX6_area_127 ?_
              refine fj_lstore (lv' := [(4, .long ((((0 + ((x0.toInt64 * ((u1 14).toInt64)) - (((u1 13).toInt64) * y0.toInt64))) + ((((u1 13).toInt64) * y2.toInt64) - (x2.toInt64 * ((u1 14).toInt64)))) + ((x2.toInt64 * ((u3 14).toInt64)) - (((u3 13).toInt64) * y2.toInt64))) + ((((u3 13).toInt64) * ((u4 14).toInt64)) - (((u4 13).toInt64) * ((u3 14).toInt64))))), (6, .int 0), (11, .int 3), (9, .long ((u3 14).toInt64)), (7, .long ((u3 13).toInt64)), (3, .int (nI (k / 8))), (2, .int (nI (k % 8))), (0, .ref (bd 0)), (1, .int (nI k))]) C dX6_area_128 (by decide) rfl ?_
              refine fj_aload_n C 7 dX6_area_130 rfl rfl ?_
              refine fj_get (Cn := RX6) (T := TX6) (N := 44) (ci := 6) (v := .int (u4 13)) C iX6 0 (fm_at0 _ _ _ _ _) rfl 42 (by decide) kX6_304 rfl dX6_area_131 ?_
              refine fj_i2l C dX6_area_134 ?_
              refine fj_lstore (lv' := [(7, .long ((u4 13).toInt64)), (4, .long ((((0 + ((x0.toInt64 * ((u1 14).toInt64)) - (((u1 13).toInt64) * y0.toInt64))) + ((((u1 13).toInt64) * y2.toInt64) - (x2.toInt64 * ((u1 14).toInt64)))) + ((x2.toInt64 * ((u3 14).toInt64)) - (((u3 13).toInt64) * y2.toInt64))) + ((((u3 13).toInt64) * ((u4 14).toInt64)) - (((u4 13).toInt64) * ((u3 14).toInt64))))), (6, .int 0), (11, .int 3), (9, .long ((u3 14).toInt64)), (3, .int (nI (k / 8))), (2, .int (nI (k % 8))), (0, .ref (bd 0)), (1, .int (nI k))]) C dX6_area_135 (by decide) rfl ?_
              refine fj_aload_n C 7 dX6_area_137 rfl rfl ?_
              refine fj_get (Cn := RX6) (T := TX6) (N := 44) (ci := 6) (v := .int (u4 14)) C iX6 0 (fm_at0 _ _ _ _ _) rfl 43 (by decide) kX6_307 rfl dX6_area_138 ?_
              refine fj_i2l C dX6_area_141 ?_
              refine fj_lstore (lv' := [(9, .long ((u4 14).toInt64)), (7, .long ((u4 13).toInt64)), (4, .long ((((0 + ((x0.toInt64 * ((u1 14).toInt64)) - (((u1 13).toInt64) * y0.toInt64))) + ((((u1 13).toInt64) * y2.toInt64) - (x2.toInt64 * ((u1 14).toInt64)))) + ((x2.toInt64 * ((u3 14).toInt64)) - (((u3 13).toInt64) * y2.toInt64))) + ((((u3 13).toInt64) * ((u4 14).toInt64)) - (((u4 13).toInt64) * ((u3 14).toInt64))))), (6, .int 0), (11, .int 3), (3, .int (nI (k / 8))), (2, .int (nI (k % 8))), (0, .ref (bd 0)), (1, .int (nI k))]) C dX6_area_142 (by decide) rfl ?_
              refine fj_iinc (v := 4) (lv' := [(11, .int 4), (9, .long ((u4 14).toInt64)), (7, .long ((u4 13).toInt64)), (4, .long ((((0 + ((x0.toInt64 * ((u1 14).toInt64)) - (((u1 13).toInt64) * y0.toInt64))) + ((((u1 13).toInt64) * y2.toInt64) - (x2.toInt64 * ((u1 14).toInt64)))) + ((x2.toInt64 * ((u3 14).toInt64)) - (((u3 13).toInt64) * y2.toInt64))) + ((((u3 13).toInt64) * ((u4 14).toInt64)) - (((u4 13).toInt64) * ((u3 14).toInt64))))), (6, .int 0), (3, .int (nI (k / 8))), (2, .int (nI (k % 8))), (0, .ref (bd 0)), (1, .int (nI k))]) C 4 dX6_area_144 rfl (by decide) (by decide) rfl ?_
              refine fj_goto (tgt := 51) C dX6_area_147 (by decide) ?_
              refine fj_iload C 0 dX6_area_51 rfl ?_
              refine fj_iconst (v := 4) C dX6_area_53 (by decide) ?_
              refine fj_icmp_ge (tgt := 150) C dX6_area_54 (by decide) (fun _ => ?_) (fun h => absurd (by decide) h)
              refine fj_iload C 4 dX6_area_150 rfl ?_
              refine fj_if_eq (tgt := 160) C dX6_area_152 (by decide) (fun _ => ?_) (fun h => absurd (by decide) h)
              refine fj_ldc2 (v := (-1003)) C dX6_area_160 kL321 ?_
              exact fj_lret C E9 dX6_area_163 (Or.inr ⟨k, hk, rfl, u4, (fun j hj => (hu4 j hj).trans ((hu3 j hj).trans ((hu2 j hj).trans ((hu1 j hj).trans (hu0 j hj))))), rfl, Or.inr ⟨(Or.inl L1), rfl⟩⟩)
        · refine fj_st (st' := .int 0 :: []) rfl ?_
          refine fj_if_eq (tgt := 105) C dX6_area_93 (by decide) (fun _ => ?_) (fun h => absurd (by decide) h)
          refine fj_iconst (v := 0) C dX6_area_105 (by decide) ?_
          refine fj_istore (lv' := [(6, .int 0), (11, .int 1), (9, .long ((u1 14).toInt64)), (7, .long ((u1 13).toInt64)), (4, .long (0 + ((x0.toInt64 * ((u1 14).toInt64)) - (((u1 13).toInt64) * y0.toInt64)))), (3, .int (nI (k / 8))), (2, .int (nI (k % 8))), (0, .ref (bd 0)), (1, .int (nI k))]) C dX6_area_106 (by decide) rfl ?_
          refine fj_lload C 4 dX6_area_108 rfl ?_
          refine fj_lload C 3 dX6_area_110 rfl ?_
          refine fj_aload_n C 7 dX6_area_112 rfl rfl ?_
          refine fj_get (Cn := RX6) (T := TX6) (N := 44) (ci := 6) (v := .int (u2 14)) C iX6 0 (fm_at0 _ _ _ _ _) rfl 43 (by decide) kX6_307 rfl dX6_area_113 ?_
          refine fj_i2l C dX6_area_116 ?_
          refine fj_lmul C dX6_area_117 ?_
          refine fj_aload_n C 7 dX6_area_118 rfl rfl ?_
          refine fj_get (Cn := RX6) (T := TX6) (N := 44) (ci := 6) (v := .int (u2 13)) C iX6 0 (fm_at0 _ _ _ _ _) rfl 42 (by decide) kX6_304 rfl dX6_area_119 ?_
          refine fj_i2l C dX6_area_122 ?_
          refine fj_lload C 2 dX6_area_123 rfl ?_
          refine fj_lmul C dX6_area_125 ?_
          refine fj_lsub C dX6_area_126 ?_
          refine fj_ladd C dX6_area_127 ?_
          refine fj_lstore (lv' := [(4, .long ((0 + ((x0.toInt64 * ((u1 14).toInt64)) - (((u1 13).toInt64) * y0.toInt64))) + ((((u1 13).toInt64) * ((u2 14).toInt64)) - (((u2 13).toInt64) * ((u1 14).toInt64))))), (6, .int 0), (11, .int 1), (9, .long ((u1 14).toInt64)), (7, .long ((u1 13).toInt64)), (3, .int (nI (k / 8))), (2, .int (nI (k % 8))), (0, .ref (bd 0)), (1, .int (nI k))]) C dX6_area_128 (by decide) rfl ?_
          refine fj_aload_n C 7 dX6_area_130 rfl rfl ?_
          refine fj_get (Cn := RX6) (T := TX6) (N := 44) (ci := 6) (v := .int (u2 13)) C iX6 0 (fm_at0 _ _ _ _ _) rfl 42 (by decide) kX6_304 rfl dX6_area_131 ?_
          refine fj_i2l C dX6_area_134 ?_
          refine fj_lstore (lv' := [(7, .long ((u2 13).toInt64)), (4, .long ((0 + ((x0.toInt64 * ((u1 14).toInt64)) - (((u1 13).toInt64) * y0.toInt64))) + ((((u1 13).toInt64) * ((u2 14).toInt64)) - (((u2 13).toInt64) * ((u1 14).toInt64))))), (6, .int 0), (11, .int 1), (9, .long ((u1 14).toInt64)), (3, .int (nI (k / 8))), (2, .int (nI (k % 8))), (0, .ref (bd 0)), (1, .int (nI k))]) C dX6_area_135 (by decide) rfl ?_
          refine fj_aload_n C 7 dX6_area_137 rfl rfl ?_
          refine fj_get (Cn := RX6) (T := TX6) (N := 44) (ci := 6) (v := .int (u2 14)) C iX6 0 (fm_at0 _ _ _ _ _) rfl 43 (by decide) kX6_307 rfl dX6_area_138 ?_
          refine fj_i2l C dX6_area_141 ?_
          refine fj_lstore (lv' := [(9, .long ((u2 14).toInt64)), (7, .long ((u2 13).toInt64)), (4, .long ((0 + ((x0.toInt64 * ((u1 14).toInt64)) - (((u1 13).toInt64) * y0.toInt64))) + ((((u1 13).toInt64) * ((u2 14).toInt64)) - (((u2 13).toInt64) * ((u1 14).toInt64))))), (6, .int 0), (11, .int 1), (3, .int (nI (k / 8))), (2, .int (nI (k % 8))), (0, .ref (bd 0)), (1, .int (nI k))]) C dX6_area_142 (by decide) rfl ?_
          refine fj_iinc (v := 2) (lv' := [(11, .int 2), (9, .long ((u2 14).toInt64)), (7, .long ((u2 13).toInt64)), (4, .long ((0 + ((x0.toInt64 * ((u1 14).toInt64)) - (((u1 13).toInt64) * y0.toInt64))) + ((((u1 13).toInt64) * ((u2 14).toInt64)) - (((u2 13).toInt64) * ((u1 14).toInt64))))), (6, .int 0), (3, .int (nI (k / 8))), (2, .int (nI (k % 8))), (0, .ref (bd 0)), (1, .int (nI k))]) C 4 dX6_area_144 rfl (by decide) (by decide) rfl ?_
          refine fj_goto (tgt := 51) C dX6_area_147 (by decide) ?_
          refine fj_iload C 0 dX6_area_51 rfl ?_
          refine fj_iconst (v := 4) C dX6_area_53 (by decide) ?_
          refine fj_icmp_ge (tgt := 150) C dX6_area_54 (by decide) (fun h => absurd h (by decide)) (fun _ => ?_)
          refine fj_aload_n C 7 dX6_area_57 rfl rfl ?_
          refine fj_iload C 0 dX6_area_58 rfl ?_
          refine fj_iconst (v := 1) C dX6_area_60 (by decide) ?_
          refine fj_icmp_eq (tgt := 70) C dX6_area_61 (by decide) (fun h => absurd h (by decide)) (fun _ => ?_)
          refine fj_iload C 0 dX6_area_64 rfl ?_
          refine fj_iconst (v := 2) C dX6_area_66 (by decide) ?_
          refine fj_icmp_ne (tgt := 76) C dX6_area_67 (by decide) (fun h => absurd (by decide) h) (fun _ => ?_)
          refine fj_iload_n C 6 dX6_area_70 rfl rfl ?_
          refine fj_iconst (v := 1) C dX6_area_71 (by decide) ?_
          refine fj_iadd C dX6_area_72 ?_
          refine fj_at (y := nI (k % 8 + 1)) (nI_1 _) ?_
          refine fj_goto (tgt := 77) C dX6_area_73 (by decide) ?_
          refine fj_iload C 0 dX6_area_77 rfl ?_
          refine fj_iconst (v := 1) C dX6_area_79 (by decide) ?_
          refine fj_icmp_le (tgt := 89) C dX6_area_80 (by decide) (fun h => absurd h (by decide)) (fun _ => ?_)
          refine fj_iload_n C 5 dX6_area_83 rfl rfl ?_
          refine fj_iconst (v := 1) C dX6_area_84 (by decide) ?_
          refine fj_iadd C dX6_area_85 ?_
          refine fj_at (y := nI (k / 8 + 1)) (nI_1 _) ?_
          refine fj_goto (tgt := 90) C dX6_area_86 (by decide) ?_
          refine fj_callVw (As := [.int (nI (k % 8 + 1)), .int (nI (k / 8 + 1))]) (rest := []) C (d_X6_findPlace l D ty t0 bd a g u2 (nI (k % 8 + 1)) (nI (k / 8 + 1)) (k % 8 + 1) (k / 8 + 1) rfl rfl (by omega) (by omega)) (cwV 2 C.2.2.2.2.1 gX6_area_X6_findPlace rfl rfl rfl (by decide +kernel) ⟨Nat.le_of_ble_eq_true rfl, Nat.le_of_ble_eq_true rfl⟩) ⟨0, 6, _, _, fm_at0 _ _ _ _ _, rfl, rfl⟩ rfl (Nat.le_of_ble_eq_true rfl) dX6_area_90 ⟨Nat.zero_le _, Nat.zero_le _⟩ (fun v9 w9 hp9 => ?_)
          rcases hp9 with ⟨x3, y3, L3, u3, hu3, ex3, ey3, rfl, rfl⟩ | ⟨L3, u3, hu3, rfl, rfl⟩
          · refine fj_st (st' := .int 1 :: []) rfl ?_
            refine fj_if_eq (tgt := 105) C dX6_area_93 (by decide) (fun h => absurd h (by decide)) (fun _ => ?_)
            refine fj_iload C 4 dX6_area_96 rfl ?_
            refine fj_if_eq (tgt := 105) C dX6_area_98 (by decide) (fun _ => ?_) (fun h => absurd (by decide) h)
            refine fj_iconst (v := 0) C dX6_area_105 (by decide) ?_
            refine fj_istore (lv' := [(6, .int 0), (11, .int 2), (9, .long ((u2 14).toInt64)), (7, .long ((u2 13).toInt64)), (4, .long ((0 + ((x0.toInt64 * ((u1 14).toInt64)) - (((u1 13).toInt64) * y0.toInt64))) + ((((u1 13).toInt64) * ((u2 14).toInt64)) - (((u2 13).toInt64) * ((u1 14).toInt64))))), (3, .int (nI (k / 8))), (2, .int (nI (k % 8))), (0, .ref (bd 0)), (1, .int (nI k))]) C dX6_area_106 (by decide) rfl ?_
            refine fj_lload C 4 dX6_area_108 rfl ?_
            refine fj_lload C 3 dX6_area_110 rfl ?_
            refine fj_aload_n C 7 dX6_area_112 rfl rfl ?_
            refine fj_get (Cn := RX6) (T := TX6) (N := 44) (ci := 6) (v := .int (u3 14)) C iX6 0 (fm_at0 _ _ _ _ _) rfl 43 (by decide) kX6_307 rfl dX6_area_113 ?_
            refine fj_at (y := y3) ey3 ?_
            refine fj_i2l C dX6_area_116 ?_
            refine fj_lmul C dX6_area_117 ?_
            refine fj_aload_n C 7 dX6_area_118 rfl rfl ?_
            refine fj_get (Cn := RX6) (T := TX6) (N := 44) (ci := 6) (v := .int (u3 13)) C iX6 0 (fm_at0 _ _ _ _ _) rfl 42 (by decide) kX6_304 rfl dX6_area_119 ?_
            refine fj_at (y := x3) ex3 ?_
            refine fj_i2l C dX6_area_122 ?_
            refine fj_lload C 2 dX6_area_123 rfl ?_
            refine fj_lmul C dX6_area_125 ?_
            refine fj_lsub C dX6_area_126 ?_
            refine fj_ladd C dX6_area_127 ?_
            refine fj_lstore (lv' := [(4, .long (((0 + ((x0.toInt64 * ((u1 14).toInt64)) - (((u1 13).toInt64) * y0.toInt64))) + ((((u1 13).toInt64) * ((u2 14).toInt64)) - (((u2 13).toInt64) * ((u1 14).toInt64)))) + ((((u2 13).toInt64) * y3.toInt64) - (x3.toInt64 * ((u2 14).toInt64))))), (6, .int 0), (11, .int 2), (9, .long ((u2 14).toInt64)), (7, .long ((u2 13).toInt64)), (3, .int (nI (k / 8))), (2, .int (nI (k % 8))), (0, .ref (bd 0)), (1, .int (nI k))]) C dX6_area_128 (by decide) rfl ?_
            refine fj_aload_n C 7 dX6_area_130 rfl rfl ?_
            refine fj_get (Cn := RX6) (T := TX6) (N := 44) (ci := 6) (v := .int (u3 13)) C iX6 0 (fm_at0 _ _ _ _ _) rfl 42 (by decide) kX6_304 rfl dX6_area_131 ?_
            refine fj_at (y := x3) ex3 ?_
            refine fj_i2l C dX6_area_134 ?_
            refine fj_lstore (lv' := [(7, .long x3.toInt64), (4, .long (((0 + ((x0.toInt64 * ((u1 14).toInt64)) - (((u1 13).toInt64) * y0.toInt64))) + ((((u1 13).toInt64) * ((u2 14).toInt64)) - (((u2 13).toInt64) * ((u1 14).toInt64)))) + ((((u2 13).toInt64) * y3.toInt64) - (x3.toInt64 * ((u2 14).toInt64))))), (6, .int 0), (11, .int 2), (9, .long ((u2 14).toInt64)), (3, .int (nI (k / 8))), (2, .int (nI (k % 8))), (0, .ref (bd 0)), (1, .int (nI k))]) C dX6_area_135 (by decide) rfl ?_
            refine fj_aload_n C 7 dX6_area_137 rfl rfl ?_
            refine fj_get (Cn := RX6) (T := TX6) (N := 44) (ci := 6) (v := .int (u3 14)) C iX6 0 (fm_at0 _ _ _ _ _) rfl 43 (by decide) kX6_307 rfl dX6_area_138 ?_
            refine fj_at (y := y3) ey3 ?_
            refine fj_i2l C dX6_area_141 ?_
            refine fj_lstore (lv' := [(9, .long y3.toInt64), (7, .long x3.toInt64), (4, .long (((0 + ((x0.toInt64 * ((u1 14).toInt64)) - (((u1 13).toInt64) * y0.toInt64))) + ((((u1 13).toInt64) * ((u2 14).toInt64)) - (((u2 13).toInt64) * ((u1 14).toInt64)))) + ((((u2 13).toInt64) * y3.toInt64) - (x3.toInt64 * ((u2 14).toInt64))))), (6, .int 0), (11, .int 2), (3, .int (nI (k / 8))), (2, .int (nI (k % 8))), (0, .ref (bd 0)), (1, .int (nI k))]) C dX6_area_142 (by decide) rfl ?_
            refine fj_iinc (v := 3) (lv' := [(11, .int 3), (9, .long y3.toInt64), (7, .long x3.toInt64), (4, .long (((0 + ((x0.toInt64 * ((u1 14).toInt64)) - (((u1 13).toInt64) * y0.toInt64))) + ((((u1 13).toInt64) * ((u2 14).toInt64)) - (((u2 13).toInt64) * ((u1 14).toInt64)))) + ((((u2 13).toInt64) * y3.toInt64) - (x3.toInt64 * ((u2 14).toInt64))))), (6, .int 0), (3, .int (nI (k / 8))), (2, .int (nI (k % 8))), (0, .ref (bd 0)), (1, .int (nI k))]) C 4 dX6_area_144 rfl (by decide) (by decide) rfl ?_
            refine fj_goto (tgt := 51) C dX6_area_147 (by decide) ?_
            refine fj_iload C 0 dX6_area_51 rfl ?_
            refine fj_iconst (v := 4) C dX6_area_53 (by decide) ?_
            refine fj_icmp_ge (tgt := 150) C dX6_area_54 (by decide) (fun h => absurd h (by decide)) (fun _ => ?_)
            refine fj_aload_n C 7 dX6_area_57 rfl rfl ?_
            refine fj_iload C 0 dX6_area_58 rfl ?_
            refine fj_iconst (v := 1) C dX6_area_60 (by decide) ?_
            refine fj_icmp_eq (tgt := 70) C dX6_area_61 (by decide) (fun h => absurd h (by decide)) (fun _ => ?_)
            refine fj_iload C 0 dX6_area_64 rfl ?_
            refine fj_iconst (v := 2) C dX6_area_66 (by decide) ?_
            refine fj_icmp_ne (tgt := 76) C dX6_area_67 (by decide) (fun _ => ?_) (fun h => absurd h (by decide))
            refine fj_iload_n C 6 dX6_area_76 rfl rfl ?_
            refine fj_iload C 0 dX6_area_77 rfl ?_
            refine fj_iconst (v := 1) C dX6_area_79 (by decide) ?_
            refine fj_icmp_le (tgt := 89) C dX6_area_80 (by decide) (fun h => absurd h (by decide)) (fun _ => ?_)
            refine fj_iload_n C 5 dX6_area_83 rfl rfl ?_
            refine fj_iconst (v := 1) C dX6_area_84 (by decide) ?_
            refine fj_iadd C dX6_area_85 ?_
            refine fj_at (y := nI (k / 8 + 1)) (nI_1 _) ?_
            refine fj_goto (tgt := 90) C dX6_area_86 (by decide) ?_
            refine fj_callVw (As := [.int (nI (k % 8)), .int (nI (k / 8 + 1))]) (rest := []) C (d_X6_findPlace l D ty t0 bd a g u3 (nI (k % 8)) (nI (k / 8 + 1)) (k % 8) (k / 8 + 1) rfl rfl (by omega) (by omega)) (cwV 2 C.2.2.2.2.1 gX6_area_X6_findPlace rfl rfl rfl (by decide +kernel) ⟨Nat.le_of_ble_eq_true rfl, Nat.le_of_ble_eq_true rfl⟩) ⟨0, 6, _, _, fm_at0 _ _ _ _ _, rfl, rfl⟩ rfl (Nat.le_of_ble_eq_true rfl) dX6_area_90 ⟨Nat.zero_le _, Nat.zero_le _⟩ (fun v9 w9 hp9 => ?_)
            rcases hp9 with ⟨x4, y4, L4, u4, hu4, ex4, ey4, rfl, rfl⟩ | ⟨L4, u4, hu4, rfl, rfl⟩
            · refine fj_st (st' := .int 1 :: []) rfl ?_
              refine fj_if_eq (tgt := 105) C dX6_area_93 (by decide) (fun h => absurd h (by decide)) (fun _ => ?_)
              refine fj_iload C 4 dX6_area_96 rfl ?_
              refine fj_if_eq (tgt := 105) C dX6_area_98 (by decide) (fun _ => ?_) (fun h => absurd (by decide) h)
              refine fj_iconst (v := 0) C dX6_area_105 (by decide) ?_
              refine fj_istore (lv' := [(6, .int 0), (11, .int 3), (9, .long y3.toInt64), (7, .long x3.toInt64), (4, .long (((0 + ((x0.toInt64 * ((u1 14).toInt64)) - (((u1 13).toInt64) * y0.toInt64))) + ((((u1 13).toInt64) * ((u2 14).toInt64)) - (((u2 13).toInt64) * ((u1 14).toInt64)))) + ((((u2 13).toInt64) * y3.toInt64) - (x3.toInt64 * ((u2 14).toInt64))))), (3, .int (nI (k / 8))), (2, .int (nI (k % 8))), (0, .ref (bd 0)), (1, .int (nI k))]) C dX6_area_106 (by decide) rfl ?_
              refine fj_lload C 4 dX6_area_108 rfl ?_
              refine fj_lload C 3 dX6_area_110 rfl ?_
              refine fj_aload_n C 7 dX6_area_112 rfl rfl ?_
              refine fj_get (Cn := RX6) (T := TX6) (N := 44) (ci := 6) (v := .int (u4 14)) C iX6 0 (fm_at0 _ _ _ _ _) rfl 43 (by decide) kX6_307 rfl dX6_area_113 ?_
              refine fj_at (y := y4) ey4 ?_
              refine fj_i2l C dX6_area_116 ?_
              refine fj_lmul C dX6_area_117 ?_
              refine fj_aload_n C 7 dX6_area_118 rfl rfl ?_
              refine fj_get (Cn := RX6) (T := TX6) (N := 44) (ci := 6) (v := .int (u4 13)) C iX6 0 (fm_at0 _ _ _ _ _) rfl 42 (by decide) kX6_304 rfl dX6_area_119 ?_
              refine fj_at (y := x4) ex4 ?_
              refine fj_i2l C dX6_area_122 ?_
              refine fj_lload C 2 dX6_area_123 rfl ?_
              refine fj_lmul C dX6_area_125 ?_
              refine fj_lsub C dX6_area_126 ?_
              refine fj_ladd C dX6_area_127 ?_
              refine fj_lstore (lv' := [(4, .long ((((0 + ((x0.toInt64 * ((u1 14).toInt64)) - (((u1 13).toInt64) * y0.toInt64))) + ((((u1 13).toInt64) * ((u2 14).toInt64)) - (((u2 13).toInt64) * ((u1 14).toInt64)))) + ((((u2 13).toInt64) * y3.toInt64) - (x3.toInt64 * ((u2 14).toInt64)))) + ((x3.toInt64 * y4.toInt64) - (x4.toInt64 * y3.toInt64)))), (6, .int 0), (11, .int 3), (9, .long y3.toInt64), (7, .long x3.toInt64), (3, .int (nI (k / 8))), (2, .int (nI (k % 8))), (0, .ref (bd 0)), (1, .int (nI k))]) C dX6_area_128 (by decide) rfl ?_
              refine fj_aload_n C 7 dX6_area_130 rfl rfl ?_
              refine fj_get (Cn := RX6) (T := TX6) (N := 44) (ci := 6) (v := .int (u4 13)) C iX6 0 (fm_at0 _ _ _ _ _) rfl 42 (by decide) kX6_304 rfl dX6_area_131 ?_
              refine fj_at (y := x4) ex4 ?_
              refine fj_i2l C dX6_area_134 ?_
              refine fj_lstore (lv' := [(7, .long x4.toInt64), (4, .long ((((0 + ((x0.toInt64 * ((u1 14).toInt64)) - (((u1 13).toInt64) * y0.toInt64))) + ((((u1 13).toInt64) * ((u2 14).toInt64)) - (((u2 13).toInt64) * ((u1 14).toInt64)))) + ((((u2 13).toInt64) * y3.toInt64) - (x3.toInt64 * ((u2 14).toInt64)))) + ((x3.toInt64 * y4.toInt64) - (x4.toInt64 * y3.toInt64)))), (6, .int 0), (11, .int 3), (9, .long y3.toInt64), (3, .int (nI (k / 8))), (2, .int (nI (k % 8))), (0, .ref (bd 0)), (1, .int (nI k))]) C dX6_area_135 (by decide) rfl ?_
              refine fj_aload_n C 7 dX6_area_137 rfl rfl ?_
              refine fj_get (Cn := RX6) (T := TX6) (N := 44) (ci := 6) (v := .int (u4 14)) C iX6 0 (fm_at0 _ _ _ _ _) rfl 43 (by decide) kX6_307 rfl dX6_area_138 ?_
              refine fj_at (y := y4) ey4 ?_
              refine fj_i2l C dX6_area_141 ?_
              refine fj_lstore (lv' := [(9, .long y4.toInt64), (7, .long x4.toInt64), (4, .long ((((0 + ((x0.toInt64 * ((u1 14).toInt64)) - (((u1 13).toInt64) * y0.toInt64))) + ((((u1 13).toInt64) * ((u2 14).toInt64)) - (((u2 13).toInt64) * ((u1 14).toInt64)))) + ((((u2 13).toInt64) * y3.toInt64) - (x3.toInt64 * ((u2 14).toInt64)))) + ((x3.toInt64 * y4.toInt64) - (x4.toInt64 * y3.toInt64)))), (6, .int 0), (11, .int 3), (3, .int (nI (k / 8))), (2, .int (nI (k % 8))), (0, .ref (bd 0)), (1, .int (nI k))]) C dX6_area_142 (by decide) rfl ?_
              refine fj_iinc (v := 4) (lv' := [(11, .int 4), (9, .long y4.toInt64), (7, .long x4.toInt64), (4, .long ((((0 + ((x0.toInt64 * ((u1 14).toInt64)) - (((u1 13).toInt64) * y0.toInt64))) + ((((u1 13).toInt64) * ((u2 14).toInt64)) - (((u2 13).toInt64) * ((u1 14).toInt64)))) + ((((u2 13).toInt64) * y3.toInt64) - (x3.toInt64 * ((u2 14).toInt64)))) + ((x3.toInt64 * y4.toInt64) - (x4.toInt64 * y3.toInt64)))), (6, .int 0), (3, .int (nI (k / 8))), (2, .int (nI (k % 8))), (0, .ref (bd 0)), (1, .int (nI k))]) C 4 dX6_area_144 rfl (by decide) (by decide) rfl ?_
              refine fj_goto (tgt := 51) C dX6_area_147 (by decide) ?_
              refine fj_iload C 0 dX6_area_51 rfl ?_
              refine fj_iconst (v := 4) C dX6_area_53 (by decide) ?_
              refine fj_icmp_ge (tgt := 150) C dX6_area_54 (by decide) (fun _ => ?_) (fun h => absurd (by decide) h)
              refine fj_iload C 4 dX6_area_150 rfl ?_
              refine fj_if_eq (tgt := 160) C dX6_area_152 (by decide) (fun _ => ?_) (fun h => absurd (by decide) h)
              refine fj_ldc2 (v := (-1003)) C dX6_area_160 kL321 ?_
              exact fj_lret C E9 dX6_area_163 (Or.inr ⟨k, hk, rfl, u4, (fun j hj => (hu4 j hj).trans ((hu3 j hj).trans ((hu2 j hj).trans ((hu1 j hj).trans (hu0 j hj))))), rfl, Or.inr ⟨(Or.inl L1), rfl⟩⟩)
            · refine fj_st (st' := .int 0 :: []) rfl ?_
              refine fj_if_eq (tgt := 105) C dX6_area_93 (by decide) (fun _ => ?_) (fun h => absurd (by decide) h)
              refine fj_iconst (v := 0) C dX6_area_105 (by decide) ?_
              refine fj_istore (lv' := [(6, .int 0), (11, .int 3), (9, .long y3.toInt64), (7, .long x3.toInt64), (4, .long (((0 + ((x0.toInt64 * ((u1 14).toInt64)) - (((u1 13).toInt64) * y0.toInt64))) + ((((u1 13).toInt64) * ((u2 14).toInt64)) - (((u2 13).toInt64) * ((u1 14).toInt64)))) + ((((u2 13).toInt64) * y3.toInt64) - (x3.toInt64 * ((u2 14).toInt64))))), (3, .int (nI (k / 8))), (2, .int (nI (k % 8))), (0, .ref (bd 0)), (1, .int (nI k))]) C dX6_area_106 (by decide) rfl ?_
              refine fj_lload C 4 dX6_area_108 rfl ?_
              refine fj_lload C 3 dX6_area_110 rfl ?_
              refine fj_aload_n C 7 dX6_area_112 rfl rfl ?_
              refine fj_get (Cn := RX6) (T := TX6) (N := 44) (ci := 6) (v := .int (u4 14)) C iX6 0 (fm_at0 _ _ _ _ _) rfl 43 (by decide) kX6_307 rfl dX6_area_113 ?_
              refine fj_i2l C dX6_area_116 ?_
              refine fj_lmul C dX6_area_117 ?_
              refine fj_aload_n C 7 dX6_area_118 rfl rfl ?_
              refine fj_get (Cn := RX6) (T := TX6) (N := 44) (ci := 6) (v := .int (u4 13)) C iX6 0 (fm_at0 _ _ _ _ _) rfl 42 (by decide) kX6_304 rfl dX6_area_119 ?_
              refine fj_i2l C dX6_area_122 ?_
              refine fj_lload C 2 dX6_area_123 rfl ?_
              refine fj_lmul C dX6_area_125 ?_
              refine fj_lsub C dX6_area_126 ?_
              refine fj_ladd C dX6_area_127 ?_
              refine fj_lstore (lv' := [(4, .long ((((0 + ((x0.toInt64 * ((u1 14).toInt64)) - (((u1 13).toInt64) * y0.toInt64))) + ((((u1 13).toInt64) * ((u2 14).toInt64)) - (((u2 13).toInt64) * ((u1 14).toInt64)))) + ((((u2 13).toInt64) * y3.toInt64) - (x3.toInt64 * ((u2 14).toInt64)))) + ((x3.toInt64 * ((u4 14).toInt64)) - (((u4 13).toInt64) * y3.toInt64)))), (6, .int 0), (11, .int 3), (9, .long y3.toInt64), (7, .long x3.toInt64), (3, .int (nI (k / 8))), (2, .int (nI (k % 8))), (0, .ref (bd 0)), (1, .int (nI k))]) C dX6_area_128 (by decide) rfl ?_
              refine fj_aload_n C 7 dX6_area_130 rfl rfl ?_
              refine fj_get (Cn := RX6) (T := TX6) (N := 44) (ci := 6) (v := .int (u4 13)) C iX6 0 (fm_at0 _ _ _ _ _) rfl 42 (by decide) kX6_304 rfl dX6_area_131 ?_
              refine fj_i2l C dX6_area_134 ?_
              refine fj_lstore (lv' := [(7, .long ((u4 13).toInt64)), (4, .long ((((0 + ((x0.toInt64 * ((u1 14).toInt64)) - (((u1 13).toInt64) * y0.toInt64))) + ((((u1 13).toInt64) * ((u2 14).toInt64)) - (((u2 13).toInt64) * ((u1 14).toInt64)))) + ((((u2 13).toInt64) * y3.toInt64) - (x3.toInt64 * ((u2 14).toInt64)))) + ((x3.toInt64 * ((u4 14).toInt64)) - (((u4 13).toInt64) * y3.toInt64)))), (6, .int 0), (11, .int 3), (9, .long y3.toInt64), (3, .int (nI (k / 8))), (2, .int (nI (k % 8))), (0, .ref (bd 0)), (1, .int (nI k))]) C dX6_area_135 (by decide) rfl ?_
              refine fj_aload_n C 7 dX6_area_137 rfl rfl ?_
              refine fj_get (Cn := RX6) (T := TX6) (N := 44) (ci := 6) (v := .int (u4 14)) C iX6 0 (fm_at0 _ _ _ _ _) rfl 43 (by decide) kX6_307 rfl dX6_area_138 ?_
              refine fj_i2l C dX6_area_141 ?_
              refine fj_lstore (lv' := [(9, .long ((u4 14).toInt64)), (7, .long ((u4 13).toInt64)), (4, .long ((((0 + ((x0.toInt64 * ((u1 14).toInt64)) - (((u1 13).toInt64) * y0.toInt64))) + ((((u1 13).toInt64) * ((u2 14).toInt64)) - (((u2 13).toInt64) * ((u1 14).toInt64)))) + ((((u2 13).toInt64) * y3.toInt64) - (x3.toInt64 * ((u2 14).toInt64)))) + ((x3.toInt64 * ((u4 14).toInt64)) - (((u4 13).toInt64) * y3.toInt64)))), (6, .int 0), (11, .int 3), (3, .int (nI (k / 8))), (2, .int (nI (k % 8))), (0, .ref (bd 0)), (1, .int (nI k))]) C dX6_area_142 (by decide) rfl ?_
              refine fj_iinc (v := 4) (lv' := [(11, .int 4), (9, .long ((u4 14).toInt64)), (7, .long ((u4 13).toInt64)), (4, .long ((((0 + ((x0.toInt64 * ((u1 14).toInt64)) - (((u1 13).toInt64) * y0.toInt64))) + ((((u1 13).toInt64) * ((u2 14).toInt64)) - (((u2 13).toInt64) * ((u1 14).toInt64)))) + ((((u2 13).toInt64) * y3.toInt64) - (x3.toInt64 * ((u2 14).toInt64)))) + ((x3.toInt64 * ((u4 14).toInt64)) - (((u4 13).toInt64) * y3.toInt64)))), (6, .int 0), (3, .int (nI (k / 8))), (2, .int (nI (k % 8))), (0, .ref (bd 0)), (1, .int (nI k))]) C 4 dX6_area_144 rfl (by decide) (by decide) rfl ?_
              refine fj_goto (tgt := 51) C dX6_area_147 (by decide) ?_
              refine fj_iload C 0 dX6_area_51 rfl ?_
              refine fj_iconst (v := 4) C dX6_area_53 (by decide) ?_
              refine fj_icmp_ge (tgt := 150) C dX6_area_54 (by decide) (fun _ => ?_) (fun h => absurd (by decide) h)
              refine fj_iload C 4 dX6_area_150 rfl ?_
              refine fj_if_eq (tgt := 160) C dX6_area_152 (by decide) (fun _ => ?_) (fun h => absurd (by decide) h)
              refine fj_ldc2 (v := (-1003)) C dX6_area_160 kL321 ?_
              exact fj_lret C E9 dX6_area_163 (Or.inr ⟨k, hk, rfl, u4, (fun j hj => (hu4 j hj).trans ((hu3 j hj).trans ((hu2 j hj).trans ((hu1 j hj).trans (hu0 j hj))))), rfl, Or.inr ⟨(Or.inl L1), rfl⟩⟩)
          · refine fj_st (st' := .int 0 :: []) rfl ?_
            refine fj_if_eq (tgt := 105) C dX6_area_93 (by decide) (fun _ => ?_) (fun h => absurd (by decide) h)
            refine fj_iconst (v := 0) C dX6_area_105 (by decide) ?_
            refine fj_istore (lv' := [(6, .int 0), (11, .int 2), (9, .long ((u2 14).toInt64)), (7, .long ((u2 13).toInt64)), (4, .long ((0 + ((x0.toInt64 * ((u1 14).toInt64)) - (((u1 13).toInt64) * y0.toInt64))) + ((((u1 13).toInt64) * ((u2 14).toInt64)) - (((u2 13).toInt64) * ((u1 14).toInt64))))), (3, .int (nI (k / 8))), (2, .int (nI (k % 8))), (0, .ref (bd 0)), (1, .int (nI k))]) C dX6_area_106 (by decide) rfl ?_
            refine fj_lload C 4 dX6_area_108 rfl ?_
            refine fj_lload C 3 dX6_area_110 rfl ?_
            refine fj_aload_n C 7 dX6_area_112 rfl rfl ?_
            refine fj_get (Cn := RX6) (T := TX6) (N := 44) (ci := 6) (v := .int (u3 14)) C iX6 0 (fm_at0 _ _ _ _ _) rfl 43 (by decide) kX6_307 rfl dX6_area_113 ?_
            refine fj_i2l C dX6_area_116 ?_
            refine fj_lmul C dX6_area_117 ?_
            refine fj_aload_n C 7 dX6_area_118 rfl rfl ?_
            refine fj_get (Cn := RX6) (T := TX6) (N := 44) (ci := 6) (v := .int (u3 13)) C iX6 0 (fm_at0 _ _ _ _ _) rfl 42 (by decide) kX6_304 rfl dX6_area_119 ?_
            refine fj_i2l C dX6_area_122 ?_
            refine fj_lload C 2 dX6_area_123 rfl ?_
            refine fj_lmul C dX6_area_125 ?_
            refine fj_lsub C dX6_area_126 ?_
            refine fj_ladd C dX6_area_127 ?_
            refine fj_lstore (lv' := [(4, .long (((0 + ((x0.toInt64 * ((u1 14).toInt64)) - (((u1 13).toInt64) * y0.toInt64))) + ((((u1 13).toInt64) * ((u2 14).toInt64)) - (((u2 13).toInt64) * ((u1 14).toInt64)))) + ((((u2 13).toInt64) * ((u3 14).toInt64)) - (((u3 13).toInt64) * ((u2 14).toInt64))))), (6, .int 0), (11, .int 2), (9, .long ((u2 14).toInt64)), (7, .long ((u2 13).toInt64)), (3, .int (nI (k / 8))), (2, .int (nI (k % 8))), (0, .ref (bd 0)), (1, .int (nI k))]) C dX6_area_128 (by decide) rfl ?_
            refine fj_aload_n C 7 dX6_area_130 rfl rfl ?_
            refine fj_get (Cn := RX6) (T := TX6) (N := 44) (ci := 6) (v := .int (u3 13)) C iX6 0 (fm_at0 _ _ _ _ _) rfl 42 (by decide) kX6_304 rfl dX6_area_131 ?_
            refine fj_i2l C dX6_area_134 ?_
            refine fj_lstore (lv' := [(7, .long ((u3 13).toInt64)), (4, .long (((0 + ((x0.toInt64 * ((u1 14).toInt64)) - (((u1 13).toInt64) * y0.toInt64))) + ((((u1 13).toInt64) * ((u2 14).toInt64)) - (((u2 13).toInt64) * ((u1 14).toInt64)))) + ((((u2 13).toInt64) * ((u3 14).toInt64)) - (((u3 13).toInt64) * ((u2 14).toInt64))))), (6, .int 0), (11, .int 2), (9, .long ((u2 14).toInt64)), (3, .int (nI (k / 8))), (2, .int (nI (k % 8))), (0, .ref (bd 0)), (1, .int (nI k))]) C dX6_area_135 (by decide) rfl ?_
            refine fj_aload_n C 7 dX6_area_137 rfl rfl ?_
            refine fj_get (Cn := RX6) (T := TX6) (N := 44) (ci := 6) (v := .int (u3 14)) C iX6 0 (fm_at0 _ _ _ _ _) rfl 43 (by decide) kX6_307 rfl dX6_area_138 ?_
            refine fj_i2l C dX6_area_141 ?_
            refine fj_lstore (lv' := [(9, .long ((u3 14).toInt64)), (7, .long ((u3 13).toInt64)), (4, .long (((0 + ((x0.toInt64 * ((u1 14).toInt64)) - (((u1 13).toInt64) * y0.toInt64))) + ((((u1 13).toInt64) * ((u2 14).toInt64)) - (((u2 13).toInt64) * ((u1 14).toInt64)))) + ((((u2 13).toInt64) * ((u3 14).toInt64)) - (((u3 13).toInt64) * ((u2 14).toInt64))))), (6, .int 0), (11, .int 2), (3, .int (nI (k / 8))), (2, .int (nI (k % 8))), (0, .ref (bd 0)), (1, .int (nI k))]) C dX6_area_142 (by decide) rfl ?_
            refine fj_iinc (v := 3) (lv' := [(11, .int 3), (9, .long ((u3 14).toInt64)), (7, .long ((u3 13).toInt64)), (4, .long (((0 + ((x0.toInt64 * ((u1 14).toInt64)) - (((u1 13).toInt64) * y0.toInt64))) + ((((u1 13).toInt64) * ((u2 14).toInt64)) - (((u2 13).toInt64) * ((u1 14).toInt64)))) + ((((u2 13).toInt64) * ((u3 14).toInt64)) - (((u3 13).toInt64) * ((u2 14).toInt64))))), (6, .int 0), (3, .int (nI (k / 8))), (2, .int (nI (k % 8))), (0, .ref (bd 0)), (1, .int (nI k))]) C 4 dX6_area_144 rfl (by decide) (by decide) rfl ?_
            refine fj_goto (tgt := 51) C dX6_area_147 (by decide) ?_
            refine fj_iload C 0 dX6_area_51 rfl ?_
            refine fj_iconst (v := 4) C dX6_area_53 (by decide) ?_
            refine fj_icmp_ge (tgt := 150) C dX6_area_54 (by decide) (fun h => absurd h (by decide)) (fun _ => ?_)
            refine fj_aload_n C 7 dX6_area_57 rfl rfl ?_
            refine fj_iload C 0 dX6_area_58 rfl ?_
            refine fj_iconst (v := 1) C dX6_area_60 (by decide) ?_
            refine fj_icmp_eq (tgt := 70) C dX6_area_61 (by decide) (fun h => absurd h (by decide)) (fun _ => ?_)
            refine fj_iload C 0 dX6_area_64 rfl ?_
            refine fj_iconst (v := 2) C dX6_area_66 (by decide) ?_
            refine fj_icmp_ne (tgt := 76) C dX6_area_67 (by decide) (fun _ => ?_) (fun h => absurd h (by decide))
            refine fj_iload_n C 6 dX6_area_76 rfl rfl ?_
            refine fj_iload C 0 dX6_area_77 rfl ?_
            refine fj_iconst (v := 1) C dX6_area_79 (by decide) ?_
            refine fj_icmp_le (tgt := 89) C dX6_area_80 (by decide) (fun h => absurd h (by decide)) (fun _ => ?_)
            refine fj_iload_n C 5 dX6_area_83 rfl rfl ?_
            refine fj_iconst (v := 1) C dX6_area_84 (by decide) ?_
            refine fj_iadd C dX6_area_85 ?_
            refine fj_at (y := nI (k / 8 + 1)) (nI_1 _) ?_
            refine fj_goto (tgt := 90) C dX6_area_86 (by decide) ?_
            refine fj_callVw (As := [.int (nI (k % 8)), .int (nI (k / 8 + 1))]) (rest := []) C (d_X6_findPlace l D ty t0 bd a g u3 (nI (k % 8)) (nI (k / 8 + 1)) (k % 8) (k / 8 + 1) rfl rfl (by omega) (by omega)) (cwV 2 C.2.2.2.2.1 gX6_area_X6_findPlace rfl rfl rfl (by decide +kernel) ⟨Nat.le_of_ble_eq_true rfl, Nat.le_of_ble_eq_true rfl⟩) ⟨0, 6, _, _, fm_at0 _ _ _ _ _, rfl, rfl⟩ rfl (Nat.le_of_ble_eq_true rfl) dX6_area_90 ⟨Nat.zero_le _, Nat.zero_le _⟩ (fun v9 w9 hp9 => ?_)
            rcases hp9 with ⟨x4, y4, L4, u4, hu4, ex4, ey4, rfl, rfl⟩ | ⟨L4, u4, hu4, rfl, rfl⟩
            · refine fj_st (st' := .int 1 :: []) rfl ?_
              refine fj_if_eq (tgt := 105) C dX6_area_93 (by decide) (fun h => absurd h (by decide)) (fun _ => ?_)
              refine fj_iload C 4 dX6_area_96 rfl ?_
              refine fj_if_eq (tgt := 105) C dX6_area_98 (by decide) (fun _ => ?_) (fun h => absurd (by decide) h)
              refine fj_iconst (v := 0) C dX6_area_105 (by decide) ?_
              refine fj_istore (lv' := [(6, .int 0), (11, .int 3), (9, .long ((u3 14).toInt64)), (7, .long ((u3 13).toInt64)), (4, .long (((0 + ((x0.toInt64 * ((u1 14).toInt64)) - (((u1 13).toInt64) * y0.toInt64))) + ((((u1 13).toInt64) * ((u2 14).toInt64)) - (((u2 13).toInt64) * ((u1 14).toInt64)))) + ((((u2 13).toInt64) * ((u3 14).toInt64)) - (((u3 13).toInt64) * ((u2 14).toInt64))))), (3, .int (nI (k / 8))), (2, .int (nI (k % 8))), (0, .ref (bd 0)), (1, .int (nI k))]) C dX6_area_106 (by decide) rfl ?_
              refine fj_lload C 4 dX6_area_108 rfl ?_
              refine fj_lload C 3 dX6_area_110 rfl ?_
              refine fj_aload_n C 7 dX6_area_112 rfl rfl ?_
              refine fj_get (Cn := RX6) (T := TX6) (N := 44) (ci := 6) (v := .int (u4 14)) C iX6 0 (fm_at0 _ _ _ _ _) rfl 43 (by decide) kX6_307 rfl dX6_area_113 ?_
              refine fj_at (y := y4) ey4 ?_
              refine fj_i2l C dX6_area_116 ?_
              refine fj_lmul C dX6_area_117 ?_
              refine fj_aload_n C 7 dX6_area_118 rfl rfl ?_
              refine fj_get (Cn := RX6) (T := TX6) (N := 44) (ci := 6) (v := .int (u4 13)) C iX6 0 (fm_at0 _ _ _ _ _) rfl 42 (by decide) kX6_304 rfl dX6_area_119 ?_
              refine fj_at (y := x4) ex4 ?_
              refine fj_i2l C dX6_area_122 ?_
              refine fj_lload C 2 dX6_area_123 rfl ?_
              refine fj_lmul C dX6_area_125 ?_
              refine fj_lsub C dX6_area_126 ?_
              refine fj_ladd C dX6_area_127 ?_
              refine fj_lstore (lv' := [(4, .long ((((0 + ((x0.toInt64 * ((u1 14).toInt64)) - (((u1 13).toInt64) * y0.toInt64))) + ((((u1 13).toInt64) * ((u2 14).toInt64)) - (((u2 13).toInt64) * ((u1 14).toInt64)))) + ((((u2 13).toInt64) * ((u3 14).toInt64)) - (((u3 13).toInt64) * ((u2 14).toInt64)))) + ((((u3 13).toInt64) * y4.toInt64) - (x4.toInt64 * ((u3 14).toInt64))))), (6, .int 0), (11, .int 3), (9, .long ((u3 14).toInt64)), (7, .long ((u3 13).toInt64)), (3, .int (nI (k / 8))), (2, .int (nI (k % 8))), (0, .ref (bd 0)), (1, .int (nI k))]) C dX6_area_128 (by decide) rfl ?_
              refine fj_aload_n C 7 dX6_area_130 rfl rfl ?_
              refine fj_get (Cn := RX6) (T := TX6) (N := 44) (ci := 6) (v := .int (u4 13)) C iX6 0 (fm_at0 _ _ _ _ _) rfl 42 (by decide) kX6_304 rfl dX6_area_131 ?_
              refine fj_at (y := x4) ex4 ?_
              refine fj_i2l C dX6_area_134 ?_
              refine fj_lstore (lv' := [(7, .long x4.toInt64), (4, .long ((((0 + ((x0.toInt64 * ((u1 14).toInt64)) - (((u1 13).toInt64) * y0.toInt64))) + ((((u1 13).toInt64) * ((u2 14).toInt64)) - (((u2 13).toInt64) * ((u1 14).toInt64)))) + ((((u2 13).toInt64) * ((u3 14).toInt64)) - (((u3 13).toInt64) * ((u2 14).toInt64)))) + ((((u3 13).toInt64) * y4.toInt64) - (x4.toInt64 * ((u3 14).toInt64))))), (6, .int 0), (11, .int 3), (9, .long ((u3 14).toInt64)), (3, .int (nI (k / 8))), (2, .int (nI (k % 8))), (0, .ref (bd 0)), (1, .int (nI k))]) C dX6_area_135 (by decide) rfl ?_
              refine fj_aload_n C 7 dX6_area_137 rfl rfl ?_
              refine fj_get (Cn := RX6) (T := TX6) (N := 44) (ci := 6) (v := .int (u4 14)) C iX6 0 (fm_at0 _ _ _ _ _) rfl 43 (by decide) kX6_307 rfl dX6_area_138 ?_
              refine fj_at (y := y4) ey4 ?_
              refine fj_i2l C dX6_area_141 ?_
              refine fj_lstore (lv' := [(9, .long y4.toInt64), (7, .long x4.toInt64), (4, .long ((((0 + ((x0.toInt64 * ((u1 14).toInt64)) - (((u1 13).toInt64) * y0.toInt64))) + ((((u1 13).toInt64) * ((u2 14).toInt64)) - (((u2 13).toInt64) * ((u1 14).toInt64)))) + ((((u2 13).toInt64) * ((u3 14).toInt64)) - (((u3 13).toInt64) * ((u2 14).toInt64)))) + ((((u3 13).toInt64) * y4.toInt64) - (x4.toInt64 * ((u3 14).toInt64))))), (6, .int 0), (11, .int 3), (3, .int (nI (k / 8))), (2, .int (nI (k % 8))), (0, .ref (bd 0)), (1, .int (nI k))]) C dX6_area_142 (by decide) rfl ?_
              refine fj_iinc (v := 4) (lv' := [(11, .int 4), (9, .long y4.toInt64), (7, .long x4.toInt64), (4, .long ((((0 + ((x0.toInt64 * ((u1 14).toInt64)) - (((u1 13).toInt64) * y0.toInt64))) + ((((u1 13).toInt64) * ((u2 14).toInt64)) - (((u2 13).toInt64) * ((u1 14).toInt64)))) + ((((u2 13).toInt64) * ((u3 14).toInt64)) - (((u3 13).toInt64) * ((u2 14).toInt64)))) + ((((u3 13).toInt64) * y4.toInt64) - (x4.toInt64 * ((u3 14).toInt64))))), (6, .int 0), (3, .int (nI (k / 8))), (2, .int (nI (k % 8))), (0, .ref (bd 0)), (1, .int (nI k))]) C 4 dX6_area_144 rfl (by decide) (by decide) rfl ?_
              refine fj_goto (tgt := 51) C dX6_area_147 (by decide) ?_
              refine fj_iload C 0 dX6_area_51 rfl ?_
              refine fj_iconst (v := 4) C dX6_area_53 (by decide) ?_
              refine fj_icmp_ge (tgt := 150) C dX6_area_54 (by decide) (fun _ => ?_) (fun h => absurd (by decide) h)
              refine fj_iload C 4 dX6_area_150 rfl ?_
              refine fj_if_eq (tgt := 160) C dX6_area_152 (by decide) (fun _ => ?_) (fun h => absurd (by decide) h)
              refine fj_ldc2 (v := (-1003)) C dX6_area_160 kL321 ?_
              exact fj_lret C E9 dX6_area_163 (Or.inr ⟨k, hk, rfl, u4, (fun j hj => (hu4 j hj).trans ((hu3 j hj).trans ((hu2 j hj).trans ((hu1 j hj).trans (hu0 j hj))))), rfl, Or.inr ⟨(Or.inl L1), rfl⟩⟩)
            · refine fj_st (st' := .int 0 :: []) rfl ?_
              refine fj_if_eq (tgt := 105) C dX6_area_93 (by decide) (fun _ => ?_) (fun h => absurd (by decide) h)
              refine fj_iconst (v := 0) C dX6_area_105 (by decide) ?_
              refine fj_istore (lv' := [(6, .int 0), (11, .int 3), (9, .long ((u3 14).toInt64)), (7, .long ((u3 13).toInt64)), (4, .long (((0 + ((x0.toInt64 * ((u1 14).toInt64)) - (((u1 13).toInt64) * y0.toInt64))) + ((((u1 13).toInt64) * ((u2 14).toInt64)) - (((u2 13).toInt64) * ((u1 14).toInt64)))) + ((((u2 13).toInt64) * ((u3 14).toInt64)) - (((u3 13).toInt64) * ((u2 14).toInt64))))), (3, .int (nI (k / 8))), (2, .int (nI (k % 8))), (0, .ref (bd 0)), (1, .int (nI k))]) C dX6_area_106 (by decide) rfl ?_
              refine fj_lload C 4 dX6_area_108 rfl ?_
              refine fj_lload C 3 dX6_area_110 rfl ?_
              refine fj_aload_n C 7 dX6_area_112 rfl rfl ?_
              refine fj_get (Cn := RX6) (T := TX6) (N := 44) (ci := 6) (v := .int (u4 14)) C iX6 0 (fm_at0 _ _ _ _ _) rfl 43 (by decide) kX6_307 rfl dX6_area_113 ?_
              refine fj_i2l C dX6_area_116 ?_
              refine fj_lmul C dX6_area_117 ?_
              refine fj_aload_n C 7 dX6_area_118 rfl rfl ?_
              refine fj_get (Cn := RX6) (T := TX6) (N := 44) (ci := 6) (v := .int (u4 13)) C iX6 0 (fm_at0 _ _ _ _ _) rfl 42 (by decide) kX6_304 rfl dX6_area_119 ?_
              refine fj_i2l C dX6_area_122 ?_
              refine fj_lload C 2 dX6_area_123 rfl ?_
              refine fj_lmul C dX6_area_125 ?_
              refine fj_lsub C dX6_area_126 ?_
              refine fj_ladd C dX6_area_127 ?_
              refine fj_lstore (lv' := [(4, .long ((((0 + ((x0.toInt64 * ((u1 14).toInt64)) - (((u1 13).toInt64) * y0.toInt64))) + ((((u1 13).toInt64) * ((u2 14).toInt64)) - (((u2 13).toInt64) * ((u1 14).toInt64)))) + ((((u2 13).toInt64) * ((u3 14).toInt64)) - (((u3 13).toInt64) * ((u2 14).toInt64)))) + ((((u3 13).toInt64) * ((u4 14).toInt64)) - (((u4 13).toInt64) * ((u3 14).toInt64))))), (6, .int 0), (11, .int 3), (9, .long ((u3 14).toInt64)), (7, .long ((u3 13).toInt64)), (3, .int (nI (k / 8))), (2, .int (nI (k % 8))), (0, .ref (bd 0)), (1, .int (nI k))]) C dX6_area_128 (by decide) rfl ?_
              refine fj_aload_n C 7 dX6_area_130 rfl rfl ?_
              refine fj_get (Cn := RX6) (T := TX6) (N := 44) (ci := 6) (v := .int (u4 13)) C iX6 0 (fm_at0 _ _ _ _ _) rfl 42 (by decide) kX6_304 rfl dX6_area_131 ?_
              refine fj_i2l C dX6_area_134 ?_
              refine fj_lstore (lv' := [(7, .long ((u4 13).toInt64)), (4, .long ((((0 + ((x0.toInt64 * ((u1 14).toInt64)) - (((u1 13).toInt64) * y0.toInt64))) + ((((u1 13).toInt64) * ((u2 14).toInt64)) - (((u2 13).toInt64) * ((u1 14).toInt64)))) + ((((u2 13).toInt64) * ((u3 14).toInt64)) - (((u3 13).toInt64) * ((u2 14).toInt64)))) + ((((u3 13).toInt64) * ((u4 14).toInt64)) - (((u4 13).toInt64) * ((u3 14).toInt64))))), (6, .int 0), (11, .int 3), (9, .long ((u3 14).toInt64)), (3, .int (nI (k / 8))), (2, .int (nI (k % 8))), (0, .ref (bd 0)), (1, .int (nI k))]) C dX6_area_135 (by decide) rfl ?_
              refine fj_aload_n C 7 dX6_area_137 rfl rfl ?_
              refine fj_get (Cn := RX6) (T := TX6) (N := 44) (ci := 6) (v := .int (u4 14)) C iX6 0 (fm_at0 _ _ _ _ _) rfl 43 (by decide) kX6_307 rfl dX6_area_138 ?_
              refine fj_i2l C dX6_area_141 ?_
              refine fj_lstore (lv' := [(9, .long ((u4 14).toInt64)), (7, .long ((u4 13).toInt64)), (4, .long ((((0 + ((x0.toInt64 * ((u1 14).toInt64)) - (((u1 13).toInt64) * y0.toInt64))) + ((((u1 13).toInt64) * ((u2 14).toInt64)) - (((u2 13).toInt64) * ((u1 14).toInt64)))) + ((((u2 13).toInt64) * ((u3 14).toInt64)) - (((u3 13).toInt64) * ((u2 14).toInt64)))) + ((((u3 13).toInt64) * ((u4 14).toInt64)) - (((u4 13).toInt64) * ((u3 14).toInt64))))), (6, .int 0), (11, .int 3), (3, .int (nI (k / 8))), (2, .int (nI (k % 8))), (0, .ref (bd 0)), (1, .int (nI k))]) C dX6_area_142 (by decide) rfl ?_
              refine fj_iinc (v := 4) (lv' := [(11, .int 4), (9, .long ((u4 14).toInt64)), (7, .long ((u4 13).toInt64)), (4, .long ((((0 + ((x0.toInt64 * ((u1 14).toInt64)) - (((u1 13).toInt64) * y0.toInt64))) + ((((u1 13).toInt64) * ((u2 14).toInt64)) - (((u2 13).toInt64) * ((u1 14).toInt64)))) + ((((u2 13).toInt64) * ((u3 14).toInt64)) - (((u3 13).toInt64) * ((u2 14).toInt64)))) + ((((u3 13).toInt64) * ((u4 14).toInt64)) - (((u4 13).toInt64) * ((u3 14).toInt64))))), (6, .int 0), (3, .int (nI (k / 8))), (2, .int (nI (k % 8))), (0, .ref (bd 0)), (1, .int (nI k))]) C 4 dX6_area_144 rfl (by decide) (by decide) rfl ?_
              refine fj_goto (tgt := 51) C dX6_area_147 (by decide) ?_
              refine fj_iload C 0 dX6_area_51 rfl ?_
              refine fj_iconst (v := 4) C dX6_area_53 (by decide) ?_
              refine fj_icmp_ge (tgt := 150) C dX6_area_54 (by decide) (fun _ => ?_) (fun h => absurd (by decide) h)
              refine fj_iload C 4 dX6_area_150 rfl ?_
              refine fj_if_eq (tgt := 160) C dX6_area_152 (by decide) (fun _ => ?_) (fun h => absurd (by decide) h)
              refine fj_ldc2 (v := (-1003)) C dX6_area_160 kL321 ?_
              exact fj_lret C E9 dX6_area_163 (Or.inr ⟨k, hk, rfl, u4, (fun j hj => (hu4 j hj).trans ((hu3 j hj).trans ((hu2 j hj).trans ((hu1 j hj).trans (hu0 j hj))))), rfl, Or.inr ⟨(Or.inl L1), rfl⟩⟩)
    · refine fj_st (st' := .int 0 :: []) rfl ?_
      refine fj_istore (lv' := [(6, .int 0), (4, .long 0), (3, .int (nI (k / 8))), (2, .int (nI (k % 8))), (0, .ref (bd 0)), (1, .int (nI k))]) C dX6_area_32 (by decide) rfl ?_
      refine fj_aload_n C 4 dX6_area_34 rfl rfl ?_
      refine fj_get (Cn := RX6) (T := TX6) (N := 44) (ci := 6) (v := .int (u0 13)) C iX6 0 (fm_at0 _ _ _ _ _) rfl 42 (by decide) kX6_304 rfl dX6_area_35 ?_
      refine fj_i2l C dX6_area_38 ?_
      refine fj_lstore (lv' := [(7, .long ((u0 13).toInt64)), (6, .int 0), (4, .long 0), (3, .int (nI (k / 8))), (2, .int (nI (k % 8))), (0, .ref (bd 0)), (1, .int (nI k))]) C dX6_area_39 (by decide) rfl ?_
      refine fj_aload_n C 5 dX6_area_41 rfl rfl ?_
      refine fj_get (Cn := RX6) (T := TX6) (N := 44) (ci := 6) (v := .int (u0 14)) C iX6 0 (fm_at0 _ _ _ _ _) rfl 43 (by decide) kX6_307 rfl dX6_area_42 ?_
      refine fj_i2l C dX6_area_45 ?_
      refine fj_lstore (lv' := [(9, .long ((u0 14).toInt64)), (7, .long ((u0 13).toInt64)), (6, .int 0), (4, .long 0), (3, .int (nI (k / 8))), (2, .int (nI (k % 8))), (0, .ref (bd 0)), (1, .int (nI k))]) C dX6_area_46 (by decide) rfl ?_
      refine fj_iconst (v := 0) C dX6_area_48 (by decide) ?_
      refine fj_istore (lv' := [(11, .int 0), (9, .long ((u0 14).toInt64)), (7, .long ((u0 13).toInt64)), (6, .int 0), (4, .long 0), (3, .int (nI (k / 8))), (2, .int (nI (k % 8))), (0, .ref (bd 0)), (1, .int (nI k))]) C dX6_area_49 (by decide) rfl ?_
      refine fj_iload C 0 dX6_area_51 rfl ?_
      refine fj_iconst (v := 4) C dX6_area_53 (by decide) ?_
      refine fj_icmp_ge (tgt := 150) C dX6_area_54 (by decide) (fun h => absurd h (by decide)) (fun _ => ?_)
      refine fj_aload_n C 7 dX6_area_57 rfl rfl ?_
      refine fj_iload C 0 dX6_area_58 rfl ?_
      refine fj_iconst (v := 1) C dX6_area_60 (by decide) ?_
      refine fj_icmp_eq (tgt := 70) C dX6_area_61 (by decide) (fun h => absurd h (by decide)) (fun _ => ?_)
      refine fj_iload C 0 dX6_area_64 rfl ?_
      refine fj_iconst (v := 2) C dX6_area_66 (by decide) ?_
      refine fj_icmp_ne (tgt := 76) C dX6_area_67 (by decide) (fun _ => ?_) (fun h => absurd h (by decide))
      refine fj_iload_n C 6 dX6_area_76 rfl rfl ?_
      refine fj_iload C 0 dX6_area_77 rfl ?_
      refine fj_iconst (v := 1) C dX6_area_79 (by decide) ?_
      refine fj_icmp_le (tgt := 89) C dX6_area_80 (by decide) (fun _ => ?_) (fun h => absurd (by decide) h)
      refine fj_iload_n C 5 dX6_area_89 rfl rfl ?_
      refine fj_callVw (As := [.int (nI (k % 8)), .int (nI (k / 8))]) (rest := []) C (d_X6_findPlace l D ty t0 bd a g u0 (nI (k % 8)) (nI (k / 8)) (k % 8) (k / 8) rfl rfl (by omega) (by omega)) (cwV 2 C.2.2.2.2.1 gX6_area_X6_findPlace rfl rfl rfl (by decide +kernel) ⟨Nat.le_of_ble_eq_true rfl, Nat.le_of_ble_eq_true rfl⟩) ⟨0, 6, _, _, fm_at0 _ _ _ _ _, rfl, rfl⟩ rfl (Nat.le_of_ble_eq_true rfl) dX6_area_90 ⟨Nat.zero_le _, Nat.zero_le _⟩ (fun v9 w9 hp9 => ?_)
      rcases hp9 with ⟨x1, y1, L1, u1, hu1, ex1, ey1, rfl, rfl⟩ | ⟨L1, u1, hu1, rfl, rfl⟩
      · refine fj_st (st' := .int 1 :: []) rfl ?_
        refine fj_if_eq (tgt := 105) C dX6_area_93 (by decide) (fun h => absurd h (by decide)) (fun _ => ?_)
        refine fj_iload C 3 dX6_area_96 rfl ?_
        refine fj_if_eq (tgt := 105) C dX6_area_98 (by decide) (fun _ => ?_) (fun h => absurd (by decide) h)
        refine fj_iconst (v := 0) C dX6_area_105 (by decide) ?_
        refine fj_istore (lv' := [(6, .int 0), (11, .int 0), (9, .long ((u0 14).toInt64)), (7, .long ((u0 13).toInt64)), (4, .long 0), (3, .int (nI (k / 8))), (2, .int (nI (k % 8))), (0, .ref (bd 0)), (1, .int (nI k))]) C dX6_area_106 (by decide) rfl ?_
        refine fj_lload C 4 dX6_area_108 rfl ?_
        refine fj_lload C 3 dX6_area_110 rfl ?_
        refine fj_aload_n C 7 dX6_area_112 rfl rfl ?_
        refine fj_get (Cn := RX6) (T := TX6) (N := 44) (ci := 6) (v := .int (u1 14)) C iX6 0 (fm_at0 _ _ _ _ _) rfl 43 (by decide) kX6_307 rfl dX6_area_113 ?_
        refine fj_at (y := y1) ey1 ?_
        refine fj_i2l C dX6_area_116 ?_
        refine fj_lmul C dX6_area_117 ?_
        refine fj_aload_n C 7 dX6_area_118 rfl rfl ?_
        refine fj_get (Cn := RX6) (T := TX6) (N := 44) (ci := 6) (v := .int (u1 13)) C iX6 0 (fm_at0 _ _ _ _ _) rfl 42 (by decide) kX6_304 rfl dX6_area_119 ?_
        refine fj_at (y := x1) ex1 ?_
        refine fj_i2l C dX6_area_122 ?_
        refine fj_lload C 2 dX6_area_123 rfl ?_
        refine fj_lmul C dX6_area_125 ?_
        refine fj_lsub C dX6_area_126 ?_
        refine fj_ladd C dX6_area_127 ?_
        refine fj_lstore (lv' := [(4, .long (0 + ((((u0 13).toInt64) * y1.toInt64) - (x1.toInt64 * ((u0 14).toInt64))))), (6, .int 0), (11, .int 0), (9, .long ((u0 14).toInt64)), (7, .long ((u0 13).toInt64)), (3, .int (nI (k / 8))), (2, .int (nI (k % 8))), (0, .ref (bd 0)), (1, .int (nI k))]) C dX6_area_128 (by decide) rfl ?_
        refine fj_aload_n C 7 dX6_area_130 rfl rfl ?_
        refine fj_get (Cn := RX6) (T := TX6) (N := 44) (ci := 6) (v := .int (u1 13)) C iX6 0 (fm_at0 _ _ _ _ _) rfl 42 (by decide) kX6_304 rfl dX6_area_131 ?_
        refine fj_at (y := x1) ex1 ?_
        refine fj_i2l C dX6_area_134 ?_
        refine fj_lstore (lv' := [(7, .long x1.toInt64), (4, .long (0 + ((((u0 13).toInt64) * y1.toInt64) - (x1.toInt64 * ((u0 14).toInt64))))), (6, .int 0), (11, .int 0), (9, .long ((u0 14).toInt64)), (3, .int (nI (k / 8))), (2, .int (nI (k % 8))), (0, .ref (bd 0)), (1, .int (nI k))]) C dX6_area_135 (by decide) rfl ?_
        refine fj_aload_n C 7 dX6_area_137 rfl rfl ?_
        refine fj_get (Cn := RX6) (T := TX6) (N := 44) (ci := 6) (v := .int (u1 14)) C iX6 0 (fm_at0 _ _ _ _ _) rfl 43 (by decide) kX6_307 rfl dX6_area_138 ?_
        refine fj_at (y := y1) ey1 ?_
        refine fj_i2l C dX6_area_141 ?_
        refine fj_lstore (lv' := [(9, .long y1.toInt64), (7, .long x1.toInt64), (4, .long (0 + ((((u0 13).toInt64) * y1.toInt64) - (x1.toInt64 * ((u0 14).toInt64))))), (6, .int 0), (11, .int 0), (3, .int (nI (k / 8))), (2, .int (nI (k % 8))), (0, .ref (bd 0)), (1, .int (nI k))]) C dX6_area_142 (by decide) rfl ?_
        refine fj_iinc (v := 1) (lv' := [(11, .int 1), (9, .long y1.toInt64), (7, .long x1.toInt64), (4, .long (0 + ((((u0 13).toInt64) * y1.toInt64) - (x1.toInt64 * ((u0 14).toInt64))))), (6, .int 0), (3, .int (nI (k / 8))), (2, .int (nI (k % 8))), (0, .ref (bd 0)), (1, .int (nI k))]) C 4 dX6_area_144 rfl (by decide) (by decide) rfl ?_
        refine fj_goto (tgt := 51) C dX6_area_147 (by decide) ?_
        refine fj_iload C 0 dX6_area_51 rfl ?_
        refine fj_iconst (v := 4) C dX6_area_53 (by decide) ?_
        refine fj_icmp_ge (tgt := 150) C dX6_area_54 (by decide) (fun h => absurd h (by decide)) (fun _ => ?_)
        refine fj_aload_n C 7 dX6_area_57 rfl rfl ?_
        refine fj_iload C 0 dX6_area_58 rfl ?_
        refine fj_iconst (v := 1) C dX6_area_60 (by decide) ?_
        refine fj_icmp_eq (tgt := 70) C dX6_area_61 (by decide) (fun _ => ?_) (fun h => absurd (by decide) h)
        refine fj_iload_n C 6 dX6_area_70 rfl rfl ?_
        refine fj_iconst (v := 1) C dX6_area_71 (by decide) ?_
        refine fj_iadd C dX6_area_72 ?_
        refine fj_at (y := nI (k % 8 + 1)) (nI_1 _) ?_
        refine fj_goto (tgt := 77) C dX6_area_73 (by decide) ?_
        refine fj_iload C 0 dX6_area_77 rfl ?_
        refine fj_iconst (v := 1) C dX6_area_79 (by decide) ?_
        refine fj_icmp_le (tgt := 89) C dX6_area_80 (by decide) (fun _ => ?_) (fun h => absurd (by decide) h)
        refine fj_iload_n C 5 dX6_area_89 rfl rfl ?_
        refine fj_callVw (As := [.int (nI (k % 8 + 1)), .int (nI (k / 8))]) (rest := []) C (d_X6_findPlace l D ty t0 bd a g u1 (nI (k % 8 + 1)) (nI (k / 8)) (k % 8 + 1) (k / 8) rfl rfl (by omega) (by omega)) (cwV 2 C.2.2.2.2.1 gX6_area_X6_findPlace rfl rfl rfl (by decide +kernel) ⟨Nat.le_of_ble_eq_true rfl, Nat.le_of_ble_eq_true rfl⟩) ⟨0, 6, _, _, fm_at0 _ _ _ _ _, rfl, rfl⟩ rfl (Nat.le_of_ble_eq_true rfl) dX6_area_90 ⟨Nat.zero_le _, Nat.zero_le _⟩ (fun v9 w9 hp9 => ?_)
        rcases hp9 with ⟨x2, y2, L2, u2, hu2, ex2, ey2, rfl, rfl⟩ | ⟨L2, u2, hu2, rfl, rfl⟩
        · refine fj_st (st' := .int 1 :: []) rfl ?_
          refine fj_if_eq (tgt := 105) C dX6_area_93 (by decide) (fun h => absurd h (by decide)) (fun _ => ?_)
          refine fj_iload C 4 dX6_area_96 rfl ?_
          refine fj_if_eq (tgt := 105) C dX6_area_98 (by decide) (fun _ => ?_) (fun h => absurd (by decide) h)
          refine fj_iconst (v := 0) C dX6_area_105 (by decide) ?_
          refine fj_istore (lv' := [(6, .int 0), (11, .int 1), (9, .long y1.toInt64), (7, .long x1.toInt64), (4, .long (0 + ((((u0 13).toInt64) * y1.toInt64) - (x1.toInt64 * ((u0 14).toInt64))))), (3, .int (nI (k / 8))), (2, .int (nI (k % 8))), (0, .ref (bd 0)), (1, .int (nI k))]) C dX6_area_106 (by decide) rfl ?_
          refine fj_lload C 4 dX6_area_108 rfl ?_
          refine fj_lload C 3 dX6_area_110 rfl ?_
          refine fj_aload_n C 7 dX6_area_112 rfl rfl ?_
          refine fj_get (Cn := RX6) (T := TX6) (N := 44) (ci := 6) (v := .int (u2 14)) C iX6 0 (fm_at0 _ _ _ _ _) rfl 43 (by decide) kX6_307 rfl dX6_area_113 ?_
          refine fj_at (y := y2) ey2 ?_
          refine fj_i2l C dX6_area_116 ?_
          refine fj_lmul C dX6_area_117 ?_
          refine fj_aload_n C 7 dX6_area_118 rfl rfl ?_
          refine fj_get (Cn := RX6) (T := TX6) (N := 44) (ci := 6) (v := .int (u2 13)) C iX6 0 (fm_at0 _ _ _ _ _) rfl 42 (by decide) kX6_304 rfl dX6_area_119 ?_
          refine fj_at (y := x2) ex2 ?_
          refine fj_i2l C dX6_area_122 ?_
          refine fj_lload C 2 dX6_area_123 rfl ?_
          refine fj_lmul C dX6_area_125 ?_
          refine fj_lsub C dX6_area_126 ?_
          refine fj_ladd C dX6_area_127 ?_
          refine fj_lstore (lv' := [(4, .long ((0 + ((((u0 13).toInt64) * y1.toInt64) - (x1.toInt64 * ((u0 14).toInt64)))) + ((x1.toInt64 * y2.toInt64) - (x2.toInt64 * y1.toInt64)))), (6, .int 0), (11, .int 1), (9, .long y1.toInt64), (7, .long x1.toInt64), (3, .int (nI (k / 8))), (2, .int (nI (k % 8))), (0, .ref (bd 0)), (1, .int (nI k))]) C dX6_area_128 (by decide) rfl ?_
          refine fj_aload_n C 7 dX6_area_130 rfl rfl ?_
          refine fj_get (Cn := RX6) (T := TX6) (N := 44) (ci := 6) (v := .int (u2 13)) C iX6 0 (fm_at0 _ _ _ _ _) rfl 42 (by decide) kX6_304 rfl dX6_area_131 ?_
          refine fj_at (y := x2) ex2 ?_
          refine fj_i2l C dX6_area_134 ?_
          refine fj_lstore (lv' := [(7, .long x2.toInt64), (4, .long ((0 + ((((u0 13).toInt64) * y1.toInt64) - (x1.toInt64 * ((u0 14).toInt64)))) + ((x1.toInt64 * y2.toInt64) - (x2.toInt64 * y1.toInt64)))), (6, .int 0), (11, .int 1), (9, .long y1.toInt64), (3, .int (nI (k / 8))), (2, .int (nI (k % 8))), (0, .ref (bd 0)), (1, .int (nI k))]) C dX6_area_135 (by decide) rfl ?_
          refine fj_aload_n C 7 dX6_area_137 rfl rfl ?_
          refine fj_get (Cn := RX6) (T := TX6) (N := 44) (ci := 6) (v := .int (u2 14)) C iX6 0 (fm_at0 _ _ _ _ _) rfl 43 (by decide) kX6_307 rfl dX6_area_138 ?_
          refine fj_at (y := y2) ey2 ?_
          refine fj_i2l C dX6_area_141 ?_
          refine fj_lstore (lv' := [(9, .long y2.toInt64), (7, .long x2.toInt64), (4, .long ((0 + ((((u0 13).toInt64) * y1.toInt64) - (x1.toInt64 * ((u0 14).toInt64)))) + ((x1.toInt64 * y2.toInt64) - (x2.toInt64 * y1.toInt64)))), (6, .int 0), (11, .int 1), (3, .int (nI (k / 8))), (2, .int (nI (k % 8))), (0, .ref (bd 0)), (1, .int (nI k))]) C dX6_area_142 (by decide) rfl ?_
          refine fj_iinc (v := 2) (lv' := [(11, .int 2), (9, .long y2.toInt64), (7, .long x2.toInt64), (4, .long ((0 + ((((u0 13).toInt64) * y1.toInt64) - (x1.toInt64 * ((u0 14).toInt64)))) + ((x1.toInt64 * y2.toInt64) - (x2.toInt64 * y1.toInt64)))), (6, .int 0), (3, .int (nI (k / 8))), (2, .int (nI (k % 8))), (0, .ref (bd 0)), (1, .int (nI k))]) C 4 dX6_area_144 rfl (by decide) (by decide) rfl ?_
          refine fj_goto (tgt := 51) C dX6_area_147 (by decide) ?_
          refine fj_iload C 0 dX6_area_51 rfl ?_
          refine fj_iconst (v := 4) C dX6_area_53 (by decide) ?_
          refine fj_icmp_ge (tgt := 150) C dX6_area_54 (by decide) (fun h => absurd h (by decide)) (fun _ => ?_)
          refine fj_aload_n C 7 dX6_area_57 rfl rfl ?_
          refine fj_iload C 0 dX6_area_58 rfl ?_
          refine fj_iconst (v := 1) C dX6_area_60 (by decide) ?_
          refine fj_icmp_eq (tgt := 70) C dX6_area_61 (by decide) (fun h => absurd h (by decide)) (fun _ => ?_)
          refine fj_iload C 0 dX6_area_64 rfl ?_
          refine fj_iconst (v := 2) C dX6_area_66 (by decide) ?_
          refine fj_icmp_ne (tgt := 76) C dX6_area_67 (by decide) (fun h => absurd (by decide) h) (fun _ => ?_)
          refine fj_iload_n C 6 dX6_area_70 rfl rfl ?_
          refine fj_iconst (v := 1) C dX6_area_71 (by decide) ?_
          refine fj_iadd C dX6_area_72 ?_
          refine fj_at (y := nI (k % 8 + 1)) (nI_1 _) ?_
          refine fj_goto (tgt := 77) C dX6_area_73 (by decide) ?_
          refine fj_iload C 0 dX6_area_77 rfl ?_
          refine fj_iconst (v := 1) C dX6_area_79 (by decide) ?_
          refine fj_icmp_le (tgt := 89) C dX6_area_80 (by decide) (fun h => absurd h (by decide)) (fun _ => ?_)
          refine fj_iload_n C 5 dX6_area_83 rfl rfl ?_
          refine fj_iconst (v := 1) C dX6_area_84 (by decide) ?_
          refine fj_iadd C dX6_area_85 ?_
          refine fj_at (y := nI (k / 8 + 1)) (nI_1 _) ?_
          refine fj_goto (tgt := 90) C dX6_area_86 (by decide) ?_
          refine fj_callVw (As := [.int (nI (k % 8 + 1)), .int (nI (k / 8 + 1))]) (rest := []) C (d_X6_findPlace l D ty t0 bd a g u2 (nI (k % 8 + 1)) (nI (k / 8 + 1)) (k % 8 + 1) (k / 8 + 1) rfl rfl (by omega) (by omega)) (cwV 2 C.2.2.2.2.1 gX6_area_X6_findPlace rfl rfl rfl (by decide +kernel) ⟨Nat.le_of_ble_eq_true rfl, Nat.le_of_ble_eq_true rfl⟩) ⟨0, 6, _, _, fm_at0 _ _ _ _ _, rfl, rfl⟩ rfl (Nat.le_of_ble_eq_true rfl) dX6_area_90 ⟨Nat.zero_le _, Nat.zero_le _⟩ (fun v9 w9 hp9 => ?_)
          rcases hp9 with ⟨x3, y3, L3, u3, hu3, ex3, ey3, rfl, rfl⟩ | ⟨L3, u3, hu3, rfl, rfl⟩
          · refine fj_st (st' := .int 1 :: []) rfl ?_
            refine fj_if_eq (tgt := 105) C dX6_area_93 (by decide) (fun h => absurd h (by decide)) (fun _ => ?_)
            refine fj_iload C 4 dX6_area_96 rfl ?_
            refine fj_if_eq (tgt := 105) C dX6_area_98 (by decide) (fun _ => ?_) (fun h => absurd (by decide) h)
            refine fj_iconst (v := 0) C dX6_area_105 (by decide) ?_
            refine fj_istore (lv' := [(6, .int 0), (11, .int 2), (9, .long y2.toInt64), (7, .long x2.toInt64), (4, .long ((0 + ((((u0 13).toInt64) * y1.toInt64) - (x1.toInt64 * ((u0 14).toInt64)))) + ((x1.toInt64 * y2.toInt64) - (x2.toInt64 * y1.toInt64)))), (3, .int (nI (k / 8))), (2, .int (nI (k % 8))), (0, .ref (bd 0)), (1, .int (nI k))]) C dX6_area_106 (by decide) rfl ?_
            refine fj_lload C 4 dX6_area_108 rfl ?_
            refine fj_lload C 3 dX6_area_110 rfl ?_
            refine fj_aload_n C 7 dX6_area_112 rfl rfl ?_
            refine fj_get (Cn := RX6) (T := TX6) (N := 44) (ci := 6) (v := .int (u3 14)) C iX6 0 (fm_at0 _ _ _ _ _) rfl 43 (by decide) kX6_307 rfl dX6_area_113 ?_
            refine fj_at (y := y3) ey3 ?_
            refine fj_i2l C dX6_area_116 ?_
            refine fj_lmul C dX6_area_117 ?_
            refine fj_aload_n C 7 dX6_area_118 rfl rfl ?_
            refine fj_get (Cn := RX6) (T := TX6) (N := 44) (ci := 6) (v := .int (u3 13)) C iX6 0 (fm_at0 _ _ _ _ _) rfl 42 (by decide) kX6_304 rfl dX6_area_119 ?_
            refine fj_at (y := x3) ex3 ?_
            refine fj_i2l C dX6_area_122 ?_
            refine fj_lload C 2 dX6_area_123 rfl ?_
            refine fj_lmul C dX6_area_125 ?_
            refine fj_lsub C dX6_area_126 ?_
            refine fj_ladd C dX6_area_127 ?_
            refine fj_lstore (lv' := [(4, .long (((0 + ((((u0 13).toInt64) * y1.toInt64) - (x1.toInt64 * ((u0 14).toInt64)))) + ((x1.toInt64 * y2.toInt64) - (x2.toInt64 * y1.toInt64))) + ((x2.toInt64 * y3.toInt64) - (x3.toInt64 * y2.toInt64)))), (6, .int 0), (11, .int 2), (9, .long y2.toInt64), (7, .long x2.toInt64), (3, .int (nI (k / 8))), (2, .int (nI (k % 8))), (0, .ref (bd 0)), (1, .int (nI k))]) C dX6_area_128 (by decide) rfl ?_
            refine fj_aload_n C 7 dX6_area_130 rfl rfl ?_
            refine fj_get (Cn := RX6) (T := TX6) (N := 44) (ci := 6) (v := .int (u3 13)) C iX6 0 (fm_at0 _ _ _ _ _) rfl 42 (by decide) kX6_304 rfl dX6_area_131 ?_
            refine fj_at (y := x3) ex3 ?_
            refine fj_i2l C dX6_area_134 ?_
            refine fj_lstore (lv' := [(7, .long x3.toInt64), (4, .long (((0 + ((((u0 13).toInt64) * y1.toInt64) - (x1.toInt64 * ((u0 14).toInt64)))) + ((x1.toInt64 * y2.toInt64) - (x2.toInt64 * y1.toInt64))) + ((x2.toInt64 * y3.toInt64) - (x3.toInt64 * y2.toInt64)))), (6, .int 0), (11, .int 2), (9, .long y2.toInt64), (3, .int (nI (k / 8))), (2, .int (nI (k % 8))), (0, .ref (bd 0)), (1, .int (nI k))]) C dX6_area_135 (by decide) rfl ?_
            refine fj_aload_n C 7 dX6_area_137 rfl rfl ?_
            refine fj_get (Cn := RX6) (T := TX6) (N := 44) (ci := 6) (v := .int (u3 14)) C iX6 0 (fm_at0 _ _ _ _ _) rfl 43 (by decide) kX6_307 rfl dX6_area_138 ?_
            refine fj_at (y := y3) ey3 ?_
            refine fj_i2l C dX6_area_141 ?_
            refine fj_lstore (lv' := [(9, .long y3.toInt64), (7, .long x3.toInt64), (4, .long (((0 + ((((u0 13).toInt64) * y1.toInt64) - (x1.toInt64 * ((u0 14).toInt64)))) + ((x1.toInt64 * y2.toInt64) - (x2.toInt64 * y1.toInt64))) + ((x2.toInt64 * y3.toInt64) - (x3.toInt64 * y2.toInt64)))), (6, .int 0), (11, .int 2), (3, .int (nI (k / 8))), (2, .int (nI (k % 8))), (0, .ref (bd 0)), (1, .int (nI k))]) C dX6_area_142 (by decide) rfl ?_
            refine fj_iinc (v := 3) (lv' := [(11, .int 3), (9, .long y3.toInt64), (7, .long x3.toInt64), (4, .long (((0 + ((((u0 13).toInt64) * y1.toInt64) - (x1.toInt64 * ((u0 14).toInt64)))) + ((x1.toInt64 * y2.toInt64) - (x2.toInt64 * y1.toInt64))) + ((x2.toInt64 * y3.toInt64) - (x3.toInt64 * y2.toInt64)))), (6, .int 0), (3, .int (nI (k / 8))), (2, .int (nI (k % 8))), (0, .ref (bd 0)), (1, .int (nI k))]) C 4 dX6_area_144 rfl (by decide) (by decide) rfl ?_
            refine fj_goto (tgt := 51) C dX6_area_147 (by decide) ?_
            refine fj_iload C 0 dX6_area_51 rfl ?_
            refine fj_iconst (v := 4) C dX6_area_53 (by decide) ?_
            refine fj_icmp_ge (tgt := 150) C dX6_area_54 (by decide) (fun h => absurd h (by decide)) (fun _ => ?_)
            refine fj_aload_n C 7 dX6_area_57 rfl rfl ?_
            refine fj_iload C 0 dX6_area_58 rfl ?_
            refine fj_iconst (v := 1) C dX6_area_60 (by decide) ?_
            refine fj_icmp_eq (tgt := 70) C dX6_area_61 (by decide) (fun h => absurd h (by decide)) (fun _ => ?_)
            refine fj_iload C 0 dX6_area_64 rfl ?_
            refine fj_iconst (v := 2) C dX6_area_66 (by decide) ?_
            refine fj_icmp_ne (tgt := 76) C dX6_area_67 (by decide) (fun _ => ?_) (fun h => absurd h (by decide))
            refine fj_iload_n C 6 dX6_area_76 rfl rfl ?_
            refine fj_iload C 0 dX6_area_77 rfl ?_
            refine fj_iconst (v := 1) C dX6_area_79 (by decide) ?_
            refine fj_icmp_le (tgt := 89) C dX6_area_80 (by decide) (fun h => absurd h (by decide)) (fun _ => ?_)
            refine fj_iload_n C 5 dX6_area_83 rfl rfl ?_
            refine fj_iconst (v := 1) C dX6_area_84 (by decide) ?_
            refine fj_iadd C dX6_area_85 ?_
            refine fj_at (y := nI (k / 8 + 1)) (nI_1 _) ?_
            refine fj_goto (tgt := 90) C dX6_area_86 (by decide) ?_
            refine fj_callVw (As := [.int (nI (k % 8)), .int (nI (k / 8 + 1))]) (rest := []) C (d_X6_findPlace l D ty t0 bd a g u3 (nI (k % 8)) (nI (k / 8 + 1)) (k % 8) (k / 8 + 1) rfl rfl (by omega) (by omega)) (cwV 2 C.2.2.2.2.1 gX6_area_X6_findPlace rfl rfl rfl (by decide +kernel) ⟨Nat.le_of_ble_eq_true rfl, Nat.le_of_ble_eq_true rfl⟩) ⟨0, 6, _, _, fm_at0 _ _ _ _ _, rfl, rfl⟩ rfl (Nat.le_of_ble_eq_true rfl) dX6_area_90 ⟨Nat.zero_le _, Nat.zero_le _⟩ (fun v9 w9 hp9 => ?_)
            rcases hp9 with ⟨x4, y4, L4, u4, hu4, ex4, ey4, rfl, rfl⟩ | ⟨L4, u4, hu4, rfl, rfl⟩
            · refine fj_st (st' := .int 1 :: []) rfl ?_
              refine fj_if_eq (tgt := 105) C dX6_area_93 (by decide) (fun h => absurd h (by decide)) (fun _ => ?_)
              refine fj_iload C 4 dX6_area_96 rfl ?_
              refine fj_if_eq (tgt := 105) C dX6_area_98 (by decide) (fun _ => ?_) (fun h => absurd (by decide) h)
              refine fj_iconst (v := 0) C dX6_area_105 (by decide) ?_
              refine fj_istore (lv' := [(6, .int 0), (11, .int 3), (9, .long y3.toInt64), (7, .long x3.toInt64), (4, .long (((0 + ((((u0 13).toInt64) * y1.toInt64) - (x1.toInt64 * ((u0 14).toInt64)))) + ((x1.toInt64 * y2.toInt64) - (x2.toInt64 * y1.toInt64))) + ((x2.toInt64 * y3.toInt64) - (x3.toInt64 * y2.toInt64)))), (3, .int (nI (k / 8))), (2, .int (nI (k % 8))), (0, .ref (bd 0)), (1, .int (nI k))]) C dX6_area_106 (by decide) rfl ?_
              refine fj_lload C 4 dX6_area_108 rfl ?_
              refine fj_lload C 3 dX6_area_110 rfl ?_
              refine fj_aload_n C 7 dX6_area_112 rfl rfl ?_
              refine fj_get (Cn := RX6) (T := TX6) (N := 44) (ci := 6) (v := .int (u4 14)) C iX6 0 (fm_at0 _ _ _ _ _) rfl 43 (by decide) kX6_307 rfl dX6_area_113 ?_
              refine fj_at (y := y4) ey4 ?_
              refine fj_i2l C dX6_area_116 ?_
              refine fj_lmul C dX6_area_117 ?_
              refine fj_aload_n C 7 dX6_area_118 rfl rfl ?_
              refine fj_get (Cn := RX6) (T := TX6) (N := 44) (ci := 6) (v := .int (u4 13)) C iX6 0 (fm_at0 _ _ _ _ _) rfl 42 (by decide) kX6_304 rfl dX6_area_119 ?_
              refine fj_at (y := x4) ex4 ?_
              refine fj_i2l C dX6_area_122 ?_
              refine fj_lload C 2 dX6_area_123 rfl ?_
              refine fj_lmul C dX6_area_125 ?_
              refine fj_lsub C dX6_area_126 ?_
              refine fj_ladd C dX6_area_127 ?_
              refine fj_lstore (lv' := [(4, .long ((((0 + ((((u0 13).toInt64) * y1.toInt64) - (x1.toInt64 * ((u0 14).toInt64)))) + ((x1.toInt64 * y2.toInt64) - (x2.toInt64 * y1.toInt64))) + ((x2.toInt64 * y3.toInt64) - (x3.toInt64 * y2.toInt64))) + ((x3.toInt64 * y4.toInt64) - (x4.toInt64 * y3.toInt64)))), (6, .int 0), (11, .int 3), (9, .long y3.toInt64), (7, .long x3.toInt64), (3, .int (nI (k / 8))), (2, .int (nI (k % 8))), (0, .ref (bd 0)), (1, .int (nI k))]) C dX6_area_128 (by decide) rfl ?_
              refine fj_aload_n C 7 dX6_area_130 rfl rfl ?_
              refine fj_get (Cn := RX6) (T := TX6) (N := 44) (ci := 6) (v := .int (u4 13)) C iX6 0 (fm_at0 _ _ _ _ _) rfl 42 (by decide) kX6_304 rfl dX6_area_131 ?_
              refine fj_at (y := x4) ex4 ?_
              refine fj_i2l C dX6_area_134 ?_
              refine fj_lstore (lv' := [(7, .long x4.toInt64), (4, .long ((((0 + ((((u0 13).toInt64) * y1.toInt64) - (x1.toInt64 * ((u0 14).toInt64)))) + ((x1.toInt64 * y2.toInt64) - (x2.toInt64 * y1.toInt64))) + ((x2.toInt64 * y3.toInt64) - (x3.toInt64 * y2.toInt64))) + ((x3.toInt64 * y4.toInt64) - (x4.toInt64 * y3.toInt64)))), (6, .int 0), (11, .int 3), (9, .long y3.toInt64), (3, .int (nI (k / 8))), (2, .int (nI (k % 8))), (0, .ref (bd 0)), (1, .int (nI k))]) C dX6_area_135 (by decide) rfl ?_
              refine fj_aload_n C 7 dX6_area_137 rfl rfl ?_
              refine fj_get (Cn := RX6) (T := TX6) (N := 44) (ci := 6) (v := .int (u4 14)) C iX6 0 (fm_at0 _ _ _ _ _) rfl 43 (by decide) kX6_307 rfl dX6_area_138 ?_
              refine fj_at (y := y4) ey4 ?_
              refine fj_i2l C dX6_area_141 ?_
              refine fj_lstore (lv' := [(9, .long y4.toInt64), (7, .long x4.toInt64), (4, .long ((((0 + ((((u0 13).toInt64) * y1.toInt64) - (x1.toInt64 * ((u0 14).toInt64)))) + ((x1.toInt64 * y2.toInt64) - (x2.toInt64 * y1.toInt64))) + ((x2.toInt64 * y3.toInt64) - (x3.toInt64 * y2.toInt64))) + ((x3.toInt64 * y4.toInt64) - (x4.toInt64 * y3.toInt64)))), (6, .int 0), (11, .int 3), (3, .int (nI (k / 8))), (2, .int (nI (k % 8))), (0, .ref (bd 0)), (1, .int (nI k))]) C dX6_area_142 (by decide) rfl ?_
              refine fj_iinc (v := 4) (lv' := [(11, .int 4), (9, .long y4.toInt64), (7, .long x4.toInt64), (4, .long ((((0 + ((((u0 13).toInt64) * y1.toInt64) - (x1.toInt64 * ((u0 14).toInt64)))) + ((x1.toInt64 * y2.toInt64) - (x2.toInt64 * y1.toInt64))) + ((x2.toInt64 * y3.toInt64) - (x3.toInt64 * y2.toInt64))) + ((x3.toInt64 * y4.toInt64) - (x4.toInt64 * y3.toInt64)))), (6, .int 0), (3, .int (nI (k / 8))), (2, .int (nI (k % 8))), (0, .ref (bd 0)), (1, .int (nI k))]) C 4 dX6_area_144 rfl (by decide) (by decide) rfl ?_
              refine fj_goto (tgt := 51) C dX6_area_147 (by decide) ?_
              refine fj_iload C 0 dX6_area_51 rfl ?_
              refine fj_iconst (v := 4) C dX6_area_53 (by decide) ?_
              refine fj_icmp_ge (tgt := 150) C dX6_area_54 (by decide) (fun _ => ?_) (fun h => absurd (by decide) h)
              refine fj_iload C 4 dX6_area_150 rfl ?_
              refine fj_if_eq (tgt := 160) C dX6_area_152 (by decide) (fun _ => ?_) (fun h => absurd (by decide) h)
              refine fj_ldc2 (v := (-1003)) C dX6_area_160 kL321 ?_
              exact fj_lret C E9 dX6_area_163 (Or.inr ⟨k, hk, rfl, u4, (fun j hj => (hu4 j hj).trans ((hu3 j hj).trans ((hu2 j hj).trans ((hu1 j hj).trans (hu0 j hj))))), rfl, Or.inr ⟨(Or.inr (Or.inr (Or.inr (L0)))), rfl⟩⟩)
            · refine fj_st (st' := .int 0 :: []) rfl ?_
              refine fj_if_eq (tgt := 105) C dX6_area_93 (by decide) (fun _ => ?_) (fun h => absurd (by decide) h)
              refine fj_iconst (v := 0) C dX6_area_105 (by decide) ?_
              refine fj_istore (lv' := [(6, .int 0), (11, .int 3), (9, .long y3.toInt64), (7, .long x3.toInt64), (4, .long (((0 + ((((u0 13).toInt64) * y1.toInt64) - (x1.toInt64 * ((u0 14).toInt64)))) + ((x1.toInt64 * y2.toInt64) - (x2.toInt64 * y1.toInt64))) + ((x2.toInt64 * y3.toInt64) - (x3.toInt64 * y2.toInt64)))), (3, .int (nI (k / 8))), (2, .int (nI (k % 8))), (0, .ref (bd 0)), (1, .int (nI k))]) C dX6_area_106 (by decide) rfl ?_
              refine fj_lload C 4 dX6_area_108 rfl ?_
              refine fj_lload C 3 dX6_area_110 rfl ?_
              refine fj_aload_n C 7 dX6_area_112 rfl rfl ?_
              refine fj_get (Cn := RX6) (T := TX6) (N := 44) (ci := 6) (v := .int (u4 14)) C iX6 0 (fm_at0 _ _ _ _ _) rfl 43 (by decide) kX6_307 rfl dX6_area_113 ?_
              refine fj_i2l C dX6_area_116 ?_
              refine fj_lmul C dX6_area_117 ?_
              refine fj_aload_n C 7 dX6_area_118 rfl rfl ?_
              refine fj_get (Cn := RX6) (T := TX6) (N := 44) (ci := 6) (v := .int (u4 13)) C iX6 0 (fm_at0 _ _ _ _ _) rfl 42 (by decide) kX6_304 rfl dX6_area_119 ?_
              refine fj_i2l C dX6_area_122 ?_
              refine fj_lload C 2 dX6_area_123 rfl ?_
              refine fj_lmul C dX6_area_125 ?_
              refine fj_lsub C dX6_area_126 ?_
              refine fj_ladd C dX6_area_127 ?_
              refine fj_lstore (lv' := [(4, .long ((((0 + ((((u0 13).toInt64) * y1.toInt64) - (x1.toInt64 * ((u0 14).toInt64)))) + ((x1.toInt64 * y2.toInt64) - (x2.toInt64 * y1.toInt64))) + ((x2.toInt64 * y3.toInt64) - (x3.toInt64 * y2.toInt64))) + ((x3.toInt64 * ((u4 14).toInt64)) - (((u4 13).toInt64) * y3.toInt64)))), (6, .int 0), (11, .int 3), (9, .long y3.toInt64), (7, .long x3.toInt64), (3, .int (nI (k / 8))), (2, .int (nI (k % 8))), (0, .ref (bd 0)), (1, .int (nI k))]) C dX6_area_128 (by decide) rfl ?_
              refine fj_aload_n C 7 dX6_area_130 rfl rfl ?_
              refine fj_get (Cn := RX6) (T := TX6) (N := 44) (ci := 6) (v := .int (u4 13)) C iX6 0 (fm_at0 _ _ _ _ _) rfl 42 (by decide) kX6_304 rfl dX6_area_131 ?_
              refine fj_i2l C dX6_area_134 ?_
              refine fj_lstore (lv' := [(7, .long ((u4 13).toInt64)), (4, .long ((((0 + ((((u0 13).toInt64) * y1.toInt64) - (x1.toInt64 * ((u0 14).toInt64)))) + ((x1.toInt64 * y2.toInt64) - (x2.toInt64 * y1.toInt64))) + ((x2.toInt64 * y3.toInt64) - (x3.toInt64 * y2.toInt64))) + ((x3.toInt64 * ((u4 14).toInt64)) - (((u4 13).toInt64) * y3.toInt64)))), (6, .int 0), (11, .int 3), (9, .long y3.toInt64), (3, .int (nI (k / 8))), (2, .int (nI (k % 8))), (0, .ref (bd 0)), (1, .int (nI k))]) C dX6_area_135 (by decide) rfl ?_
              refine fj_aload_n C 7 dX6_area_137 rfl rfl ?_
              refine fj_get (Cn := RX6) (T := TX6) (N := 44) (ci := 6) (v := .int (u4 14)) C iX6 0 (fm_at0 _ _ _ _ _) rfl 43 (by decide) kX6_307 rfl dX6_area_138 ?_
              refine fj_i2l C dX6_area_141 ?_
              refine fj_lstore (lv' := [(9, .long ((u4 14).toInt64)), (7, .long ((u4 13).toInt64)), (4, .long ((((0 + ((((u0 13).toInt64) * y1.toInt64) - (x1.toInt64 * ((u0 14).toInt64)))) + ((x1.toInt64 * y2.toInt64) - (x2.toInt64 * y1.toInt64))) + ((x2.toInt64 * y3.toInt64) - (x3.toInt64 * y2.toInt64))) + ((x3.toInt64 * ((u4 14).toInt64)) - (((u4 13).toInt64) * y3.toInt64)))), (6, .int 0), (11, .int 3), (3, .int (nI (k / 8))), (2, .int (nI (k % 8))), (0, .ref (bd 0)), (1, .int (nI k))]) C dX6_area_142 (by decide) rfl ?_
              refine fj_iinc (v := 4) (lv' := [(11, .int 4), (9, .long ((u4 14).toInt64)), (7, .long ((u4 13).toInt64)), (4, .long ((((0 + ((((u0 13).toInt64) * y1.toInt64) - (x1.toInt64 * ((u0 14).toInt64)))) + ((x1.toInt64 * y2.toInt64) - (x2.toInt64 * y1.toInt64))) + ((x2.toInt64 * y3.toInt64) - (x3.toInt64 * y2.toInt64))) + ((x3.toInt64 * ((u4 14).toInt64)) - (((u4 13).toInt64) * y3.toInt64)))), (6, .int 0), (3, .int (nI (k / 8))), (2, .int (nI (k % 8))), (0, .ref (bd 0)), (1, .int (nI k))]) C 4 dX6_area_144 rfl (by decide) (by decide) rfl ?_
              refine fj_goto (tgt := 51) C dX6_area_147 (by decide) ?_
              refine fj_iload C 0 dX6_area_51 rfl ?_
              refine fj_iconst (v := 4) C dX6_area_53 (by decide) ?_
              refine fj_icmp_ge (tgt := 150) C dX6_area_54 (by decide) (fun _ => ?_) (fun h => absurd (by decide) h)
              refine fj_iload C 4 dX6_area_150 rfl ?_
              refine fj_if_eq (tgt := 160) C dX6_area_152 (by decide) (fun _ => ?_) (fun h => absurd (by decide) h)
              refine fj_ldc2 (v := (-1003)) C dX6_area_160 kL321 ?_
              exact fj_lret C E9 dX6_area_163 (Or.inr ⟨k, hk, rfl, u4, (fun j hj => (hu4 j hj).trans ((hu3 j hj).trans ((hu2 j hj).trans ((hu1 j hj).trans (hu0 j hj))))), rfl, Or.inr ⟨(Or.inr (Or.inr (Or.inr (L0)))), rfl⟩⟩)
          · refine fj_st (st' := .int 0 :: []) rfl ?_
            refine fj_if_eq (tgt := 105) C dX6_area_93 (by decide) (fun _ => ?_) (fun h => absurd (by decide) h)
            refine fj_iconst (v := 0) C dX6_area_105 (by decide) ?_
            refine fj_istore (lv' := [(6, .int 0), (11, .int 2), (9, .long y2.toInt64), (7, .long x2.toInt64), (4, .long ((0 + ((((u0 13).toInt64) * y1.toInt64) - (x1.toInt64 * ((u0 14).toInt64)))) + ((x1.toInt64 * y2.toInt64) - (x2.toInt64 * y1.toInt64)))), (3, .int (nI (k / 8))), (2, .int (nI (k % 8))), (0, .ref (bd 0)), (1, .int (nI k))]) C dX6_area_106 (by decide) rfl ?_
            refine fj_lload C 4 dX6_area_108 rfl ?_
            refine fj_lload C 3 dX6_area_110 rfl ?_
            refine fj_aload_n C 7 dX6_area_112 rfl rfl ?_
            refine fj_get (Cn := RX6) (T := TX6) (N := 44) (ci := 6) (v := .int (u3 14)) C iX6 0 (fm_at0 _ _ _ _ _) rfl 43 (by decide) kX6_307 rfl dX6_area_113 ?_
            refine fj_i2l C dX6_area_116 ?_
            refine fj_lmul C dX6_area_117 ?_
            refine fj_aload_n C 7 dX6_area_118 rfl rfl ?_
            refine fj_get (Cn := RX6) (T := TX6) (N := 44) (ci := 6) (v := .int (u3 13)) C iX6 0 (fm_at0 _ _ _ _ _) rfl 42 (by decide) kX6_304 rfl dX6_area_119 ?_
            refine fj_i2l C dX6_area_122 ?_
            refine fj_lload C 2 dX6_area_123 rfl ?_
            refine fj_lmul C dX6_area_125 ?_
            refine fj_lsub C dX6_area_126 ?_
            refine fj_ladd C dX6_area_127 ?_
            refine fj_lstore (lv' := [(4, .long (((0 + ((((u0 13).toInt64) * y1.toInt64) - (x1.toInt64 * ((u0 14).toInt64)))) + ((x1.toInt64 * y2.toInt64) - (x2.toInt64 * y1.toInt64))) + ((x2.toInt64 * ((u3 14).toInt64)) - (((u3 13).toInt64) * y2.toInt64)))), (6, .int 0), (11, .int 2), (9, .long y2.toInt64), (7, .long x2.toInt64), (3, .int (nI (k / 8))), (2, .int (nI (k % 8))), (0, .ref (bd 0)), (1, .int (nI k))]) C dX6_area_128 (by decide) rfl ?_
            refine fj_aload_n C 7 dX6_area_130 rfl rfl ?_
            refine fj_get (Cn := RX6) (T := TX6) (N := 44) (ci := 6) (v := .int (u3 13)) C iX6 0 (fm_at0 _ _ _ _ _) rfl 42 (by decide) kX6_304 rfl dX6_area_131 ?_
            refine fj_i2l C dX6_area_134 ?_
            refine fj_lstore (lv' := [(7, .long ((u3 13).toInt64)), (4, .long (((0 + ((((u0 13).toInt64) * y1.toInt64) - (x1.toInt64 * ((u0 14).toInt64)))) + ((x1.toInt64 * y2.toInt64) - (x2.toInt64 * y1.toInt64))) + ((x2.toInt64 * ((u3 14).toInt64)) - (((u3 13).toInt64) * y2.toInt64)))), (6, .int 0), (11, .int 2), (9, .long y2.toInt64), (3, .int (nI (k / 8))), (2, .int (nI (k % 8))), (0, .ref (bd 0)), (1, .int (nI k))]) C dX6_area_135 (by decide) rfl ?_
            refine fj_aload_n C 7 dX6_area_137 rfl rfl ?_
            refine fj_get (Cn := RX6) (T := TX6) (N := 44) (ci := 6) (v := .int (u3 14)) C iX6 0 (fm_at0 _ _ _ _ _) rfl 43 (by decide) kX6_307 rfl dX6_area_138 ?_
            refine fj_i2l C dX6_area_141 ?_
            refine fj_lstore (lv' := [(9, .long ((u3 14).toInt64)), (7, .long ((u3 13).toInt64)), (4, .long (((0 + ((((u0 13).toInt64) * y1.toInt64) - (x1.toInt64 * ((u0 14).toInt64)))) + ((x1.toInt64 * y2.toInt64) - (x2.toInt64 * y1.toInt64))) + ((x2.toInt64 * ((u3 14).toInt64)) - (((u3 13).toInt64) * y2.toInt64)))), (6, .int 0), (11, .int 2), (3, .int (nI (k / 8))), (2, .int (nI (k % 8))), (0, .ref (bd 0)), (1, .int (nI k))]) C dX6_area_142 (by decide) rfl ?_
            refine fj_iinc (v := 3) (lv' := [(11, .int 3), (9, .long ((u3 14).toInt64)), (7, .long ((u3 13).toInt64)), (4, .long (((0 + ((((u0 13).toInt64) * y1.toInt64) - (x1.toInt64 * ((u0 14).toInt64)))) + ((x1.toInt64 * y2.toInt64) - (x2.toInt64 * y1.toInt64))) + ((x2.toInt64 * ((u3 14).toInt64)) - (((u3 13).toInt64) * y2.toInt64)))), (6, .int 0), (3, .int (nI (k / 8))), (2, .int (nI (k % 8))), (0, .ref (bd 0)), (1, .int (nI k))]) C 4 dX6_area_144 rfl (by decide) (by decide) rfl ?_
            refine fj_goto (tgt := 51) C dX6_area_147 (by decide) ?_
            refine fj_iload C 0 dX6_area_51 rfl ?_
            refine fj_iconst (v := 4) C dX6_area_53 (by decide) ?_
            refine fj_icmp_ge (tgt := 150) C dX6_area_54 (by decide) (fun h => absurd h (by decide)) (fun _ => ?_)
            refine fj_aload_n C 7 dX6_area_57 rfl rfl ?_
            refine fj_iload C 0 dX6_area_58 rfl ?_
            refine fj_iconst (v := 1) C dX6_area_60 (by decide) ?_
            refine fj_icmp_eq (tgt := 70) C dX6_area_61 (by decide) (fun h => absurd h (by decide)) (fun _ => ?_)
            refine fj_iload C 0 dX6_area_64 rfl ?_
            refine fj_iconst (v := 2) C dX6_area_66 (by decide) ?_
            refine fj_icmp_ne (tgt := 76) C dX6_area_67 (by decide) (fun _ => ?_) (fun h => absurd h (by decide))
            refine fj_iload_n C 6 dX6_area_76 rfl rfl ?_
            refine fj_iload C 0 dX6_area_77 rfl ?_
            refine fj_iconst (v := 1) C dX6_area_79 (by decide) ?_
            refine fj_icmp_le (tgt := 89) C dX6_area_80 (by decide) (fun h => absurd h (by decide)) (fun _ => ?_)
            refine fj_iload_n C 5 dX6_area_83 rfl rfl ?_
            refine fj_iconst (v := 1) C dX6_area_84 (by decide) ?_
            refine fj_iadd C dX6_area_85 ?_
            refine fj_at (y := nI (k / 8 + 1)) (nI_1 _) ?_
            refine fj_goto (tgt := 90) C dX6_area_86 (by decide) ?_
            refine fj_callVw (As := [.int (nI (k % 8)), .int (nI (k / 8 + 1))]) (rest := []) C (d_X6_findPlace l D ty t0 bd a g u3 (nI (k % 8)) (nI (k / 8 + 1)) (k % 8) (k / 8 + 1) rfl rfl (by omega) (by omega)) (cwV 2 C.2.2.2.2.1 gX6_area_X6_findPlace rfl rfl rfl (by decide +kernel) ⟨Nat.le_of_ble_eq_true rfl, Nat.le_of_ble_eq_true rfl⟩) ⟨0, 6, _, _, fm_at0 _ _ _ _ _, rfl, rfl⟩ rfl (Nat.le_of_ble_eq_true rfl) dX6_area_90 ⟨Nat.zero_le _, Nat.zero_le _⟩ (fun v9 w9 hp9 => ?_)
            rcases hp9 with ⟨x4, y4, L4, u4, hu4, ex4, ey4, rfl, rfl⟩ | ⟨L4, u4, hu4, rfl, rfl⟩
            · refine fj_st (st' := .int 1 :: []) rfl ?_
              refine fj_if_eq (tgt := 105) C dX6_area_93 (by decide) (fun h => absurd h (by decide)) (fun _ => ?_)
              refine fj_iload C 4 dX6_area_96 rfl ?_
              refine fj_if_eq (tgt := 105) C dX6_area_98 (by decide) (fun _ => ?_) (fun h => absurd (by decide) h)
              refine fj_iconst (v := 0) C dX6_area_105 (by decide) ?_
              refine fj_istore (lv' := [(6, .int 0), (11, .int 3), (9, .long ((u3 14).toInt64)), (7, .long ((u3 13).toInt64)), (4, .long (((0 + ((((u0 13).toInt64) * y1.toInt64) - (x1.toInt64 * ((u0 14).toInt64)))) + ((x1.toInt64 * y2.toInt64) - (x2.toInt64 * y1.toInt64))) + ((x2.toInt64 * ((u3 14).toInt64)) - (((u3 13).toInt64) * y2.toInt64)))), (3, .int (nI (k / 8))), (2, .int (nI (k % 8))), (0, .ref (bd 0)), (1, .int (nI k))]) C dX6_area_106 (by decide) rfl ?_
              refine fj_lload C 4 dX6_area_108 rfl ?_
              refine fj_lload C 3 dX6_area_110 rfl ?_
              refine fj_aload_n C 7 dX6_area_112 rfl rfl ?_
              refine fj_get (Cn := RX6) (T := TX6) (N := 44) (ci := 6) (v := .int (u4 14)) C iX6 0 (fm_at0 _ _ _ _ _) rfl 43 (by decide) kX6_307 rfl dX6_area_113 ?_
              refine fj_at (y := y4) ey4 ?_
              refine fj_i2l C dX6_area_116 ?_
              refine fj_lmul C dX6_area_117 ?_
              refine fj_aload_n C 7 dX6_area_118 rfl rfl ?_
              refine fj_get (Cn := RX6) (T := TX6) (N := 44) (ci := 6) (v := .int (u4 13)) C iX6 0 (fm_at0 _ _ _ _ _) rfl 42 (by decide) kX6_304 rfl dX6_area_119 ?_
              refine fj_at (y := x4) ex4 ?_
              refine fj_i2l C dX6_area_122 ?_
              refine fj_lload C 2 dX6_area_123 rfl ?_
              refine fj_lmul C dX6_area_125 ?_
              refine fj_lsub C dX6_area_126 ?_
              refine fj_ladd C dX6_area_127 ?_
              refine fj_lstore (lv' := [(4, .long ((((0 + ((((u0 13).toInt64) * y1.toInt64) - (x1.toInt64 * ((u0 14).toInt64)))) + ((x1.toInt64 * y2.toInt64) - (x2.toInt64 * y1.toInt64))) + ((x2.toInt64 * ((u3 14).toInt64)) - (((u3 13).toInt64) * y2.toInt64))) + ((((u3 13).toInt64) * y4.toInt64) - (x4.toInt64 * ((u3 14).toInt64))))), (6, .int 0), (11, .int 3), (9, .long ((u3 14).toInt64)), (7, .long ((u3 13).toInt64)), (3, .int (nI (k / 8))), (2, .int (nI (k % 8))), (0, .ref (bd 0)), (1, .int (nI k))]) C dX6_area_128 (by decide) rfl ?_
              refine fj_aload_n C 7 dX6_area_130 rfl rfl ?_
              refine fj_get (Cn := RX6) (T := TX6) (N := 44) (ci := 6) (v := .int (u4 13)) C iX6 0 (fm_at0 _ _ _ _ _) rfl 42 (by decide) kX6_304 rfl dX6_area_131 ?_
              refine fj_at (y := x4) ex4 ?_
              refine fj_i2l C dX6_area_134 ?_
              refine fj_lstore (lv' := [(7, .long x4.toInt64), (4, .long ((((0 + ((((u0 13).toInt64) * y1.toInt64) - (x1.toInt64 * ((u0 14).toInt64)))) + ((x1.toInt64 * y2.toInt64) - (x2.toInt64 * y1.toInt64))) + ((x2.toInt64 * ((u3 14).toInt64)) - (((u3 13).toInt64) * y2.toInt64))) + ((((u3 13).toInt64) * y4.toInt64) - (x4.toInt64 * ((u3 14).toInt64))))), (6, .int 0), (11, .int 3), (9, .long ((u3 14).toInt64)), (3, .int (nI (k / 8))), (2, .int (nI (k % 8))), (0, .ref (bd 0)), (1, .int (nI k))]) C dX6_area_135 (by decide) rfl ?_
              refine fj_aload_n C 7 dX6_area_137 rfl rfl ?_
              refine fj_get (Cn := RX6) (T := TX6) (N := 44) (ci := 6) (v := .int (u4 14)) C iX6 0 (fm_at0 _ _ _ _ _) rfl 43 (by decide) kX6_307 rfl dX6_area_138 ?_
              refine fj_at (y := y4) ey4 ?_
              refine fj_i2l C dX6_area_141 ?_
              refine fj_lstore (lv' := [(9, .long y4.toInt64), (7, .long x4.toInt64), (4, .long ((((0 + ((((u0 13).toInt64) * y1.toInt64) - (x1.toInt64 * ((u0 14).toInt64)))) + ((x1.toInt64 * y2.toInt64) - (x2.toInt64 * y1.toInt64))) + ((x2.toInt64 * ((u3 14).toInt64)) - (((u3 13).toInt64) * y2.toInt64))) + ((((u3 13).toInt64) * y4.toInt64) - (x4.toInt64 * ((u3 14).toInt64))))), (6, .int 0), (11, .int 3), (3, .int (nI (k / 8))), (2, .int (nI (k % 8))), (0, .ref (bd 0)), (1, .int (nI k))]) C dX6_area_142 (by decide) rfl ?_
              refine fj_iinc (v := 4) (lv' := [(11, .int 4), (9, .long y4.toInt64), (7, .long x4.toInt64), (4, .long ((((0 + ((((u0 13).toInt64) * y1.toInt64) - (x1.toInt64 * ((u0 14).toInt64)))) + ((x1.toInt64 * y2.toInt64) - (x2.toInt64 * y1.toInt64))) + ((x2.toInt64 * ((u3 14).toInt64)) - (((u3 13).toInt64) * y2.toInt64))) + ((((u3 13).toInt64) * y4.toInt64) - (x4.toInt64 * ((u3 14).toInt64))))), (6, .int 0), (3, .int (nI (k / 8))), (2, .int (nI (k % 8))), (0, .ref (bd 0)), (1, .int (nI k))]) C 4 dX6_area_144 rfl (by decide) (by decide) rfl ?_
              refine fj_goto (tgt := 51) C dX6_area_147 (by decide) ?_
              refine fj_iload C 0 dX6_area_51 rfl ?_
              refine fj_iconst (v := 4) C dX6_area_53 (by decide) ?_
              refine fj_icmp_ge (tgt := 150) C dX6_area_54 (by decide) (fun _ => ?_) (fun h => absurd (by decide) h)
              refine fj_iload C 4 dX6_area_150 rfl ?_
              refine fj_if_eq (tgt := 160) C dX6_area_152 (by decide) (fun _ => ?_) (fun h => absurd (by decide) h)
              refine fj_ldc2 (v := (-1003)) C dX6_area_160 kL321 ?_
              exact fj_lret C E9 dX6_area_163 (Or.inr ⟨k, hk, rfl, u4, (fun j hj => (hu4 j hj).trans ((hu3 j hj).trans ((hu2 j hj).trans ((hu1 j hj).trans (hu0 j hj))))), rfl, Or.inr ⟨(Or.inr (Or.inr (Or.inr (L0)))), rfl⟩⟩)
            · refine fj_st (st' := .int 0 :: []) rfl ?_
              refine fj_if_eq (tgt := 105) C dX6_area_93 (by decide) (fun _ => ?_) (fun h => absurd (by decide) h)
              refine fj_iconst (v := 0) C dX6_area_105 (by decide) ?_
              refine fj_istore (lv' := [(6, .int 0), (11, .int 3), (9, .long ((u3 14).toInt64)), (7, .long ((u3 13).toInt64)), (4, .long (((0 + ((((u0 13).toInt64) * y1.toInt64) - (x1.toInt64 * ((u0 14).toInt64)))) + ((x1.toInt64 * y2.toInt64) - (x2.toInt64 * y1.toInt64))) + ((x2.toInt64 * ((u3 14).toInt64)) - (((u3 13).toInt64) * y2.toInt64)))), (3, .int (nI (k / 8))), (2, .int (nI (k % 8))), (0, .ref (bd 0)), (1, .int (nI k))]) C dX6_area_106 (by decide) rfl ?_
              refine fj_lload C 4 dX6_area_108 rfl ?_
              refine fj_lload C 3 dX6_area_110 rfl ?_
              refine fj_aload_n C 7 dX6_area_112 rfl rfl ?_
              refine fj_get (Cn := RX6) (T := TX6) (N := 44) (ci := 6) (v := .int (u4 14)) C iX6 0 (fm_at0 _ _ _ _ _) rfl 43 (by decide) kX6_307 rfl dX6_area_113 ?_
              refine fj_i2l C dX6_area_116 ?_
              refine fj_lmul C dX6_area_117 ?_
              refine fj_aload_n C 7 dX6_area_118 rfl rfl ?_
              refine fj_get (Cn := RX6) (T := TX6) (N := 44) (ci := 6) (v := .int (u4 13)) C iX6 0 (fm_at0 _ _ _ _ _) rfl 42 (by decide) kX6_304 rfl dX6_area_119 ?_
              refine fj_i2l C dX6_area_122 ?_
              refine fj_lload C 2 dX6_area_123 rfl ?_
              refine fj_lmul C dX6_area_125 ?_
              refine fj_lsub C dX6_area_126 ?_
              refine fj_ladd C dX6_area_127 ?_
              refine fj_lstore (lv' := [(4, .long ((((0 + ((((u0 13).toInt64) * y1.toInt64) - (x1.toInt64 * ((u0 14).toInt64)))) + ((x1.toInt64 * y2.toInt64) - (x2.toInt64 * y1.toInt64))) + ((x2.toInt64 * ((u3 14).toInt64)) - (((u3 13).toInt64) * y2.toInt64))) + ((((u3 13).toInt64) * ((u4 14).toInt64)) - (((u4 13).toInt64) * ((u3 14).toInt64))))), (6, .int 0), (11, .int 3), (9, .long ((u3 14).toInt64)), (7, .long ((u3 13).toInt64)), (3, .int (nI (k / 8))), (2, .int (nI (k % 8))), (0, .ref (bd 0)), (1, .int (nI k))]) C dX6_area_128 (by decide) rfl ?_
              refine fj_aload_n C 7 dX6_area_130 rfl rfl ?_
              refine fj_get (Cn := RX6) (T := TX6) (N := 44) (ci := 6) (v := .int (u4 13)) C iX6 0 (fm_at0 _ _ _ _ _) rfl 42 (by decide) kX6_304 rfl dX6_area_131 ?_
              refine fj_i2l C dX6_area_134 ?_
              refine fj_lstore (lv' := [(7, .long ((u4 13).toInt64)), (4, .long ((((0 + ((((u0 13).toInt64) * y1.toInt64) - (x1.toInt64 * ((u0 14).toInt64)))) + ((x1.toInt64 * y2.toInt64) - (x2.toInt64 * y1.toInt64))) + ((x2.toInt64 * ((u3 14).toInt64)) - (((u3 13).toInt64) * y2.toInt64))) + ((((u3 13).toInt64) * ((u4 14).toInt64)) - (((u4 13).toInt64) * ((u3 14).toInt64))))), (6, .int 0), (11, .int 3), (9, .long ((u3 14).toInt64)), (3, .int (nI (k / 8))), (2, .int (nI (k % 8))), (0, .ref (bd 0)), (1, .int (nI k))]) C dX6_area_135 (by decide) rfl ?_
              refine fj_aload_n C 7 dX6_area_137 rfl rfl ?_
              refine fj_get (Cn := RX6) (T := TX6) (N := 44) (ci := 6) (v := .int (u4 14)) C iX6 0 (fm_at0 _ _ _ _ _) rfl 43 (by decide) kX6_307 rfl dX6_area_138 ?_
              refine fj_i2l C dX6_area_141 ?_
              refine fj_lstore (lv' := [(9, .long ((u4 14).toInt64)), (7, .long ((u4 13).toInt64)), (4, .long ((((0 + ((((u0 13).toInt64) * y1.toInt64) - (x1.toInt64 * ((u0 14).toInt64)))) + ((x1.toInt64 * y2.toInt64) - (x2.toInt64 * y1.toInt64))) + ((x2.toInt64 * ((u3 14).toInt64)) - (((u3 13).toInt64) * y2.toInt64))) + ((((u3 13).toInt64) * ((u4 14).toInt64)) - (((u4 13).toInt64) * ((u3 14).toInt64))))), (6, .int 0), (11, .int 3), (3, .int (nI (k / 8))), (2, .int (nI (k % 8))), (0, .ref (bd 0)), (1, .int (nI k))]) C dX6_area_142 (by decide) rfl ?_
              refine fj_iinc (v := 4) (lv' := [(11, .int 4), (9, .long ((u4 14).toInt64)), (7, .long ((u4 13).toInt64)), (4, .long ((((0 + ((((u0 13).toInt64) * y1.toInt64) - (x1.toInt64 * ((u0 14).toInt64)))) + ((x1.toInt64 * y2.toInt64) - (x2.toInt64 * y1.toInt64))) + ((x2.toInt64 * ((u3 14).toInt64)) - (((u3 13).toInt64) * y2.toInt64))) + ((((u3 13).toInt64) * ((u4 14).toInt64)) - (((u4 13).toInt64) * ((u3 14).toInt64))))), (6, .int 0), (3, .int (nI (k / 8))), (2, .int (nI (k % 8))), (0, .ref (bd 0)), (1, .int (nI k))]) C 4 dX6_area_144 rfl (by decide) (by decide) rfl ?_
              refine fj_goto (tgt := 51) C dX6_area_147 (by decide) ?_
              refine fj_iload C 0 dX6_area_51 rfl ?_
              refine fj_iconst (v := 4) C dX6_area_53 (by decide) ?_
              refine fj_icmp_ge (tgt := 150) C dX6_area_54 (by decide) (fun _ => ?_) (fun h => absurd (by decide) h)
              refine fj_iload C 4 dX6_area_150 rfl ?_
              refine fj_if_eq (tgt := 160) C dX6_area_152 (by decide) (fun _ => ?_) (fun h => absurd (by decide) h)
              refine fj_ldc2 (v := (-1003)) C dX6_area_160 kL321 ?_
              exact fj_lret C E9 dX6_area_163 (Or.inr ⟨k, hk, rfl, u4, (fun j hj => (hu4 j hj).trans ((hu3 j hj).trans ((hu2 j hj).trans ((hu1 j hj).trans (hu0 j hj))))), rfl, Or.inr ⟨(Or.inr (Or.inr (Or.inr (L0)))), rfl⟩⟩)
        · refine fj_st (st' := .int 0 :: []) rfl ?_
          refine fj_if_eq (tgt := 105) C dX6_area_93 (by decide) (fun _ => ?_) (fun h => absurd (by decide) h)
          refine fj_iconst (v := 0) C dX6_area_105 (by decide) ?_
          refine fj_istore (lv' := [(6, .int 0), (11, .int 1), (9, .long y1.toInt64), (7, .long x1.toInt64), (4, .long (0 + ((((u0 13).toInt64) * y1.toInt64) - (x1.toInt64 * ((u0 14).toInt64))))), (3, .int (nI (k / 8))), (2, .int (nI (k % 8))), (0, .ref (bd 0)), (1, .int (nI k))]) C dX6_area_106 (by decide) rfl ?_
          refine fj_lload C 4 dX6_area_108 rfl ?_
          refine fj_lload C 3 dX6_area_110 rfl ?_
          refine fj_aload_n C 7 dX6_area_112 rfl rfl ?_
          refine fj_get (Cn := RX6) (T := TX6) (N := 44) (ci := 6) (v := .int (u2 14)) C iX6 0 (fm_at0 _ _ _ _ _) rfl 43 (by decide) kX6_307 rfl dX6_area_113 ?_
          refine fj_i2l C dX6_area_116 ?_
          refine fj_lmul C dX6_area_117 ?_
          refine fj_aload_n C 7 dX6_area_118 rfl rfl ?_
          refine fj_get (Cn := RX6) (T := TX6) (N := 44) (ci := 6) (v := .int (u2 13)) C iX6 0 (fm_at0 _ _ _ _ _) rfl 42 (by decide) kX6_304 rfl dX6_area_119 ?_
          refine fj_i2l C dX6_area_122 ?_
          refine fj_lload C 2 dX6_area_123 rfl ?_
          refine fj_lmul C dX6_area_125 ?_
          refine fj_lsub C dX6_area_126 ?_
          refine fj_ladd C dX6_area_127 ?_
          refine fj_lstore (lv' := [(4, .long ((0 + ((((u0 13).toInt64) * y1.toInt64) - (x1.toInt64 * ((u0 14).toInt64)))) + ((x1.toInt64 * ((u2 14).toInt64)) - (((u2 13).toInt64) * y1.toInt64)))), (6, .int 0), (11, .int 1), (9, .long y1.toInt64), (7, .long x1.toInt64), (3, .int (nI (k / 8))), (2, .int (nI (k % 8))), (0, .ref (bd 0)), (1, .int (nI k))]) C dX6_area_128 (by decide) rfl ?_
          refine fj_aload_n C 7 dX6_area_130 rfl rfl ?_
          refine fj_get (Cn := RX6) (T := TX6) (N := 44) (ci := 6) (v := .int (u2 13)) C iX6 0 (fm_at0 _ _ _ _ _) rfl 42 (by decide) kX6_304 rfl dX6_area_131 ?_
          refine fj_i2l C dX6_area_134 ?_
          refine fj_lstore (lv' := [(7, .long ((u2 13).toInt64)), (4, .long ((0 + ((((u0 13).toInt64) * y1.toInt64) - (x1.toInt64 * ((u0 14).toInt64)))) + ((x1.toInt64 * ((u2 14).toInt64)) - (((u2 13).toInt64) * y1.toInt64)))), (6, .int 0), (11, .int 1), (9, .long y1.toInt64), (3, .int (nI (k / 8))), (2, .int (nI (k % 8))), (0, .ref (bd 0)), (1, .int (nI k))]) C dX6_area_135 (by decide) rfl ?_
          refine fj_aload_n C 7 dX6_area_137 rfl rfl ?_
          refine fj_get (Cn := RX6) (T := TX6) (N := 44) (ci := 6) (v := .int (u2 14)) C iX6 0 (fm_at0 _ _ _ _ _) rfl 43 (by decide) kX6_307 rfl dX6_area_138 ?_
          refine fj_i2l C dX6_area_141 ?_
          refine fj_lstore (lv' := [(9, .long ((u2 14).toInt64)), (7, .long ((u2 13).toInt64)), (4, .long ((0 + ((((u0 13).toInt64) * y1.toInt64) - (x1.toInt64 * ((u0 14).toInt64)))) + ((x1.toInt64 * ((u2 14).toInt64)) - (((u2 13).toInt64) * y1.toInt64)))), (6, .int 0), (11, .int 1), (3, .int (nI (k / 8))), (2, .int (nI (k % 8))), (0, .ref (bd 0)), (1, .int (nI k))]) C dX6_area_142 (by decide) rfl ?_
          refine fj_iinc (v := 2) (lv' := [(11, .int 2), (9, .long ((u2 14).toInt64)), (7, .long ((u2 13).toInt64)), (4, .long ((0 + ((((u0 13).toInt64) * y1.toInt64) - (x1.toInt64 * ((u0 14).toInt64)))) + ((x1.toInt64 * ((u2 14).toInt64)) - (((u2 13).toInt64) * y1.toInt64)))), (6, .int 0), (3, .int (nI (k / 8))), (2, .int (nI (k % 8))), (0, .ref (bd 0)), (1, .int (nI k))]) C 4 dX6_area_144 rfl (by decide) (by decide) rfl ?_
          refine fj_goto (tgt := 51) C dX6_area_147 (by decide) ?_
          refine fj_iload C 0 dX6_area_51 rfl ?_
          refine fj_iconst (v := 4) C dX6_area_53 (by decide) ?_
          refine fj_icmp_ge (tgt := 150) C dX6_area_54 (by decide) (fun h => absurd h (by decide)) (fun _ => ?_)
          refine fj_aload_n C 7 dX6_area_57 rfl rfl ?_
          refine fj_iload C 0 dX6_area_58 rfl ?_
          refine fj_iconst (v := 1) C dX6_area_60 (by decide) ?_
          refine fj_icmp_eq (tgt := 70) C dX6_area_61 (by decide) (fun h => absurd h (by decide)) (fun _ => ?_)
          refine fj_iload C 0 dX6_area_64 rfl ?_
          refine fj_iconst (v := 2) C dX6_area_66 (by decide) ?_
          refine fj_icmp_ne (tgt := 76) C dX6_area_67 (by decide) (fun h => absurd (by decide) h) (fun _ => ?_)
          refine fj_iload_n C 6 dX6_area_70 rfl rfl ?_
          refine fj_iconst (v := 1) C dX6_area_71 (by decide) ?_
          refine fj_iadd C dX6_area_72 ?_
          refine fj_at (y := nI (k % 8 + 1)) (nI_1 _) ?_
          refine fj_goto (tgt := 77) C dX6_area_73 (by decide) ?_
          refine fj_iload C 0 dX6_area_77 rfl ?_
          refine fj_iconst (v := 1) C dX6_area_79 (by decide) ?_
          refine fj_icmp_le (tgt := 89) C dX6_area_80 (by decide) (fun h => absurd h (by decide)) (fun _ => ?_)
          refine fj_iload_n C 5 dX6_area_83 rfl rfl ?_
          refine fj_iconst (v := 1) C dX6_area_84 (by decide) ?_
          refine fj_iadd C dX6_area_85 ?_
          refine fj_at (y := nI (k / 8 + 1)) (nI_1 _) ?_
          refine fj_goto (tgt := 90) C dX6_area_86 (by decide) ?_
          refine fj_callVw (As := [.int (nI (k % 8 + 1)), .int (nI (k / 8 + 1))]) (rest := []) C (d_X6_findPlace l D ty t0 bd a g u2 (nI (k % 8 + 1)) (nI (k / 8 + 1)) (k % 8 + 1) (k / 8 + 1) rfl rfl (by omega) (by omega)) (cwV 2 C.2.2.2.2.1 gX6_area_X6_findPlace rfl rfl rfl (by decide +kernel) ⟨Nat.le_of_ble_eq_true rfl, Nat.le_of_ble_eq_true rfl⟩) ⟨0, 6, _, _, fm_at0 _ _ _ _ _, rfl, rfl⟩ rfl (Nat.le_of_ble_eq_true rfl) dX6_area_90 ⟨Nat.zero_le _, Nat.zero_le _⟩ (fun v9 w9 hp9 => ?_)
          rcases hp9 with ⟨x3, y3, L3, u3, hu3, ex3, ey3, rfl, rfl⟩ | ⟨L3, u3, hu3, rfl, rfl⟩
          · refine fj_st (st' := .int 1 :: []) rfl ?_
            refine fj_if_eq (tgt := 105) C dX6_area_93 (by decide) (fun h => absurd h (by decide)) (fun _ => ?_)
            refine fj_iload C 4 dX6_area_96 rfl ?_
            refine fj_if_eq (tgt := 105) C dX6_area_98 (by decide) (fun _ => ?_) (fun h => absurd (by decide) h)
            refine fj_iconst (v := 0) C dX6_area_105 (by decide) ?_
            refine fj_istore (lv' := [(6, .int 0), (11, .int 2), (9, .long ((u2 14).toInt64)), (7, .long ((u2 13).toInt64)), (4, .long ((0 + ((((u0 13).toInt64) * y1.toInt64) - (x1.toInt64 * ((u0 14).toInt64)))) + ((x1.toInt64 * ((u2 14).toInt64)) - (((u2 13).toInt64) * y1.toInt64)))), (3, .int (nI (k / 8))), (2, .int (nI (k % 8))), (0, .ref (bd 0)), (1, .int (nI k))]) C dX6_area_106 (by decide) rfl ?_
            refine fj_lload C 4 dX6_area_108 rfl ?_
            refine fj_lload C 3 dX6_area_110 rfl ?_
            refine fj_aload_n C 7 dX6_area_112 rfl rfl ?_
            refine fj_get (Cn := RX6) (T := TX6) (N := 44) (ci := 6) (v := .int (u3 14)) C iX6 0 (fm_at0 _ _ _ _ _) rfl 43 (by decide) kX6_307 rfl dX6_area_113 ?_
            refine fj_at (y := y3) ey3 ?_
            refine fj_i2l C dX6_area_116 ?_
            refine fj_lmul C dX6_area_117 ?_
            refine fj_aload_n C 7 dX6_area_118 rfl rfl ?_
            refine fj_get (Cn := RX6) (T := TX6) (N := 44) (ci := 6) (v := .int (u3 13)) C iX6 0 (fm_at0 _ _ _ _ _) rfl 42 (by decide) kX6_304 rfl dX6_area_119 ?_
            refine fj_at (y := x3) ex3 ?_
            refine fj_i2l C dX6_area_122 ?_
            refine fj_lload C 2 dX6_area_123 rfl ?_
            refine fj_lmul C dX6_area_125 ?_
            refine fj_lsub C dX6_area_126 ?_
            refine fj_ladd C dX6_area_127 ?_
            refine fj_lstore (lv' := [(4, .long (((0 + ((((u0 13).toInt64) * y1.toInt64) - (x1.toInt64 * ((u0 14).toInt64)))) + ((x1.toInt64 * ((u2 14).toInt64)) - (((u2 13).toInt64) * y1.toInt64))) + ((((u2 13).toInt64) * y3.toInt64) - (x3.toInt64 * ((u2 14).toInt64))))), (6, .int 0), (11, .int 2), (9, .long ((u2 14).toInt64)), (7, .long ((u2 13).toInt64)), (3, .int (nI (k / 8))), (2, .int (nI (k % 8))), (0, .ref (bd 0)), (1, .int (nI k))]) C dX6_area_128 (by decide) rfl ?_
            refine fj_aload_n C 7 dX6_area_130 rfl rfl ?_
            refine fj_get (Cn := RX6) (T := TX6) (N := 44) (ci := 6) (v := .int (u3 13)) C iX6 0 (fm_at0 _ _ _ _ _) rfl 42 (by decide) kX6_304 rfl dX6_area_131 ?_
            refine fj_at (y := x3) ex3 ?_
            refine fj_i2l C dX6_area_134 ?_
            refine fj_lstore (lv' := [(7, .long x3.toInt64), (4, .long (((0 + ((((u0 13).toInt64) * y1.toInt64) - (x1.toInt64 * ((u0 14).toInt64)))) + ((x1.toInt64 * ((u2 14).toInt64)) - (((u2 13).toInt64) * y1.toInt64))) + ((((u2 13).toInt64) * y3.toInt64) - (x3.toInt64 * ((u2 14).toInt64))))), (6, .int 0), (11, .int 2), (9, .long ((u2 14).toInt64)), (3, .int (nI (k / 8))), (2, .int (nI (k % 8))), (0, .ref (bd 0)), (1, .int (nI k))]) C dX6_area_135 (by decide) rfl ?_
            refine fj_aload_n C 7 dX6_area_137 rfl rfl ?_
            refine fj_get (Cn := RX6) (T := TX6) (N := 44) (ci := 6) (v := .int (u3 14)) C iX6 0 (fm_at0 _ _ _ _ _) rfl 43 (by decide) kX6_307 rfl dX6_area_138 ?_
            refine fj_at (y := y3) ey3 ?_
            refine fj_i2l C dX6_area_141 ?_
            refine fj_lstore (lv' := [(9, .long y3.toInt64), (7, .long x3.toInt64), (4, .long (((0 + ((((u0 13).toInt64) * y1.toInt64) - (x1.toInt64 * ((u0 14).toInt64)))) + ((x1.toInt64 * ((u2 14).toInt64)) - (((u2 13).toInt64) * y1.toInt64))) + ((((u2 13).toInt64) * y3.toInt64) - (x3.toInt64 * ((u2 14).toInt64))))), (6, .int 0), (11, .int 2), (3, .int (nI (k / 8))), (2, .int (nI (k % 8))), (0, .ref (bd 0)), (1, .int (nI k))]) C dX6_area_142 (by decide) rfl ?_
            refine fj_iinc (v := 3) (lv' := [(11, .int 3), (9, .long y3.toInt64), (7, .long x3.toInt64), (4, .long (((0 + ((((u0 13).toInt64) * y1.toInt64) - (x1.toInt64 * ((u0 14).toInt64)))) + ((x1.toInt64 * ((u2 14).toInt64)) - (((u2 13).toInt64) * y1.toInt64))) + ((((u2 13).toInt64) * y3.toInt64) - (x3.toInt64 * ((u2 14).toInt64))))), (6, .int 0), (3, .int (nI (k / 8))), (2, .int (nI (k % 8))), (0, .ref (bd 0)), (1, .int (nI k))]) C 4 dX6_area_144 rfl (by decide) (by decide) rfl ?_
            refine fj_goto (tgt := 51) C dX6_area_147 (by decide) ?_
            refine fj_iload C 0 dX6_area_51 rfl ?_
            refine fj_iconst (v := 4) C dX6_area_53 (by decide) ?_
            refine fj_icmp_ge (tgt := 150) C dX6_area_54 (by decide) (fun h => absurd h (by decide)) (fun _ => ?_)
            refine fj_aload_n C 7 dX6_area_57 rfl rfl ?_
            refine fj_iload C 0 dX6_area_58 rfl ?_
            refine fj_iconst (v := 1) C dX6_area_60 (by decide) ?_
            refine fj_icmp_eq (tgt := 70) C dX6_area_61 (by decide) (fun h => absurd h (by decide)) (fun _ => ?_)
            refine fj_iload C 0 dX6_area_64 rfl ?_
            refine fj_iconst (v := 2) C dX6_area_66 (by decide) ?_
            refine fj_icmp_ne (tgt := 76) C dX6_area_67 (by decide) (fun _ => ?_) (fun h => absurd h (by decide))
            refine fj_iload_n C 6 dX6_area_76 rfl rfl ?_
            refine fj_iload C 0 dX6_area_77 rfl ?_
            refine fj_iconst (v := 1) C dX6_area_79 (by decide) ?_
            refine fj_icmp_le (tgt := 89) C dX6_area_80 (by decide) (fun h => absurd h (by decide)) (fun _ => ?_)
            refine fj_iload_n C 5 dX6_area_83 rfl rfl ?_
            refine fj_iconst (v := 1) C dX6_area_84 (by decide) ?_
            refine fj_iadd C dX6_area_85 ?_
            refine fj_at (y := nI (k / 8 + 1)) (nI_1 _) ?_
            refine fj_goto (tgt := 90) C dX6_area_86 (by decide) ?_
            refine fj_callVw (As := [.int (nI (k % 8)), .int (nI (k / 8 + 1))]) (rest := []) C (d_X6_findPlace l D ty t0 bd a g u3 (nI (k % 8)) (nI (k / 8 + 1)) (k % 8) (k / 8 + 1) rfl rfl (by omega) (by omega)) (cwV 2 C.2.2.2.2.1 gX6_area_X6_findPlace rfl rfl rfl (by decide +kernel) ⟨Nat.le_of_ble_eq_true rfl, Nat.le_of_ble_eq_true rfl⟩) ⟨0, 6, _, _, fm_at0 _ _ _ _ _, rfl, rfl⟩ rfl (Nat.le_of_ble_eq_true rfl) dX6_area_90 ⟨Nat.zero_le _, Nat.zero_le _⟩ (fun v9 w9 hp9 => ?_)
            rcases hp9 with ⟨x4, y4, L4, u4, hu4, ex4, ey4, rfl, rfl⟩ | ⟨L4, u4, hu4, rfl, rfl⟩
            · refine fj_st (st' := .int 1 :: []) rfl ?_
              refine fj_if_eq (tgt := 105) C dX6_area_93 (by decide) (fun h => absurd h (by decide)) (fun _ => ?_)
              refine fj_iload C 4 dX6_area_96 rfl ?_
              refine fj_if_eq (tgt := 105) C dX6_area_98 (by decide) (fun _ => ?_) (fun h => absurd (by decide) h)
              refine fj_iconst (v := 0) C dX6_area_105 (by decide) ?_
              refine fj_istore (lv' := [(6, .int 0), (11, .int 3), (9, .long y3.toInt64), (7, .long x3.toInt64), (4, .long (((0 + ((((u0 13).toInt64) * y1.toInt64) - (x1.toInt64 * ((u0 14).toInt64)))) + ((x1.toInt64 * ((u2 14).toInt64)) - (((u2 13).toInt64) * y1.toInt64))) + ((((u2 13).toInt64) * y3.toInt64) - (x3.toInt64 * ((u2 14).toInt64))))), (3, .int (nI (k / 8))), (2, .int (nI (k % 8))), (0, .ref (bd 0)), (1, .int (nI k))]) C dX6_area_106 (by decide) rfl ?_
              refine fj_lload C 4 dX6_area_108 rfl ?_
              refine fj_lload C 3 dX6_area_110 rfl ?_
              refine fj_aload_n C 7 dX6_area_112 rfl rfl ?_
              refine fj_get (Cn := RX6) (T := TX6) (N := 44) (ci := 6) (v := .int (u4 14)) C iX6 0 (fm_at0 _ _ _ _ _) rfl 43 (by decide) kX6_307 rfl dX6_area_113 ?_
              refine fj_at (y := y4) ey4 ?_
              refine fj_i2l C dX6_area_116 ?_
              refine fj_lmul C dX6_area_117 ?_
              refine fj_aload_n C 7 dX6_area_118 rfl rfl ?_
              refine fj_get (Cn := RX6) (T := TX6) (N := 44) (ci := 6) (v := .int (u4 13)) C iX6 0 (fm_at0 _ _ _ _ _) rfl 42 (by decide) kX6_304 rfl dX6_area_119 ?_
              refine fj_at (y := x4) ex4 ?_
              refine fj_i2l C dX6_area_122 ?_
              refine fj_lload C 2 dX6_area_123 rfl ?_
              refine fj_lmul C dX6_area_125 ?_
              refine fj_lsub C dX6_area_126 ?_
              refine fj_ladd C dX6_area_127 ?_
              refine fj_lstore (lv' := [(4, .long ((((0 + ((((u0 13).toInt64) * y1.toInt64) - (x1.toInt64 * ((u0 14).toInt64)))) + ((x1.toInt64 * ((u2 14).toInt64)) - (((u2 13).toInt64) * y1.toInt64))) + ((((u2 13).toInt64) * y3.toInt64) - (x3.toInt64 * ((u2 14).toInt64)))) + ((x3.toInt64 * y4.toInt64) - (x4.toInt64 * y3.toInt64)))), (6, .int 0), (11, .int 3), (9, .long y3.toInt64), (7, .long x3.toInt64), (3, .int (nI (k / 8))), (2, .int (nI (k % 8))), (0, .ref (bd 0)), (1, .int (nI k))]) C dX6_area_128 (by decide) rfl ?_
              refine fj_aload_n C 7 dX6_area_130 rfl rfl ?_
              refine fj_get (Cn := RX6) (T := TX6) (N := 44) (ci := 6) (v := .int (u4 13)) C iX6 0 (fm_at0 _ _ _ _ _) rfl 42 (by decide) kX6_304 rfl dX6_area_131 ?_
              refine fj_at (y := x4) ex4 ?_
              refine fj_i2l C dX6_area_134 ?_
              refine fj_lstore (lv' := [(7, .long x4.toInt64), (4, .long ((((0 + ((((u0 13).toInt64) * y1.toInt64) - (x1.toInt64 * ((u0 14).toInt64)))) + ((x1.toInt64 * ((u2 14).toInt64)) - (((u2 13).toInt64) * y1.toInt64))) + ((((u2 13).toInt64) * y3.toInt64) - (x3.toInt64 * ((u2 14).toInt64)))) + ((x3.toInt64 * y4.toInt64) - (x4.toInt64 * y3.toInt64)))), (6, .int 0), (11, .int 3), (9, .long y3.toInt64), (3, .int (nI (k / 8))), (2, .int (nI (k % 8))), (0, .ref (bd 0)), (1, .int (nI k))]) C dX6_area_135 (by decide) rfl ?_
              refine fj_aload_n C 7 dX6_area_137 rfl rfl ?_
              refine fj_get (Cn := RX6) (T := TX6) (N := 44) (ci := 6) (v := .int (u4 14)) C iX6 0 (fm_at0 _ _ _ _ _) rfl 43 (by decide) kX6_307 rfl dX6_area_138 ?_
              refine fj_at (y := y4) ey4 ?_
              refine fj_i2l C dX6_area_141 ?_
              refine fj_lstore (lv' := [(9, .long y4.toInt64), (7, .long x4.toInt64), (4, .long ((((0 + ((((u0 13).toInt64) * y1.toInt64) - (x1.toInt64 * ((u0 14).toInt64)))) + ((x1.toInt64 * ((u2 14).toInt64)) - (((u2 13).toInt64) * y1.toInt64))) + ((((u2 13).toInt64) * y3.toInt64) - (x3.toInt64 * ((u2 14).toInt64)))) + ((x3.toInt64 * y4.toInt64) - (x4.toInt64 * y3.toInt64)))), (6, .int 0), (11, .int 3), (3, .int (nI (k / 8))), (2, .int (nI (k % 8))), (0, .ref (bd 0)), (1, .int (nI k))]) C dX6_area_142 (by decide) rfl ?_
              refine fj_iinc (v := 4) (lv' := [(11, .int 4), (9, .long y4.toInt64), (7, .long x4.toInt64), (4, .long ((((0 + ((((u0 13).toInt64) * y1.toInt64) - (x1.toInt64 * ((u0 14).toInt64)))) + ((x1.toInt64 * ((u2 14).toInt64)) - (((u2 13).toInt64) * y1.toInt64))) + ((((u2 13).toInt64) * y3.toInt64) - (x3.toInt64 * ((u2 14).toInt64)))) + ((x3.toInt64 * y4.toInt64) - (x4.toInt64 * y3.toInt64)))), (6, .int 0), (3, .int (nI (k / 8))), (2, .int (nI (k % 8))), (0, .ref (bd 0)), (1, .int (nI k))]) C 4 dX6_area_144 rfl (by decide) (by decide) rfl ?_
              refine fj_goto (tgt := 51) C dX6_area_147 (by decide) ?_
              refine fj_iload C 0 dX6_area_51 rfl ?_
              refine fj_iconst (v := 4) C dX6_area_53 (by decide) ?_
              refine fj_icmp_ge (tgt := 150) C dX6_area_54 (by decide) (fun _ => ?_) (fun h => absurd (by decide) h)
              refine fj_iload C 4 dX6_area_150 rfl ?_
              refine fj_if_eq (tgt := 160) C dX6_area_152 (by decide) (fun _ => ?_) (fun h => absurd (by decide) h)
              refine fj_ldc2 (v := (-1003)) C dX6_area_160 kL321 ?_
              exact fj_lret C E9 dX6_area_163 (Or.inr ⟨k, hk, rfl, u4, (fun j hj => (hu4 j hj).trans ((hu3 j hj).trans ((hu2 j hj).trans ((hu1 j hj).trans (hu0 j hj))))), rfl, Or.inr ⟨(Or.inr (Or.inr (Or.inr (L0)))), rfl⟩⟩)
            · refine fj_st (st' := .int 0 :: []) rfl ?_
              refine fj_if_eq (tgt := 105) C dX6_area_93 (by decide) (fun _ => ?_) (fun h => absurd (by decide) h)
              refine fj_iconst (v := 0) C dX6_area_105 (by decide) ?_
              refine fj_istore (lv' := [(6, .int 0), (11, .int 3), (9, .long y3.toInt64), (7, .long x3.toInt64), (4, .long (((0 + ((((u0 13).toInt64) * y1.toInt64) - (x1.toInt64 * ((u0 14).toInt64)))) + ((x1.toInt64 * ((u2 14).toInt64)) - (((u2 13).toInt64) * y1.toInt64))) + ((((u2 13).toInt64) * y3.toInt64) - (x3.toInt64 * ((u2 14).toInt64))))), (3, .int (nI (k / 8))), (2, .int (nI (k % 8))), (0, .ref (bd 0)), (1, .int (nI k))]) C dX6_area_106 (by decide) rfl ?_
              refine fj_lload C 4 dX6_area_108 rfl ?_
              refine fj_lload C 3 dX6_area_110 rfl ?_
              refine fj_aload_n C 7 dX6_area_112 rfl rfl ?_
              refine fj_get (Cn := RX6) (T := TX6) (N := 44) (ci := 6) (v := .int (u4 14)) C iX6 0 (fm_at0 _ _ _ _ _) rfl 43 (by decide) kX6_307 rfl dX6_area_113 ?_
              refine fj_i2l C dX6_area_116 ?_
              refine fj_lmul C dX6_area_117 ?_
              refine fj_aload_n C 7 dX6_area_118 rfl rfl ?_
              refine fj_get (Cn := RX6) (T := TX6) (N := 44) (ci := 6) (v := .int (u4 13)) C iX6 0 (fm_at0 _ _ _ _ _) rfl 42 (by decide) kX6_304 rfl dX6_area_119 ?_
              refine fj_i2l C dX6_area_122 ?_
              refine fj_lload C 2 dX6_area_123 rfl ?_
              refine fj_lmul C dX6_area_125 ?_
              refine fj_lsub C dX6_area_126 ?_
              refine fj_ladd C dX6_area_127 ?_
              refine fj_lstore (lv' := [(4, .long ((((0 + ((((u0 13).toInt64) * y1.toInt64) - (x1.toInt64 * ((u0 14).toInt64)))) + ((x1.toInt64 * ((u2 14).toInt64)) - (((u2 13).toInt64) * y1.toInt64))) + ((((u2 13).toInt64) * y3.toInt64) - (x3.toInt64 * ((u2 14).toInt64)))) + ((x3.toInt64 * ((u4 14).toInt64)) - (((u4 13).toInt64) * y3.toInt64)))), (6, .int 0), (11, .int 3), (9, .long y3.toInt64), (7, .long x3.toInt64), (3, .int (nI (k / 8))), (2, .int (nI (k % 8))), (0, .ref (bd 0)), (1, .int (nI k))]) C dX6_area_128 (by decide) rfl ?_
              refine fj_aload_n C 7 dX6_area_130 rfl rfl ?_
              refine fj_get (Cn := RX6) (T := TX6) (N := 44) (ci := 6) (v := .int (u4 13)) C iX6 0 (fm_at0 _ _ _ _ _) rfl 42 (by decide) kX6_304 rfl dX6_area_131 ?_
              refine fj_i2l C dX6_area_134 ?_
              refine fj_lstore (lv' := [(7, .long ((u4 13).toInt64)), (4, .long ((((0 + ((((u0 13).toInt64) * y1.toInt64) - (x1.toInt64 * ((u0 14).toInt64)))) + ((x1.toInt64 * ((u2 14).toInt64)) - (((u2 13).toInt64) * y1.toInt64))) + ((((u2 13).toInt64) * y3.toInt64) - (x3.toInt64 * ((u2 14).toInt64)))) + ((x3.toInt64 * ((u4 14).toInt64)) - (((u4 13).toInt64) * y3.toInt64)))), (6, .int 0), (11, .int 3), (9, .long y3.toInt64), (3, .int (nI (k / 8))), (2, .int (nI (k % 8))), (0, .ref (bd 0)), (1, .int (nI k))]) C dX6_area_135 (by decide) rfl ?_
              refine fj_aload_n C 7 dX6_area_137 rfl rfl ?_
              refine fj_get (Cn := RX6) (T := TX6) (N := 44) (ci := 6) (v := .int (u4 14)) C iX6 0 (fm_at0 _ _ _ _ _) rfl 43 (by decide) kX6_307 rfl dX6_area_138 ?_
              refine fj_i2l C dX6_area_141 ?_
              refine fj_lstore (lv' := [(9, .long ((u4 14).toInt64)), (7, .long ((u4 13).toInt64)), (4, .long ((((0 + ((((u0 13).toInt64) * y1.toInt64) - (x1.toInt64 * ((u0 14).toInt64)))) + ((x1.toInt64 * ((u2 14).toInt64)) - (((u2 13).toInt64) * y1.toInt64))) + ((((u2 13).toInt64) * y3.toInt64) - (x3.toInt64 * ((u2 14).toInt64)))) + ((x3.toInt64 * ((u4 14).toInt64)) - (((u4 13).toInt64) * y3.toInt64)))), (6, .int 0), (11, .int 3), (3, .int (nI (k / 8))), (2, .int (nI (k % 8))), (0, .ref (bd 0)), (1, .int (nI k))]) C dX6_area_142 (by decide) rfl ?_
              refine fj_iinc (v := 4) (lv' := [(11, .int 4), (9, .long ((u4 14).toInt64)), (7, .long ((u4 13).toInt64)), (4, .long ((((0 + ((((u0 13).toInt64) * y1.toInt64) - (x1.toInt64 * ((u0 14).toInt64)))) + ((x1.toInt64 * ((u2 14).toInt64)) - (((u2 13).toInt64) * y1.toInt64))) + ((((u2 13).toInt64) * y3.toInt64) - (x3.toInt64 * ((u2 14).toInt64)))) + ((x3.toInt64 * ((u4 14).toInt64)) - (((u4 13).toInt64) * y3.toInt64)))), (6, .int 0), (3, .int (nI (k / 8))), (2, .int (nI (k % 8))), (0, .ref (bd 0)), (1, .int (nI k))]) C 4 dX6_area_144 rfl (by decide) (by decide) rfl ?_
              refine fj_goto (tgt := 51) C dX6_area_147 (by decide) ?_
              refine fj_iload C 0 dX6_area_51 rfl ?_
              refine fj_iconst (v := 4) C dX6_area_53 (by decide) ?_
              refine fj_icmp_ge (tgt := 150) C dX6_area_54 (by decide) (fun _ => ?_) (fun h => absurd (by decide) h)
              refine fj_iload C 4 dX6_area_150 rfl ?_
              refine fj_if_eq (tgt := 160) C dX6_area_152 (by decide) (fun _ => ?_) (fun h => absurd (by decide) h)
              refine fj_ldc2 (v := (-1003)) C dX6_area_160 kL321 ?_
              exact fj_lret C E9 dX6_area_163 (Or.inr ⟨k, hk, rfl, u4, (fun j hj => (hu4 j hj).trans ((hu3 j hj).trans ((hu2 j hj).trans ((hu1 j hj).trans (hu0 j hj))))), rfl, Or.inr ⟨(Or.inr (Or.inr (Or.inr (L0)))), rfl⟩⟩)
          · refine fj_st (st' := .int 0 :: []) rfl ?_
            refine fj_if_eq (tgt := 105) C dX6_area_93 (by decide) (fun _ => ?_) (fun h => absurd (by decide) h)
            refine fj_iconst (v := 0) C dX6_area_105 (by decide) ?_
            refine fj_istore (lv' := [(6, .int 0), (11, .int 2), (9, .long ((u2 14).toInt64)), (7, .long ((u2 13).toInt64)), (4, .long ((0 + ((((u0 13).toInt64) * y1.toInt64) - (x1.toInt64 * ((u0 14).toInt64)))) + ((x1.toInt64 * ((u2 14).toInt64)) - (((u2 13).toInt64) * y1.toInt64)))), (3, .int (nI (k / 8))), (2, .int (nI (k % 8))), (0, .ref (bd 0)), (1, .int (nI k))]) C dX6_area_106 (by decide) rfl ?_
            refine fj_lload C 4 dX6_area_108 rfl ?_
            refine fj_lload C 3 dX6_area_110 rfl ?_
            refine fj_aload_n C 7 dX6_area_112 rfl rfl ?_
            refine fj_get (Cn := RX6) (T := TX6) (N := 44) (ci := 6) (v := .int (u3 14)) C iX6 0 (fm_at0 _ _ _ _ _) rfl 43 (by decide) kX6_307 rfl dX6_area_113 ?_
            refine fj_i2l C dX6_area_116 ?_
            refine fj_lmul C dX6_area_117 ?_
            refine fj_aload_n C 7 dX6_area_118 rfl rfl ?_
            refine fj_get (Cn := RX6) (T := TX6) (N := 44) (ci := 6) (v := .int (u3 13)) C iX6 0 (fm_at0 _ _ _ _ _) rfl 42 (by decide) kX6_304 rfl dX6_area_119 ?_
            refine fj_i2l C dX6_area_122 ?_
            refine fj_lload C 2 dX6_area_123 rfl ?_
            refine fj_lmul C dX6_area_125 ?_
            refine fj_lsub C dX6_area_126 ?_
            refine fj_ladd C dX6_area_127 ?_
            refine fj_lstore (lv' := [(4, .long (((0 + ((((u0 13).toInt64) * y1.toInt64) - (x1.toInt64 * ((u0 14).toInt64)))) + ((x1.toInt64 * ((u2 14).toInt64)) - (((u2 13).toInt64) * y1.toInt64))) + ((((u2 13).toInt64) * ((u3 14).toInt64)) - (((u3 13).toInt64) * ((u2 14).toInt64))))), (6, .int 0), (11, .int 2), (9, .long ((u2 14).toInt64)), (7, .long ((u2 13).toInt64)), (3, .int (nI (k / 8))), (2, .int (nI (k % 8))), (0, .ref (bd 0)), (1, .int (nI k))]) C dX6_area_128 (by decide) rfl ?_
            refine fj_aload_n C 7 dX6_area_130 rfl rfl ?_
            refine fj_get (Cn := RX6) (T := TX6) (N := 44) (ci := 6) (v := .int (u3 13)) C iX6 0 (fm_at0 _ _ _ _ _) rfl 42 (by decide) kX6_304 rfl dX6_area_131 ?_
            refine fj_i2l C dX6_area_134 ?_
            refine fj_lstore (lv' := [(7, .long ((u3 13).toInt64)), (4, .long (((0 + ((((u0 13).toInt64) * y1.toInt64) - (x1.toInt64 * ((u0 14).toInt64)))) + ((x1.toInt64 * ((u2 14).toInt64)) - (((u2 13).toInt64) * y1.toInt64))) + ((((u2 13).toInt64) * ((u3 14).toInt64)) - (((u3 13).toInt64) * ((u2 14).toInt64))))), (6, .int 0), (11, .int 2), (9, .long ((u2 14).toInt64)), (3, .int (nI (k / 8))), (2, .int (nI (k % 8))), (0, .ref (bd 0)), (1, .int (nI k))]) C dX6_area_135 (by decide) rfl ?_
            refine fj_aload_n C 7 dX6_area_137 rfl rfl ?_
            refine fj_get (Cn := RX6) (T := TX6) (N := 44) (ci := 6) (v := .int (u3 14)) C iX6 0 (fm_at0 _ _ _ _ _) rfl 43 (by decide) kX6_307 rfl dX6_area_138 ?_
            refine fj_i2l C dX6_area_141 ?_
            refine fj_lstore (lv' := [(9, .long ((u3 14).toInt64)), (7, .long ((u3 13).toInt64)), (4, .long (((0 + ((((u0 13).toInt64) * y1.toInt64) - (x1.toInt64 * ((u0 14).toInt64)))) + ((x1.toInt64 * ((u2 14).toInt64)) - (((u2 13).toInt64) * y1.toInt64))) + ((((u2 13).toInt64) * ((u3 14).toInt64)) - (((u3 13).toInt64) * ((u2 14).toInt64))))), (6, .int 0), (11, .int 2), (3, .int (nI (k / 8))), (2, .int (nI (k % 8))), (0, .ref (bd 0)), (1, .int (nI k))]) C dX6_area_142 (by decide) rfl ?_
            refine fj_iinc (v := 3) (lv' := [(11, .int 3), (9, .long ((u3 14).toInt64)), (7, .long ((u3 13).toInt64)), (4, .long (((0 + ((((u0 13).toInt64) * y1.toInt64) - (x1.toInt64 * ((u0 14).toInt64)))) + ((x1.toInt64 * ((u2 14).toInt64)) - (((u2 13).toInt64) * y1.toInt64))) + ((((u2 13).toInt64) * ((u3 14).toInt64)) - (((u3 13).toInt64) * ((u2 14).toInt64))))), (6, .int 0), (3, .int (nI (k / 8))), (2, .int (nI (k % 8))), (0, .ref (bd 0)), (1, .int (nI k))]) C 4 dX6_area_144 rfl (by decide) (by decide) rfl ?_
            refine fj_goto (tgt := 51) C dX6_area_147 (by decide) ?_
            refine fj_iload C 0 dX6_area_51 rfl ?_
            refine fj_iconst (v := 4) C dX6_area_53 (by decide) ?_
            refine fj_icmp_ge (tgt := 150) C dX6_area_54 (by decide) (fun h => absurd h (by decide)) (fun _ => ?_)
            refine fj_aload_n C 7 dX6_area_57 rfl rfl ?_
            refine fj_iload C 0 dX6_area_58 rfl ?_
            refine fj_iconst (v := 1) C dX6_area_60 (by decide) ?_
            refine fj_icmp_eq (tgt := 70) C dX6_area_61 (by decide) (fun h => absurd h (by decide)) (fun _ => ?_)
            refine fj_iload C 0 dX6_area_64 rfl ?_
            refine fj_iconst (v := 2) C dX6_area_66 (by decide) ?_
            refine fj_icmp_ne (tgt := 76) C dX6_area_67 (by decide) (fun _ => ?_) (fun h => absurd h (by decide))
            refine fj_iload_n C 6 dX6_area_76 rfl rfl ?_
            refine fj_iload C 0 dX6_area_77 rfl ?_
            refine fj_iconst (v := 1) C dX6_area_79 (by decide) ?_
            refine fj_icmp_le (tgt := 89) C dX6_area_80 (by decide) (fun h => absurd h (by decide)) (fun _ => ?_)
            refine fj_iload_n C 5 dX6_area_83 rfl rfl ?_
            refine fj_iconst (v := 1) C dX6_area_84 (by decide) ?_
            refine fj_iadd C dX6_area_85 ?_
            refine fj_at (y := nI (k / 8 + 1)) (nI_1 _) ?_
            refine fj_goto (tgt := 90) C dX6_area_86 (by decide) ?_
            refine fj_callVw (As := [.int (nI (k % 8)), .int (nI (k / 8 + 1))]) (rest := []) C (d_X6_findPlace l D ty t0 bd a g u3 (nI (k % 8)) (nI (k / 8 + 1)) (k % 8) (k / 8 + 1) rfl rfl (by omega) (by omega)) (cwV 2 C.2.2.2.2.1 gX6_area_X6_findPlace rfl rfl rfl (by decide +kernel) ⟨Nat.le_of_ble_eq_true rfl, Nat.le_of_ble_eq_true rfl⟩) ⟨0, 6, _, _, fm_at0 _ _ _ _ _, rfl, rfl⟩ rfl (Nat.le_of_ble_eq_true rfl) dX6_area_90 ⟨Nat.zero_le _, Nat.zero_le _⟩ (fun v9 w9 hp9 => ?_)
            rcases hp9 with ⟨x4, y4, L4, u4, hu4, ex4, ey4, rfl, rfl⟩ | ⟨L4, u4, hu4, rfl, rfl⟩
            · refine fj_st (st' := .int 1 :: []) rfl ?_
              refine fj_if_eq (tgt := 105) C dX6_area_93 (by decide) (fun h => absurd h (by decide)) (fun _ => ?_)
              refine fj_iload C 4 dX6_area_96 rfl ?_
              refine fj_if_eq (tgt := 105) C dX6_area_98 (by decide) (fun _ => ?_) (fun h => absurd (by decide) h)
              refine fj_iconst (v := 0) C dX6_area_105 (by decide) ?_
              refine fj_istore (lv' := [(6, .int 0), (11, .int 3), (9, .long ((u3 14).toInt64)), (7, .long ((u3 13).toInt64)), (4, .long (((0 + ((((u0 13).toInt64) * y1.toInt64) - (x1.toInt64 * ((u0 14).toInt64)))) + ((x1.toInt64 * ((u2 14).toInt64)) - (((u2 13).toInt64) * y1.toInt64))) + ((((u2 13).toInt64) * ((u3 14).toInt64)) - (((u3 13).toInt64) * ((u2 14).toInt64))))), (3, .int (nI (k / 8))), (2, .int (nI (k % 8))), (0, .ref (bd 0)), (1, .int (nI k))]) C dX6_area_106 (by decide) rfl ?_
              refine fj_lload C 4 dX6_area_108 rfl ?_
              refine fj_lload C 3 dX6_area_110 rfl ?_
              refine fj_aload_n C 7 dX6_area_112 rfl rfl ?_
              refine fj_get (Cn := RX6) (T := TX6) (N := 44) (ci := 6) (v := .int (u4 14)) C iX6 0 (fm_at0 _ _ _ _ _) rfl 43 (by decide) kX6_307 rfl dX6_area_113 ?_
              refine fj_at (y := y4) ey4 ?_
              refine fj_i2l C dX6_area_116 ?_
              refine fj_lmul C dX6_area_117 ?_
              refine fj_aload_n C 7 dX6_area_118 rfl rfl ?_
              refine fj_get (Cn := RX6) (T := TX6) (N := 44) (ci := 6) (v := .int (u4 13)) C iX6 0 (fm_at0 _ _ _ _ _) rfl 42 (by decide) kX6_304 rfl dX6_area_119 ?_
              refine fj_at (y := x4) ex4 ?_
              refine fj_i2l C dX6_area_122 ?_
              refine fj_lload C 2 dX6_area_123 rfl ?_
              refine fj_lmul C dX6_area_125 ?_
              refine fj_lsub C dX6_area_126 ?_
              refine fj_ladd C dX6_area_127 ?_
              refine fj_lstore (lv' := [(4, .long ((((0 + ((((u0 13).toInt64) * y1.toInt64) - (x1.toInt64 * ((u0 14).toInt64)))) + ((x1.toInt64 * ((u2 14).toInt64)) - (((u2 13).toInt64) * y1.toInt64))) + ((((u2 13).toInt64) * ((u3 14).toInt64)) - (((u3 13).toInt64) * ((u2 14).toInt64)))) + ((((u3 13).toInt64) * y4.toInt64) - (x4.toInt64 * ((u3 14).toInt64))))), (6, .int 0), (11, .int 3), (9, .long ((u3 14).toInt64)), (7, .long ((u3 13).toInt64)), (3, .int (nI (k / 8))), (2, .int (nI (k % 8))), (0, .ref (bd 0)), (1, .int (nI k))]) C dX6_area_128 (by decide) rfl ?_
              refine fj_aload_n C 7 dX6_area_130 rfl rfl ?_
              refine fj_get (Cn := RX6) (T := TX6) (N := 44) (ci := 6) (v := .int (u4 13)) C iX6 0 (fm_at0 _ _ _ _ _) rfl 42 (by decide) kX6_304 rfl dX6_area_131 ?_
              refine fj_at (y := x4) ex4 ?_
              refine fj_i2l C dX6_area_134 ?_
              refine fj_lstore (lv' := [(7, .long x4.toInt64), (4, .long ((((0 + ((((u0 13).toInt64) * y1.toInt64) - (x1.toInt64 * ((u0 14).toInt64)))) + ((x1.toInt64 * ((u2 14).toInt64)) - (((u2 13).toInt64) * y1.toInt64))) + ((((u2 13).toInt64) * ((u3 14).toInt64)) - (((u3 13).toInt64) * ((u2 14).toInt64)))) + ((((u3 13).toInt64) * y4.toInt64) - (x4.toInt64 * ((u3 14).toInt64))))), (6, .int 0), (11, .int 3), (9, .long ((u3 14).toInt64)), (3, .int (nI (k / 8))), (2, .int (nI (k % 8))), (0, .ref (bd 0)), (1, .int (nI k))]) C dX6_area_135 (by decide) rfl ?_
              refine fj_aload_n C 7 dX6_area_137 rfl rfl ?_
              refine fj_get (Cn := RX6) (T := TX6) (N := 44) (ci := 6) (v := .int (u4 14)) C iX6 0 (fm_at0 _ _ _ _ _) rfl 43 (by decide) kX6_307 rfl dX6_area_138 ?_
              refine fj_at (y := y4) ey4 ?_
              refine fj_i2l C dX6_area_141 ?_
              refine fj_lstore (lv' := [(9, .long y4.toInt64), (7, .long x4.toInt64), (4, .long ((((0 + ((((u0 13).toInt64) * y1.toInt64) - (x1.toInt64 * ((u0 14).toInt64)))) + ((x1.toInt64 * ((u2 14).toInt64)) - (((u2 13).toInt64) * y1.toInt64))) + ((((u2 13).toInt64) * ((u3 14).toInt64)) - (((u3 13).toInt64) * ((u2 14).toInt64)))) + ((((u3 13).toInt64) * y4.toInt64) - (x4.toInt64 * ((u3 14).toInt64))))), (6, .int 0), (11, .int 3), (3, .int (nI (k / 8))), (2, .int (nI (k % 8))), (0, .ref (bd 0)), (1, .int (nI k))]) C dX6_area_142 (by decide) rfl ?_
              refine fj_iinc (v := 4) (lv' := [(11, .int 4), (9, .long y4.toInt64), (7, .long x4.toInt64), (4, .long ((((0 + ((((u0 13).toInt64) * y1.toInt64) - (x1.toInt64 * ((u0 14).toInt64)))) + ((x1.toInt64 * ((u2 14).toInt64)) - (((u2 13).toInt64) * y1.toInt64))) + ((((u2 13).toInt64) * ((u3 14).toInt64)) - (((u3 13).toInt64) * ((u2 14).toInt64)))) + ((((u3 13).toInt64) * y4.toInt64) - (x4.toInt64 * ((u3 14).toInt64))))), (6, .int 0), (3, .int (nI (k / 8))), (2, .int (nI (k % 8))), (0, .ref (bd 0)), (1, .int (nI k))]) C 4 dX6_area_144 rfl (by decide) (by decide) rfl ?_
              refine fj_goto (tgt := 51) C dX6_area_147 (by decide) ?_
              refine fj_iload C 0 dX6_area_51 rfl ?_
              refine fj_iconst (v := 4) C dX6_area_53 (by decide) ?_
              refine fj_icmp_ge (tgt := 150) C dX6_area_54 (by decide) (fun _ => ?_) (fun h => absurd (by decide) h)
              refine fj_iload C 4 dX6_area_150 rfl ?_
              refine fj_if_eq (tgt := 160) C dX6_area_152 (by decide) (fun _ => ?_) (fun h => absurd (by decide) h)
              refine fj_ldc2 (v := (-1003)) C dX6_area_160 kL321 ?_
              exact fj_lret C E9 dX6_area_163 (Or.inr ⟨k, hk, rfl, u4, (fun j hj => (hu4 j hj).trans ((hu3 j hj).trans ((hu2 j hj).trans ((hu1 j hj).trans (hu0 j hj))))), rfl, Or.inr ⟨(Or.inr (Or.inr (Or.inr (L0)))), rfl⟩⟩)
            · refine fj_st (st' := .int 0 :: []) rfl ?_
              refine fj_if_eq (tgt := 105) C dX6_area_93 (by decide) (fun _ => ?_) (fun h => absurd (by decide) h)
              refine fj_iconst (v := 0) C dX6_area_105 (by decide) ?_
              refine fj_istore (lv' := [(6, .int 0), (11, .int 3), (9, .long ((u3 14).toInt64)), (7, .long ((u3 13).toInt64)), (4, .long (((0 + ((((u0 13).toInt64) * y1.toInt64) - (x1.toInt64 * ((u0 14).toInt64)))) + ((x1.toInt64 * ((u2 14).toInt64)) - (((u2 13).toInt64) * y1.toInt64))) + ((((u2 13).toInt64) * ((u3 14).toInt64)) - (((u3 13).toInt64) * ((u2 14).toInt64))))), (3, .int (nI (k / 8))), (2, .int (nI (k % 8))), (0, .ref (bd 0)), (1, .int (nI k))]) C dX6_area_106 (by decide) rfl ?_
              refine fj_lload C 4 dX6_area_108 rfl ?_
              refine fj_lload C 3 dX6_area_110 rfl ?_
              refine fj_aload_n C 7 dX6_area_112 rfl rfl ?_
              refine fj_get (Cn := RX6) (T := TX6) (N := 44) (ci := 6) (v := .int (u4 14)) C iX6 0 (fm_at0 _ _ _ _ _) rfl 43 (by decide) kX6_307 rfl dX6_area_113 ?_
              refine fj_i2l C dX6_area_116 ?_
              refine fj_lmul C dX6_area_117 ?_
              refine fj_aload_n C 7 dX6_area_118 rfl rfl ?_
              refine fj_get (Cn := RX6) (T := TX6) (N := 44) (ci := 6) (v := .int (u4 13)) C iX6 0 (fm_at0 _ _ _ _ _) rfl 42 (by decide) kX6_304 rfl dX6_area_119 ?_
              refine fj_i2l C dX6_area_122 ?_
              refine fj_lload C 2 dX6_area_123 rfl ?_
              refine fj_lmul C dX6_area_125 ?_
              refine fj_lsub C dX6_area_126 ?_
              refine fj_ladd C dX6_area_127 ?_
              refine fj_lstore (lv' := [(4, .long ((((0 + ((((u0 13).toInt64) * y1.toInt64) - (x1.toInt64 * ((u0 14).toInt64)))) + ((x1.toInt64 * ((u2 14).toInt64)) - (((u2 13).toInt64) * y1.toInt64))) + ((((u2 13).toInt64) * ((u3 14).toInt64)) - (((u3 13).toInt64) * ((u2 14).toInt64)))) + ((((u3 13).toInt64) * ((u4 14).toInt64)) - (((u4 13).toInt64) * ((u3 14).toInt64))))), (6, .int 0), (11, .int 3), (9, .long ((u3 14).toInt64)), (7, .long ((u3 13).toInt64)), (3, .int (nI (k / 8))), (2, .int (nI (k % 8))), (0, .ref (bd 0)), (1, .int (nI k))]) C dX6_area_128 (by decide) rfl ?_
              refine fj_aload_n C 7 dX6_area_130 rfl rfl ?_
              refine fj_get (Cn := RX6) (T := TX6) (N := 44) (ci := 6) (v := .int (u4 13)) C iX6 0 (fm_at0 _ _ _ _ _) rfl 42 (by decide) kX6_304 rfl dX6_area_131 ?_
              refine fj_i2l C dX6_area_134 ?_
              refine fj_lstore (lv' := [(7, .long ((u4 13).toInt64)), (4, .long ((((0 + ((((u0 13).toInt64) * y1.toInt64) - (x1.toInt64 * ((u0 14).toInt64)))) + ((x1.toInt64 * ((u2 14).toInt64)) - (((u2 13).toInt64) * y1.toInt64))) + ((((u2 13).toInt64) * ((u3 14).toInt64)) - (((u3 13).toInt64) * ((u2 14).toInt64)))) + ((((u3 13).toInt64) * ((u4 14).toInt64)) - (((u4 13).toInt64) * ((u3 14).toInt64))))), (6, .int 0), (11, .int 3), (9, .long ((u3 14).toInt64)), (3, .int (nI (k / 8))), (2, .int (nI (k % 8))), (0, .ref (bd 0)), (1, .int (nI k))]) C dX6_area_135 (by decide) rfl ?_
              refine fj_aload_n C 7 dX6_area_137 rfl rfl ?_
              refine fj_get (Cn := RX6) (T := TX6) (N := 44) (ci := 6) (v := .int (u4 14)) C iX6 0 (fm_at0 _ _ _ _ _) rfl 43 (by decide) kX6_307 rfl dX6_area_138 ?_
              refine fj_i2l C dX6_area_141 ?_
              refine fj_lstore (lv' := [(9, .long ((u4 14).toInt64)), (7, .long ((u4 13).toInt64)), (4, .long ((((0 + ((((u0 13).toInt64) * y1.toInt64) - (x1.toInt64 * ((u0 14).toInt64)))) + ((x1.toInt64 * ((u2 14).toInt64)) - (((u2 13).toInt64) * y1.toInt64))) + ((((u2 13).toInt64) * ((u3 14).toInt64)) - (((u3 13).toInt64) * ((u2 14).toInt64)))) + ((((u3 13).toInt64) * ((u4 14).toInt64)) - (((u4 13).toInt64) * ((u3 14).toInt64))))), (6, .int 0), (11, .int 3), (3, .int (nI (k / 8))), (2, .int (nI (k % 8))), (0, .ref (bd 0)), (1, .int (nI k))]) C dX6_area_142 (by decide) rfl ?_
              refine fj_iinc (v := 4) (lv' := [(11, .int 4), (9, .long ((u4 14).toInt64)), (7, .long ((u4 13).toInt64)), (4, .long ((((0 + ((((u0 13).toInt64) * y1.toInt64) - (x1.toInt64 * ((u0 14).toInt64)))) + ((x1.toInt64 * ((u2 14).toInt64)) - (((u2 13).toInt64) * y1.toInt64))) + ((((u2 13).toInt64) * ((u3 14).toInt64)) - (((u3 13).toInt64) * ((u2 14).toInt64)))) + ((((u3 13).toInt64) * ((u4 14).toInt64)) - (((u4 13).toInt64) * ((u3 14).toInt64))))), (6, .int 0), (3, .int (nI (k / 8))), (2, .int (nI (k % 8))), (0, .ref (bd 0)), (1, .int (nI k))]) C 4 dX6_area_144 rfl (by decide) (by decide) rfl ?_
              refine fj_goto (tgt := 51) C dX6_area_147 (by decide) ?_
              refine fj_iload C 0 dX6_area_51 rfl ?_
              refine fj_iconst (v := 4) C dX6_area_53 (by decide) ?_
              refine fj_icmp_ge (tgt := 150) C dX6_area_54 (by decide) (fun _ => ?_) (fun h => absurd (by decide) h)
              refine fj_iload C 4 dX6_area_150 rfl ?_
              refine fj_if_eq (tgt := 160) C dX6_area_152 (by decide) (fun _ => ?_) (fun h => absurd (by decide) h)
              refine fj_ldc2 (v := (-1003)) C dX6_area_160 kL321 ?_
              exact fj_lret C E9 dX6_area_163 (Or.inr ⟨k, hk, rfl, u4, (fun j hj => (hu4 j hj).trans ((hu3 j hj).trans ((hu2 j hj).trans ((hu1 j hj).trans (hu0 j hj))))), rfl, Or.inr ⟨(Or.inr (Or.inr (Or.inr (L0)))), rfl⟩⟩)
      · refine fj_st (st' := .int 0 :: []) rfl ?_
        refine fj_if_eq (tgt := 105) C dX6_area_93 (by decide) (fun _ => ?_) (fun h => absurd (by decide) h)
        refine fj_iconst (v := 0) C dX6_area_105 (by decide) ?_
        refine fj_istore (lv' := [(6, .int 0), (11, .int 0), (9, .long ((u0 14).toInt64)), (7, .long ((u0 13).toInt64)), (4, .long 0), (3, .int (nI (k / 8))), (2, .int (nI (k % 8))), (0, .ref (bd 0)), (1, .int (nI k))]) C dX6_area_106 (by decide) rfl ?_
        refine fj_lload C 4 dX6_area_108 rfl ?_
        refine fj_lload C 3 dX6_area_110 rfl ?_
        refine fj_aload_n C 7 dX6_area_112 rfl rfl ?_
        refine fj_get (Cn := RX6) (T := TX6) (N := 44) (ci := 6) (v := .int (u1 14)) C iX6 0 (fm_at0 _ _ _ _ _) rfl 43 (by decide) kX6_307 rfl dX6_area_113 ?_
        refine fj_i2l C dX6_area_116 ?_
        refine fj_lmul C dX6_area_117 ?_
        refine fj_aload_n C 7 dX6_area_118 rfl rfl ?_
        refine fj_get (Cn := RX6) (T := TX6) (N := 44) (ci := 6) (v := .int (u1 13)) C iX6 0 (fm_at0 _ _ _ _ _) rfl 42 (by decide) kX6_304 rfl dX6_area_119 ?_
        refine fj_i2l C dX6_area_122 ?_
        refine fj_lload C 2 dX6_area_123 rfl ?_
        refine fj_lmul C dX6_area_125 ?_
        refine fj_lsub C dX6_area_126 ?_
        refine fj_ladd C dX6_area_127 ?_
        refine fj_lstore (lv' := [(4, .long (0 + ((((u0 13).toInt64) * ((u1 14).toInt64)) - (((u1 13).toInt64) * ((u0 14).toInt64))))), (6, .int 0), (11, .int 0), (9, .long ((u0 14).toInt64)), (7, .long ((u0 13).toInt64)), (3, .int (nI (k / 8))), (2, .int (nI (k % 8))), (0, .ref (bd 0)), (1, .int (nI k))]) C dX6_area_128 (by decide) rfl ?_
        refine fj_aload_n C 7 dX6_area_130 rfl rfl ?_
        refine fj_get (Cn := RX6) (T := TX6) (N := 44) (ci := 6) (v := .int (u1 13)) C iX6 0 (fm_at0 _ _ _ _ _) rfl 42 (by decide) kX6_304 rfl dX6_area_131 ?_
        refine fj_i2l C dX6_area_134 ?_
        refine fj_lstore (lv' := [(7, .long ((u1 13).toInt64)), (4, .long (0 + ((((u0 13).toInt64) * ((u1 14).toInt64)) - (((u1 13).toInt64) * ((u0 14).toInt64))))), (6, .int 0), (11, .int 0), (9, .long ((u0 14).toInt64)), (3, .int (nI (k / 8))), (2, .int (nI (k % 8))), (0, .ref (bd 0)), (1, .int (nI k))]) C dX6_area_135 (by decide) rfl ?_
        refine fj_aload_n C 7 dX6_area_137 rfl rfl ?_
        refine fj_get (Cn := RX6) (T := TX6) (N := 44) (ci := 6) (v := .int (u1 14)) C iX6 0 (fm_at0 _ _ _ _ _) rfl 43 (by decide) kX6_307 rfl dX6_area_138 ?_
        refine fj_i2l C dX6_area_141 ?_
        refine fj_lstore (lv' := [(9, .long ((u1 14).toInt64)), (7, .long ((u1 13).toInt64)), (4, .long (0 + ((((u0 13).toInt64) * ((u1 14).toInt64)) - (((u1 13).toInt64) * ((u0 14).toInt64))))), (6, .int 0), (11, .int 0), (3, .int (nI (k / 8))), (2, .int (nI (k % 8))), (0, .ref (bd 0)), (1, .int (nI k))]) C dX6_area_142 (by decide) rfl ?_
        refine fj_iinc (v := 1) (lv' := [(11, .int 1), (9, .long ((u1 14).toInt64)), (7, .long ((u1 13).toInt64)), (4, .long (0 + ((((u0 13).toInt64) * ((u1 14).toInt64)) - (((u1 13).toInt64) * ((u0 14).toInt64))))), (6, .int 0), (3, .int (nI (k / 8))), (2, .int (nI (k % 8))), (0, .ref (bd 0)), (1, .int (nI k))]) C 4 dX6_area_144 rfl (by decide) (by decide) rfl ?_
        refine fj_goto (tgt := 51) C dX6_area_147 (by decide) ?_
        refine fj_iload C 0 dX6_area_51 rfl ?_
        refine fj_iconst (v := 4) C dX6_area_53 (by decide) ?_
        refine fj_icmp_ge (tgt := 150) C dX6_area_54 (by decide) (fun h => absurd h (by decide)) (fun _ => ?_)
        refine fj_aload_n C 7 dX6_area_57 rfl rfl ?_
        refine fj_iload C 0 dX6_area_58 rfl ?_
        refine fj_iconst (v := 1) C dX6_area_60 (by decide) ?_
        refine fj_icmp_eq (tgt := 70) C dX6_area_61 (by decide) (fun _ => ?_) (fun h => absurd (by decide) h)
        refine fj_iload_n C 6 dX6_area_70 rfl rfl ?_
        refine fj_iconst (v := 1) C dX6_area_71 (by decide) ?_
        refine fj_iadd C dX6_area_72 ?_
        refine fj_at (y := nI (k % 8 + 1)) (nI_1 _) ?_
        refine fj_goto (tgt := 77) C dX6_area_73 (by decide) ?_
        refine fj_iload C 0 dX6_area_77 rfl ?_
        refine fj_iconst (v := 1) C dX6_area_79 (by decide) ?_
        refine fj_icmp_le (tgt := 89) C dX6_area_80 (by decide) (fun _ => ?_) (fun h => absurd (by decide) h)
        refine fj_iload_n C 5 dX6_area_89 rfl rfl ?_
        refine fj_callVw (As := [.int (nI (k % 8 + 1)), .int (nI (k / 8))]) (rest := []) C (d_X6_findPlace l D ty t0 bd a g u1 (nI (k % 8 + 1)) (nI (k / 8)) (k % 8 + 1) (k / 8) rfl rfl (by omega) (by omega)) (cwV 2 C.2.2.2.2.1 gX6_area_X6_findPlace rfl rfl rfl (by decide +kernel) ⟨Nat.le_of_ble_eq_true rfl, Nat.le_of_ble_eq_true rfl⟩) ⟨0, 6, _, _, fm_at0 _ _ _ _ _, rfl, rfl⟩ rfl (Nat.le_of_ble_eq_true rfl) dX6_area_90 ⟨Nat.zero_le _, Nat.zero_le _⟩ (fun v9 w9 hp9 => ?_)
        rcases hp9 with ⟨x2, y2, L2, u2, hu2, ex2, ey2, rfl, rfl⟩ | ⟨L2, u2, hu2, rfl, rfl⟩
        · refine fj_st (st' := .int 1 :: []) rfl ?_
          refine fj_if_eq (tgt := 105) C dX6_area_93 (by decide) (fun h => absurd h (by decide)) (fun _ => ?_)
          refine fj_iload C 4 dX6_area_96 rfl ?_
          refine fj_if_eq (tgt := 105) C dX6_area_98 (by decide) (fun _ => ?_) (fun h => absurd (by decide) h)
          refine fj_iconst (v := 0) C dX6_area_105 (by decide) ?_
          refine fj_istore (lv' := [(6, .int 0), (11, .int 1), (9, .long ((u1 14).toInt64)), (7, .long ((u1 13).toInt64)), (4, .long (0 + ((((u0 13).toInt64) * ((u1 14).toInt64)) - (((u1 13).toInt64) * ((u0 14).toInt64))))), (3, .int (nI (k / 8))), (2, .int (nI (k % 8))), (0, .ref (bd 0)), (1, .int (nI k))]) C dX6_area_106 (by decide) rfl ?_
          refine fj_lload C 4 dX6_area_108 rfl ?_
          refine fj_lload C 3 dX6_area_110 rfl ?_
          refine fj_aload_n C 7 dX6_area_112 rfl rfl ?_
          refine fj_get (Cn := RX6) (T := TX6) (N := 44) (ci := 6) (v := .int (u2 14)) C iX6 0 (fm_at0 _ _ _ _ _) rfl 43 (by decide) kX6_307 rfl dX6_area_113 ?_
          refine fj_at (y := y2) ey2 ?_
          refine fj_i2l C dX6_area_116 ?_
          refine fj_lmul C dX6_area_117 ?_
          refine fj_aload_n C 7 dX6_area_118 rfl rfl ?_
          refine fj_get (Cn := RX6) (T := TX6) (N := 44) (ci := 6) (v := .int (u2 13)) C iX6 0 (fm_at0 _ _ _ _ _) rfl 42 (by decide) kX6_304 rfl dX6_area_119 ?_
          refine fj_at (y := x2) ex2 ?_
          refine fj_i2l C dX6_area_122 ?_
          refine fj_lload C 2 dX6_area_123 rfl ?_
          refine fj_lmul C dX6_area_125 ?_
          refine fj_lsub C dX6_area_126 ?_
          refine fj_ladd C dX6_area_127 ?_
          refine fj_lstore (lv' := [(4, .long ((0 + ((((u0 13).toInt64) * ((u1 14).toInt64)) - (((u1 13).toInt64) * ((u0 14).toInt64)))) + ((((u1 13).toInt64) * y2.toInt64) - (x2.toInt64 * ((u1 14).toInt64))))), (6, .int 0), (11, .int 1), (9, .long ((u1 14).toInt64)), (7, .long ((u1 13).toInt64)), (3, .int (nI (k / 8))), (2, .int (nI (k % 8))), (0, .ref (bd 0)), (1, .int (nI k))]) C dX6_area_128 (by decide) rfl ?_
          refine fj_aload_n C 7 dX6_area_130 rfl rfl ?_
          refine fj_get (Cn := RX6) (T := TX6) (N := 44) (ci := 6) (v := .int (u2 13)) C iX6 0 (fm_at0 _ _ _ _ _) rfl 42 (by decide) kX6_304 rfl dX6_area_131 ?_
          refine fj_at (y := x2) ex2 ?_
          refine fj_i2l C dX6_area_134 ?_
          refine fj_lstore (lv' := [(7, .long x2.toInt64), (4, .long ((0 + ((((u0 13).toInt64) * ((u1 14).toInt64)) - (((u1 13).toInt64) * ((u0 14).toInt64)))) + ((((u1 13).toInt64) * y2.toInt64) - (x2.toInt64 * ((u1 14).toInt64))))), (6, .int 0), (11, .int 1), (9, .long ((u1 14).toInt64)), (3, .int (nI (k / 8))), (2, .int (nI (k % 8))), (0, .ref (bd 0)), (1, .int (nI k))]) C dX6_area_135 (by decide) rfl ?_
          refine fj_aload_n C 7 dX6_area_137 rfl rfl ?_
          refine fj_get (Cn := RX6) (T := TX6) (N := 44) (ci := 6) (v := .int (u2 14)) C iX6 0 (fm_at0 _ _ _ _ _) rfl 43 (by decide) kX6_307 rfl dX6_area_138 ?_
          refine fj_at (y := y2) ey2 ?_
          refine fj_i2l C dX6_area_141 ?_
          refine fj_lstore (lv' := [(9, .long y2.toInt64), (7, .long x2.toInt64), (4, .long ((0 + ((((u0 13).toInt64) * ((u1 14).toInt64)) - (((u1 13).toInt64) * ((u0 14).toInt64)))) + ((((u1 13).toInt64) * y2.toInt64) - (x2.toInt64 * ((u1 14).toInt64))))), (6, .int 0), (11, .int 1), (3, .int (nI (k / 8))), (2, .int (nI (k % 8))), (0, .ref (bd 0)), (1, .int (nI k))]) C dX6_area_142 (by decide) rfl ?_
          refine fj_iinc (v := 2) (lv' := [(11, .int 2), (9, .long y2.toInt64), (7, .long x2.toInt64), (4, .long ((0 + ((((u0 13).toInt64) * ((u1 14).toInt64)) - (((u1 13).toInt64) * ((u0 14).toInt64)))) + ((((u1 13).toInt64) * y2.toInt64) - (x2.toInt64 * ((u1 14).toInt64))))), (6, .int 0), (3, .int (nI (k / 8))), (2, .int (nI (k % 8))), (0, .ref (bd 0)), (1, .int (nI k))]) C 4 dX6_area_144 rfl (by decide) (by decide) rfl ?_
          refine fj_goto (tgt := 51) C dX6_area_147 (by decide) ?_
          refine fj_iload C 0 dX6_area_51 rfl ?_
          refine fj_iconst (v := 4) C dX6_area_53 (by decide) ?_
          refine fj_icmp_ge (tgt := 150) C dX6_area_54 (by decide) (fun h => absurd h (by decide)) (fun _ => ?_)
          refine fj_aload_n C 7 dX6_area_57 rfl rfl ?_
          refine fj_iload C 0 dX6_area_58 rfl ?_
          refine fj_iconst (v := 1) C dX6_area_60 (by decide) ?_
          refine fj_icmp_eq (tgt := 70) C dX6_area_61 (by decide) (fun h => absurd h (by decide)) (fun _ => ?_)
          refine fj_iload C 0 dX6_area_64 rfl ?_
          refine fj_iconst (v := 2) C dX6_area_66 (by decide) ?_
          refine fj_icmp_ne (tgt := 76) C dX6_area_67 (by decide) (fun h => absurd (by decide) h) (fun _ => ?_)
          refine fj_iload_n C 6 dX6_area_70 rfl rfl ?_
          refine fj_iconst (v := 1) C dX6_area_71 (by decide) ?_
          refine fj_iadd C dX6_area_72 ?_
          refine fj_at (y := nI (k % 8 + 1)) (nI_1 _) ?_
          refine fj_goto (tgt := 77) C dX6_area_73 (by decide) ?_
          refine fj_iload C 0 dX6_area_77 rfl ?_
          refine fj_iconst (v := 1) C dX6_area_79 (by decide) ?_
          refine fj_icmp_le (tgt := 89) C dX6_area_80 (by decide) (fun h => absurd h (by decide)) (fun _ => ?_)
          refine fj_iload_n C 5 dX6_area_83 rfl rfl ?_
          refine fj_iconst (v := 1) C dX6_area_84 (by decide) ?_
          refine fj_iadd C dX6_area_85 ?_
          refine fj_at (y := nI (k / 8 + 1)) (nI_1 _) ?_
          refine fj_goto (tgt := 90) C dX6_area_86 (by decide) ?_
          refine fj_callVw (As := [.int (nI (k % 8 + 1)), .int (nI (k / 8 + 1))]) (rest := []) C (d_X6_findPlace l D ty t0 bd a g u2 (nI (k % 8 + 1)) (nI (k / 8 + 1)) (k % 8 + 1) (k / 8 + 1) rfl rfl (by omega) (by omega)) (cwV 2 C.2.2.2.2.1 gX6_area_X6_findPlace rfl rfl rfl (by decide +kernel) ⟨Nat.le_of_ble_eq_true rfl, Nat.le_of_ble_eq_true rfl⟩) ⟨0, 6, _, _, fm_at0 _ _ _ _ _, rfl, rfl⟩ rfl (Nat.le_of_ble_eq_true rfl) dX6_area_90 ⟨Nat.zero_le _, Nat.zero_le _⟩ (fun v9 w9 hp9 => ?_)
          rcases hp9 with ⟨x3, y3, L3, u3, hu3, ex3, ey3, rfl, rfl⟩ | ⟨L3, u3, hu3, rfl, rfl⟩
          · refine fj_st (st' := .int 1 :: []) rfl ?_
            refine fj_if_eq (tgt := 105) C dX6_area_93 (by decide) (fun h => absurd h (by decide)) (fun _ => ?_)
            refine fj_iload C 4 dX6_area_96 rfl ?_
            refine fj_if_eq (tgt := 105) C dX6_area_98 (by decide) (fun _ => ?_) (fun h => absurd (by decide) h)
            refine fj_iconst (v := 0) C dX6_area_105 (by decide) ?_
            refine fj_istore (lv' := [(6, .int 0), (11, .int 2), (9, .long y2.toInt64), (7, .long x2.toInt64), (4, .long ((0 + ((((u0 13).toInt64) * ((u1 14).toInt64)) - (((u1 13).toInt64) * ((u0 14).toInt64)))) + ((((u1 13).toInt64) * y2.toInt64) - (x2.toInt64 * ((u1 14).toInt64))))), (3, .int (nI (k / 8))), (2, .int (nI (k % 8))), (0, .ref (bd 0)), (1, .int (nI k))]) C dX6_area_106 (by decide) rfl ?_
            refine fj_lload C 4 dX6_area_108 rfl ?_
            refine fj_lload C 3 dX6_area_110 rfl ?_
            refine fj_aload_n C 7 dX6_area_112 rfl rfl ?_
            refine fj_get (Cn := RX6) (T := TX6) (N := 44) (ci := 6) (v := .int (u3 14)) C iX6 0 (fm_at0 _ _ _ _ _) rfl 43 (by decide) kX6_307 rfl dX6_area_113 ?_
            refine fj_at (y := y3) ey3 ?_
            refine fj_i2l C dX6_area_116 ?_
            refine fj_lmul C dX6_area_117 ?_
            refine fj_aload_n C 7 dX6_area_118 rfl rfl ?_
            refine fj_get (Cn := RX6) (T := TX6) (N := 44) (ci := 6) (v := .int (u3 13)) C iX6 0 (fm_at0 _ _ _ _ _) rfl 42 (by decide) kX6_304 rfl dX6_area_119 ?_
            refine fj_at (y := x3) ex3 ?_
            refine fj_i2l C dX6_area_122 ?_
            refine fj_lload C 2 dX6_area_123 rfl ?_
            refine fj_lmul C dX6_area_125 ?_
            refine fj_lsub C dX6_area_126 ?_
            refine fj_ladd C dX6_area_127 ?_
            refine fj_lstore (lv' := [(4, .long (((0 + ((((u0 13).toInt64) * ((u1 14).toInt64)) - (((u1 13).toInt64) * ((u0 14).toInt64)))) + ((((u1 13).toInt64) * y2.toInt64) - (x2.toInt64 * ((u1 14).toInt64)))) + ((x2.toInt64 * y3.toInt64) - (x3.toInt64 * y2.toInt64)))), (6, .int 0), (11, .int 2), (9, .long y2.toInt64), (7, .long x2.toInt64), (3, .int (nI (k / 8))), (2, .int (nI (k % 8))), (0, .ref (bd 0)), (1, .int (nI k))]) C dX6_area_128 (by decide) rfl ?_
            refine fj_aload_n C 7 dX6_area_130 rfl rfl ?_
            refine fj_get (Cn := RX6) (T := TX6) (N := 44) (ci := 6) (v := .int (u3 13)) C iX6 0 (fm_at0 _ _ _ _ _) rfl 42 (by decide) kX6_304 rfl dX6_area_131 ?_
            refine fj_at (y := x3) ex3 ?_
            refine fj_i2l C dX6_area_134 ?_
            refine fj_lstore (lv' := [(7, .long x3.toInt64), (4, .long (((0 + ((((u0 13).toInt64) * ((u1 14).toInt64)) - (((u1 13).toInt64) * ((u0 14).toInt64)))) + ((((u1 13).toInt64) * y2.toInt64) - (x2.toInt64 * ((u1 14).toInt64)))) + ((x2.toInt64 * y3.toInt64) - (x3.toInt64 * y2.toInt64)))), (6, .int 0), (11, .int 2), (9, .long y2.toInt64), (3, .int (nI (k / 8))), (2, .int (nI (k % 8))), (0, .ref (bd 0)), (1, .int (nI k))]) C dX6_area_135 (by decide) rfl ?_
            refine fj_aload_n C 7 dX6_area_137 rfl rfl ?_
            refine fj_get (Cn := RX6) (T := TX6) (N := 44) (ci := 6) (v := .int (u3 14)) C iX6 0 (fm_at0 _ _ _ _ _) rfl 43 (by decide) kX6_307 rfl dX6_area_138 ?_
            refine fj_at (y := y3) ey3 ?_
            refine fj_i2l C dX6_area_141 ?_
            refine fj_lstore (lv' := [(9, .long y3.toInt64), (7, .long x3.toInt64), (4, .long (((0 + ((((u0 13).toInt64) * ((u1 14).toInt64)) - (((u1 13).toInt64) * ((u0 14).toInt64)))) + ((((u1 13).toInt64) * y2.toInt64) - (x2.toInt64 * ((u1 14).toInt64)))) + ((x2.toInt64 * y3.toInt64) - (x3.toInt64 * y2.toInt64)))), (6, .int 0), (11, .int 2), (3, .int (nI (k / 8))), (2, .int (nI (k % 8))), (0, .ref (bd 0)), (1, .int (nI k))]) C dX6_area_142 (by decide) rfl ?_
            refine fj_iinc (v := 3) (lv' := [(11, .int 3), (9, .long y3.toInt64), (7, .long x3.toInt64), (4, .long (((0 + ((((u0 13).toInt64) * ((u1 14).toInt64)) - (((u1 13).toInt64) * ((u0 14).toInt64)))) + ((((u1 13).toInt64) * y2.toInt64) - (x2.toInt64 * ((u1 14).toInt64)))) + ((x2.toInt64 * y3.toInt64) - (x3.toInt64 * y2.toInt64)))), (6, .int 0), (3, .int (nI (k / 8))), (2, .int (nI (k % 8))), (0, .ref (bd 0)), (1, .int (nI k))]) C 4 dX6_area_144 rfl (by decide) (by decide) rfl ?_
            refine fj_goto (tgt := 51) C dX6_area_147 (by decide) ?_
            refine fj_iload C 0 dX6_area_51 rfl ?_
            refine fj_iconst (v := 4) C dX6_area_53 (by decide) ?_
            refine fj_icmp_ge (tgt := 150) C dX6_area_54 (by decide) (fun h => absurd h (by decide)) (fun _ => ?_)
            refine fj_aload_n C 7 dX6_area_57 rfl rfl ?_
            refine fj_iload C 0 dX6_area_58 rfl ?_
            refine fj_iconst (v := 1) C dX6_area_60 (by decide) ?_
            refine fj_icmp_eq (tgt := 70) C dX6_area_61 (by decide) (fun h => absurd h (by decide)) (fun _ => ?_)
            refine fj_iload C 0 dX6_area_64 rfl ?_
            refine fj_iconst (v := 2) C dX6_area_66 (by decide) ?_
            refine fj_icmp_ne (tgt := 76) C dX6_area_67 (by decide) (fun _ => ?_) (fun h => absurd h (by decide))
            refine fj_iload_n C 6 dX6_area_76 rfl rfl ?_
            refine fj_iload C 0 dX6_area_77 rfl ?_
            refine fj_iconst (v := 1) C dX6_area_79 (by decide) ?_
            refine fj_icmp_le (tgt := 89) C dX6_area_80 (by decide) (fun h => absurd h (by decide)) (fun _ => ?_)
            refine fj_iload_n C 5 dX6_area_83 rfl rfl ?_
            refine fj_iconst (v := 1) C dX6_area_84 (by decide) ?_
            refine fj_iadd C dX6_area_85 ?_
            refine fj_at (y := nI (k / 8 + 1)) (nI_1 _) ?_
            refine fj_goto (tgt := 90) C dX6_area_86 (by decide) ?_
            refine fj_callVw (As := [.int (nI (k % 8)), .int (nI (k / 8 + 1))]) (rest := []) C (d_X6_findPlace l D ty t0 bd a g u3 (nI (k % 8)) (nI (k / 8 + 1)) (k % 8) (k / 8 + 1) rfl rfl (by omega) (by omega)) (cwV 2 C.2.2.2.2.1 gX6_area_X6_findPlace rfl rfl rfl (by decide +kernel) ⟨Nat.le_of_ble_eq_true rfl, Nat.le_of_ble_eq_true rfl⟩) ⟨0, 6, _, _, fm_at0 _ _ _ _ _, rfl, rfl⟩ rfl (Nat.le_of_ble_eq_true rfl) dX6_area_90 ⟨Nat.zero_le _, Nat.zero_le _⟩ (fun v9 w9 hp9 => ?_)
            rcases hp9 with ⟨x4, y4, L4, u4, hu4, ex4, ey4, rfl, rfl⟩ | ⟨L4, u4, hu4, rfl, rfl⟩
            · refine fj_st (st' := .int 1 :: []) rfl ?_
              refine fj_if_eq (tgt := 105) C dX6_area_93 (by decide) (fun h => absurd h (by decide)) (fun _ => ?_)
              refine fj_iload C 4 dX6_area_96 rfl ?_
              refine fj_if_eq (tgt := 105) C dX6_area_98 (by decide) (fun _ => ?_) (fun h => absurd (by decide) h)
              refine fj_iconst (v := 0) C dX6_area_105 (by decide) ?_
              refine fj_istore (lv' := [(6, .int 0), (11, .int 3), (9, .long y3.toInt64), (7, .long x3.toInt64), (4, .long (((0 + ((((u0 13).toInt64) * ((u1 14).toInt64)) - (((u1 13).toInt64) * ((u0 14).toInt64)))) + ((((u1 13).toInt64) * y2.toInt64) - (x2.toInt64 * ((u1 14).toInt64)))) + ((x2.toInt64 * y3.toInt64) - (x3.toInt64 * y2.toInt64)))), (3, .int (nI (k / 8))), (2, .int (nI (k % 8))), (0, .ref (bd 0)), (1, .int (nI k))]) C dX6_area_106 (by decide) rfl ?_
              refine fj_lload C 4 dX6_area_108 rfl ?_
              refine fj_lload C 3 dX6_area_110 rfl ?_
              refine fj_aload_n C 7 dX6_area_112 rfl rfl ?_
              refine fj_get (Cn := RX6) (T := TX6) (N := 44) (ci := 6) (v := .int (u4 14)) C iX6 0 (fm_at0 _ _ _ _ _) rfl 43 (by decide) kX6_307 rfl dX6_area_113 ?_
              refine fj_at (y := y4) ey4 ?_
              refine fj_i2l C dX6_area_116 ?_
              refine fj_lmul C dX6_area_117 ?_
              refine fj_aload_n C 7 dX6_area_118 rfl rfl ?_
              refine fj_get (Cn := RX6) (T := TX6) (N := 44) (ci := 6) (v := .int (u4 13)) C iX6 0 (fm_at0 _ _ _ _ _) rfl 42 (by decide) kX6_304 rfl dX6_area_119 ?_
              refine fj_at (y := x4) ex4 ?_
              refine fj_i2l C dX6_area_122 ?_
              refine fj_lload C 2 dX6_area_123 rfl ?_
              refine fj_lmul C dX6_area_125 ?_
              refine fj_lsub C dX6_area_126 ?_
              refine fj_ladd C dX6_area_127 ?_
              refine fj_lstore (lv' := [(4, .long ((((0 + ((((u0 13).toInt64) * ((u1 14).toInt64)) - (((u1 13).toInt64) * ((u0 14).toInt64)))) + ((((u1 13).toInt64) * y2.toInt64) - (x2.toInt64 * ((u1 14).toInt64)))) + ((x2.toInt64 * y3.toInt64) - (x3.toInt64 * y2.toInt64))) + ((x3.toInt64 * y4.toInt64) - (x4.toInt64 * y3.toInt64)))), (6, .int 0), (11, .int 3), (9, .long y3.toInt64), (7, .long x3.toInt64), (3, .int (nI (k / 8))), (2, .int (nI (k % 8))), (0, .ref (bd 0)), (1, .int (nI k))]) C dX6_area_128 (by decide) rfl ?_
              refine fj_aload_n C 7 dX6_area_130 rfl rfl ?_
              refine fj_get (Cn := RX6) (T := TX6) (N := 44) (ci := 6) (v := .int (u4 13)) C iX6 0 (fm_at0 _ _ _ _ _) rfl 42 (by decide) kX6_304 rfl dX6_area_131 ?_
              refine fj_at (y := x4) ex4 ?_
              refine fj_i2l C dX6_area_134 ?_
              refine fj_lstore (lv' := [(7, .long x4.toInt64), (4, .long ((((0 + ((((u0 13).toInt64) * ((u1 14).toInt64)) - (((u1 13).toInt64) * ((u0 14).toInt64)))) + ((((u1 13).toInt64) * y2.toInt64) - (x2.toInt64 * ((u1 14).toInt64)))) + ((x2.toInt64 * y3.toInt64) - (x3.toInt64 * y2.toInt64))) + ((x3.toInt64 * y4.toInt64) - (x4.toInt64 * y3.toInt64)))), (6, .int 0), (11, .int 3), (9, .long y3.toInt64), (3, .int (nI (k / 8))), (2, .int (nI (k % 8))), (0, .ref (bd 0)), (1, .int (nI k))]) C dX6_area_135 (by decide) rfl ?_
              refine fj_aload_n C 7 dX6_area_137 rfl rfl ?_
              refine fj_get (Cn := RX6) (T := TX6) (N := 44) (ci := 6) (v := .int (u4 14)) C iX6 0 (fm_at0 _ _ _ _ _) rfl 43 (by decide) kX6_307 rfl dX6_area_138 ?_
              refine fj_at (y := y4) ey4 ?_
              refine fj_i2l C dX6_area_141 ?_
              refine fj_lstore (lv' := [(9, .long y4.toInt64), (7, .long x4.toInt64), (4, .long ((((0 + ((((u0 13).toInt64) * ((u1 14).toInt64)) - (((u1 13).toInt64) * ((u0 14).toInt64)))) + ((((u1 13).toInt64) * y2.toInt64) - (x2.toInt64 * ((u1 14).toInt64)))) + ((x2.toInt64 * y3.toInt64) - (x3.toInt64 * y2.toInt64))) + ((x3.toInt64 * y4.toInt64) - (x4.toInt64 * y3.toInt64)))), (6, .int 0), (11, .int 3), (3, .int (nI (k / 8))), (2, .int (nI (k % 8))), (0, .ref (bd 0)), (1, .int (nI k))]) C dX6_area_142 (by decide) rfl ?_
              refine fj_iinc (v := 4) (lv' := [(11, .int 4), (9, .long y4.toInt64), (7, .long x4.toInt64), (4, .long ((((0 + ((((u0 13).toInt64) * ((u1 14).toInt64)) - (((u1 13).toInt64) * ((u0 14).toInt64)))) + ((((u1 13).toInt64) * y2.toInt64) - (x2.toInt64 * ((u1 14).toInt64)))) + ((x2.toInt64 * y3.toInt64) - (x3.toInt64 * y2.toInt64))) + ((x3.toInt64 * y4.toInt64) - (x4.toInt64 * y3.toInt64)))), (6, .int 0), (3, .int (nI (k / 8))), (2, .int (nI (k % 8))), (0, .ref (bd 0)), (1, .int (nI k))]) C 4 dX6_area_144 rfl (by decide) (by decide) rfl ?_
              refine fj_goto (tgt := 51) C dX6_area_147 (by decide) ?_
              refine fj_iload C 0 dX6_area_51 rfl ?_
              refine fj_iconst (v := 4) C dX6_area_53 (by decide) ?_
              refine fj_icmp_ge (tgt := 150) C dX6_area_54 (by decide) (fun _ => ?_) (fun h => absurd (by decide) h)
              refine fj_iload C 4 dX6_area_150 rfl ?_
              refine fj_if_eq (tgt := 160) C dX6_area_152 (by decide) (fun _ => ?_) (fun h => absurd (by decide) h)
              refine fj_ldc2 (v := (-1003)) C dX6_area_160 kL321 ?_
              exact fj_lret C E9 dX6_area_163 (Or.inr ⟨k, hk, rfl, u4, (fun j hj => (hu4 j hj).trans ((hu3 j hj).trans ((hu2 j hj).trans ((hu1 j hj).trans (hu0 j hj))))), rfl, Or.inr ⟨(Or.inr (Or.inr (Or.inr (L0)))), rfl⟩⟩)
            · refine fj_st (st' := .int 0 :: []) rfl ?_
              refine fj_if_eq (tgt := 105) C dX6_area_93 (by decide) (fun _ => ?_) (fun h => absurd (by decide) h)
              refine fj_iconst (v := 0) C dX6_area_105 (by decide) ?_
              refine fj_istore (lv' := [(6, .int 0), (11, .int 3), (9, .long y3.toInt64), (7, .long x3.toInt64), (4, .long (((0 + ((((u0 13).toInt64) * ((u1 14).toInt64)) - (((u1 13).toInt64) * ((u0 14).toInt64)))) + ((((u1 13).toInt64) * y2.toInt64) - (x2.toInt64 * ((u1 14).toInt64)))) + ((x2.toInt64 * y3.toInt64) - (x3.toInt64 * y2.toInt64)))), (3, .int (nI (k / 8))), (2, .int (nI (k % 8))), (0, .ref (bd 0)), (1, .int (nI k))]) C dX6_area_106 (by decide) rfl ?_
              refine fj_lload C 4 dX6_area_108 rfl ?_
              refine fj_lload C 3 dX6_area_110 rfl ?_
              refine fj_aload_n C 7 dX6_area_112 rfl rfl ?_
              refine fj_get (Cn := RX6) (T := TX6) (N := 44) (ci := 6) (v := .int (u4 14)) C iX6 0 (fm_at0 _ _ _ _ _) rfl 43 (by decide) kX6_307 rfl dX6_area_113 ?_
              refine fj_i2l C dX6_area_116 ?_
              refine fj_lmul C dX6_area_117 ?_
              refine fj_aload_n C 7 dX6_area_118 rfl rfl ?_
              refine fj_get (Cn := RX6) (T := TX6) (N := 44) (ci := 6) (v := .int (u4 13)) C iX6 0 (fm_at0 _ _ _ _ _) rfl 42 (by decide) kX6_304 rfl dX6_area_119 ?_
              refine fj_i2l C dX6_area_122 ?_
              refine fj_lload C 2 dX6_area_123 rfl ?_
              refine fj_lmul C dX6_area_125 ?_
              refine fj_lsub C dX6_area_126 ?_
              refine fj_ladd C dX6_area_127 ?_
              refine fj_lstore (lv' := [(4, .long ((((0 + ((((u0 13).toInt64) * ((u1 14).toInt64)) - (((u1 13).toInt64) * ((u0 14).toInt64)))) + ((((u1 13).toInt64) * y2.toInt64) - (x2.toInt64 * ((u1 14).toInt64)))) + ((x2.toInt64 * y3.toInt64) - (x3.toInt64 * y2.toInt64))) + ((x3.toInt64 * ((u4 14).toInt64)) - (((u4 13).toInt64) * y3.toInt64)))), (6, .int 0), (11, .int 3), (9, .long y3.toInt64), (7, .long x3.toInt64), (3, .int (nI (k / 8))), (2, .int (nI (k % 8))), (0, .ref (bd 0)), (1, .int (nI k))]) C dX6_area_128 (by decide) rfl ?_
              refine fj_aload_n C 7 dX6_area_130 rfl rfl ?_
              refine fj_get (Cn := RX6) (T := TX6) (N := 44) (ci := 6) (v := .int (u4 13)) C iX6 0 (fm_at0 _ _ _ _ _) rfl 42 (by decide) kX6_304 rfl dX6_area_131 ?_
              refine fj_i2l C dX6_area_134 ?_
              refine fj_lstore (lv' := [(7, .long ((u4 13).toInt64)), (4, .long ((((0 + ((((u0 13).toInt64) * ((u1 14).toInt64)) - (((u1 13).toInt64) * ((u0 14).toInt64)))) + ((((u1 13).toInt64) * y2.toInt64) - (x2.toInt64 * ((u1 14).toInt64)))) + ((x2.toInt64 * y3.toInt64) - (x3.toInt64 * y2.toInt64))) + ((x3.toInt64 * ((u4 14).toInt64)) - (((u4 13).toInt64) * y3.toInt64)))), (6, .int 0), (11, .int 3), (9, .long y3.toInt64), (3, .int (nI (k / 8))), (2, .int (nI (k % 8))), (0, .ref (bd 0)), (1, .int (nI k))]) C dX6_area_135 (by decide) rfl ?_
              refine fj_aload_n C 7 dX6_area_137 rfl rfl ?_
              refine fj_get (Cn := RX6) (T := TX6) (N := 44) (ci := 6) (v := .int (u4 14)) C iX6 0 (fm_at0 _ _ _ _ _) rfl 43 (by decide) kX6_307 rfl dX6_area_138 ?_
              refine fj_i2l C dX6_area_141 ?_
              refine fj_lstore (lv' := [(9, .long ((u4 14).toInt64)), (7, .long ((u4 13).toInt64)), (4, .long ((((0 + ((((u0 13).toInt64) * ((u1 14).toInt64)) - (((u1 13).toInt64) * ((u0 14).toInt64)))) + ((((u1 13).toInt64) * y2.toInt64) - (x2.toInt64 * ((u1 14).toInt64)))) + ((x2.toInt64 * y3.toInt64) - (x3.toInt64 * y2.toInt64))) + ((x3.toInt64 * ((u4 14).toInt64)) - (((u4 13).toInt64) * y3.toInt64)))), (6, .int 0), (11, .int 3), (3, .int (nI (k / 8))), (2, .int (nI (k % 8))), (0, .ref (bd 0)), (1, .int (nI k))]) C dX6_area_142 (by decide) rfl ?_
              refine fj_iinc (v := 4) (lv' := [(11, .int 4), (9, .long ((u4 14).toInt64)), (7, .long ((u4 13).toInt64)), (4, .long ((((0 + ((((u0 13).toInt64) * ((u1 14).toInt64)) - (((u1 13).toInt64) * ((u0 14).toInt64)))) + ((((u1 13).toInt64) * y2.toInt64) - (x2.toInt64 * ((u1 14).toInt64)))) + ((x2.toInt64 * y3.toInt64) - (x3.toInt64 * y2.toInt64))) + ((x3.toInt64 * ((u4 14).toInt64)) - (((u4 13).toInt64) * y3.toInt64)))), (6, .int 0), (3, .int (nI (k / 8))), (2, .int (nI (k % 8))), (0, .ref (bd 0)), (1, .int (nI k))]) C 4 dX6_area_144 rfl (by decide) (by decide) rfl ?_
              refine fj_goto (tgt := 51) C dX6_area_147 (by decide) ?_
              refine fj_iload C 0 dX6_area_51 rfl ?_
              refine fj_iconst (v := 4) C dX6_area_53 (by decide) ?_
              refine fj_icmp_ge (tgt := 150) C dX6_area_54 (by decide) (fun _ => ?_) (fun h => absurd (by decide) h)
              refine fj_iload C 4 dX6_area_150 rfl ?_
              refine fj_if_eq (tgt := 160) C dX6_area_152 (by decide) (fun _ => ?_) (fun h => absurd (by decide) h)
              refine fj_ldc2 (v := (-1003)) C dX6_area_160 kL321 ?_
              exact fj_lret C E9 dX6_area_163 (Or.inr ⟨k, hk, rfl, u4, (fun j hj => (hu4 j hj).trans ((hu3 j hj).trans ((hu2 j hj).trans ((hu1 j hj).trans (hu0 j hj))))), rfl, Or.inr ⟨(Or.inr (Or.inr (Or.inr (L0)))), rfl⟩⟩)
          · refine fj_st (st' := .int 0 :: []) rfl ?_
            refine fj_if_eq (tgt := 105) C dX6_area_93 (by decide) (fun _ => ?_) (fun h => absurd (by decide) h)
            refine fj_iconst (v := 0) C dX6_area_105 (by decide) ?_
            refine fj_istore (lv' := [(6, .int 0), (11, .int 2), (9, .long y2.toInt64), (7, .long x2.toInt64), (4, .long ((0 + ((((u0 13).toInt64) * ((u1 14).toInt64)) - (((u1 13).toInt64) * ((u0 14).toInt64)))) + ((((u1 13).toInt64) * y2.toInt64) - (x2.toInt64 * ((u1 14).toInt64))))), (3, .int (nI (k / 8))), (2, .int (nI (k % 8))), (0, .ref (bd 0)), (1, .int (nI k))]) C dX6_area_106 (by decide) rfl ?_
            refine fj_lload C 4 dX6_area_108 rfl ?_
            refine fj_lload C 3 dX6_area_110 rfl ?_
            refine fj_aload_n C 7 dX6_area_112 rfl rfl ?_
            refine fj_get (Cn := RX6) (T := TX6) (N := 44) (ci := 6) (v := .int (u3 14)) C iX6 0 (fm_at0 _ _ _ _ _) rfl 43 (by decide) kX6_307 rfl dX6_area_113 ?_
            refine fj_i2l C dX6_area_116 ?_
            refine fj_lmul C dX6_area_117 ?_
            refine fj_aload_n C 7 dX6_area_118 rfl rfl ?_
            refine fj_get (Cn := RX6) (T := TX6) (N := 44) (ci := 6) (v := .int (u3 13)) C iX6 0 (fm_at0 _ _ _ _ _) rfl 42 (by decide) kX6_304 rfl dX6_area_119 ?_
            refine fj_i2l C dX6_area_122 ?_
            refine fj_lload C 2 dX6_area_123 rfl ?_
            refine fj_lmul C dX6_area_125 ?_
            refine fj_lsub C dX6_area_126 ?_
            refine fj_ladd C dX6_area_127 ?_
            refine fj_lstore (lv' := [(4, .long (((0 + ((((u0 13).toInt64) * ((u1 14).toInt64)) - (((u1 13).toInt64) * ((u0 14).toInt64)))) + ((((u1 13).toInt64) * y2.toInt64) - (x2.toInt64 * ((u1 14).toInt64)))) + ((x2.toInt64 * ((u3 14).toInt64)) - (((u3 13).toInt64) * y2.toInt64)))), (6, .int 0), (11, .int 2), (9, .long y2.toInt64), (7, .long x2.toInt64), (3, .int (nI (k / 8))), (2, .int (nI (k % 8))), (0, .ref (bd 0)), (1, .int (nI k))]) C dX6_area_128 (by decide) rfl ?_
            refine fj_aload_n C 7 dX6_area_130 rfl rfl ?_
            refine fj_get (Cn := RX6) (T := TX6) (N := 44) (ci := 6) (v := .int (u3 13)) C iX6 0 (fm_at0 _ _ _ _ _) rfl 42 (by decide) kX6_304 rfl dX6_area_131 ?_
            refine fj_i2l C dX6_area_134 ?_
            refine fj_lstore (lv' := [(7, .long ((u3 13).toInt64)), (4, .long (((0 + ((((u0 13).toInt64) * ((u1 14).toInt64)) - (((u1 13).toInt64) * ((u0 14).toInt64)))) + ((((u1 13).toInt64) * y2.toInt64) - (x2.toInt64 * ((u1 14).toInt64)))) + ((x2.toInt64 * ((u3 14).toInt64)) - (((u3 13).toInt64) * y2.toInt64)))), (6, .int 0), (11, .int 2), (9, .long y2.toInt64), (3, .int (nI (k / 8))), (2, .int (nI (k % 8))), (0, .ref (bd 0)), (1, .int (nI k))]) C dX6_area_135 (by decide) rfl ?_
            refine fj_aload_n C 7 dX6_area_137 rfl rfl ?_
            refine fj_get (Cn := RX6) (T := TX6) (N := 44) (ci := 6) (v := .int (u3 14)) C iX6 0 (fm_at0 _ _ _ _ _) rfl 43 (by decide) kX6_307 rfl dX6_area_138 ?_
            refine fj_i2l C dX6_area_141 ?_
            refine fj_lstore (lv' := [(9, .long ((u3 14).toInt64)), (7, .long ((u3 13).toInt64)), (4, .long (((0 + ((((u0 13).toInt64) * ((u1 14).toInt64)) - (((u1 13).toInt64) * ((u0 14).toInt64)))) + ((((u1 13).toInt64) * y2.toInt64) - (x2.toInt64 * ((u1 14).toInt64)))) + ((x2.toInt64 * ((u3 14).toInt64)) - (((u3 13).toInt64) * y2.toInt64)))), (6, .int 0), (11, .int 2), (3, .int (nI (k / 8))), (2, .int (nI (k % 8))), (0, .ref (bd 0)), (1, .int (nI k))]) C dX6_area_142 (by decide) rfl ?_
            refine fj_iinc (v := 3) (lv' := [(11, .int 3), (9, .long ((u3 14).toInt64)), (7, .long ((u3 13).toInt64)), (4, .long (((0 + ((((u0 13).toInt64) * ((u1 14).toInt64)) - (((u1 13).toInt64) * ((u0 14).toInt64)))) + ((((u1 13).toInt64) * y2.toInt64) - (x2.toInt64 * ((u1 14).toInt64)))) + ((x2.toInt64 * ((u3 14).toInt64)) - (((u3 13).toInt64) * y2.toInt64)))), (6, .int 0), (3, .int (nI (k / 8))), (2, .int (nI (k % 8))), (0, .ref (bd 0)), (1, .int (nI k))]) C 4 dX6_area_144 rfl (by decide) (by decide) rfl ?_
            refine fj_goto (tgt := 51) C dX6_area_147 (by decide) ?_
            refine fj_iload C 0 dX6_area_51 rfl ?_
            refine fj_iconst (v := 4) C dX6_area_53 (by decide) ?_
            refine fj_icmp_ge (tgt := 150) C dX6_area_54 (by decide) (fun h => absurd h (by decide)) (fun _ => ?_)
            refine fj_aload_n C 7 dX6_area_57 rfl rfl ?_
            refine fj_iload C 0 dX6_area_58 rfl ?_
            refine fj_iconst (v := 1) C dX6_area_60 (by decide) ?_
            refine fj_icmp_eq (tgt := 70) C dX6_area_61 (by decide) (fun h => absurd h (by decide)) (fun _ => ?_)
            refine fj_iload C 0 dX6_area_64 rfl ?_
            refine fj_iconst (v := 2) C dX6_area_66 (by decide) ?_
            refine fj_icmp_ne (tgt := 76) C dX6_area_67 (by decide) (fun _ => ?_) (fun h => absurd h (by decide))
            refine fj_iload_n C 6 dX6_area_76 rfl rfl ?_
            refine fj_iload C 0 dX6_area_77 rfl ?_
            refine fj_iconst (v := 1) C dX6_area_79 (by decide) ?_
            refine fj_icmp_le (tgt := 89) C dX6_area_80 (by decide) (fun h => absurd h (by decide)) (fun _ => ?_)
            refine fj_iload_n C 5 dX6_area_83 rfl rfl ?_
            refine fj_iconst (v := 1) C dX6_area_84 (by decide) ?_
            refine fj_iadd C dX6_area_85 ?_
            refine fj_at (y := nI (k / 8 + 1)) (nI_1 _) ?_
            refine fj_goto (tgt := 90) C dX6_area_86 (by decide) ?_
            refine fj_callVw (As := [.int (nI (k % 8)), .int (nI (k / 8 + 1))]) (rest := []) C (d_X6_findPlace l D ty t0 bd a g u3 (nI (k % 8)) (nI (k / 8 + 1)) (k % 8) (k / 8 + 1) rfl rfl (by omega) (by omega)) (cwV 2 C.2.2.2.2.1 gX6_area_X6_findPlace rfl rfl rfl (by decide +kernel) ⟨Nat.le_of_ble_eq_true rfl, Nat.le_of_ble_eq_true rfl⟩) ⟨0, 6, _, _, fm_at0 _ _ _ _ _, rfl, rfl⟩ rfl (Nat.le_of_ble_eq_true rfl) dX6_area_90 ⟨Nat.zero_le _, Nat.zero_le _⟩ (fun v9 w9 hp9 => ?_)
            rcases hp9 with ⟨x4, y4, L4, u4, hu4, ex4, ey4, rfl, rfl⟩ | ⟨L4, u4, hu4, rfl, rfl⟩
            · refine fj_st (st' := .int 1 :: []) rfl ?_
              refine fj_if_eq (tgt := 105) C dX6_area_93 (by decide) (fun h => absurd h (by decide)) (fun _ => ?_)
              refine fj_iload C 4 dX6_area_96 rfl ?_
              refine fj_if_eq (tgt := 105) C dX6_area_98 (by decide) (fun _ => ?_) (fun h => absurd (by decide) h)
              refine fj_iconst (v := 0) C dX6_area_105 (by decide) ?_
              refine fj_istore (lv' := [(6, .int 0), (11, .int 3), (9, .long ((u3 14).toInt64)), (7, .long ((u3 13).toInt64)), (4, .long (((0 + ((((u0 13).toInt64) * ((u1 14).toInt64)) - (((u1 13).toInt64) * ((u0 14).toInt64)))) + ((((u1 13).toInt64) * y2.toInt64) - (x2.toInt64 * ((u1 14).toInt64)))) + ((x2.toInt64 * ((u3 14).toInt64)) - (((u3 13).toInt64) * y2.toInt64)))), (3, .int (nI (k / 8))), (2, .int (nI (k % 8))), (0, .ref (bd 0)), (1, .int (nI k))]) C dX6_area_106 (by decide) rfl ?_
              refine fj_lload C 4 dX6_area_108 rfl ?_
              refine fj_lload C 3 dX6_area_110 rfl ?_
              refine fj_aload_n C 7 dX6_area_112 rfl rfl ?_
              refine fj_get (Cn := RX6) (T := TX6) (N := 44) (ci := 6) (v := .int (u4 14)) C iX6 0 (fm_at0 _ _ _ _ _) rfl 43 (by decide) kX6_307 rfl dX6_area_113 ?_
              refine fj_at (y := y4) ey4 ?_
              refine fj_i2l C dX6_area_116 ?_
              refine fj_lmul C dX6_area_117 ?_
              refine fj_aload_n C 7 dX6_area_118 rfl rfl ?_
              refine fj_get (Cn := RX6) (T := TX6) (N := 44) (ci := 6) (v := .int (u4 13)) C iX6 0 (fm_at0 _ _ _ _ _) rfl 42 (by decide) kX6_304 rfl dX6_area_119 ?_
              refine fj_at (y := x4) ex4 ?_
              refine fj_i2l C dX6_area_122 ?_
              refine fj_lload C 2 dX6_area_123 rfl ?_
              refine fj_lmul C dX6_area_125 ?_
              refine fj_lsub C dX6_area_126 ?_
              refine fj_ladd C dX6_area_127 ?_
              refine fj_lstore (lv' := [(4, .long ((((0 + ((((u0 13).toInt64) * ((u1 14).toInt64)) - (((u1 13).toInt64) * ((u0 14).toInt64)))) + ((((u1 13).toInt64) * y2.toInt64) - (x2.toInt64 * ((u1 14).toInt64)))) + ((x2.toInt64 * ((u3 14).toInt64)) - (((u3 13).toInt64) * y2.toInt64))) + ((((u3 13).toInt64) * y4.toInt64) - (x4.toInt64 * ((u3 14).toInt64))))), (6, .int 0), (11, .int 3), (9, .long ((u3 14).toInt64)), (7, .long ((u3 13).toInt64)), (3, .int (nI (k / 8))), (2, .int (nI (k % 8))), (0, .ref (bd 0)), (1, .int (nI k))]) C dX6_area_128 (by decide) rfl ?_
              refine fj_aload_n C 7 dX6_area_130 rfl rfl ?_
              refine fj_get (Cn := RX6) (T := TX6) (N := 44) (ci := 6) (v := .int (u4 13)) C iX6 0 (fm_at0 _ _ _ _ _) rfl 42 (by decide) kX6_304 rfl dX6_area_131 ?_
              refine fj_at (y := x4) ex4 ?_
              refine fj_i2l C dX6_area_134 ?_
              refine fj_lstore (lv' := [(7, .long x4.toInt64), (4, .long ((((0 + ((((u0 13).toInt64) * ((u1 14).toInt64)) - (((u1 13).toInt64) * ((u0 14).toInt64)))) + ((((u1 13).toInt64) * y2.toInt64) - (x2.toInt64 * ((u1 14).toInt64)))) + ((x2.toInt64 * ((u3 14).toInt64)) - (((u3 13).toInt64) * y2.toInt64))) + ((((u3 13).toInt64) * y4.toInt64) - (x4.toInt64 * ((u3 14).toInt64))))), (6, .int 0), (11, .int 3), (9, .long ((u3 14).toInt64)), (3, .int (nI (k / 8))), (2, .int (nI (k % 8))), (0, .ref (bd 0)), (1, .int (nI k))]) C dX6_area_135 (by decide) rfl ?_
              refine fj_aload_n C 7 dX6_area_137 rfl rfl ?_
              refine fj_get (Cn := RX6) (T := TX6) (N := 44) (ci := 6) (v := .int (u4 14)) C iX6 0 (fm_at0 _ _ _ _ _) rfl 43 (by decide) kX6_307 rfl dX6_area_138 ?_
              refine fj_at (y := y4) ey4 ?_
              refine fj_i2l C dX6_area_141 ?_
              refine fj_lstore (lv' := [(9, .long y4.toInt64), (7, .long x4.toInt64), (4, .long ((((0 + ((((u0 13).toInt64) * ((u1 14).toInt64)) - (((u1 13).toInt64) * ((u0 14).toInt64)))) + ((((u1 13).toInt64) * y2.toInt64) - (x2.toInt64 * ((u1 14).toInt64)))) + ((x2.toInt64 * ((u3 14).toInt64)) - (((u3 13).toInt64) * y2.toInt64))) + ((((u3 13).toInt64) * y4.toInt64) - (x4.toInt64 * ((u3 14).toInt64))))), (6, .int 0), (11, .int 3), (3, .int (nI (k / 8))), (2, .int (nI (k % 8))), (0, .ref (bd 0)), (1, .int (nI k))]) C dX6_area_142 (by decide) rfl ?_
              refine fj_iinc (v := 4) (lv' := [(11, .int 4), (9, .long y4.toInt64), (7, .long x4.toInt64), (4, .long ((((0 + ((((u0 13).toInt64) * ((u1 14).toInt64)) - (((u1 13).toInt64) * ((u0 14).toInt64)))) + ((((u1 13).toInt64) * y2.toInt64) - (x2.toInt64 * ((u1 14).toInt64)))) + ((x2.toInt64 * ((u3 14).toInt64)) - (((u3 13).toInt64) * y2.toInt64))) + ((((u3 13).toInt64) * y4.toInt64) - (x4.toInt64 * ((u3 14).toInt64))))), (6, .int 0), (3, .int (nI (k / 8))), (2, .int (nI (k % 8))), (0, .ref (bd 0)), (1, .int (nI k))]) C 4 dX6_area_144 rfl (by decide) (by decide) rfl ?_
              refine fj_goto (tgt := 51) C dX6_area_147 (by decide) ?_
              refine fj_iload C 0 dX6_area_51 rfl ?_
              refine fj_iconst (v := 4) C dX6_area_53 (by decide) ?_
              refine fj_icmp_ge (tgt := 150) C dX6_area_54 (by decide) (fun _ => ?_) (fun h => absurd (by decide) h)
              refine fj_iload C 4 dX6_area_150 rfl ?_
              refine fj_if_eq (tgt := 160) C dX6_area_152 (by decide) (fun _ => ?_) (fun h => absurd (by decide) h)
              refine fj_ldc2 (v := (-1003)) C dX6_area_160 kL321 ?_
              exact fj_lret C E9 dX6_area_163 (Or.inr ⟨k, hk, rfl, u4, (fun j hj => (hu4 j hj).trans ((hu3 j hj).trans ((hu2 j hj).trans ((hu1 j hj).trans (hu0 j hj))))), rfl, Or.inr ⟨(Or.inr (Or.inr (Or.inr (L0)))), rfl⟩⟩)
            · refine fj_st (st' := .int 0 :: []) rfl ?_
              refine fj_if_eq (tgt := 105) C dX6_area_93 (by decide) (fun _ => ?_) (fun h => absurd (by decide) h)
              refine fj_iconst (v := 0) C dX6_area_105 (by decide) ?_
              refine fj_istore (lv' := [(6, .int 0), (11, .int 3), (9, .long ((u3 14).toInt64)), (7, .long ((u3 13).toInt64)), (4, .long (((0 + ((((u0 13).toInt64) * ((u1 14).toInt64)) - (((u1 13).toInt64) * ((u0 14).toInt64)))) + ((((u1 13).toInt64) * y2.toInt64) - (x2.toInt64 * ((u1 14).toInt64)))) + ((x2.toInt64 * ((u3 14).toInt64)) - (((u3 13).toInt64) * y2.toInt64)))), (3, .int (nI (k / 8))), (2, .int (nI (k % 8))), (0, .ref (bd 0)), (1, .int (nI k))]) C dX6_area_106 (by decide) rfl ?_
              refine fj_lload C 4 dX6_area_108 rfl ?_
              refine fj_lload C 3 dX6_area_110 rfl ?_
              refine fj_aload_n C 7 dX6_area_112 rfl rfl ?_
              refine fj_get (Cn := RX6) (T := TX6) (N := 44) (ci := 6) (v := .int (u4 14)) C iX6 0 (fm_at0 _ _ _ _ _) rfl 43 (by decide) kX6_307 rfl dX6_area_113 ?_
              refine fj_i2l C dX6_area_116 ?_
              refine fj_lmul C dX6_area_117 ?_
              refine fj_aload_n C 7 dX6_area_118 rfl rfl ?_
              refine fj_get (Cn := RX6) (T := TX6) (N := 44) (ci := 6) (v := .int (u4 13)) C iX6 0 (fm_at0 _ _ _ _ _) rfl 42 (by decide) kX6_304 rfl dX6_area_119 ?_
              refine fj_i2l C dX6_area_122 ?_
              refine fj_lload C 2 dX6_area_123 rfl ?_
              refine fj_lmul C dX6_area_125 ?_
              refine fj_lsub C dX6_area_126 ?_
              refine fj_ladd C dX6_area_127 ?_
              refine fj_lstore (lv' := [(4, .long ((((0 + ((((u0 13).toInt64) * ((u1 14).toInt64)) - (((u1 13).toInt64) * ((u0 14).toInt64)))) + ((((u1 13).toInt64) * y2.toInt64) - (x2.toInt64 * ((u1 14).toInt64)))) + ((x2.toInt64 * ((u3 14).toInt64)) - (((u3 13).toInt64) * y2.toInt64))) + ((((u3 13).toInt64) * ((u4 14).toInt64)) - (((u4 13).toInt64) * ((u3 14).toInt64))))), (6, .int 0), (11, .int 3), (9, .long ((u3 14).toInt64)), (7, .long ((u3 13).toInt64)), (3, .int (nI (k / 8))), (2, .int (nI (k % 8))), (0, .ref (bd 0)), (1, .int (nI k))]) C dX6_area_128 (by decide) rfl ?_
              refine fj_aload_n C 7 dX6_area_130 rfl rfl ?_
              refine fj_get (Cn := RX6) (T := TX6) (N := 44) (ci := 6) (v := .int (u4 13)) C iX6 0 (fm_at0 _ _ _ _ _) rfl 42 (by decide) kX6_304 rfl dX6_area_131 ?_
              refine fj_i2l C dX6_area_134 ?_
              refine fj_lstore (lv' := [(7, .long ((u4 13).toInt64)), (4, .long ((((0 + ((((u0 13).toInt64) * ((u1 14).toInt64)) - (((u1 13).toInt64) * ((u0 14).toInt64)))) + ((((u1 13).toInt64) * y2.toInt64) - (x2.toInt64 * ((u1 14).toInt64)))) + ((x2.toInt64 * ((u3 14).toInt64)) - (((u3 13).toInt64) * y2.toInt64))) + ((((u3 13).toInt64) * ((u4 14).toInt64)) - (((u4 13).toInt64) * ((u3 14).toInt64))))), (6, .int 0), (11, .int 3), (9, .long ((u3 14).toInt64)), (3, .int (nI (k / 8))), (2, .int (nI (k % 8))), (0, .ref (bd 0)), (1, .int (nI k))]) C dX6_area_135 (by decide) rfl ?_
              refine fj_aload_n C 7 dX6_area_137 rfl rfl ?_
              refine fj_get (Cn := RX6) (T := TX6) (N := 44) (ci := 6) (v := .int (u4 14)) C iX6 0 (fm_at0 _ _ _ _ _) rfl 43 (by decide) kX6_307 rfl dX6_area_138 ?_
              refine fj_i2l C dX6_area_141 ?_
              refine fj_lstore (lv' := [(9, .long ((u4 14).toInt64)), (7, .long ((u4 13).toInt64)), (4, .long ((((0 + ((((u0 13).toInt64) * ((u1 14).toInt64)) - (((u1 13).toInt64) * ((u0 14).toInt64)))) + ((((u1 13).toInt64) * y2.toInt64) - (x2.toInt64 * ((u1 14).toInt64)))) + ((x2.toInt64 * ((u3 14).toInt64)) - (((u3 13).toInt64) * y2.toInt64))) + ((((u3 13).toInt64) * ((u4 14).toInt64)) - (((u4 13).toInt64) * ((u3 14).toInt64))))), (6, .int 0), (11, .int 3), (3, .int (nI (k / 8))), (2, .int (nI (k % 8))), (0, .ref (bd 0)), (1, .int (nI k))]) C dX6_area_142 (by decide) rfl ?_
              refine fj_iinc (v := 4) (lv' := [(11, .int 4), (9, .long ((u4 14).toInt64)), (7, .long ((u4 13).toInt64)), (4, .long ((((0 + ((((u0 13).toInt64) * ((u1 14).toInt64)) - (((u1 13).toInt64) * ((u0 14).toInt64)))) + ((((u1 13).toInt64) * y2.toInt64) - (x2.toInt64 * ((u1 14).toInt64)))) + ((x2.toInt64 * ((u3 14).toInt64)) - (((u3 13).toInt64) * y2.toInt64))) + ((((u3 13).toInt64) * ((u4 14).toInt64)) - (((u4 13).toInt64) * ((u3 14).toInt64))))), (6, .int 0), (3, .int (nI (k / 8))), (2, .int (nI (k % 8))), (0, .ref (bd 0)), (1, .int (nI k))]) C 4 dX6_area_144 rfl (by decide) (by decide) rfl ?_
              refine fj_goto (tgt := 51) C dX6_area_147 (by decide) ?_
              refine fj_iload C 0 dX6_area_51 rfl ?_
              refine fj_iconst (v := 4) C dX6_area_53 (by decide) ?_
              refine fj_icmp_ge (tgt := 150) C dX6_area_54 (by decide) (fun _ => ?_) (fun h => absurd (by decide) h)
              refine fj_iload C 4 dX6_area_150 rfl ?_
              refine fj_if_eq (tgt := 160) C dX6_area_152 (by decide) (fun _ => ?_) (fun h => absurd (by decide) h)
              refine fj_ldc2 (v := (-1003)) C dX6_area_160 kL321 ?_
              exact fj_lret C E9 dX6_area_163 (Or.inr ⟨k, hk, rfl, u4, (fun j hj => (hu4 j hj).trans ((hu3 j hj).trans ((hu2 j hj).trans ((hu1 j hj).trans (hu0 j hj))))), rfl, Or.inr ⟨(Or.inr (Or.inr (Or.inr (L0)))), rfl⟩⟩)
        · refine fj_st (st' := .int 0 :: []) rfl ?_
          refine fj_if_eq (tgt := 105) C dX6_area_93 (by decide) (fun _ => ?_) (fun h => absurd (by decide) h)
          refine fj_iconst (v := 0) C dX6_area_105 (by decide) ?_
          refine fj_istore (lv' := [(6, .int 0), (11, .int 1), (9, .long ((u1 14).toInt64)), (7, .long ((u1 13).toInt64)), (4, .long (0 + ((((u0 13).toInt64) * ((u1 14).toInt64)) - (((u1 13).toInt64) * ((u0 14).toInt64))))), (3, .int (nI (k / 8))), (2, .int (nI (k % 8))), (0, .ref (bd 0)), (1, .int (nI k))]) C dX6_area_106 (by decide) rfl ?_
          refine fj_lload C 4 dX6_area_108 rfl ?_
          refine fj_lload C 3 dX6_area_110 rfl ?_
          refine fj_aload_n C 7 dX6_area_112 rfl rfl ?_
          refine fj_get (Cn := RX6) (T := TX6) (N := 44) (ci := 6) (v := .int (u2 14)) C iX6 0 (fm_at0 _ _ _ _ _) rfl 43 (by decide) kX6_307 rfl dX6_area_113 ?_
          refine fj_i2l C dX6_area_116 ?_
          refine fj_lmul C dX6_area_117 ?_
          refine fj_aload_n C 7 dX6_area_118 rfl rfl ?_
          refine fj_get (Cn := RX6) (T := TX6) (N := 44) (ci := 6) (v := .int (u2 13)) C iX6 0 (fm_at0 _ _ _ _ _) rfl 42 (by decide) kX6_304 rfl dX6_area_119 ?_
          refine fj_i2l C dX6_area_122 ?_
          refine fj_lload C 2 dX6_area_123 rfl ?_
          refine fj_lmul C dX6_area_125 ?_
          refine fj_lsub C dX6_area_126 ?_
          refine fj_ladd C dX6_area_127 ?_
          refine fj_lstore (lv' := [(4, .long ((0 + ((((u0 13).toInt64) * ((u1 14).toInt64)) - (((u1 13).toInt64) * ((u0 14).toInt64)))) + ((((u1 13).toInt64) * ((u2 14).toInt64)) - (((u2 13).toInt64) * ((u1 14).toInt64))))), (6, .int 0), (11, .int 1), (9, .long ((u1 14).toInt64)), (7, .long ((u1 13).toInt64)), (3, .int (nI (k / 8))), (2, .int (nI (k % 8))), (0, .ref (bd 0)), (1, .int (nI k))]) C dX6_area_128 (by decide) rfl ?_
          refine fj_aload_n C 7 dX6_area_130 rfl rfl ?_
          refine fj_get (Cn := RX6) (T := TX6) (N := 44) (ci := 6) (v := .int (u2 13)) C iX6 0 (fm_at0 _ _ _ _ _) rfl 42 (by decide) kX6_304 rfl dX6_area_131 ?_
          refine fj_i2l C dX6_area_134 ?_
          refine fj_lstore (lv' := [(7, .long ((u2 13).toInt64)), (4, .long ((0 + ((((u0 13).toInt64) * ((u1 14).toInt64)) - (((u1 13).toInt64) * ((u0 14).toInt64)))) + ((((u1 13).toInt64) * ((u2 14).toInt64)) - (((u2 13).toInt64) * ((u1 14).toInt64))))), (6, .int 0), (11, .int 1), (9, .long ((u1 14).toInt64)), (3, .int (nI (k / 8))), (2, .int (nI (k % 8))), (0, .ref (bd 0)), (1, .int (nI k))]) C dX6_area_135 (by decide) rfl ?_
          refine fj_aload_n C 7 dX6_area_137 rfl rfl ?_
          refine fj_get (Cn := RX6) (T := TX6) (N := 44) (ci := 6) (v := .int (u2 14)) C iX6 0 (fm_at0 _ _ _ _ _) rfl 43 (by decide) kX6_307 rfl dX6_area_138 ?_
          refine fj_i2l C dX6_area_141 ?_
          refine fj_lstore (lv' := [(9, .long ((u2 14).toInt64)), (7, .long ((u2 13).toInt64)), (4, .long ((0 + ((((u0 13).toInt64) * ((u1 14).toInt64)) - (((u1 13).toInt64) * ((u0 14).toInt64)))) + ((((u1 13).toInt64) * ((u2 14).toInt64)) - (((u2 13).toInt64) * ((u1 14).toInt64))))), (6, .int 0), (11, .int 1), (3, .int (nI (k / 8))), (2, .int (nI (k % 8))), (0, .ref (bd 0)), (1, .int (nI k))]) C dX6_area_142 (by decide) rfl ?_
          refine fj_iinc (v := 2) (lv' := [(11, .int 2), (9, .long ((u2 14).toInt64)), (7, .long ((u2 13).toInt64)), (4, .long ((0 + ((((u0 13).toInt64) * ((u1 14).toInt64)) - (((u1 13).toInt64) * ((u0 14).toInt64)))) + ((((u1 13).toInt64) * ((u2 14).toInt64)) - (((u2 13).toInt64) * ((u1 14).toInt64))))), (6, .int 0), (3, .int (nI (k / 8))), (2, .int (nI (k % 8))), (0, .ref (bd 0)), (1, .int (nI k))]) C 4 dX6_area_144 rfl (by decide) (by decide) rfl ?_
          refine fj_goto (tgt := 51) C dX6_area_147 (by decide) ?_
          refine fj_iload C 0 dX6_area_51 rfl ?_
          refine fj_iconst (v := 4) C dX6_area_53 (by decide) ?_
          refine fj_icmp_ge (tgt := 150) C dX6_area_54 (by decide) (fun h => absurd h (by decide)) (fun _ => ?_)
          refine fj_aload_n C 7 dX6_area_57 rfl rfl ?_
          refine fj_iload C 0 dX6_area_58 rfl ?_
          refine fj_iconst (v := 1) C dX6_area_60 (by decide) ?_
          refine fj_icmp_eq (tgt := 70) C dX6_area_61 (by decide) (fun h => absurd h (by decide)) (fun _ => ?_)
          refine fj_iload C 0 dX6_area_64 rfl ?_
          refine fj_iconst (v := 2) C dX6_area_66 (by decide) ?_
          refine fj_icmp_ne (tgt := 76) C dX6_area_67 (by decide) (fun h => absurd (by decide) h) (fun _ => ?_)
          refine fj_iload_n C 6 dX6_area_70 rfl rfl ?_
          refine fj_iconst (v := 1) C dX6_area_71 (by decide) ?_
          refine fj_iadd C dX6_area_72 ?_
          refine fj_at (y := nI (k % 8 + 1)) (nI_1 _) ?_
          refine fj_goto (tgt := 77) C dX6_area_73 (by decide) ?_
          refine fj_iload C 0 dX6_area_77 rfl ?_
          refine fj_iconst (v := 1) C dX6_area_79 (by decide) ?_
          refine fj_icmp_le (tgt := 89) C dX6_area_80 (by decide) (fun h => absurd h (by decide)) (fun _ => ?_)
          refine fj_iload_n C 5 dX6_area_83 rfl rfl ?_
          refine fj_iconst (v := 1) C dX6_area_84 (by decide) ?_
          refine fj_iadd C dX6_area_85 ?_
          refine fj_at (y := nI (k / 8 + 1)) (nI_1 _) ?_
          refine fj_goto (tgt := 90) C dX6_area_86 (by decide) ?_
          refine fj_callVw (As := [.int (nI (k % 8 + 1)), .int (nI (k / 8 + 1))]) (rest := []) C (d_X6_findPlace l D ty t0 bd a g u2 (nI (k % 8 + 1)) (nI (k / 8 + 1)) (k % 8 + 1) (k / 8 + 1) rfl rfl (by omega) (by omega)) (cwV 2 C.2.2.2.2.1 gX6_area_X6_findPlace rfl rfl rfl (by decide +kernel) ⟨Nat.le_of_ble_eq_true rfl, Nat.le_of_ble_eq_true rfl⟩) ⟨0, 6, _, _, fm_at0 _ _ _ _ _, rfl, rfl⟩ rfl (Nat.le_of_ble_eq_true rfl) dX6_area_90 ⟨Nat.zero_le _, Nat.zero_le _⟩ (fun v9 w9 hp9 => ?_)
          rcases hp9 with ⟨x3, y3, L3, u3, hu3, ex3, ey3, rfl, rfl⟩ | ⟨L3, u3, hu3, rfl, rfl⟩
          · refine fj_st (st' := .int 1 :: []) rfl ?_
            refine fj_if_eq (tgt := 105) C dX6_area_93 (by decide) (fun h => absurd h (by decide)) (fun _ => ?_)
            refine fj_iload C 4 dX6_area_96 rfl ?_
            refine fj_if_eq (tgt := 105) C dX6_area_98 (by decide) (fun _ => ?_) (fun h => absurd (by decide) h)
            refine fj_iconst (v := 0) C dX6_area_105 (by decide) ?_
            refine fj_istore (lv' := [(6, .int 0), (11, .int 2), (9, .long ((u2 14).toInt64)), (7, .long ((u2 13).toInt64)), (4, .long ((0 + ((((u0 13).toInt64) * ((u1 14).toInt64)) - (((u1 13).toInt64) * ((u0 14).toInt64)))) + ((((u1 13).toInt64) * ((u2 14).toInt64)) - (((u2 13).toInt64) * ((u1 14).toInt64))))), (3, .int (nI (k / 8))), (2, .int (nI (k % 8))), (0, .ref (bd 0)), (1, .int (nI k))]) C dX6_area_106 (by decide) rfl ?_
            refine fj_lload C 4 dX6_area_108 rfl ?_
            refine fj_lload C 3 dX6_area_110 rfl ?_
            refine fj_aload_n C 7 dX6_area_112 rfl rfl ?_
            refine fj_get (Cn := RX6) (T := TX6) (N := 44) (ci := 6) (v := .int (u3 14)) C iX6 0 (fm_at0 _ _ _ _ _) rfl 43 (by decide) kX6_307 rfl dX6_area_113 ?_
            refine fj_at (y := y3) ey3 ?_
            refine fj_i2l C dX6_area_116 ?_
            refine fj_lmul C dX6_area_117 ?_
            refine fj_aload_n C 7 dX6_area_118 rfl rfl ?_
            refine fj_get (Cn := RX6) (T := TX6) (N := 44) (ci := 6) (v := .int (u3 13)) C iX6 0 (fm_at0 _ _ _ _ _) rfl 42 (by decide) kX6_304 rfl dX6_area_119 ?_
            refine fj_at (y := x3) ex3 ?_
            refine fj_i2l C dX6_area_122 ?_
            refine fj_lload C 2 dX6_area_123 rfl ?_
            refine fj_lmul C dX6_area_125 ?_
            refine fj_lsub C dX6_area_126 ?_
            refine fj_ladd C dX6_area_127 ?_
            refine fj_lstore (lv' := [(4, .long (((0 + ((((u0 13).toInt64) * ((u1 14).toInt64)) - (((u1 13).toInt64) * ((u0 14).toInt64)))) + ((((u1 13).toInt64) * ((u2 14).toInt64)) - (((u2 13).toInt64) * ((u1 14).toInt64)))) + ((((u2 13).toInt64) * y3.toInt64) - (x3.toInt64 * ((u2 14).toInt64))))), (6, .int 0), (11, .int 2), (9, .long ((u2 14).toInt64)), (7, .long ((u2 13).toInt64)), (3, .int (nI (k / 8))), (2, .int (nI (k % 8))), (0, .ref (bd 0)), (1, .int (nI k))]) C dX6_area_128 (by decide) rfl ?_
            refine fj_aload_n C 7 dX6_area_130 rfl rfl ?_
            refine fj_get (Cn := RX6) (T := TX6) (N := 44) (ci := 6) (v := .int (u3 13)) C iX6 0 (fm_at0 _ _ _ _ _) rfl 42 (by decide) kX6_304 rfl dX6_area_131 ?_
            refine fj_at (y := x3) ex3 ?_
            refine fj_i2l C dX6_area_134 ?_
            refine fj_lstore (lv' := [(7, .long x3.toInt64), (4, .long (((0 + ((((u0 13).toInt64) * ((u1 14).toInt64)) - (((u1 13).toInt64) * ((u0 14).toInt64)))) + ((((u1 13).toInt64) * ((u2 14).toInt64)) - (((u2 13).toInt64) * ((u1 14).toInt64)))) + ((((u2 13).toInt64) * y3.toInt64) - (x3.toInt64 * ((u2 14).toInt64))))), (6, .int 0), (11, .int 2), (9, .long ((u2 14).toInt64)), (3, .int (nI (k / 8))), (2, .int (nI (k % 8))), (0, .ref (bd 0)), (1, .int (nI k))]) C dX6_area_135 (by decide) rfl ?_
            refine fj_aload_n C 7 dX6_area_137 rfl rfl ?_
            refine fj_get (Cn := RX6) (T := TX6) (N := 44) (ci := 6) (v := .int (u3 14)) C iX6 0 (fm_at0 _ _ _ _ _) rfl 43 (by decide) kX6_307 rfl dX6_area_138 ?_
            refine fj_at (y := y3) ey3 ?_
            refine fj_i2l C dX6_area_141 ?_
            refine fj_lstore (lv' := [(9, .long y3.toInt64), (7, .long x3.toInt64), (4, .long (((0 + ((((u0 13).toInt64) * ((u1 14).toInt64)) - (((u1 13).toInt64) * ((u0 14).toInt64)))) + ((((u1 13).toInt64) * ((u2 14).toInt64)) - (((u2 13).toInt64) * ((u1 14).toInt64)))) + ((((u2 13).toInt64) * y3.toInt64) - (x3.toInt64 * ((u2 14).toInt64))))), (6, .int 0), (11, .int 2), (3, .int (nI (k / 8))), (2, .int (nI (k % 8))), (0, .ref (bd 0)), (1, .int (nI k))]) C dX6_area_142 (by decide) rfl ?_
            refine fj_iinc (v := 3) (lv' := [(11, .int 3), (9, .long y3.toInt64), (7, .long x3.toInt64), (4, .long (((0 + ((((u0 13).toInt64) * ((u1 14).toInt64)) - (((u1 13).toInt64) * ((u0 14).toInt64)))) + ((((u1 13).toInt64) * ((u2 14).toInt64)) - (((u2 13).toInt64) * ((u1 14).toInt64)))) + ((((u2 13).toInt64) * y3.toInt64) - (x3.toInt64 * ((u2 14).toInt64))))), (6, .int 0), (3, .int (nI (k / 8))), (2, .int (nI (k % 8))), (0, .ref (bd 0)), (1, .int (nI k))]) C 4 dX6_area_144 rfl (by decide) (by decide) rfl ?_
            refine fj_goto (tgt := 51) C dX6_area_147 (by decide) ?_
            refine fj_iload C 0 dX6_area_51 rfl ?_
            refine fj_iconst (v := 4) C dX6_area_53 (by decide) ?_
            refine fj_icmp_ge (tgt := 150) C dX6_area_54 (by decide) (fun h => absurd h (by decide)) (fun _ => ?_)
            refine fj_aload_n C 7 dX6_area_57 rfl rfl ?_
            refine fj_iload C 0 dX6_area_58 rfl ?_
            refine fj_iconst (v := 1) C dX6_area_60 (by decide) ?_
            refine fj_icmp_eq (tgt := 70) C dX6_area_61 (by decide) (fun h => absurd h (by decide)) (fun _ => ?_)
            refine fj_iload C 0 dX6_area_64 rfl ?_
            refine fj_iconst (v := 2) C dX6_area_66 (by decide) ?_
            refine fj_icmp_ne (tgt := 76) C dX6_area_67 (by decide) (fun _ => ?_) (fun h => absurd h (by decide))
            refine fj_iload_n C 6 dX6_area_76 rfl rfl ?_
            refine fj_iload C 0 dX6_area_77 rfl ?_
            refine fj_iconst (v := 1) C dX6_area_79 (by decide) ?_
            refine fj_icmp_le (tgt := 89) C dX6_area_80 (by decide) (fun h => absurd h (by decide)) (fun _ => ?_)
            refine fj_iload_n C 5 dX6_area_83 rfl rfl ?_
            refine fj_iconst (v := 1) C dX6_area_84 (by decide) ?_
            refine fj_iadd C dX6_area_85 ?_
            refine fj_at (y := nI (k / 8 + 1)) (nI_1 _) ?_
            refine fj_goto (tgt := 90) C dX6_area_86 (by decide) ?_
            refine fj_callVw (As := [.int (nI (k % 8)), .int (nI (k / 8 + 1))]) (rest := []) C (d_X6_findPlace l D ty t0 bd a g u3 (nI (k % 8)) (nI (k / 8 + 1)) (k % 8) (k / 8 + 1) rfl rfl (by omega) (by omega)) (cwV 2 C.2.2.2.2.1 gX6_area_X6_findPlace rfl rfl rfl (by decide +kernel) ⟨Nat.le_of_ble_eq_true rfl, Nat.le_of_ble_eq_true rfl⟩) ⟨0, 6, _, _, fm_at0 _ _ _ _ _, rfl, rfl⟩ rfl (Nat.le_of_ble_eq_true rfl) dX6_area_90 ⟨Nat.zero_le _, Nat.zero_le _⟩ (fun v9 w9 hp9 => ?_)
            rcases hp9 with ⟨x4, y4, L4, u4, hu4, ex4, ey4, rfl, rfl⟩ | ⟨L4, u4, hu4, rfl, rfl⟩
            · refine fj_st (st' := .int 1 :: []) rfl ?_
              refine fj_if_eq (tgt := 105) C dX6_area_93 (by decide) (fun h => absurd h (by decide)) (fun _ => ?_)
              refine fj_iload C 4 dX6_area_96 rfl ?_
              refine fj_if_eq (tgt := 105) C dX6_area_98 (by decide) (fun _ => ?_) (fun h => absurd (by decide) h)
              refine fj_iconst (v := 0) C dX6_area_105 (by decide) ?_
              refine fj_istore (lv' := [(6, .int 0), (11, .int 3), (9, .long y3.toInt64), (7, .long x3.toInt64), (4, .long (((0 + ((((u0 13).toInt64) * ((u1 14).toInt64)) - (((u1 13).toInt64) * ((u0 14).toInt64)))) + ((((u1 13).toInt64) * ((u2 14).toInt64)) - (((u2 13).toInt64) * ((u1 14).toInt64)))) + ((((u2 13).toInt64) * y3.toInt64) - (x3.toInt64 * ((u2 14).toInt64))))), (3, .int (nI (k / 8))), (2, .int (nI (k % 8))), (0, .ref (bd 0)), (1, .int (nI k))]) C dX6_area_106 (by decide) rfl ?_
              refine fj_lload C 4 dX6_area_108 rfl ?_
              refine fj_lload C 3 dX6_area_110 rfl ?_
              refine fj_aload_n C 7 dX6_area_112 rfl rfl ?_
              refine fj_get (Cn := RX6) (T := TX6) (N := 44) (ci := 6) (v := .int (u4 14)) C iX6 0 (fm_at0 _ _ _ _ _) rfl 43 (by decide) kX6_307 rfl dX6_area_113 ?_
              refine fj_at (y := y4) ey4 ?_
              refine fj_i2l C dX6_area_116 ?_
              refine fj_lmul C dX6_area_117 ?_
              refine fj_aload_n C 7 dX6_area_118 rfl rfl ?_
              refine fj_get (Cn := RX6) (T := TX6) (N := 44) (ci := 6) (v := .int (u4 13)) C iX6 0 (fm_at0 _ _ _ _ _) rfl 42 (by decide) kX6_304 rfl dX6_area_119 ?_
              refine fj_at (y := x4) ex4 ?_
              refine fj_i2l C dX6_area_122 ?_
              refine fj_lload C 2 dX6_area_123 rfl ?_
              refine fj_lmul C dX6_area_125 ?_
              refine fj_lsub C dX6_area_126 ?_
              refine fj_ladd C dX6_area_127 ?_
              refine fj_lstore (lv' := [(4, .long ((((0 + ((((u0 13).toInt64) * ((u1 14).toInt64)) - (((u1 13).toInt64) * ((u0 14).toInt64)))) + ((((u1 13).toInt64) * ((u2 14).toInt64)) - (((u2 13).toInt64) * ((u1 14).toInt64)))) + ((((u2 13).toInt64) * y3.toInt64) - (x3.toInt64 * ((u2 14).toInt64)))) + ((x3.toInt64 * y4.toInt64) - (x4.toInt64 * y3.toInt64)))), (6, .int 0), (11, .int 3), (9, .long y3.toInt64), (7, .long x3.toInt64), (3, .int (nI (k / 8))), (2, .int (nI (k % 8))), (0, .ref (bd 0)), (1, .int (nI k))]) C dX6_area_128 (by decide) rfl ?_
              refine fj_aload_n C 7 dX6_area_130 rfl rfl ?_
              refine fj_get (Cn := RX6) (T := TX6) (N := 44) (ci := 6) (v := .int (u4 13)) C iX6 0 (fm_at0 _ _ _ _ _) rfl 42 (by decide) kX6_304 rfl dX6_area_131 ?_
              refine fj_at (y := x4) ex4 ?_
              refine fj_i2l C dX6_area_134 ?_
              refine fj_lstore (lv' := [(7, .long x4.toInt64), (4, .long ((((0 + ((((u0 13).toInt64) * ((u1 14).toInt64)) - (((u1 13).toInt64) * ((u0 14).toInt64)))) + ((((u1 13).toInt64) * ((u2 14).toInt64)) - (((u2 13).toInt64) * ((u1 14).toInt64)))) + ((((u2 13).toInt64) * y3.toInt64) - (x3.toInt64 * ((u2 14).toInt64)))) + ((x3.toInt64 * y4.toInt64) - (x4.toInt64 * y3.toInt64)))), (6, .int 0), (11, .int 3), (9, .long y3.toInt64), (3, .int (nI (k / 8))), (2, .int (nI (k % 8))), (0, .ref (bd 0)), (1, .int (nI k))]) C dX6_area_135 (by decide) rfl ?_
              refine fj_aload_n C 7 dX6_area_137 rfl rfl ?_
              refine fj_get (Cn := RX6) (T := TX6) (N := 44) (ci := 6) (v := .int (u4 14)) C iX6 0 (fm_at0 _ _ _ _ _) rfl 43 (by decide) kX6_307 rfl dX6_area_138 ?_
              refine fj_at (y := y4) ey4 ?_
              refine fj_i2l C dX6_area_141 ?_
              refine fj_lstore (lv' := [(9, .long y4.toInt64), (7, .long x4.toInt64), (4, .long ((((0 + ((((u0 13).toInt64) * ((u1 14).toInt64)) - (((u1 13).toInt64) * ((u0 14).toInt64)))) + ((((u1 13).toInt64) * ((u2 14).toInt64)) - (((u2 13).toInt64) * ((u1 14).toInt64)))) + ((((u2 13).toInt64) * y3.toInt64) - (x3.toInt64 * ((u2 14).toInt64)))) + ((x3.toInt64 * y4.toInt64) - (x4.toInt64 * y3.toInt64)))), (6, .int 0), (11, .int 3), (3, .int (nI (k / 8))), (2, .int (nI (k % 8))), (0, .ref (bd 0)), (1, .int (nI k))]) C dX6_area_142 (by decide) rfl ?_
              refine fj_iinc (v := 4) (lv' := [(11, .int 4), (9, .long y4.toInt64), (7, .long x4.toInt64), (4, .long ((((0 + ((((u0 13).toInt64) * ((u1 14).toInt64)) - (((u1 13).toInt64) * ((u0 14).toInt64)))) + ((((u1 13).toInt64) * ((u2 14).toInt64)) - (((u2 13).toInt64) * ((u1 14).toInt64)))) + ((((u2 13).toInt64) * y3.toInt64) - (x3.toInt64 * ((u2 14).toInt64)))) + ((x3.toInt64 * y4.toInt64) - (x4.toInt64 * y3.toInt64)))), (6, .int 0), (3, .int (nI (k / 8))), (2, .int (nI (k % 8))), (0, .ref (bd 0)), (1, .int (nI k))]) C 4 dX6_area_144 rfl (by decide) (by decide) rfl ?_
              refine fj_goto (tgt := 51) C dX6_area_147 (by decide) ?_
              refine fj_iload C 0 dX6_area_51 rfl ?_
              refine fj_iconst (v := 4) C dX6_area_53 (by decide) ?_
              refine fj_icmp_ge (tgt := 150) C dX6_area_54 (by decide) (fun _ => ?_) (fun h => absurd (by decide) h)
              refine fj_iload C 4 dX6_area_150 rfl ?_
              refine fj_if_eq (tgt := 160) C dX6_area_152 (by decide) (fun _ => ?_) (fun h => absurd (by decide) h)
              refine fj_ldc2 (v := (-1003)) C dX6_area_160 kL321 ?_
              exact fj_lret C E9 dX6_area_163 (Or.inr ⟨k, hk, rfl, u4, (fun j hj => (hu4 j hj).trans ((hu3 j hj).trans ((hu2 j hj).trans ((hu1 j hj).trans (hu0 j hj))))), rfl, Or.inr ⟨(Or.inr (Or.inr (Or.inr (L0)))), rfl⟩⟩)
            · refine fj_st (st' := .int 0 :: []) rfl ?_
              refine fj_if_eq (tgt := 105) C dX6_area_93 (by decide) (fun _ => ?_) (fun h => absurd (by decide) h)
              refine fj_iconst (v := 0) C dX6_area_105 (by decide) ?_
              refine fj_istore (lv' := [(6, .int 0), (11, .int 3), (9, .long y3.toInt64), (7, .long x3.toInt64), (4, .long (((0 + ((((u0 13).toInt64) * ((u1 14).toInt64)) - (((u1 13).toInt64) * ((u0 14).toInt64)))) + ((((u1 13).toInt64) * ((u2 14).toInt64)) - (((u2 13).toInt64) * ((u1 14).toInt64)))) + ((((u2 13).toInt64) * y3.toInt64) - (x3.toInt64 * ((u2 14).toInt64))))), (3, .int (nI (k / 8))), (2, .int (nI (k % 8))), (0, .ref (bd 0)), (1, .int (nI k))]) C dX6_area_106 (by decide) rfl ?_
              refine fj_lload C 4 dX6_area_108 rfl ?_
              refine fj_lload C 3 dX6_area_110 rfl ?_
              refine fj_aload_n C 7 dX6_area_112 rfl rfl ?_
              refine fj_get (Cn := RX6) (T := TX6) (N := 44) (ci := 6) (v := .int (u4 14)) C iX6 0 (fm_at0 _ _ _ _ _) rfl 43 (by decide) kX6_307 rfl dX6_area_113 ?_
              refine fj_i2l C dX6_area_116 ?_
              refine fj_lmul C dX6_area_117 ?_
              refine fj_aload_n C 7 dX6_area_118 rfl rfl ?_
              refine fj_get (Cn := RX6) (T := TX6) (N := 44) (ci := 6) (v := .int (u4 13)) C iX6 0 (fm_at0 _ _ _ _ _) rfl 42 (by decide) kX6_304 rfl dX6_area_119 ?_
              refine fj_i2l C dX6_area_122 ?_
              refine fj_lload C 2 dX6_area_123 rfl ?_
              refine fj_lmul C dX6_area_125 ?_
              refine fj_lsub C dX6_area_126 ?_
              refine fj_ladd C dX6_area_127 ?_
              refine fj_lstore (lv' := [(4, .long ((((0 + ((((u0 13).toInt64) * ((u1 14).toInt64)) - (((u1 13).toInt64) * ((u0 14).toInt64)))) + ((((u1 13).toInt64) * ((u2 14).toInt64)) - (((u2 13).toInt64) * ((u1 14).toInt64)))) + ((((u2 13).toInt64) * y3.toInt64) - (x3.toInt64 * ((u2 14).toInt64)))) + ((x3.toInt64 * ((u4 14).toInt64)) - (((u4 13).toInt64) * y3.toInt64)))), (6, .int 0), (11, .int 3), (9, .long y3.toInt64), (7, .long x3.toInt64), (3, .int (nI (k / 8))), (2, .int (nI (k % 8))), (0, .ref (bd 0)), (1, .int (nI k))]) C dX6_area_128 (by decide) rfl ?_
              refine fj_aload_n C 7 dX6_area_130 rfl rfl ?_
              refine fj_get (Cn := RX6) (T := TX6) (N := 44) (ci := 6) (v := .int (u4 13)) C iX6 0 (fm_at0 _ _ _ _ _) rfl 42 (by decide) kX6_304 rfl dX6_area_131 ?_
              refine fj_i2l C dX6_area_134 ?_
              refine fj_lstore (lv' := [(7, .long ((u4 13).toInt64)), (4, .long ((((0 + ((((u0 13).toInt64) * ((u1 14).toInt64)) - (((u1 13).toInt64) * ((u0 14).toInt64)))) + ((((u1 13).toInt64) * ((u2 14).toInt64)) - (((u2 13).toInt64) * ((u1 14).toInt64)))) + ((((u2 13).toInt64) * y3.toInt64) - (x3.toInt64 * ((u2 14).toInt64)))) + ((x3.toInt64 * ((u4 14).toInt64)) - (((u4 13).toInt64) * y3.toInt64)))), (6, .int 0), (11, .int 3), (9, .long y3.toInt64), (3, .int (nI (k / 8))), (2, .int (nI (k % 8))), (0, .ref (bd 0)), (1, .int (nI k))]) C dX6_area_135 (by decide) rfl ?_
              refine fj_aload_n C 7 dX6_area_137 rfl rfl ?_
              refine fj_get (Cn := RX6) (T := TX6) (N := 44) (ci := 6) (v := .int (u4 14)) C iX6 0 (fm_at0 _ _ _ _ _) rfl 43 (by decide) kX6_307 rfl dX6_area_138 ?_
              refine fj_i2l C dX6_area_141 ?_
              refine fj_lstore (lv' := [(9, .long ((u4 14).toInt64)), (7, .long ((u4 13).toInt64)), (4, .long ((((0 + ((((u0 13).toInt64) * ((u1 14).toInt64)) - (((u1 13).toInt64) * ((u0 14).toInt64)))) + ((((u1 13).toInt64) * ((u2 14).toInt64)) - (((u2 13).toInt64) * ((u1 14).toInt64)))) + ((((u2 13).toInt64) * y3.toInt64) - (x3.toInt64 * ((u2 14).toInt64)))) + ((x3.toInt64 * ((u4 14).toInt64)) - (((u4 13).toInt64) * y3.toInt64)))), (6, .int 0), (11, .int 3), (3, .int (nI (k / 8))), (2, .int (nI (k % 8))), (0, .ref (bd 0)), (1, .int (nI k))]) C dX6_area_142 (by decide) rfl ?_
              refine fj_iinc (v := 4) (lv' := [(11, .int 4), (9, .long ((u4 14).toInt64)), (7, .long ((u4 13).toInt64)), (4, .long ((((0 + ((((u0 13).toInt64) * ((u1 14).toInt64)) - (((u1 13).toInt64) * ((u0 14).toInt64)))) + ((((u1 13).toInt64) * ((u2 14).toInt64)) - (((u2 13).toInt64) * ((u1 14).toInt64)))) + ((((u2 13).toInt64) * y3.toInt64) - (x3.toInt64 * ((u2 14).toInt64)))) + ((x3.toInt64 * ((u4 14).toInt64)) - (((u4 13).toInt64) * y3.toInt64)))), (6, .int 0), (3, .int (nI (k / 8))), (2, .int (nI (k % 8))), (0, .ref (bd 0)), (1, .int (nI k))]) C 4 dX6_area_144 rfl (by decide) (by decide) rfl ?_
              refine fj_goto (tgt := 51) C dX6_area_147 (by decide) ?_
              refine fj_iload C 0 dX6_area_51 rfl ?_
              refine fj_iconst (v := 4) C dX6_area_53 (by decide) ?_
              refine fj_icmp_ge (tgt := 150) C dX6_area_54 (by decide) (fun _ => ?_) (fun h => absurd (by decide) h)
              refine fj_iload C 4 dX6_area_150 rfl ?_
              refine fj_if_eq (tgt := 160) C dX6_area_152 (by decide) (fun _ => ?_) (fun h => absurd (by decide) h)
              refine fj_ldc2 (v := (-1003)) C dX6_area_160 kL321 ?_
              exact fj_lret C E9 dX6_area_163 (Or.inr ⟨k, hk, rfl, u4, (fun j hj => (hu4 j hj).trans ((hu3 j hj).trans ((hu2 j hj).trans ((hu1 j hj).trans (hu0 j hj))))), rfl, Or.inr ⟨(Or.inr (Or.inr (Or.inr (L0)))), rfl⟩⟩)
          · refine fj_st (st' := .int 0 :: []) rfl ?_
            refine fj_if_eq (tgt := 105) C dX6_area_93 (by decide) (fun _ => ?_) (fun h => absurd (by decide) h)
            refine fj_iconst (v := 0) C dX6_area_105 (by decide) ?_
            refine fj_istore (lv' := [(6, .int 0), (11, .int 2), (9, .long ((u2 14).toInt64)), (7, .long ((u2 13).toInt64)), (4, .long ((0 + ((((u0 13).toInt64) * ((u1 14).toInt64)) - (((u1 13).toInt64) * ((u0 14).toInt64)))) + ((((u1 13).toInt64) * ((u2 14).toInt64)) - (((u2 13).toInt64) * ((u1 14).toInt64))))), (3, .int (nI (k / 8))), (2, .int (nI (k % 8))), (0, .ref (bd 0)), (1, .int (nI k))]) C dX6_area_106 (by decide) rfl ?_
            refine fj_lload C 4 dX6_area_108 rfl ?_
            refine fj_lload C 3 dX6_area_110 rfl ?_
            refine fj_aload_n C 7 dX6_area_112 rfl rfl ?_
            refine fj_get (Cn := RX6) (T := TX6) (N := 44) (ci := 6) (v := .int (u3 14)) C iX6 0 (fm_at0 _ _ _ _ _) rfl 43 (by decide) kX6_307 rfl dX6_area_113 ?_
            refine fj_i2l C dX6_area_116 ?_
            refine fj_lmul C dX6_area_117 ?_
            refine fj_aload_n C 7 dX6_area_118 rfl rfl ?_
            refine fj_get (Cn := RX6) (T := TX6) (N := 44) (ci := 6) (v := .int (u3 13)) C iX6 0 (fm_at0 _ _ _ _ _) rfl 42 (by decide) kX6_304 rfl dX6_area_119 ?_
            refine fj_i2l C dX6_area_122 ?_
            refine fj_lload C 2 dX6_area_123 rfl ?_
            refine fj_lmul C dX6_area_125 ?_
            refine fj_lsub C dX6_area_126 ?_
            refine fj_ladd C dX6_area_127 ?_
            refine fj_lstore (lv' := [(4, .long (((0 + ((((u0 13).toInt64) * ((u1 14).toInt64)) - (((u1 13).toInt64) * ((u0 14).toInt64)))) + ((((u1 13).toInt64) * ((u2 14).toInt64)) - (((u2 13).toInt64) * ((u1 14).toInt64)))) + ((((u2 13).toInt64) * ((u3 14).toInt64)) - (((u3 13).toInt64) * ((u2 14).toInt64))))), (6, .int 0), (11, .int 2), (9, .long ((u2 14).toInt64)), (7, .long ((u2 13).toInt64)), (3, .int (nI (k / 8))), (2, .int (nI (k % 8))), (0, .ref (bd 0)), (1, .int (nI k))]) C dX6_area_128 (by decide) rfl ?_
            refine fj_aload_n C 7 dX6_area_130 rfl rfl ?_
            refine fj_get (Cn := RX6) (T := TX6) (N := 44) (ci := 6) (v := .int (u3 13)) C iX6 0 (fm_at0 _ _ _ _ _) rfl 42 (by decide) kX6_304 rfl dX6_area_131 ?_
            refine fj_i2l C dX6_area_134 ?_
            refine fj_lstore (lv' := [(7, .long ((u3 13).toInt64)), (4, .long (((0 + ((((u0 13).toInt64) * ((u1 14).toInt64)) - (((u1 13).toInt64) * ((u0 14).toInt64)))) + ((((u1 13).toInt64) * ((u2 14).toInt64)) - (((u2 13).toInt64) * ((u1 14).toInt64)))) + ((((u2 13).toInt64) * ((u3 14).toInt64)) - (((u3 13).toInt64) * ((u2 14).toInt64))))), (6, .int 0), (11, .int 2), (9, .long ((u2 14).toInt64)), (3, .int (nI (k / 8))), (2, .int (nI (k % 8))), (0, .ref (bd 0)), (1, .int (nI k))]) C dX6_area_135 (by decide) rfl ?_
            refine fj_aload_n C 7 dX6_area_137 rfl rfl ?_
            refine fj_get (Cn := RX6) (T := TX6) (N := 44) (ci := 6) (v := .int (u3 14)) C iX6 0 (fm_at0 _ _ _ _ _) rfl 43 (by decide) kX6_307 rfl dX6_area_138 ?_
            refine fj_i2l C dX6_area_141 ?_
            refine fj_lstore (lv' := [(9, .long ((u3 14).toInt64)), (7, .long ((u3 13).toInt64)), (4, .long (((0 + ((((u0 13).toInt64) * ((u1 14).toInt64)) - (((u1 13).toInt64) * ((u0 14).toInt64)))) + ((((u1 13).toInt64) * ((u2 14).toInt64)) - (((u2 13).toInt64) * ((u1 14).toInt64)))) + ((((u2 13).toInt64) * ((u3 14).toInt64)) - (((u3 13).toInt64) * ((u2 14).toInt64))))), (6, .int 0), (11, .int 2), (3, .int (nI (k / 8))), (2, .int (nI (k % 8))), (0, .ref (bd 0)), (1, .int (nI k))]) C dX6_area_142 (by decide) rfl ?_
            refine fj_iinc (v := 3) (lv' := [(11, .int 3), (9, .long ((u3 14).toInt64)), (7, .long ((u3 13).toInt64)), (4, .long (((0 + ((((u0 13).toInt64) * ((u1 14).toInt64)) - (((u1 13).toInt64) * ((u0 14).toInt64)))) + ((((u1 13).toInt64) * ((u2 14).toInt64)) - (((u2 13).toInt64) * ((u1 14).toInt64)))) + ((((u2 13).toInt64) * ((u3 14).toInt64)) - (((u3 13).toInt64) * ((u2 14).toInt64))))), (6, .int 0), (3, .int (nI (k / 8))), (2, .int (nI (k % 8))), (0, .ref (bd 0)), (1, .int (nI k))]) C 4 dX6_area_144 rfl (by decide) (by decide) rfl ?_
            refine fj_goto (tgt := 51) C dX6_area_147 (by decide) ?_
            refine fj_iload C 0 dX6_area_51 rfl ?_
            refine fj_iconst (v := 4) C dX6_area_53 (by decide) ?_
            refine fj_icmp_ge (tgt := 150) C dX6_area_54 (by decide) (fun h => absurd h (by decide)) (fun _ => ?_)
            refine fj_aload_n C 7 dX6_area_57 rfl rfl ?_
            refine fj_iload C 0 dX6_area_58 rfl ?_
            refine fj_iconst (v := 1) C dX6_area_60 (by decide) ?_
            refine fj_icmp_eq (tgt := 70) C dX6_area_61 (by decide) (fun h => absurd h (by decide)) (fun _ => ?_)
            refine fj_iload C 0 dX6_area_64 rfl ?_
            refine fj_iconst (v := 2) C dX6_area_66 (by decide) ?_
            refine fj_icmp_ne (tgt := 76) C dX6_area_67 (by decide) (fun _ => ?_) (fun h => absurd h (by decide))
            refine fj_iload_n C 6 dX6_area_76 rfl rfl ?_
            refine fj_iload C 0 dX6_area_77 rfl ?_
            refine fj_iconst (v := 1) C dX6_area_79 (by decide) ?_
            refine fj_icmp_le (tgt := 89) C dX6_area_80 (by decide) (fun h => absurd h (by decide)) (fun _ => ?_)
            refine fj_iload_n C 5 dX6_area_83 rfl rfl ?_
            refine fj_iconst (v := 1) C dX6_area_84 (by decide) ?_
            refine fj_iadd C dX6_area_85 ?_
            refine fj_at (y := nI (k / 8 + 1)) (nI_1 _) ?_
            refine fj_goto (tgt := 90) C dX6_area_86 (by decide) ?_
            refine fj_callVw (As := [.int (nI (k % 8)), .int (nI (k / 8 + 1))]) (rest := []) C (d_X6_findPlace l D ty t0 bd a g u3 (nI (k % 8)) (nI (k / 8 + 1)) (k % 8) (k / 8 + 1) rfl rfl (by omega) (by omega)) (cwV 2 C.2.2.2.2.1 gX6_area_X6_findPlace rfl rfl rfl (by decide +kernel) ⟨Nat.le_of_ble_eq_true rfl, Nat.le_of_ble_eq_true rfl⟩) ⟨0, 6, _, _, fm_at0 _ _ _ _ _, rfl, rfl⟩ rfl (Nat.le_of_ble_eq_true rfl) dX6_area_90 ⟨Nat.zero_le _, Nat.zero_le _⟩ (fun v9 w9 hp9 => ?_)
            rcases hp9 with ⟨x4, y4, L4, u4, hu4, ex4, ey4, rfl, rfl⟩ | ⟨L4, u4, hu4, rfl, rfl⟩
            · refine fj_st (st' := .int 1 :: []) rfl ?_
              refine fj_if_eq (tgt := 105) C dX6_area_93 (by decide) (fun h => absurd h (by decide)) (fun _ => ?_)
              refine fj_iload C 4 dX6_area_96 rfl ?_
              refine fj_if_eq (tgt := 105) C dX6_area_98 (by decide) (fun _ => ?_) (fun h => absurd (by decide) h)
              refine fj_iconst (v := 0) C dX6_area_105 (by decide) ?_
              refine fj_istore (lv' := [(6, .int 0), (11, .int 3), (9, .long ((u3 14).toInt64)), (7, .long ((u3 13).toInt64)), (4, .long (((0 + ((((u0 13).toInt64) * ((u1 14).toInt64)) - (((u1 13).toInt64) * ((u0 14).toInt64)))) + ((((u1 13).toInt64) * ((u2 14).toInt64)) - (((u2 13).toInt64) * ((u1 14).toInt64)))) + ((((u2 13).toInt64) * ((u3 14).toInt64)) - (((u3 13).toInt64) * ((u2 14).toInt64))))), (3, .int (nI (k / 8))), (2, .int (nI (k % 8))), (0, .ref (bd 0)), (1, .int (nI k))]) C dX6_area_106 (by decide) rfl ?_
              refine fj_lload C 4 dX6_area_108 rfl ?_
              refine fj_lload C 3 dX6_area_110 rfl ?_
              refine fj_aload_n C 7 dX6_area_112 rfl rfl ?_
              refine fj_get (Cn := RX6) (T := TX6) (N := 44) (ci := 6) (v := .int (u4 14)) C iX6 0 (fm_at0 _ _ _ _ _) rfl 43 (by decide) kX6_307 rfl dX6_area_113 ?_
              refine fj_at (y := y4) ey4 ?_
              refine fj_i2l C dX6_area_116 ?_
              refine fj_lmul C dX6_area_117 ?_
              refine fj_aload_n C 7 dX6_area_118 rfl rfl ?_
              refine fj_get (Cn := RX6) (T := TX6) (N := 44) (ci := 6) (v := .int (u4 13)) C iX6 0 (fm_at0 _ _ _ _ _) rfl 42 (by decide) kX6_304 rfl dX6_area_119 ?_
              refine fj_at (y := x4) ex4 ?_
              refine fj_i2l C dX6_area_122 ?_
              refine fj_lload C 2 dX6_area_123 rfl ?_
              refine fj_lmul C dX6_area_125 ?_
              refine fj_lsub C dX6_area_126 ?_
              refine fj_ladd C dX6_area_127 ?_
              refine fj_lstore (lv' := [(4, .long ((((0 + ((((u0 13).toInt64) * ((u1 14).toInt64)) - (((u1 13).toInt64) * ((u0 14).toInt64)))) + ((((u1 13).toInt64) * ((u2 14).toInt64)) - (((u2 13).toInt64) * ((u1 14).toInt64)))) + ((((u2 13).toInt64) * ((u3 14).toInt64)) - (((u3 13).toInt64) * ((u2 14).toInt64)))) + ((((u3 13).toInt64) * y4.toInt64) - (x4.toInt64 * ((u3 14).toInt64))))), (6, .int 0), (11, .int 3), (9, .long ((u3 14).toInt64)), (7, .long ((u3 13).toInt64)), (3, .int (nI (k / 8))), (2, .int (nI (k % 8))), (0, .ref (bd 0)), (1, .int (nI k))]) C dX6_area_128 (by decide) rfl ?_
              refine fj_aload_n C 7 dX6_area_130 rfl rfl ?_
              refine fj_get (Cn := RX6) (T := TX6) (N := 44) (ci := 6) (v := .int (u4 13)) C iX6 0 (fm_at0 _ _ _ _ _) rfl 42 (by decide) kX6_304 rfl dX6_area_131 ?_
              refine fj_at (y := x4) ex4 ?_
              refine fj_i2l C dX6_area_134 ?_
              refine fj_lstore (lv' := [(7, .long x4.toInt64), (4, .long ((((0 + ((((u0 13).toInt64) * ((u1 14).toInt64)) - (((u1 13).toInt64) * ((u0 14).toInt64)))) + ((((u1 13).toInt64) * ((u2 14).toInt64)) - (((u2 13).toInt64) * ((u1 14).toInt64)))) + ((((u2 13).toInt64) * ((u3 14).toInt64)) - (((u3 13).toInt64) * ((u2 14).toInt64)))) + ((((u3 13).toInt64) * y4.toInt64) - (x4.toInt64 * ((u3 14).toInt64))))), (6, .int 0), (11, .int 3), (9, .long ((u3 14).toInt64)), (3, .int (nI (k / 8))), (2, .int (nI (k % 8))), (0, .ref (bd 0)), (1, .int (nI k))]) C dX6_area_135 (by decide) rfl ?_
              refine fj_aload_n C 7 dX6_area_137 rfl rfl ?_
              refine fj_get (Cn := RX6) (T := TX6) (N := 44) (ci := 6) (v := .int (u4 14)) C iX6 0 (fm_at0 _ _ _ _ _) rfl 43 (by decide) kX6_307 rfl dX6_area_138 ?_
              refine fj_at (y := y4) ey4 ?_
              refine fj_i2l C dX6_area_141 ?_
              refine fj_lstore (lv' := [(9, .long y4.toInt64), (7, .long x4.toInt64), (4, .long ((((0 + ((((u0 13).toInt64) * ((u1 14).toInt64)) - (((u1 13).toInt64) * ((u0 14).toInt64)))) + ((((u1 13).toInt64) * ((u2 14).toInt64)) - (((u2 13).toInt64) * ((u1 14).toInt64)))) + ((((u2 13).toInt64) * ((u3 14).toInt64)) - (((u3 13).toInt64) * ((u2 14).toInt64)))) + ((((u3 13).toInt64) * y4.toInt64) - (x4.toInt64 * ((u3 14).toInt64))))), (6, .int 0), (11, .int 3), (3, .int (nI (k / 8))), (2, .int (nI (k % 8))), (0, .ref (bd 0)), (1, .int (nI k))]) C dX6_area_142 (by decide) rfl ?_
              refine fj_iinc (v := 4) (lv' := [(11, .int 4), (9, .long y4.toInt64), (7, .long x4.toInt64), (4, .long ((((0 + ((((u0 13).toInt64) * ((u1 14).toInt64)) - (((u1 13).toInt64) * ((u0 14).toInt64)))) + ((((u1 13).toInt64) * ((u2 14).toInt64)) - (((u2 13).toInt64) * ((u1 14).toInt64)))) + ((((u2 13).toInt64) * ((u3 14).toInt64)) - (((u3 13).toInt64) * ((u2 14).toInt64)))) + ((((u3 13).toInt64) * y4.toInt64) - (x4.toInt64 * ((u3 14).toInt64))))), (6, .int 0), (3, .int (nI (k / 8))), (2, .int (nI (k % 8))), (0, .ref (bd 0)), (1, .int (nI k))]) C 4 dX6_area_144 rfl (by decide) (by decide) rfl ?_
              refine fj_goto (tgt := 51) C dX6_area_147 (by decide) ?_
              refine fj_iload C 0 dX6_area_51 rfl ?_
              refine fj_iconst (v := 4) C dX6_area_53 (by decide) ?_
              refine fj_icmp_ge (tgt := 150) C dX6_area_54 (by decide) (fun _ => ?_) (fun h => absurd (by decide) h)
              refine fj_iload C 4 dX6_area_150 rfl ?_
              refine fj_if_eq (tgt := 160) C dX6_area_152 (by decide) (fun _ => ?_) (fun h => absurd (by decide) h)
              refine fj_ldc2 (v := (-1003)) C dX6_area_160 kL321 ?_
              exact fj_lret C E9 dX6_area_163 (Or.inr ⟨k, hk, rfl, u4, (fun j hj => (hu4 j hj).trans ((hu3 j hj).trans ((hu2 j hj).trans ((hu1 j hj).trans (hu0 j hj))))), rfl, Or.inr ⟨(Or.inr (Or.inr (Or.inr (L0)))), rfl⟩⟩)
            · refine fj_st (st' := .int 0 :: []) rfl ?_
              refine fj_if_eq (tgt := 105) C dX6_area_93 (by decide) (fun _ => ?_) (fun h => absurd (by decide) h)
              refine fj_iconst (v := 0) C dX6_area_105 (by decide) ?_
              refine fj_istore (lv' := [(6, .int 0), (11, .int 3), (9, .long ((u3 14).toInt64)), (7, .long ((u3 13).toInt64)), (4, .long (((0 + ((((u0 13).toInt64) * ((u1 14).toInt64)) - (((u1 13).toInt64) * ((u0 14).toInt64)))) + ((((u1 13).toInt64) * ((u2 14).toInt64)) - (((u2 13).toInt64) * ((u1 14).toInt64)))) + ((((u2 13).toInt64) * ((u3 14).toInt64)) - (((u3 13).toInt64) * ((u2 14).toInt64))))), (3, .int (nI (k / 8))), (2, .int (nI (k % 8))), (0, .ref (bd 0)), (1, .int (nI k))]) C dX6_area_106 (by decide) rfl ?_
              refine fj_lload C 4 dX6_area_108 rfl ?_
              refine fj_lload C 3 dX6_area_110 rfl ?_
              refine fj_aload_n C 7 dX6_area_112 rfl rfl ?_
              refine fj_get (Cn := RX6) (T := TX6) (N := 44) (ci := 6) (v := .int (u4 14)) C iX6 0 (fm_at0 _ _ _ _ _) rfl 43 (by decide) kX6_307 rfl dX6_area_113 ?_
              refine fj_i2l C dX6_area_116 ?_
              refine fj_lmul C dX6_area_117 ?_
              refine fj_aload_n C 7 dX6_area_118 rfl rfl ?_
              refine fj_get (Cn := RX6) (T := TX6) (N := 44) (ci := 6) (v := .int (u4 13)) C iX6 0 (fm_at0 _ _ _ _ _) rfl 42 (by decide) kX6_304 rfl dX6_area_119 ?_
              refine fj_i2l C dX6_area_122 ?_
              refine fj_lload C 2 dX6_area_123 rfl ?_
              refine fj_lmul C dX6_area_125 ?_
              refine fj_lsub C dX6_area_126 ?_
              refine fj_ladd C dX6_area_127 ?_
              refine fj_lstore (lv' := [(4, .long ((((0 + ((((u0 13).toInt64) * ((u1 14).toInt64)) - (((u1 13).toInt64) * ((u0 14).toInt64)))) + ((((u1 13).toInt64) * ((u2 14).toInt64)) - (((u2 13).toInt64) * ((u1 14).toInt64)))) + ((((u2 13).toInt64) * ((u3 14).toInt64)) - (((u3 13).toInt64) * ((u2 14).toInt64)))) + ((((u3 13).toInt64) * ((u4 14).toInt64)) - (((u4 13).toInt64) * ((u3 14).toInt64))))), (6, .int 0), (11, .int 3), (9, .long ((u3 14).toInt64)), (7, .long ((u3 13).toInt64)), (3, .int (nI (k / 8))), (2, .int (nI (k % 8))), (0, .ref (bd 0)), (1, .int (nI k))]) C dX6_area_128 (by decide) rfl ?_
              refine fj_aload_n C 7 dX6_area_130 rfl rfl ?_
              refine fj_get (Cn := RX6) (T := TX6) (N := 44) (ci := 6) (v := .int (u4 13)) C iX6 0 (fm_at0 _ _ _ _ _) rfl 42 (by decide) kX6_304 rfl dX6_area_131 ?_
              refine fj_i2l C dX6_area_134 ?_
              refine fj_lstore (lv' := [(7, .long ((u4 13).toInt64)), (4, .long ((((0 + ((((u0 13).toInt64) * ((u1 14).toInt64)) - (((u1 13).toInt64) * ((u0 14).toInt64)))) + ((((u1 13).toInt64) * ((u2 14).toInt64)) - (((u2 13).toInt64) * ((u1 14).toInt64)))) + ((((u2 13).toInt64) * ((u3 14).toInt64)) - (((u3 13).toInt64) * ((u2 14).toInt64)))) + ((((u3 13).toInt64) * ((u4 14).toInt64)) - (((u4 13).toInt64) * ((u3 14).toInt64))))), (6, .int 0), (11, .int 3), (9, .long ((u3 14).toInt64)), (3, .int (nI (k / 8))), (2, .int (nI (k % 8))), (0, .ref (bd 0)), (1, .int (nI k))]) C dX6_area_135 (by decide) rfl ?_
              refine fj_aload_n C 7 dX6_area_137 rfl rfl ?_
              refine fj_get (Cn := RX6) (T := TX6) (N := 44) (ci := 6) (v := .int (u4 14)) C iX6 0 (fm_at0 _ _ _ _ _) rfl 43 (by decide) kX6_307 rfl dX6_area_138 ?_
              refine fj_i2l C dX6_area_141 ?_
              refine fj_lstore (lv' := [(9, .long ((u4 14).toInt64)), (7, .long ((u4 13).toInt64)), (4, .long ((((0 + ((((u0 13).toInt64) * ((u1 14).toInt64)) - (((u1 13).toInt64) * ((u0 14).toInt64)))) + ((((u1 13).toInt64) * ((u2 14).toInt64)) - (((u2 13).toInt64) * ((u1 14).toInt64)))) + ((((u2 13).toInt64) * ((u3 14).toInt64)) - (((u3 13).toInt64) * ((u2 14).toInt64)))) + ((((u3 13).toInt64) * ((u4 14).toInt64)) - (((u4 13).toInt64) * ((u3 14).toInt64))))), (6, .int 0), (11, .int 3), (3, .int (nI (k / 8))), (2, .int (nI (k % 8))), (0, .ref (bd 0)), (1, .int (nI k))]) C dX6_area_142 (by decide) rfl ?_
              refine fj_iinc (v := 4) (lv' := [(11, .int 4), (9, .long ((u4 14).toInt64)), (7, .long ((u4 13).toInt64)), (4, .long ((((0 + ((((u0 13).toInt64) * ((u1 14).toInt64)) - (((u1 13).toInt64) * ((u0 14).toInt64)))) + ((((u1 13).toInt64) * ((u2 14).toInt64)) - (((u2 13).toInt64) * ((u1 14).toInt64)))) + ((((u2 13).toInt64) * ((u3 14).toInt64)) - (((u3 13).toInt64) * ((u2 14).toInt64)))) + ((((u3 13).toInt64) * ((u4 14).toInt64)) - (((u4 13).toInt64) * ((u3 14).toInt64))))), (6, .int 0), (3, .int (nI (k / 8))), (2, .int (nI (k % 8))), (0, .ref (bd 0)), (1, .int (nI k))]) C 4 dX6_area_144 rfl (by decide) (by decide) rfl ?_
              refine fj_goto (tgt := 51) C dX6_area_147 (by decide) ?_
              refine fj_iload C 0 dX6_area_51 rfl ?_
              refine fj_iconst (v := 4) C dX6_area_53 (by decide) ?_
              refine fj_icmp_ge (tgt := 150) C dX6_area_54 (by decide) (fun _ => ?_) (fun h => absurd (by decide) h)
              refine fj_iload C 4 dX6_area_150 rfl ?_
              refine fj_if_eq (tgt := 160) C dX6_area_152 (by decide) (fun _ => ?_) (fun h => absurd (by decide) h)
              refine fj_ldc2 (v := (-1003)) C dX6_area_160 kL321 ?_
              exact fj_lret C E9 dX6_area_163 (Or.inr ⟨k, hk, rfl, u4, (fun j hj => (hu4 j hj).trans ((hu3 j hj).trans ((hu2 j hj).trans ((hu1 j hj).trans (hu0 j hj))))), rfl, Or.inr ⟨(Or.inr (Or.inr (Or.inr (L0)))), rfl⟩⟩)
  · refine fj_ldc2 (v := (-1001)) C dX6_area_7 kL319 ?_
    exact fj_lret C E9 dX6_area_10 (Or.inl ⟨by assumption, rfl, rfl⟩)
