theorem fx_L6 {L i : Nat} (hL : L ≤ 3072) (hi : i ≤ L) (h : ¬ Int32.ofNat L - 6 < nI i) : i + 6 ≤ L := by
  have h1 := Int32.le_iff_toInt_le.mp (Int32.not_lt.mp h)
  have e1 := pk_sub_toInt (a := L) (b := 6) (by omega) (by decide)
  rw [nI_toInt (by omega), show (6 : Int32) = nI 6 from rfl, show Int32.ofNat L = nI L from rfl, e1] at h1
  omega
section FJL
variable {p : Program} {l : Launch} {e : Env} {s : State} {m : MethodId} {below : List Frame} {meth : Method} {c : Code} {D : va_G} {ty : Nat → ClassId} {t0 : Nat → Nat} {nL : Nat} {cc : ByteArray} {own : String} {Ts : List Cond} {cells slots : Nat} {ws : va_W} {lv : List (Nat × Value)} {pc : Nat} {st : List Value} {b L : Nat} {xs : Nat → Int32} {R : Room} {args : Array Value} {Q : State → Prop} {A : Nat → Prop}
theorem fj_slen (C : fj_C p s m args c cc nL own Ts A D ty t0) (S9 : va_X b L xs s s.heap ∧ b < s.heap.size ∧ ¬ A b) (hdg : decode cc pc = .ok (.arraylength, 1)) (k : fj p l e R s m args below meth c Q A D nL cells slots ws lv (pc + 1) (.int (Int32.ofNat L) :: st)) : fj p l e R s m args below meth c Q A D nL cells slots ws lv pc (.ref b :: st) := fun H locs ls hP hD hS hl => va_slen C.1 C.2.1 S9.1 S9.2.1 S9.2.2 hS hdg (k H locs ls hP hD hS hl)
theorem fj_sld (C : fj_C p s m args c cc nL own Ts A D ty t0) (S9 : va_X b L xs s s.heap ∧ b < s.heap.size ∧ ¬ A b) {i : Int32} (hin : vp_in i L) (hdg : decode cc pc = .ok (.iaload, 1)) (k : fj p l e R s m args below meth c Q A D nL cells slots ws lv (pc + 1) (.int (xs i.toNatClampNeg) :: st)) : fj p l e R s m args below meth c Q A D nL cells slots ws lv pc (.int i :: .ref b :: st) := fun H locs ls hP hD hS hl => va_sld C.1 C.2.1 S9.1 S9.2.1 S9.2.2 hS hin hdg (k H locs ls hP hD hS hl)
theorem fj_lend (C : fj_C p s m #[Value.ref b] c code nL own Ts (fun q => s.heap.size ≤ q) D ty t0) (hr : meth.sig.returnType = ret) (hlk : meth.locks = false) (hdg : decode code pc = .ok (.ireturn, 1)) (hc : cells ≤ 600000) (hs : slots ≤ 7302250) : fj p l e room_1 s m #[Value.ref b] below meth c (lw_Z below #[Value.ref b] s) (fun q => s.heap.size ≤ q) D nL cells slots ws lv pc [.int 1] := fun H locs ls hP hD hS hl => va_forget (fun q hq => hS.2.2 q hq) (W.widen hc hs (lw_ret C.1 C.2.1 hr hlk hdg))
end FJL
set_option maxHeartbeats 8000000 in
set_option maxRecDepth 100000 in
/-- the law's loop: call by call the two are kept together -/
theorem law_loop {p : Program} {e : Env} {s : State} {m : MethodId} {below : List Frame} {meth : Method} {c : Code} (l : Launch) {b L : Nat} {xs : Nat → Int32} {D : va_G} {ty : Nat → ClassId} {t0 : Nat → Nat} (hL : L ≤ 3072) (C : fj_C p s m #[Value.ref b] c cL_law 4 RL wsL_law (fun q => s.heap.size ≤ q) D ty t0) (S9 : va_X b L xs s s.heap ∧ b < s.heap.size ∧ ¬ (fun q => s.heap.size ≤ q) b) (hr : meth.sig.returnType = ret) (hlk : meth.locks = false) (ad bd : Nat → Nat) : ∀ (k i : Nat) (a : Nat → Nat → Int32) (g : Nat → Nat → Int64) (n : Nat → Int32) (a2 : Nat → Nat → Int32) (n2 : Nat → Int32), L - i < k → i ≤ L → (∃ P S T B S2 T2, RL1 P S T B S2 T2 a n a2 n2) → fj p l e room_1 s m #[Value.ref b] below meth c (lw_Z below #[Value.ref b] s) (fun q => s.heap.size ≤ q) D 4 74 30104 (fx_w ad ty a g n ++ fm_w bd ty a2 fm_g0 n2) [(3, .int (nI i)), (2, .ref (bd 0)), (1, .ref (ad 0)), (0, .ref b)] 18 [] := by
  intro k
  induction k with
  | zero => intro i a g n a2 n2 hk; exact absurd hk (Nat.not_lt_zero _)
  | succ k ih =>
    intro i a g n a2 n2 hk hi hR0
    obtain ⟨P, S, T, B, S2, T2, hR⟩ := hR0
    have hz := hR.1.2.2.1
    have kL23 : Cond.constantLong RL 23 (4294967295) ∈ wsL_law := ptL_law_woL_law _ (by decide +kernel)
    refine fj_iload_n C 0 dL_law_18 rfl rfl ?_
    refine fj_aload_n C 3 dL_law_19 rfl rfl ?_
    refine fj_slen C S9 dL_law_20 ?_
    refine fj_bipush (v := 6) C dL_law_21 (by decide) ?_
    refine fj_isub C dL_law_23 ?_
    refine fj_icmp_gt (tgt := 803) C dL_law_24 (by decide) (fun h24 => ?_) (fun h24 => ?_)
    · refine fj_iconst (v := 1) C dL_law_803 (by decide) ?_
      exact fj_lend C hr hlk dL_law_804 (Nat.le_of_ble_eq_true rfl) (Nat.le_of_ble_eq_true rfl)
    · have hi6 : i + 6 ≤ L := fx_L6 hL hi h24
      have hm1 : L - (i + 6) < k := by omega
      refine fj_aload_n C 3 dL_law_27 rfl rfl ?_
      refine fj_iload_n C 0 dL_law_28 rfl rfl ?_
      refine fj_sld C S9 (vp_in_nI (by omega) (by omega)) dL_law_29 ?_
      refine fj_bipush (v := 31) C dL_law_30 (by decide) ?_
      refine fj_iand C dL_law_32 ?_
      refine fj_topi (fun z eZ => ?_)
      rcases fx_sw z 0 18 with hsw | hsw
      · refine fj_tableOut (tgt := 797) C dL_law_33 hsw (by decide) ?_
        refine fj_iinc (v := nI (i + 6)) (lv' := [(3, .int (nI (i + 6))), (2, .ref (bd 0)), (1, .ref (ad 0)), (0, .ref b)]) C 0 dL_law_797 rfl (nI_add i 6) (by decide) rfl ?_
        refine fj_goto (tgt := 18) C dL_law_800 (by decide) ?_
        refine fj_lv (lv' := [(3, .int (nI (i + 6))), (2, .ref (bd 0)), (1, .ref (ad 0)), (0, .ref b)]) [0, 1, 2, 3] rfl ?_
        exact ih (i + 6) a g n a2 n2 hm1 hi6 ⟨P, S, T, B, S2, T2, hR⟩
      · obtain ⟨hs1, hs2⟩ := hsw
        rcases (show z.toInt = 0 ∨ z.toInt = 1 ∨ z.toInt = 2 ∨ z.toInt = 3 ∨ z.toInt = 4 ∨ z.toInt = 5 ∨ z.toInt = 6 ∨ z.toInt = 7 ∨ z.toInt = 8 ∨ z.toInt = 9 ∨ z.toInt = 10 ∨ z.toInt = 11 ∨ z.toInt = 12 ∨ z.toInt = 13 ∨ z.toInt = 14 ∨ z.toInt = 15 ∨ z.toInt = 16 ∨ z.toInt = 17 ∨ z.toInt = 18 by omega) with hsw | hsw | hsw | hsw | hsw | hsw | hsw | hsw | hsw | hsw | hsw | hsw | hsw | hsw | hsw | hsw | hsw | hsw | hsw
        · refine fj_tableIn (off := 91) (tgt := 124) C dL_law_33 (by omega) (by omega) (by rw [hsw]; rfl) (by decide) ?_
          refine fj_aload_n C 2 dL_law_124 rfl rfl ?_
          refine fj_aload_n C 3 dL_law_125 rfl rfl ?_
          refine fj_iload_n C 0 dL_law_126 rfl rfl ?_
          refine fj_iconst (v := 1) C dL_law_127 (by decide) ?_
          refine fj_iadd C dL_law_128 ?_
          refine fj_at (y := nI (i + 1)) (nI_add i 1) ?_
          refine fj_sld C S9 (vp_in_nI (by omega) (by omega)) dL_law_129 ?_
          refine fj_aload_n C 3 dL_law_130 rfl rfl ?_
          refine fj_iload_n C 0 dL_law_131 rfl rfl ?_
          refine fj_iconst (v := 2) C dL_law_132 (by decide) ?_
          refine fj_iadd C dL_law_133 ?_
          refine fj_at (y := nI (i + 2)) (nI_add i 2) ?_
          refine fj_sld C S9 (vp_in_nI (by omega) (by omega)) dL_law_134 ?_
          refine fj_callV (As := [.int (xs (nI (i + 1)).toNatClampNeg), .int (xs (nI (i + 2)).toNatClampNeg)]) (rest := []) (wr := fm_w bd ty a2 fm_g0 n2) C (d_X5_person l D ty t0 ad a g n P S T B hR.1.1 (xs (nI (i + 1)).toNatClampNeg) (xs (nI (i + 2)).toNatClampNeg)) (cwV 2 C.2.2.2.2.1 gL_law_X5_person rfl rfl rfl (by decide +kernel) ⟨Nat.le_of_ble_eq_true rfl, Nat.le_of_ble_eq_true rfl⟩) ⟨0, 5, _, _, fx_at0 _ _ _ _ _, rfl, rfl⟩ rfl (Nat.le_of_ble_eq_true rfl) dL_law_135 ⟨Nat.le_of_ble_eq_true rfl, Nat.le_of_ble_eq_true rfl⟩ (List.range 44) [44, 45, 46, 47, 48, 49, 50, 51, 52, 53, 54, 55, 56, 57, 58, 59, 60, 61, 62, 63, 64, 65, 66, 67, 68, 69, 70, 71, 72, 73] rfl rfl rfl rfl (by decide) (fun v9 w9 hp9 => ?_)
          obtain ⟨r1, a1, g1, n1, rfl, rfl, hX⟩ := tX_person (P := P) (S := S) (T := T) (B := B) hp9
          refine fj_st (st' := .int r1 :: []) rfl ?_
          refine fj_pop C dL_law_138 rfl ?_
          refine fj_aload_n C 1 dL_law_139 rfl rfl ?_
          refine fj_aload_n C 3 dL_law_140 rfl rfl ?_
          refine fj_iload_n C 0 dL_law_141 rfl rfl ?_
          refine fj_iconst (v := 1) C dL_law_142 (by decide) ?_
          refine fj_iadd C dL_law_143 ?_
          refine fj_at (y := nI (i + 1)) (nI_add i 1) ?_
          refine fj_sld C S9 (vp_in_nI (by omega) (by omega)) dL_law_144 ?_
          refine fj_aload_n C 3 dL_law_145 rfl rfl ?_
          refine fj_iload_n C 0 dL_law_146 rfl rfl ?_
          refine fj_iconst (v := 2) C dL_law_147 (by decide) ?_
          refine fj_iadd C dL_law_148 ?_
          refine fj_at (y := nI (i + 2)) (nI_add i 2) ?_
          refine fj_sld C S9 (vp_in_nI (by omega) (by omega)) dL_law_149 ?_
          refine fj_callV (As := [.int (xs (nI (i + 1)).toNatClampNeg), .int (xs (nI (i + 2)).toNatClampNeg)]) (rest := []) (wr := fx_w ad ty a1 g1 n1) C (d_X6_person l D ty t0 bd a2 fm_g0 n2 P S2 T2 B hR.1.2.1 (xs (nI (i + 1)).toNatClampNeg) (xs (nI (i + 2)).toNatClampNeg)) (cwV 2 C.2.2.2.2.1 gL_law_X6_person rfl rfl rfl (by decide +kernel) ⟨Nat.le_of_ble_eq_true rfl, Nat.le_of_ble_eq_true rfl⟩) ⟨0, 6, _, _, fm_at0 _ _ _ _ _, rfl, rfl⟩ rfl (Nat.le_of_ble_eq_true rfl) dL_law_150 ⟨Nat.le_of_ble_eq_true rfl, Nat.le_of_ble_eq_true rfl⟩ (List.range 30) [30, 31, 32, 33, 34, 35, 36, 37, 38, 39, 40, 41, 42, 43, 44, 45, 46, 47, 48, 49, 50, 51, 52, 53, 54, 55, 56, 57, 58, 59, 60, 61, 62, 63, 64, 65, 66, 67, 68, 69, 70, 71, 72, 73] rfl rfl rfl rfl (by decide) (fun v9 w9 hp9 => ?_)
          obtain ⟨r2, a3, n3, rfl, rfl, hY⟩ := tY_person (P := P) (S := S2) (T := T2) (B := B) hp9
          obtain ⟨hEq, hR9⟩ := rl1_person hR hX hY
          refine fj_st (st' := .int r2 :: []) rfl ?_
          refine fj_pop C dL_law_153 rfl ?_
          refine fj_goto (tgt := 797) C dL_law_154 (by decide) ?_
          refine fj_iinc (v := nI (i + 6)) (lv' := [(3, .int (nI (i + 6))), (2, .ref (bd 0)), (1, .ref (ad 0)), (0, .ref b)]) C 0 dL_law_797 rfl (nI_add i 6) (by decide) rfl ?_
          refine fj_goto (tgt := 18) C dL_law_800 (by decide) ?_
          refine fj_lv (lv' := [(3, .int (nI (i + 6))), (2, .ref (bd 0)), (1, .ref (ad 0)), (0, .ref b)]) [0, 1, 2, 3] rfl ?_
          exact ih (i + 6) a1 g1 n1 a3 n3 hm1 hi6 hR9
        · refine fj_tableIn (off := 124) (tgt := 157) C dL_law_33 (by omega) (by omega) (by rw [hsw]; rfl) (by decide) ?_
          refine fj_aload_n C 2 dL_law_157 rfl rfl ?_
          refine fj_aload_n C 3 dL_law_158 rfl rfl ?_
          refine fj_iload_n C 0 dL_law_159 rfl rfl ?_
          refine fj_iconst (v := 1) C dL_law_160 (by decide) ?_
          refine fj_iadd C dL_law_161 ?_
          refine fj_at (y := nI (i + 1)) (nI_add i 1) ?_
          refine fj_sld C S9 (vp_in_nI (by omega) (by omega)) dL_law_162 ?_
          refine fj_callV (As := [.int (xs (nI (i + 1)).toNatClampNeg)]) (rest := []) (wr := fm_w bd ty a2 fm_g0 n2) C (d_X5_map l D ty t0 ad a g n (xs (nI (i + 1)).toNatClampNeg)) (cwV 1 C.2.2.2.2.1 gL_law_X5_map rfl rfl rfl (by decide +kernel) ⟨Nat.le_of_ble_eq_true rfl, Nat.le_of_ble_eq_true rfl⟩) ⟨0, 5, _, _, fx_at0 _ _ _ _ _, rfl, rfl⟩ rfl (Nat.le_of_ble_eq_true rfl) dL_law_163 ⟨Nat.le_of_ble_eq_true rfl, Nat.le_of_ble_eq_true rfl⟩ (List.range 44) [44, 45, 46, 47, 48, 49, 50, 51, 52, 53, 54, 55, 56, 57, 58, 59, 60, 61, 62, 63, 64, 65, 66, 67, 68, 69, 70, 71, 72, 73] rfl rfl rfl rfl (by decide) (fun v9 w9 hp9 => ?_)
          obtain ⟨r1, a1, g1, n1, rfl, rfl, hX⟩ := tX_map (P := P) (S := S) (T := T) (B := B) hp9
          refine fj_st (st' := .int r1 :: []) rfl ?_
          refine fj_pop C dL_law_166 rfl ?_
          refine fj_aload_n C 1 dL_law_167 rfl rfl ?_
          refine fj_aload_n C 3 dL_law_168 rfl rfl ?_
          refine fj_iload_n C 0 dL_law_169 rfl rfl ?_
          refine fj_iconst (v := 1) C dL_law_170 (by decide) ?_
          refine fj_iadd C dL_law_171 ?_
          refine fj_at (y := nI (i + 1)) (nI_add i 1) ?_
          refine fj_sld C S9 (vp_in_nI (by omega) (by omega)) dL_law_172 ?_
          refine fj_callV (As := [.int (xs (nI (i + 1)).toNatClampNeg)]) (rest := []) (wr := fx_w ad ty a1 g1 n1) C (d_X6_map l D ty t0 bd a2 fm_g0 n2 (xs (nI (i + 1)).toNatClampNeg)) (cwV 1 C.2.2.2.2.1 gL_law_X6_map rfl rfl rfl (by decide +kernel) ⟨Nat.le_of_ble_eq_true rfl, Nat.le_of_ble_eq_true rfl⟩) ⟨0, 6, _, _, fm_at0 _ _ _ _ _, rfl, rfl⟩ rfl (Nat.le_of_ble_eq_true rfl) dL_law_173 ⟨Nat.le_of_ble_eq_true rfl, Nat.le_of_ble_eq_true rfl⟩ (List.range 30) [30, 31, 32, 33, 34, 35, 36, 37, 38, 39, 40, 41, 42, 43, 44, 45, 46, 47, 48, 49, 50, 51, 52, 53, 54, 55, 56, 57, 58, 59, 60, 61, 62, 63, 64, 65, 66, 67, 68, 69, 70, 71, 72, 73] rfl rfl rfl rfl (by decide) (fun v9 w9 hp9 => ?_)
          obtain ⟨r2, a3, n3, rfl, rfl, hY⟩ := tY_map (P := P) (S := S2) (T := T2) (B := B) hp9
          obtain ⟨hEq, hR9⟩ := rl1_map hR hX hY
          refine fj_st (st' := .int r2 :: []) rfl ?_
          refine fj_pop C dL_law_176 rfl ?_
          refine fj_goto (tgt := 797) C dL_law_177 (by decide) ?_
          refine fj_iinc (v := nI (i + 6)) (lv' := [(3, .int (nI (i + 6))), (2, .ref (bd 0)), (1, .ref (ad 0)), (0, .ref b)]) C 0 dL_law_797 rfl (nI_add i 6) (by decide) rfl ?_
          refine fj_goto (tgt := 18) C dL_law_800 (by decide) ?_
          refine fj_lv (lv' := [(3, .int (nI (i + 6))), (2, .ref (bd 0)), (1, .ref (ad 0)), (0, .ref b)]) [0, 1, 2, 3] rfl ?_
          exact ih (i + 6) a1 g1 n1 a3 n3 hm1 hi6 hR9
        · refine fj_tableIn (off := 147) (tgt := 180) C dL_law_33 (by omega) (by omega) (by rw [hsw]; rfl) (by decide) ?_
          refine fj_aload_n C 2 dL_law_180 rfl rfl ?_
          refine fj_aload_n C 3 dL_law_181 rfl rfl ?_
          refine fj_iload_n C 0 dL_law_182 rfl rfl ?_
          refine fj_iconst (v := 1) C dL_law_183 (by decide) ?_
          refine fj_iadd C dL_law_184 ?_
          refine fj_at (y := nI (i + 1)) (nI_add i 1) ?_
          refine fj_sld C S9 (vp_in_nI (by omega) (by omega)) dL_law_185 ?_
          refine fj_aload_n C 3 dL_law_186 rfl rfl ?_
          refine fj_iload_n C 0 dL_law_187 rfl rfl ?_
          refine fj_iconst (v := 2) C dL_law_188 (by decide) ?_
          refine fj_iadd C dL_law_189 ?_
          refine fj_at (y := nI (i + 2)) (nI_add i 2) ?_
          refine fj_sld C S9 (vp_in_nI (by omega) (by omega)) dL_law_190 ?_
          refine fj_i2l C dL_law_191 ?_
          refine fj_bipush (v := 32) C dL_law_192 (by decide) ?_
          refine fj_lshl C dL_law_194 ?_
          refine fj_aload_n C 3 dL_law_195 rfl rfl ?_
          refine fj_iload_n C 0 dL_law_196 rfl rfl ?_
          refine fj_iconst (v := 3) C dL_law_197 (by decide) ?_
          refine fj_iadd C dL_law_198 ?_
          refine fj_at (y := nI (i + 3)) (nI_add i 3) ?_
          refine fj_sld C S9 (vp_in_nI (by omega) (by omega)) dL_law_199 ?_
          refine fj_i2l C dL_law_200 ?_
          refine fj_ldc2 (v := 4294967295) C dL_law_201 kL23 ?_
          refine fj_land C dL_law_204 ?_
          refine fj_lor C dL_law_205 ?_
          refine fj_callV (As := [.int (xs (nI (i + 1)).toNatClampNeg), .long ((((xs (nI (i + 2)).toNatClampNeg).toInt64) <<< ((32 : Int32).toInt64 &&& 63)) ||| (((xs (nI (i + 3)).toNatClampNeg).toInt64) &&& 4294967295))]) (rest := []) (wr := fm_w bd ty a2 fm_g0 n2) C (d_X5_feed l D ty t0 ad a g n P S T B hR.1.1 (xs (nI (i + 1)).toNatClampNeg) ((((xs (nI (i + 2)).toNatClampNeg).toInt64) <<< ((32 : Int32).toInt64 &&& 63)) ||| (((xs (nI (i + 3)).toNatClampNeg).toInt64) &&& 4294967295))) (cwV 2 C.2.2.2.2.1 gL_law_X5_feed rfl rfl rfl (by decide +kernel) ⟨Nat.le_of_ble_eq_true rfl, Nat.le_of_ble_eq_true rfl⟩) ⟨0, 5, _, _, fx_at0 _ _ _ _ _, rfl, rfl⟩ rfl (Nat.le_of_ble_eq_true rfl) dL_law_206 ⟨Nat.le_of_ble_eq_true rfl, Nat.le_of_ble_eq_true rfl⟩ (List.range 44) [44, 45, 46, 47, 48, 49, 50, 51, 52, 53, 54, 55, 56, 57, 58, 59, 60, 61, 62, 63, 64, 65, 66, 67, 68, 69, 70, 71, 72, 73] rfl rfl rfl rfl (by decide) (fun v9 w9 hp9 => ?_)
          obtain ⟨r1, a1, g1, n1, rfl, rfl, hX⟩ := tX_feed (P := P) (S := S) (T := T) (B := B) hp9
          refine fj_st (st' := .int r1 :: []) rfl ?_
          refine fj_pop C dL_law_209 rfl ?_
          refine fj_aload_n C 1 dL_law_210 rfl rfl ?_
          refine fj_aload_n C 3 dL_law_211 rfl rfl ?_
          refine fj_iload_n C 0 dL_law_212 rfl rfl ?_
          refine fj_iconst (v := 1) C dL_law_213 (by decide) ?_
          refine fj_iadd C dL_law_214 ?_
          refine fj_at (y := nI (i + 1)) (nI_add i 1) ?_
          refine fj_sld C S9 (vp_in_nI (by omega) (by omega)) dL_law_215 ?_
          refine fj_aload_n C 3 dL_law_216 rfl rfl ?_
          refine fj_iload_n C 0 dL_law_217 rfl rfl ?_
          refine fj_iconst (v := 2) C dL_law_218 (by decide) ?_
          refine fj_iadd C dL_law_219 ?_
          refine fj_at (y := nI (i + 2)) (nI_add i 2) ?_
          refine fj_sld C S9 (vp_in_nI (by omega) (by omega)) dL_law_220 ?_
          refine fj_i2l C dL_law_221 ?_
          refine fj_bipush (v := 32) C dL_law_222 (by decide) ?_
          refine fj_lshl C dL_law_224 ?_
          refine fj_aload_n C 3 dL_law_225 rfl rfl ?_
          refine fj_iload_n C 0 dL_law_226 rfl rfl ?_
          refine fj_iconst (v := 3) C dL_law_227 (by decide) ?_
          refine fj_iadd C dL_law_228 ?_
          refine fj_at (y := nI (i + 3)) (nI_add i 3) ?_
          refine fj_sld C S9 (vp_in_nI (by omega) (by omega)) dL_law_229 ?_
          refine fj_i2l C dL_law_230 ?_
          refine fj_ldc2 (v := 4294967295) C dL_law_231 kL23 ?_
          refine fj_land C dL_law_234 ?_
          refine fj_lor C dL_law_235 ?_
          refine fj_callV (As := [.int (xs (nI (i + 1)).toNatClampNeg), .long ((((xs (nI (i + 2)).toNatClampNeg).toInt64) <<< ((32 : Int32).toInt64 &&& 63)) ||| (((xs (nI (i + 3)).toNatClampNeg).toInt64) &&& 4294967295))]) (rest := []) (wr := fx_w ad ty a1 g1 n1) C (d_X6_feed l D ty t0 bd a2 fm_g0 n2 P S2 T2 B hR.1.2.1 (xs (nI (i + 1)).toNatClampNeg) ((((xs (nI (i + 2)).toNatClampNeg).toInt64) <<< ((32 : Int32).toInt64 &&& 63)) ||| (((xs (nI (i + 3)).toNatClampNeg).toInt64) &&& 4294967295))) (cwV 2 C.2.2.2.2.1 gL_law_X6_feed rfl rfl rfl (by decide +kernel) ⟨Nat.le_of_ble_eq_true rfl, Nat.le_of_ble_eq_true rfl⟩) ⟨0, 6, _, _, fm_at0 _ _ _ _ _, rfl, rfl⟩ rfl (Nat.le_of_ble_eq_true rfl) dL_law_236 ⟨Nat.le_of_ble_eq_true rfl, Nat.le_of_ble_eq_true rfl⟩ (List.range 30) [30, 31, 32, 33, 34, 35, 36, 37, 38, 39, 40, 41, 42, 43, 44, 45, 46, 47, 48, 49, 50, 51, 52, 53, 54, 55, 56, 57, 58, 59, 60, 61, 62, 63, 64, 65, 66, 67, 68, 69, 70, 71, 72, 73] rfl rfl rfl rfl (by decide) (fun v9 w9 hp9 => ?_)
          obtain ⟨r2, a3, n3, rfl, rfl, hY⟩ := tY_feed (P := P) (S := S2) (T := T2) (B := B) hp9
          obtain ⟨hEq, hR9⟩ := rl1_feed hR hX hY
          refine fj_st (st' := .int r2 :: []) rfl ?_
          refine fj_pop C dL_law_239 rfl ?_
          refine fj_goto (tgt := 797) C dL_law_240 (by decide) ?_
          refine fj_iinc (v := nI (i + 6)) (lv' := [(3, .int (nI (i + 6))), (2, .ref (bd 0)), (1, .ref (ad 0)), (0, .ref b)]) C 0 dL_law_797 rfl (nI_add i 6) (by decide) rfl ?_
          refine fj_goto (tgt := 18) C dL_law_800 (by decide) ?_
          refine fj_lv (lv' := [(3, .int (nI (i + 6))), (2, .ref (bd 0)), (1, .ref (ad 0)), (0, .ref b)]) [0, 1, 2, 3] rfl ?_
          exact ih (i + 6) a1 g1 n1 a3 n3 hm1 hi6 hR9
        · refine fj_tableIn (off := 210) (tgt := 243) C dL_law_33 (by omega) (by omega) (by rw [hsw]; rfl) (by decide) ?_
          refine fj_aload_n C 2 dL_law_243 rfl rfl ?_
          refine fj_aload_n C 3 dL_law_244 rfl rfl ?_
          refine fj_iload_n C 0 dL_law_245 rfl rfl ?_
          refine fj_iconst (v := 1) C dL_law_246 (by decide) ?_
          refine fj_iadd C dL_law_247 ?_
          refine fj_at (y := nI (i + 1)) (nI_add i 1) ?_
          refine fj_sld C S9 (vp_in_nI (by omega) (by omega)) dL_law_248 ?_
          refine fj_callV (As := [.int (xs (nI (i + 1)).toNatClampNeg)]) (rest := []) (wr := fm_w bd ty a2 fm_g0 n2) C (d_X5_law l D ty t0 ad a g n P S T B hR.1.1 (xs (nI (i + 1)).toNatClampNeg)) (cwV 1 C.2.2.2.2.1 gL_law_X5_law rfl rfl rfl (by decide +kernel) ⟨Nat.le_of_ble_eq_true rfl, Nat.le_of_ble_eq_true rfl⟩) ⟨0, 5, _, _, fx_at0 _ _ _ _ _, rfl, rfl⟩ rfl (Nat.le_of_ble_eq_true rfl) dL_law_249 ⟨Nat.le_of_ble_eq_true rfl, Nat.le_of_ble_eq_true rfl⟩ (List.range 44) [44, 45, 46, 47, 48, 49, 50, 51, 52, 53, 54, 55, 56, 57, 58, 59, 60, 61, 62, 63, 64, 65, 66, 67, 68, 69, 70, 71, 72, 73] rfl rfl rfl rfl (by decide) (fun v9 w9 hp9 => ?_)
          obtain ⟨r1, a1, g1, n1, rfl, rfl, hX⟩ := tX_law (P := P) (S := S) (T := T) (B := B) hp9
          refine fj_st (st' := .int r1 :: []) rfl ?_
          refine fj_pop C dL_law_252 rfl ?_
          refine fj_aload_n C 1 dL_law_253 rfl rfl ?_
          refine fj_aload_n C 3 dL_law_254 rfl rfl ?_
          refine fj_iload_n C 0 dL_law_255 rfl rfl ?_
          refine fj_iconst (v := 1) C dL_law_256 (by decide) ?_
          refine fj_iadd C dL_law_257 ?_
          refine fj_at (y := nI (i + 1)) (nI_add i 1) ?_
          refine fj_sld C S9 (vp_in_nI (by omega) (by omega)) dL_law_258 ?_
          refine fj_callV (As := [.int (xs (nI (i + 1)).toNatClampNeg)]) (rest := []) (wr := fx_w ad ty a1 g1 n1) C (d_X6_law l D ty t0 bd a2 fm_g0 n2 P S2 T2 B hR.1.2.1 (xs (nI (i + 1)).toNatClampNeg)) (cwV 1 C.2.2.2.2.1 gL_law_X6_law rfl rfl rfl (by decide +kernel) ⟨Nat.le_of_ble_eq_true rfl, Nat.le_of_ble_eq_true rfl⟩) ⟨0, 6, _, _, fm_at0 _ _ _ _ _, rfl, rfl⟩ rfl (Nat.le_of_ble_eq_true rfl) dL_law_259 ⟨Nat.le_of_ble_eq_true rfl, Nat.le_of_ble_eq_true rfl⟩ (List.range 30) [30, 31, 32, 33, 34, 35, 36, 37, 38, 39, 40, 41, 42, 43, 44, 45, 46, 47, 48, 49, 50, 51, 52, 53, 54, 55, 56, 57, 58, 59, 60, 61, 62, 63, 64, 65, 66, 67, 68, 69, 70, 71, 72, 73] rfl rfl rfl rfl (by decide) (fun v9 w9 hp9 => ?_)
          obtain ⟨r2, a3, n3, rfl, rfl, hY⟩ := tY_law (P := P) (S := S2) (T := T2) (B := B) hp9
          obtain ⟨hEq, hR9⟩ := rl1_law hR hX hY
          refine fj_st (st' := .int r2 :: []) rfl ?_
          refine fj_pop C dL_law_262 rfl ?_
          refine fj_goto (tgt := 797) C dL_law_263 (by decide) ?_
          refine fj_iinc (v := nI (i + 6)) (lv' := [(3, .int (nI (i + 6))), (2, .ref (bd 0)), (1, .ref (ad 0)), (0, .ref b)]) C 0 dL_law_797 rfl (nI_add i 6) (by decide) rfl ?_
          refine fj_goto (tgt := 18) C dL_law_800 (by decide) ?_
          refine fj_lv (lv' := [(3, .int (nI (i + 6))), (2, .ref (bd 0)), (1, .ref (ad 0)), (0, .ref b)]) [0, 1, 2, 3] rfl ?_
          exact ih (i + 6) a1 g1 n1 a3 n3 hm1 hi6 hR9
        · refine fj_tableIn (off := 233) (tgt := 266) C dL_law_33 (by omega) (by omega) (by rw [hsw]; rfl) (by decide) ?_
          refine fj_aload_n C 2 dL_law_266 rfl rfl ?_
          refine fj_callV (As := []) (rest := []) (wr := fm_w bd ty a2 fm_g0 n2) C (d_X5_place l D ty t0 ad a g n) (cwV 0 C.2.2.2.2.1 gL_law_X5_place rfl rfl rfl (by decide +kernel) ⟨Nat.le_of_ble_eq_true rfl, Nat.le_of_ble_eq_true rfl⟩) ⟨0, 5, _, _, fx_at0 _ _ _ _ _, rfl, rfl⟩ rfl (Nat.le_of_ble_eq_true rfl) dL_law_267 ⟨Nat.le_of_ble_eq_true rfl, Nat.le_of_ble_eq_true rfl⟩ (List.range 44) [44, 45, 46, 47, 48, 49, 50, 51, 52, 53, 54, 55, 56, 57, 58, 59, 60, 61, 62, 63, 64, 65, 66, 67, 68, 69, 70, 71, 72, 73] rfl rfl rfl rfl (by decide) (fun v9 w9 hp9 => ?_)
          obtain ⟨r1, a1, g1, n1, rfl, rfl, hX⟩ := tX_place (P := P) (S := S) (T := T) (B := B) hp9
          refine fj_st (st' := .int r1 :: []) rfl ?_
          refine fj_pop C dL_law_270 rfl ?_
          refine fj_aload_n C 1 dL_law_271 rfl rfl ?_
          refine fj_callV (As := []) (rest := []) (wr := fx_w ad ty a1 g1 n1) C (d_X6_place l D ty t0 bd a2 fm_g0 n2) (cwV 0 C.2.2.2.2.1 gL_law_X6_place rfl rfl rfl (by decide +kernel) ⟨Nat.le_of_ble_eq_true rfl, Nat.le_of_ble_eq_true rfl⟩) ⟨0, 6, _, _, fm_at0 _ _ _ _ _, rfl, rfl⟩ rfl (Nat.le_of_ble_eq_true rfl) dL_law_272 ⟨Nat.le_of_ble_eq_true rfl, Nat.le_of_ble_eq_true rfl⟩ (List.range 30) [30, 31, 32, 33, 34, 35, 36, 37, 38, 39, 40, 41, 42, 43, 44, 45, 46, 47, 48, 49, 50, 51, 52, 53, 54, 55, 56, 57, 58, 59, 60, 61, 62, 63, 64, 65, 66, 67, 68, 69, 70, 71, 72, 73] rfl rfl rfl rfl (by decide) (fun v9 w9 hp9 => ?_)
          obtain ⟨r2, a3, n3, rfl, rfl, hY⟩ := tY_place (P := P) (S := S2) (T := T2) (B := B) hp9
          obtain ⟨hEq, hR9⟩ := rl1_place hR hX hY
          refine fj_st (st' := .int r2 :: []) rfl ?_
          refine fj_pop C dL_law_275 rfl ?_
          refine fj_goto (tgt := 797) C dL_law_276 (by decide) ?_
          refine fj_iinc (v := nI (i + 6)) (lv' := [(3, .int (nI (i + 6))), (2, .ref (bd 0)), (1, .ref (ad 0)), (0, .ref b)]) C 0 dL_law_797 rfl (nI_add i 6) (by decide) rfl ?_
          refine fj_goto (tgt := 18) C dL_law_800 (by decide) ?_
          refine fj_lv (lv' := [(3, .int (nI (i + 6))), (2, .ref (bd 0)), (1, .ref (ad 0)), (0, .ref b)]) [0, 1, 2, 3] rfl ?_
          exact ih (i + 6) a1 g1 n1 a3 n3 hm1 hi6 hR9
        · refine fj_tableIn (off := 246) (tgt := 279) C dL_law_33 (by omega) (by omega) (by rw [hsw]; rfl) (by decide) ?_
          refine fj_aload_n C 2 dL_law_279 rfl rfl ?_
          refine fj_aload_n C 3 dL_law_280 rfl rfl ?_
          refine fj_iload_n C 0 dL_law_281 rfl rfl ?_
          refine fj_iconst (v := 1) C dL_law_282 (by decide) ?_
          refine fj_iadd C dL_law_283 ?_
          refine fj_at (y := nI (i + 1)) (nI_add i 1) ?_
          refine fj_sld C S9 (vp_in_nI (by omega) (by omega)) dL_law_284 ?_
          refine fj_aload_n C 3 dL_law_285 rfl rfl ?_
          refine fj_iload_n C 0 dL_law_286 rfl rfl ?_
          refine fj_iconst (v := 2) C dL_law_287 (by decide) ?_
          refine fj_iadd C dL_law_288 ?_
          refine fj_at (y := nI (i + 2)) (nI_add i 2) ?_
          refine fj_sld C S9 (vp_in_nI (by omega) (by omega)) dL_law_289 ?_
          refine fj_callV (As := [.int (xs (nI (i + 1)).toNatClampNeg), .int (xs (nI (i + 2)).toNatClampNeg)]) (rest := []) (wr := fm_w bd ty a2 fm_g0 n2) C (d_X5_sets l D ty t0 ad a g n P S T B hR.1.1 (xs (nI (i + 1)).toNatClampNeg) (xs (nI (i + 2)).toNatClampNeg)) (cwV 2 C.2.2.2.2.1 gL_law_X5_sets rfl rfl rfl (by decide +kernel) ⟨Nat.le_of_ble_eq_true rfl, Nat.le_of_ble_eq_true rfl⟩) ⟨0, 5, _, _, fx_at0 _ _ _ _ _, rfl, rfl⟩ rfl (Nat.le_of_ble_eq_true rfl) dL_law_290 ⟨Nat.le_of_ble_eq_true rfl, Nat.le_of_ble_eq_true rfl⟩ (List.range 44) [44, 45, 46, 47, 48, 49, 50, 51, 52, 53, 54, 55, 56, 57, 58, 59, 60, 61, 62, 63, 64, 65, 66, 67, 68, 69, 70, 71, 72, 73] rfl rfl rfl rfl (by decide) (fun v9 w9 hp9 => ?_)
          obtain ⟨r1, a1, g1, n1, rfl, rfl, hX⟩ := tX_sets (P := P) (S := S) (T := T) (B := B) hp9
          refine fj_st (st' := .int r1 :: []) rfl ?_
          refine fj_pop C dL_law_293 rfl ?_
          refine fj_aload_n C 1 dL_law_294 rfl rfl ?_
          refine fj_aload_n C 3 dL_law_295 rfl rfl ?_
          refine fj_iload_n C 0 dL_law_296 rfl rfl ?_
          refine fj_iconst (v := 1) C dL_law_297 (by decide) ?_
          refine fj_iadd C dL_law_298 ?_
          refine fj_at (y := nI (i + 1)) (nI_add i 1) ?_
          refine fj_sld C S9 (vp_in_nI (by omega) (by omega)) dL_law_299 ?_
          refine fj_aload_n C 3 dL_law_300 rfl rfl ?_
          refine fj_iload_n C 0 dL_law_301 rfl rfl ?_
          refine fj_iconst (v := 2) C dL_law_302 (by decide) ?_
          refine fj_iadd C dL_law_303 ?_
          refine fj_at (y := nI (i + 2)) (nI_add i 2) ?_
          refine fj_sld C S9 (vp_in_nI (by omega) (by omega)) dL_law_304 ?_
          refine fj_callV (As := [.int (xs (nI (i + 1)).toNatClampNeg), .int (xs (nI (i + 2)).toNatClampNeg)]) (rest := []) (wr := fx_w ad ty a1 g1 n1) C (d_X6_sets l D ty t0 bd a2 fm_g0 n2 P S2 T2 B hR.1.2.1 (xs (nI (i + 1)).toNatClampNeg) (xs (nI (i + 2)).toNatClampNeg)) (cwV 2 C.2.2.2.2.1 gL_law_X6_sets rfl rfl rfl (by decide +kernel) ⟨Nat.le_of_ble_eq_true rfl, Nat.le_of_ble_eq_true rfl⟩) ⟨0, 6, _, _, fm_at0 _ _ _ _ _, rfl, rfl⟩ rfl (Nat.le_of_ble_eq_true rfl) dL_law_305 ⟨Nat.le_of_ble_eq_true rfl, Nat.le_of_ble_eq_true rfl⟩ (List.range 30) [30, 31, 32, 33, 34, 35, 36, 37, 38, 39, 40, 41, 42, 43, 44, 45, 46, 47, 48, 49, 50, 51, 52, 53, 54, 55, 56, 57, 58, 59, 60, 61, 62, 63, 64, 65, 66, 67, 68, 69, 70, 71, 72, 73] rfl rfl rfl rfl (by decide) (fun v9 w9 hp9 => ?_)
          obtain ⟨r2, a3, n3, rfl, rfl, hY⟩ := tY_sets (P := P) (S := S2) (T := T2) (B := B) hp9
          obtain ⟨hEq, hR9⟩ := rl1_sets hR hX hY
          refine fj_st (st' := .int r2 :: []) rfl ?_
          refine fj_pop C dL_law_308 rfl ?_
          refine fj_goto (tgt := 797) C dL_law_309 (by decide) ?_
          refine fj_iinc (v := nI (i + 6)) (lv' := [(3, .int (nI (i + 6))), (2, .ref (bd 0)), (1, .ref (ad 0)), (0, .ref b)]) C 0 dL_law_797 rfl (nI_add i 6) (by decide) rfl ?_
          refine fj_goto (tgt := 18) C dL_law_800 (by decide) ?_
          refine fj_lv (lv' := [(3, .int (nI (i + 6))), (2, .ref (bd 0)), (1, .ref (ad 0)), (0, .ref b)]) [0, 1, 2, 3] rfl ?_
          exact ih (i + 6) a1 g1 n1 a3 n3 hm1 hi6 hR9
        · refine fj_tableIn (off := 279) (tgt := 312) C dL_law_33 (by omega) (by omega) (by rw [hsw]; rfl) (by decide) ?_
          refine fj_aload_n C 2 dL_law_312 rfl rfl ?_
          refine fj_aload_n C 3 dL_law_313 rfl rfl ?_
          refine fj_iload_n C 0 dL_law_314 rfl rfl ?_
          refine fj_iconst (v := 1) C dL_law_315 (by decide) ?_
          refine fj_iadd C dL_law_316 ?_
          refine fj_at (y := nI (i + 1)) (nI_add i 1) ?_
          refine fj_sld C S9 (vp_in_nI (by omega) (by omega)) dL_law_317 ?_
          refine fj_callV (As := [.int (xs (nI (i + 1)).toNatClampNeg)]) (rest := []) (wr := fm_w bd ty a2 fm_g0 n2) C (d_X5_lawOf l D ty t0 ad a g n P S T B hR.1.1 (xs (nI (i + 1)).toNatClampNeg)) (cwV 1 C.2.2.2.2.1 gL_law_X5_lawOf rfl rfl rfl (by decide +kernel) ⟨Nat.le_of_ble_eq_true rfl, Nat.le_of_ble_eq_true rfl⟩) ⟨0, 5, _, _, fx_at0 _ _ _ _ _, rfl, rfl⟩ rfl (Nat.le_of_ble_eq_true rfl) dL_law_318 ⟨Nat.le_of_ble_eq_true rfl, Nat.le_of_ble_eq_true rfl⟩ (List.range 44) [44, 45, 46, 47, 48, 49, 50, 51, 52, 53, 54, 55, 56, 57, 58, 59, 60, 61, 62, 63, 64, 65, 66, 67, 68, 69, 70, 71, 72, 73] rfl rfl rfl rfl (by decide) (fun v9 w9 hp9 => ?_)
          obtain ⟨r1, a1, g1, n1, rfl, rfl, hX⟩ := tX_lawOf (P := P) (S := S) (T := T) (B := B) hp9
          refine fj_st (st' := .int r1 :: []) rfl ?_
          refine fj_pop C dL_law_321 rfl ?_
          refine fj_aload_n C 1 dL_law_322 rfl rfl ?_
          refine fj_aload_n C 3 dL_law_323 rfl rfl ?_
          refine fj_iload_n C 0 dL_law_324 rfl rfl ?_
          refine fj_iconst (v := 1) C dL_law_325 (by decide) ?_
          refine fj_iadd C dL_law_326 ?_
          refine fj_at (y := nI (i + 1)) (nI_add i 1) ?_
          refine fj_sld C S9 (vp_in_nI (by omega) (by omega)) dL_law_327 ?_
          refine fj_callV (As := [.int (xs (nI (i + 1)).toNatClampNeg)]) (rest := []) (wr := fx_w ad ty a1 g1 n1) C (d_X6_lawOf l D ty t0 bd a2 fm_g0 n2 P S2 T2 B hR.1.2.1 (xs (nI (i + 1)).toNatClampNeg)) (cwV 1 C.2.2.2.2.1 gL_law_X6_lawOf rfl rfl rfl (by decide +kernel) ⟨Nat.le_of_ble_eq_true rfl, Nat.le_of_ble_eq_true rfl⟩) ⟨0, 6, _, _, fm_at0 _ _ _ _ _, rfl, rfl⟩ rfl (Nat.le_of_ble_eq_true rfl) dL_law_328 ⟨Nat.le_of_ble_eq_true rfl, Nat.le_of_ble_eq_true rfl⟩ (List.range 30) [30, 31, 32, 33, 34, 35, 36, 37, 38, 39, 40, 41, 42, 43, 44, 45, 46, 47, 48, 49, 50, 51, 52, 53, 54, 55, 56, 57, 58, 59, 60, 61, 62, 63, 64, 65, 66, 67, 68, 69, 70, 71, 72, 73] rfl rfl rfl rfl (by decide) (fun v9 w9 hp9 => ?_)
          obtain ⟨r2, a3, n3, rfl, rfl, hY⟩ := tY_lawOf (P := P) (S := S2) (T := T2) (B := B) hp9
          obtain ⟨hEq, hR9⟩ := rl1_lawOf hR hX hY
          refine fj_st (st' := .int r2 :: []) rfl ?_
          refine fj_pop C dL_law_331 rfl ?_
          refine fj_goto (tgt := 797) C dL_law_332 (by decide) ?_
          refine fj_iinc (v := nI (i + 6)) (lv' := [(3, .int (nI (i + 6))), (2, .ref (bd 0)), (1, .ref (ad 0)), (0, .ref b)]) C 0 dL_law_797 rfl (nI_add i 6) (by decide) rfl ?_
          refine fj_goto (tgt := 18) C dL_law_800 (by decide) ?_
          refine fj_lv (lv' := [(3, .int (nI (i + 6))), (2, .ref (bd 0)), (1, .ref (ad 0)), (0, .ref b)]) [0, 1, 2, 3] rfl ?_
          exact ih (i + 6) a1 g1 n1 a3 n3 hm1 hi6 hR9
        · refine fj_tableIn (off := 302) (tgt := 335) C dL_law_33 (by omega) (by omega) (by rw [hsw]; rfl) (by decide) ?_
          refine fj_aload_n C 2 dL_law_335 rfl rfl ?_
          refine fj_aload_n C 3 dL_law_336 rfl rfl ?_
          refine fj_iload_n C 0 dL_law_337 rfl rfl ?_
          refine fj_iconst (v := 1) C dL_law_338 (by decide) ?_
          refine fj_iadd C dL_law_339 ?_
          refine fj_at (y := nI (i + 1)) (nI_add i 1) ?_
          refine fj_sld C S9 (vp_in_nI (by omega) (by omega)) dL_law_340 ?_
          refine fj_aload_n C 3 dL_law_341 rfl rfl ?_
          refine fj_iload_n C 0 dL_law_342 rfl rfl ?_
          refine fj_iconst (v := 2) C dL_law_343 (by decide) ?_
          refine fj_iadd C dL_law_344 ?_
          refine fj_at (y := nI (i + 2)) (nI_add i 2) ?_
          refine fj_sld C S9 (vp_in_nI (by omega) (by omega)) dL_law_345 ?_
          refine fj_aload_n C 3 dL_law_346 rfl rfl ?_
          refine fj_iload_n C 0 dL_law_347 rfl rfl ?_
          refine fj_iconst (v := 3) C dL_law_348 (by decide) ?_
          refine fj_iadd C dL_law_349 ?_
          refine fj_at (y := nI (i + 3)) (nI_add i 3) ?_
          refine fj_sld C S9 (vp_in_nI (by omega) (by omega)) dL_law_350 ?_
          refine fj_aload_n C 3 dL_law_351 rfl rfl ?_
          refine fj_iload_n C 0 dL_law_352 rfl rfl ?_
          refine fj_iconst (v := 4) C dL_law_353 (by decide) ?_
          refine fj_iadd C dL_law_354 ?_
          refine fj_at (y := nI (i + 4)) (nI_add i 4) ?_
          refine fj_sld C S9 (vp_in_nI (by omega) (by omega)) dL_law_355 ?_
          refine fj_aload_n C 3 dL_law_356 rfl rfl ?_
          refine fj_iload_n C 0 dL_law_357 rfl rfl ?_
          refine fj_iconst (v := 5) C dL_law_358 (by decide) ?_
          refine fj_iadd C dL_law_359 ?_
          refine fj_at (y := nI (i + 5)) (nI_add i 5) ?_
          refine fj_sld C S9 (vp_in_nI (by omega) (by omega)) dL_law_360 ?_
          refine fj_callV (As := [.int (xs (nI (i + 1)).toNatClampNeg), .int (xs (nI (i + 2)).toNatClampNeg), .int (xs (nI (i + 3)).toNatClampNeg), .int (xs (nI (i + 4)).toNatClampNeg), .int (xs (nI (i + 5)).toNatClampNeg)]) (rest := []) (wr := fm_w bd ty a2 fm_g0 n2) C (d_X5_line l D ty t0 ad a g n P S T B hR.1.1 (xs (nI (i + 1)).toNatClampNeg) (xs (nI (i + 2)).toNatClampNeg) (xs (nI (i + 3)).toNatClampNeg) (xs (nI (i + 4)).toNatClampNeg) (xs (nI (i + 5)).toNatClampNeg)) (cwV 5 C.2.2.2.2.1 gL_law_X5_line rfl rfl rfl (by decide +kernel) ⟨Nat.le_of_ble_eq_true rfl, Nat.le_of_ble_eq_true rfl⟩) ⟨0, 5, _, _, fx_at0 _ _ _ _ _, rfl, rfl⟩ rfl (Nat.le_of_ble_eq_true rfl) dL_law_361 ⟨Nat.le_of_ble_eq_true rfl, Nat.le_of_ble_eq_true rfl⟩ (List.range 44) [44, 45, 46, 47, 48, 49, 50, 51, 52, 53, 54, 55, 56, 57, 58, 59, 60, 61, 62, 63, 64, 65, 66, 67, 68, 69, 70, 71, 72, 73] rfl rfl rfl rfl (by decide) (fun v9 w9 hp9 => ?_)
          obtain ⟨r1, a1, g1, n1, rfl, rfl, hX⟩ := tX_line (P := P) (S := S) (T := T) (B := B) hp9
          refine fj_st (st' := .int r1 :: []) rfl ?_
          refine fj_pop C dL_law_364 rfl ?_
          refine fj_aload_n C 1 dL_law_365 rfl rfl ?_
          refine fj_aload_n C 3 dL_law_366 rfl rfl ?_
          refine fj_iload_n C 0 dL_law_367 rfl rfl ?_
          refine fj_iconst (v := 1) C dL_law_368 (by decide) ?_
          refine fj_iadd C dL_law_369 ?_
          refine fj_at (y := nI (i + 1)) (nI_add i 1) ?_
          refine fj_sld C S9 (vp_in_nI (by omega) (by omega)) dL_law_370 ?_
          refine fj_aload_n C 3 dL_law_371 rfl rfl ?_
          refine fj_iload_n C 0 dL_law_372 rfl rfl ?_
          refine fj_iconst (v := 2) C dL_law_373 (by decide) ?_
          refine fj_iadd C dL_law_374 ?_
          refine fj_at (y := nI (i + 2)) (nI_add i 2) ?_
          refine fj_sld C S9 (vp_in_nI (by omega) (by omega)) dL_law_375 ?_
          refine fj_aload_n C 3 dL_law_376 rfl rfl ?_
          refine fj_iload_n C 0 dL_law_377 rfl rfl ?_
          refine fj_iconst (v := 3) C dL_law_378 (by decide) ?_
          refine fj_iadd C dL_law_379 ?_
          refine fj_at (y := nI (i + 3)) (nI_add i 3) ?_
          refine fj_sld C S9 (vp_in_nI (by omega) (by omega)) dL_law_380 ?_
          refine fj_aload_n C 3 dL_law_381 rfl rfl ?_
          refine fj_iload_n C 0 dL_law_382 rfl rfl ?_
          refine fj_iconst (v := 4) C dL_law_383 (by decide) ?_
          refine fj_iadd C dL_law_384 ?_
          refine fj_at (y := nI (i + 4)) (nI_add i 4) ?_
          refine fj_sld C S9 (vp_in_nI (by omega) (by omega)) dL_law_385 ?_
          refine fj_aload_n C 3 dL_law_386 rfl rfl ?_
          refine fj_iload_n C 0 dL_law_387 rfl rfl ?_
          refine fj_iconst (v := 5) C dL_law_388 (by decide) ?_
          refine fj_iadd C dL_law_389 ?_
          refine fj_at (y := nI (i + 5)) (nI_add i 5) ?_
          refine fj_sld C S9 (vp_in_nI (by omega) (by omega)) dL_law_390 ?_
          refine fj_callV (As := [.int (xs (nI (i + 1)).toNatClampNeg), .int (xs (nI (i + 2)).toNatClampNeg), .int (xs (nI (i + 3)).toNatClampNeg), .int (xs (nI (i + 4)).toNatClampNeg), .int (xs (nI (i + 5)).toNatClampNeg)]) (rest := []) (wr := fx_w ad ty a1 g1 n1) C (d_X6_line l D ty t0 bd a2 fm_g0 n2 P S2 T2 B hR.1.2.1 (xs (nI (i + 1)).toNatClampNeg) (xs (nI (i + 2)).toNatClampNeg) (xs (nI (i + 3)).toNatClampNeg) (xs (nI (i + 4)).toNatClampNeg) (xs (nI (i + 5)).toNatClampNeg)) (cwV 5 C.2.2.2.2.1 gL_law_X6_line rfl rfl rfl (by decide +kernel) ⟨Nat.le_of_ble_eq_true rfl, Nat.le_of_ble_eq_true rfl⟩) ⟨0, 6, _, _, fm_at0 _ _ _ _ _, rfl, rfl⟩ rfl (Nat.le_of_ble_eq_true rfl) dL_law_391 ⟨Nat.le_of_ble_eq_true rfl, Nat.le_of_ble_eq_true rfl⟩ (List.range 30) [30, 31, 32, 33, 34, 35, 36, 37, 38, 39, 40, 41, 42, 43, 44, 45, 46, 47, 48, 49, 50, 51, 52, 53, 54, 55, 56, 57, 58, 59, 60, 61, 62, 63, 64, 65, 66, 67, 68, 69, 70, 71, 72, 73] rfl rfl rfl rfl (by decide) (fun v9 w9 hp9 => ?_)
          obtain ⟨r2, a3, n3, rfl, rfl, hY⟩ := tY_line (P := P) (S := S2) (T := T2) (B := B) hp9
          obtain ⟨hEq, hR9⟩ := rl1_line hR hX hY
          refine fj_st (st' := .int r2 :: []) rfl ?_
          refine fj_pop C dL_law_394 rfl ?_
          refine fj_goto (tgt := 797) C dL_law_395 (by decide) ?_
          refine fj_iinc (v := nI (i + 6)) (lv' := [(3, .int (nI (i + 6))), (2, .ref (bd 0)), (1, .ref (ad 0)), (0, .ref b)]) C 0 dL_law_797 rfl (nI_add i 6) (by decide) rfl ?_
          refine fj_goto (tgt := 18) C dL_law_800 (by decide) ?_
          refine fj_lv (lv' := [(3, .int (nI (i + 6))), (2, .ref (bd 0)), (1, .ref (ad 0)), (0, .ref b)]) [0, 1, 2, 3] rfl ?_
          exact ih (i + 6) a1 g1 n1 a3 n3 hm1 hi6 hR9
        · refine fj_tableIn (off := 365) (tgt := 398) C dL_law_33 (by omega) (by omega) (by rw [hsw]; rfl) (by decide) ?_
          refine fj_aload_n C 2 dL_law_398 rfl rfl ?_
          refine fj_aload_n C 3 dL_law_399 rfl rfl ?_
          refine fj_iload_n C 0 dL_law_400 rfl rfl ?_
          refine fj_iconst (v := 1) C dL_law_401 (by decide) ?_
          refine fj_iadd C dL_law_402 ?_
          refine fj_at (y := nI (i + 1)) (nI_add i 1) ?_
          refine fj_sld C S9 (vp_in_nI (by omega) (by omega)) dL_law_403 ?_
          refine fj_aload_n C 3 dL_law_404 rfl rfl ?_
          refine fj_iload_n C 0 dL_law_405 rfl rfl ?_
          refine fj_iconst (v := 2) C dL_law_406 (by decide) ?_
          refine fj_iadd C dL_law_407 ?_
          refine fj_at (y := nI (i + 2)) (nI_add i 2) ?_
          refine fj_sld C S9 (vp_in_nI (by omega) (by omega)) dL_law_408 ?_
          refine fj_if_eq (tgt := 416) C dL_law_409 (by decide) (fun hb9 => ?_) (fun hb9 => ?_)
          · refine fj_iconst (v := 0) C dL_law_416 (by decide) ?_
            refine fj_callV (As := [.int (xs (nI (i + 1)).toNatClampNeg), .int 0]) (rest := []) (wr := fm_w bd ty a2 fm_g0 n2) C (d_X5_strike l D ty t0 ad a g n P S T B hR.1.1 (xs (nI (i + 1)).toNatClampNeg) 0) (cwV 2 C.2.2.2.2.1 gL_law_X5_strike rfl rfl rfl (by decide +kernel) ⟨Nat.le_of_ble_eq_true rfl, Nat.le_of_ble_eq_true rfl⟩) ⟨0, 5, _, _, fx_at0 _ _ _ _ _, rfl, rfl⟩ rfl (Nat.le_of_ble_eq_true rfl) dL_law_417 ⟨Nat.le_of_ble_eq_true rfl, Nat.le_of_ble_eq_true rfl⟩ (List.range 44) [44, 45, 46, 47, 48, 49, 50, 51, 52, 53, 54, 55, 56, 57, 58, 59, 60, 61, 62, 63, 64, 65, 66, 67, 68, 69, 70, 71, 72, 73] rfl rfl rfl rfl (by decide) (fun v9 w9 hp9 => ?_)
            obtain ⟨r1, a1, g1, n1, rfl, rfl, hX⟩ := tX_strike (P := P) (S := S) (T := T) (B := B) hp9
            refine fj_st (st' := .int r1 :: []) rfl ?_
            refine fj_pop C dL_law_420 rfl ?_
            refine fj_aload_n C 1 dL_law_421 rfl rfl ?_
            refine fj_aload_n C 3 dL_law_422 rfl rfl ?_
            refine fj_iload_n C 0 dL_law_423 rfl rfl ?_
            refine fj_iconst (v := 1) C dL_law_424 (by decide) ?_
            refine fj_iadd C dL_law_425 ?_
            refine fj_at (y := nI (i + 1)) (nI_add i 1) ?_
            refine fj_sld C S9 (vp_in_nI (by omega) (by omega)) dL_law_426 ?_
            refine fj_aload_n C 3 dL_law_427 rfl rfl ?_
            refine fj_iload_n C 0 dL_law_428 rfl rfl ?_
            refine fj_iconst (v := 2) C dL_law_429 (by decide) ?_
            refine fj_iadd C dL_law_430 ?_
            refine fj_at (y := nI (i + 2)) (nI_add i 2) ?_
            refine fj_sld C S9 (vp_in_nI (by omega) (by omega)) dL_law_431 ?_
            refine fj_if_eq (tgt := 439) C dL_law_432 (by decide) (fun _ => ?_) (fun h => absurd hb9 h)
            refine fj_iconst (v := 0) C dL_law_439 (by decide) ?_
            refine fj_callV (As := [.int (xs (nI (i + 1)).toNatClampNeg), .int 0]) (rest := []) (wr := fx_w ad ty a1 g1 n1) C (d_X6_strike l D ty t0 bd a2 fm_g0 n2 P S2 T2 B hR.1.2.1 (xs (nI (i + 1)).toNatClampNeg) 0) (cwV 2 C.2.2.2.2.1 gL_law_X6_strike rfl rfl rfl (by decide +kernel) ⟨Nat.le_of_ble_eq_true rfl, Nat.le_of_ble_eq_true rfl⟩) ⟨0, 6, _, _, fm_at0 _ _ _ _ _, rfl, rfl⟩ rfl (Nat.le_of_ble_eq_true rfl) dL_law_440 ⟨Nat.le_of_ble_eq_true rfl, Nat.le_of_ble_eq_true rfl⟩ (List.range 30) [30, 31, 32, 33, 34, 35, 36, 37, 38, 39, 40, 41, 42, 43, 44, 45, 46, 47, 48, 49, 50, 51, 52, 53, 54, 55, 56, 57, 58, 59, 60, 61, 62, 63, 64, 65, 66, 67, 68, 69, 70, 71, 72, 73] rfl rfl rfl rfl (by decide) (fun v9 w9 hp9 => ?_)
            obtain ⟨r2, a3, n3, rfl, rfl, hY⟩ := tY_strike (P := P) (S := S2) (T := T2) (B := B) hp9
            obtain ⟨hEq, hR9⟩ := rl1_strike hR hX hY
            refine fj_st (st' := .int r2 :: []) rfl ?_
            refine fj_pop C dL_law_443 rfl ?_
            refine fj_goto (tgt := 797) C dL_law_444 (by decide) ?_
            refine fj_iinc (v := nI (i + 6)) (lv' := [(3, .int (nI (i + 6))), (2, .ref (bd 0)), (1, .ref (ad 0)), (0, .ref b)]) C 0 dL_law_797 rfl (nI_add i 6) (by decide) rfl ?_
            refine fj_goto (tgt := 18) C dL_law_800 (by decide) ?_
            refine fj_lv (lv' := [(3, .int (nI (i + 6))), (2, .ref (bd 0)), (1, .ref (ad 0)), (0, .ref b)]) [0, 1, 2, 3] rfl ?_
            exact ih (i + 6) a1 g1 n1 a3 n3 hm1 hi6 hR9
          · refine fj_iconst (v := 1) C dL_law_412 (by decide) ?_
            refine fj_goto (tgt := 417) C dL_law_413 (by decide) ?_
            refine fj_callV (As := [.int (xs (nI (i + 1)).toNatClampNeg), .int 1]) (rest := []) (wr := fm_w bd ty a2 fm_g0 n2) C (d_X5_strike l D ty t0 ad a g n P S T B hR.1.1 (xs (nI (i + 1)).toNatClampNeg) 1) (cwV 2 C.2.2.2.2.1 gL_law_X5_strike rfl rfl rfl (by decide +kernel) ⟨Nat.le_of_ble_eq_true rfl, Nat.le_of_ble_eq_true rfl⟩) ⟨0, 5, _, _, fx_at0 _ _ _ _ _, rfl, rfl⟩ rfl (Nat.le_of_ble_eq_true rfl) dL_law_417 ⟨Nat.le_of_ble_eq_true rfl, Nat.le_of_ble_eq_true rfl⟩ (List.range 44) [44, 45, 46, 47, 48, 49, 50, 51, 52, 53, 54, 55, 56, 57, 58, 59, 60, 61, 62, 63, 64, 65, 66, 67, 68, 69, 70, 71, 72, 73] rfl rfl rfl rfl (by decide) (fun v9 w9 hp9 => ?_)
            obtain ⟨r1, a1, g1, n1, rfl, rfl, hX⟩ := tX_strike (P := P) (S := S) (T := T) (B := B) hp9
            refine fj_st (st' := .int r1 :: []) rfl ?_
            refine fj_pop C dL_law_420 rfl ?_
            refine fj_aload_n C 1 dL_law_421 rfl rfl ?_
            refine fj_aload_n C 3 dL_law_422 rfl rfl ?_
            refine fj_iload_n C 0 dL_law_423 rfl rfl ?_
            refine fj_iconst (v := 1) C dL_law_424 (by decide) ?_
            refine fj_iadd C dL_law_425 ?_
            refine fj_at (y := nI (i + 1)) (nI_add i 1) ?_
            refine fj_sld C S9 (vp_in_nI (by omega) (by omega)) dL_law_426 ?_
            refine fj_aload_n C 3 dL_law_427 rfl rfl ?_
            refine fj_iload_n C 0 dL_law_428 rfl rfl ?_
            refine fj_iconst (v := 2) C dL_law_429 (by decide) ?_
            refine fj_iadd C dL_law_430 ?_
            refine fj_at (y := nI (i + 2)) (nI_add i 2) ?_
            refine fj_sld C S9 (vp_in_nI (by omega) (by omega)) dL_law_431 ?_
            refine fj_if_eq (tgt := 439) C dL_law_432 (by decide) (fun h => absurd h hb9) (fun _ => ?_)
            refine fj_iconst (v := 1) C dL_law_435 (by decide) ?_
            refine fj_goto (tgt := 440) C dL_law_436 (by decide) ?_
            refine fj_callV (As := [.int (xs (nI (i + 1)).toNatClampNeg), .int 1]) (rest := []) (wr := fx_w ad ty a1 g1 n1) C (d_X6_strike l D ty t0 bd a2 fm_g0 n2 P S2 T2 B hR.1.2.1 (xs (nI (i + 1)).toNatClampNeg) 1) (cwV 2 C.2.2.2.2.1 gL_law_X6_strike rfl rfl rfl (by decide +kernel) ⟨Nat.le_of_ble_eq_true rfl, Nat.le_of_ble_eq_true rfl⟩) ⟨0, 6, _, _, fm_at0 _ _ _ _ _, rfl, rfl⟩ rfl (Nat.le_of_ble_eq_true rfl) dL_law_440 ⟨Nat.le_of_ble_eq_true rfl, Nat.le_of_ble_eq_true rfl⟩ (List.range 30) [30, 31, 32, 33, 34, 35, 36, 37, 38, 39, 40, 41, 42, 43, 44, 45, 46, 47, 48, 49, 50, 51, 52, 53, 54, 55, 56, 57, 58, 59, 60, 61, 62, 63, 64, 65, 66, 67, 68, 69, 70, 71, 72, 73] rfl rfl rfl rfl (by decide) (fun v9 w9 hp9 => ?_)
            obtain ⟨r2, a3, n3, rfl, rfl, hY⟩ := tY_strike (P := P) (S := S2) (T := T2) (B := B) hp9
            obtain ⟨hEq, hR9⟩ := rl1_strike hR hX hY
            refine fj_st (st' := .int r2 :: []) rfl ?_
            refine fj_pop C dL_law_443 rfl ?_
            refine fj_goto (tgt := 797) C dL_law_444 (by decide) ?_
            refine fj_iinc (v := nI (i + 6)) (lv' := [(3, .int (nI (i + 6))), (2, .ref (bd 0)), (1, .ref (ad 0)), (0, .ref b)]) C 0 dL_law_797 rfl (nI_add i 6) (by decide) rfl ?_
            refine fj_goto (tgt := 18) C dL_law_800 (by decide) ?_
            refine fj_lv (lv' := [(3, .int (nI (i + 6))), (2, .ref (bd 0)), (1, .ref (ad 0)), (0, .ref b)]) [0, 1, 2, 3] rfl ?_
            exact ih (i + 6) a1 g1 n1 a3 n3 hm1 hi6 hR9
        · refine fj_tableIn (off := 414) (tgt := 447) C dL_law_33 (by omega) (by omega) (by rw [hsw]; rfl) (by decide) ?_
          refine fj_aload_n C 2 dL_law_447 rfl rfl ?_
          refine fj_aload_n C 3 dL_law_448 rfl rfl ?_
          refine fj_iload_n C 0 dL_law_449 rfl rfl ?_
          refine fj_iconst (v := 1) C dL_law_450 (by decide) ?_
          refine fj_iadd C dL_law_451 ?_
          refine fj_at (y := nI (i + 1)) (nI_add i 1) ?_
          refine fj_sld C S9 (vp_in_nI (by omega) (by omega)) dL_law_452 ?_
          refine fj_aload_n C 3 dL_law_453 rfl rfl ?_
          refine fj_iload_n C 0 dL_law_454 rfl rfl ?_
          refine fj_iconst (v := 2) C dL_law_455 (by decide) ?_
          refine fj_iadd C dL_law_456 ?_
          refine fj_at (y := nI (i + 2)) (nI_add i 2) ?_
          refine fj_sld C S9 (vp_in_nI (by omega) (by omega)) dL_law_457 ?_
          refine fj_callV (As := [.int (xs (nI (i + 1)).toNatClampNeg), .int (xs (nI (i + 2)).toNatClampNeg)]) (rest := []) (wr := fm_w bd ty a2 fm_g0 n2) C (d_X5_told l D ty t0 ad a g n P S T B hR.1.1 (xs (nI (i + 1)).toNatClampNeg) (xs (nI (i + 2)).toNatClampNeg)) (cwV 2 C.2.2.2.2.1 gL_law_X5_told rfl rfl rfl (by decide +kernel) ⟨Nat.le_of_ble_eq_true rfl, Nat.le_of_ble_eq_true rfl⟩) ⟨0, 5, _, _, fx_at0 _ _ _ _ _, rfl, rfl⟩ rfl (Nat.le_of_ble_eq_true rfl) dL_law_458 ⟨Nat.le_of_ble_eq_true rfl, Nat.le_of_ble_eq_true rfl⟩ (List.range 44) [44, 45, 46, 47, 48, 49, 50, 51, 52, 53, 54, 55, 56, 57, 58, 59, 60, 61, 62, 63, 64, 65, 66, 67, 68, 69, 70, 71, 72, 73] rfl rfl rfl rfl (by decide) (fun v9 w9 hp9 => ?_)
          obtain ⟨r1, a1, g1, n1, rfl, rfl, hX⟩ := tX_told (P := P) (S := S) (T := T) (B := B) hp9
          refine fj_st (st' := .int r1 :: []) rfl ?_
          refine fj_pop C dL_law_461 rfl ?_
          refine fj_aload_n C 1 dL_law_462 rfl rfl ?_
          refine fj_aload_n C 3 dL_law_463 rfl rfl ?_
          refine fj_iload_n C 0 dL_law_464 rfl rfl ?_
          refine fj_iconst (v := 1) C dL_law_465 (by decide) ?_
          refine fj_iadd C dL_law_466 ?_
          refine fj_at (y := nI (i + 1)) (nI_add i 1) ?_
          refine fj_sld C S9 (vp_in_nI (by omega) (by omega)) dL_law_467 ?_
          refine fj_aload_n C 3 dL_law_468 rfl rfl ?_
          refine fj_iload_n C 0 dL_law_469 rfl rfl ?_
          refine fj_iconst (v := 2) C dL_law_470 (by decide) ?_
          refine fj_iadd C dL_law_471 ?_
          refine fj_at (y := nI (i + 2)) (nI_add i 2) ?_
          refine fj_sld C S9 (vp_in_nI (by omega) (by omega)) dL_law_472 ?_
          refine fj_callV (As := [.int (xs (nI (i + 1)).toNatClampNeg), .int (xs (nI (i + 2)).toNatClampNeg)]) (rest := []) (wr := fx_w ad ty a1 g1 n1) C (d_X6_told l D ty t0 bd a2 fm_g0 n2 P S2 T2 B hR.1.2.1 (xs (nI (i + 1)).toNatClampNeg) (xs (nI (i + 2)).toNatClampNeg)) (cwV 2 C.2.2.2.2.1 gL_law_X6_told rfl rfl rfl (by decide +kernel) ⟨Nat.le_of_ble_eq_true rfl, Nat.le_of_ble_eq_true rfl⟩) ⟨0, 6, _, _, fm_at0 _ _ _ _ _, rfl, rfl⟩ rfl (Nat.le_of_ble_eq_true rfl) dL_law_473 ⟨Nat.le_of_ble_eq_true rfl, Nat.le_of_ble_eq_true rfl⟩ (List.range 30) [30, 31, 32, 33, 34, 35, 36, 37, 38, 39, 40, 41, 42, 43, 44, 45, 46, 47, 48, 49, 50, 51, 52, 53, 54, 55, 56, 57, 58, 59, 60, 61, 62, 63, 64, 65, 66, 67, 68, 69, 70, 71, 72, 73] rfl rfl rfl rfl (by decide) (fun v9 w9 hp9 => ?_)
          obtain ⟨r2, a3, n3, rfl, rfl, hY⟩ := tY_told (P := P) (S := S2) (T := T2) (B := B) hp9
          obtain ⟨hEq, hR9⟩ := rl1_told hR hX hY
          refine fj_st (st' := .int r2 :: []) rfl ?_
          refine fj_pop C dL_law_476 rfl ?_
          refine fj_goto (tgt := 797) C dL_law_477 (by decide) ?_
          refine fj_iinc (v := nI (i + 6)) (lv' := [(3, .int (nI (i + 6))), (2, .ref (bd 0)), (1, .ref (ad 0)), (0, .ref b)]) C 0 dL_law_797 rfl (nI_add i 6) (by decide) rfl ?_
          refine fj_goto (tgt := 18) C dL_law_800 (by decide) ?_
          refine fj_lv (lv' := [(3, .int (nI (i + 6))), (2, .ref (bd 0)), (1, .ref (ad 0)), (0, .ref b)]) [0, 1, 2, 3] rfl ?_
          exact ih (i + 6) a1 g1 n1 a3 n3 hm1 hi6 hR9
        · refine fj_tableIn (off := 447) (tgt := 480) C dL_law_33 (by omega) (by omega) (by rw [hsw]; rfl) (by decide) ?_
          refine fj_aload_n C 2 dL_law_480 rfl rfl ?_
          refine fj_aload_n C 3 dL_law_481 rfl rfl ?_
          refine fj_iload_n C 0 dL_law_482 rfl rfl ?_
          refine fj_iconst (v := 1) C dL_law_483 (by decide) ?_
          refine fj_iadd C dL_law_484 ?_
          refine fj_at (y := nI (i + 1)) (nI_add i 1) ?_
          refine fj_sld C S9 (vp_in_nI (by omega) (by omega)) dL_law_485 ?_
          refine fj_aload_n C 3 dL_law_486 rfl rfl ?_
          refine fj_iload_n C 0 dL_law_487 rfl rfl ?_
          refine fj_iconst (v := 2) C dL_law_488 (by decide) ?_
          refine fj_iadd C dL_law_489 ?_
          refine fj_at (y := nI (i + 2)) (nI_add i 2) ?_
          refine fj_sld C S9 (vp_in_nI (by omega) (by omega)) dL_law_490 ?_
          refine fj_callV (As := [.int (xs (nI (i + 1)).toNatClampNeg), .int (xs (nI (i + 2)).toNatClampNeg)]) (rest := []) (wr := fm_w bd ty a2 fm_g0 n2) C (d_X5_outcome l D ty t0 ad a g n P S T B hR.1.1 (xs (nI (i + 1)).toNatClampNeg) (xs (nI (i + 2)).toNatClampNeg)) (cwV 2 C.2.2.2.2.1 gL_law_X5_outcome rfl rfl rfl (by decide +kernel) ⟨Nat.le_of_ble_eq_true rfl, Nat.le_of_ble_eq_true rfl⟩) ⟨0, 5, _, _, fx_at0 _ _ _ _ _, rfl, rfl⟩ rfl (Nat.le_of_ble_eq_true rfl) dL_law_491 ⟨Nat.le_of_ble_eq_true rfl, Nat.le_of_ble_eq_true rfl⟩ (List.range 44) [44, 45, 46, 47, 48, 49, 50, 51, 52, 53, 54, 55, 56, 57, 58, 59, 60, 61, 62, 63, 64, 65, 66, 67, 68, 69, 70, 71, 72, 73] rfl rfl rfl rfl (by decide) (fun v9 w9 hp9 => ?_)
          obtain ⟨r1, a1, g1, n1, rfl, rfl, hX⟩ := tX_outcome (P := P) (S := S) (T := T) (B := B) hp9
          refine fj_st (st' := .int r1 :: []) rfl ?_
          refine fj_pop C dL_law_494 rfl ?_
          refine fj_aload_n C 1 dL_law_495 rfl rfl ?_
          refine fj_aload_n C 3 dL_law_496 rfl rfl ?_
          refine fj_iload_n C 0 dL_law_497 rfl rfl ?_
          refine fj_iconst (v := 1) C dL_law_498 (by decide) ?_
          refine fj_iadd C dL_law_499 ?_
          refine fj_at (y := nI (i + 1)) (nI_add i 1) ?_
          refine fj_sld C S9 (vp_in_nI (by omega) (by omega)) dL_law_500 ?_
          refine fj_aload_n C 3 dL_law_501 rfl rfl ?_
          refine fj_iload_n C 0 dL_law_502 rfl rfl ?_
          refine fj_iconst (v := 2) C dL_law_503 (by decide) ?_
          refine fj_iadd C dL_law_504 ?_
          refine fj_at (y := nI (i + 2)) (nI_add i 2) ?_
          refine fj_sld C S9 (vp_in_nI (by omega) (by omega)) dL_law_505 ?_
          refine fj_callV (As := [.int (xs (nI (i + 1)).toNatClampNeg), .int (xs (nI (i + 2)).toNatClampNeg)]) (rest := []) (wr := fx_w ad ty a1 g1 n1) C (d_X6_outcome l D ty t0 bd a2 fm_g0 n2 P S2 T2 B hR.1.2.1 (xs (nI (i + 1)).toNatClampNeg) (xs (nI (i + 2)).toNatClampNeg)) (cwV 2 C.2.2.2.2.1 gL_law_X6_outcome rfl rfl rfl (by decide +kernel) ⟨Nat.le_of_ble_eq_true rfl, Nat.le_of_ble_eq_true rfl⟩) ⟨0, 6, _, _, fm_at0 _ _ _ _ _, rfl, rfl⟩ rfl (Nat.le_of_ble_eq_true rfl) dL_law_506 ⟨Nat.le_of_ble_eq_true rfl, Nat.le_of_ble_eq_true rfl⟩ (List.range 30) [30, 31, 32, 33, 34, 35, 36, 37, 38, 39, 40, 41, 42, 43, 44, 45, 46, 47, 48, 49, 50, 51, 52, 53, 54, 55, 56, 57, 58, 59, 60, 61, 62, 63, 64, 65, 66, 67, 68, 69, 70, 71, 72, 73] rfl rfl rfl rfl (by decide) (fun v9 w9 hp9 => ?_)
          obtain ⟨r2, a3, n3, rfl, rfl, hY⟩ := tY_outcome (P := P) (S := S2) (T := T2) (B := B) hp9
          obtain ⟨hEq, hR9⟩ := rl2_outcome hR hX hY
          refine fj_st (st' := .int r2 :: []) rfl ?_
          refine fj_pop C dL_law_509 rfl ?_
          refine fj_goto (tgt := 797) C dL_law_510 (by decide) ?_
          refine fj_iinc (v := nI (i + 6)) (lv' := [(3, .int (nI (i + 6))), (2, .ref (bd 0)), (1, .ref (ad 0)), (0, .ref b)]) C 0 dL_law_797 rfl (nI_add i 6) (by decide) rfl ?_
          refine fj_goto (tgt := 18) C dL_law_800 (by decide) ?_
          refine fj_lv (lv' := [(3, .int (nI (i + 6))), (2, .ref (bd 0)), (1, .ref (ad 0)), (0, .ref b)]) [0, 1, 2, 3] rfl ?_
          exact ih (i + 6) a1 g1 n1 a3 n3 hm1 hi6 hR9
        · refine fj_tableIn (off := 480) (tgt := 513) C dL_law_33 (by omega) (by omega) (by rw [hsw]; rfl) (by decide) ?_
          refine fj_aload_n C 2 dL_law_513 rfl rfl ?_
          refine fj_aload_n C 3 dL_law_514 rfl rfl ?_
          refine fj_iload_n C 0 dL_law_515 rfl rfl ?_
          refine fj_iconst (v := 1) C dL_law_516 (by decide) ?_
          refine fj_iadd C dL_law_517 ?_
          refine fj_at (y := nI (i + 1)) (nI_add i 1) ?_
          refine fj_sld C S9 (vp_in_nI (by omega) (by omega)) dL_law_518 ?_
          refine fj_callV (As := [.int (xs (nI (i + 1)).toNatClampNeg)]) (rest := []) (wr := fm_w bd ty a2 fm_g0 n2) C (d_X5_count l D ty t0 ad a g n P S T B hR.1.1 (xs (nI (i + 1)).toNatClampNeg)) (cwV 1 C.2.2.2.2.1 gL_law_X5_count rfl rfl rfl (by decide +kernel) ⟨Nat.le_of_ble_eq_true rfl, Nat.le_of_ble_eq_true rfl⟩) ⟨0, 5, _, _, fx_at0 _ _ _ _ _, rfl, rfl⟩ rfl (Nat.le_of_ble_eq_true rfl) dL_law_519 ⟨Nat.le_of_ble_eq_true rfl, Nat.le_of_ble_eq_true rfl⟩ (List.range 44) [44, 45, 46, 47, 48, 49, 50, 51, 52, 53, 54, 55, 56, 57, 58, 59, 60, 61, 62, 63, 64, 65, 66, 67, 68, 69, 70, 71, 72, 73] rfl rfl rfl rfl (by decide) (fun v9 w9 hp9 => ?_)
          obtain ⟨r1, a1, g1, n1, rfl, rfl, hX⟩ := tX_count (P := P) (S := S) (T := T) (B := B) hp9
          refine fj_st (st' := .int r1 :: []) rfl ?_
          refine fj_pop C dL_law_522 rfl ?_
          refine fj_aload_n C 1 dL_law_523 rfl rfl ?_
          refine fj_aload_n C 3 dL_law_524 rfl rfl ?_
          refine fj_iload_n C 0 dL_law_525 rfl rfl ?_
          refine fj_iconst (v := 1) C dL_law_526 (by decide) ?_
          refine fj_iadd C dL_law_527 ?_
          refine fj_at (y := nI (i + 1)) (nI_add i 1) ?_
          refine fj_sld C S9 (vp_in_nI (by omega) (by omega)) dL_law_528 ?_
          refine fj_callV (As := [.int (xs (nI (i + 1)).toNatClampNeg)]) (rest := []) (wr := fx_w ad ty a1 g1 n1) C (d_X6_count l D ty t0 bd a2 fm_g0 n2 P S2 T2 B hR.1.2.1 (xs (nI (i + 1)).toNatClampNeg)) (cwV 1 C.2.2.2.2.1 gL_law_X6_count rfl rfl rfl (by decide +kernel) ⟨Nat.le_of_ble_eq_true rfl, Nat.le_of_ble_eq_true rfl⟩) ⟨0, 6, _, _, fm_at0 _ _ _ _ _, rfl, rfl⟩ rfl (Nat.le_of_ble_eq_true rfl) dL_law_529 ⟨Nat.le_of_ble_eq_true rfl, Nat.le_of_ble_eq_true rfl⟩ (List.range 30) [30, 31, 32, 33, 34, 35, 36, 37, 38, 39, 40, 41, 42, 43, 44, 45, 46, 47, 48, 49, 50, 51, 52, 53, 54, 55, 56, 57, 58, 59, 60, 61, 62, 63, 64, 65, 66, 67, 68, 69, 70, 71, 72, 73] rfl rfl rfl rfl (by decide) (fun v9 w9 hp9 => ?_)
          obtain ⟨r2, a3, n3, rfl, rfl, hY⟩ := tY_count (P := P) (S := S2) (T := T2) (B := B) hp9
          obtain ⟨hEq, hR9⟩ := rl2_count hR hX hY
          refine fj_st (st' := .int r2 :: []) rfl ?_
          refine fj_pop C dL_law_532 rfl ?_
          refine fj_goto (tgt := 797) C dL_law_533 (by decide) ?_
          refine fj_iinc (v := nI (i + 6)) (lv' := [(3, .int (nI (i + 6))), (2, .ref (bd 0)), (1, .ref (ad 0)), (0, .ref b)]) C 0 dL_law_797 rfl (nI_add i 6) (by decide) rfl ?_
          refine fj_goto (tgt := 18) C dL_law_800 (by decide) ?_
          refine fj_lv (lv' := [(3, .int (nI (i + 6))), (2, .ref (bd 0)), (1, .ref (ad 0)), (0, .ref b)]) [0, 1, 2, 3] rfl ?_
          exact ih (i + 6) a1 g1 n1 a3 n3 hm1 hi6 hR9
        · refine fj_tableIn (off := 503) (tgt := 536) C dL_law_33 (by omega) (by omega) (by rw [hsw]; rfl) (by decide) ?_
          refine fj_aload_n C 2 dL_law_536 rfl rfl ?_
          refine fj_aload_n C 3 dL_law_537 rfl rfl ?_
          refine fj_iload_n C 0 dL_law_538 rfl rfl ?_
          refine fj_iconst (v := 1) C dL_law_539 (by decide) ?_
          refine fj_iadd C dL_law_540 ?_
          refine fj_at (y := nI (i + 1)) (nI_add i 1) ?_
          refine fj_sld C S9 (vp_in_nI (by omega) (by omega)) dL_law_541 ?_
          refine fj_aload_n C 3 dL_law_542 rfl rfl ?_
          refine fj_iload_n C 0 dL_law_543 rfl rfl ?_
          refine fj_iconst (v := 2) C dL_law_544 (by decide) ?_
          refine fj_iadd C dL_law_545 ?_
          refine fj_at (y := nI (i + 2)) (nI_add i 2) ?_
          refine fj_sld C S9 (vp_in_nI (by omega) (by omega)) dL_law_546 ?_
          refine fj_aload_n C 3 dL_law_547 rfl rfl ?_
          refine fj_iload_n C 0 dL_law_548 rfl rfl ?_
          refine fj_iconst (v := 3) C dL_law_549 (by decide) ?_
          refine fj_iadd C dL_law_550 ?_
          refine fj_at (y := nI (i + 3)) (nI_add i 3) ?_
          refine fj_sld C S9 (vp_in_nI (by omega) (by omega)) dL_law_551 ?_
          refine fj_aload_n C 3 dL_law_552 rfl rfl ?_
          refine fj_iload_n C 0 dL_law_553 rfl rfl ?_
          refine fj_iconst (v := 4) C dL_law_554 (by decide) ?_
          refine fj_iadd C dL_law_555 ?_
          refine fj_at (y := nI (i + 4)) (nI_add i 4) ?_
          refine fj_sld C S9 (vp_in_nI (by omega) (by omega)) dL_law_556 ?_
          refine fj_callV (As := [.int (xs (nI (i + 1)).toNatClampNeg), .int (xs (nI (i + 2)).toNatClampNeg), .int (xs (nI (i + 3)).toNatClampNeg), .int (xs (nI (i + 4)).toNatClampNeg)]) (rest := []) (wr := fm_w bd ty a2 fm_g0 n2) C (d_X5_holds l D ty t0 ad a g n P S T B hR.1.1 (xs (nI (i + 1)).toNatClampNeg) (xs (nI (i + 2)).toNatClampNeg) (xs (nI (i + 3)).toNatClampNeg) (xs (nI (i + 4)).toNatClampNeg)) (cwV 4 C.2.2.2.2.1 gL_law_X5_holds rfl rfl rfl (by decide +kernel) ⟨Nat.le_of_ble_eq_true rfl, Nat.le_of_ble_eq_true rfl⟩) ⟨0, 5, _, _, fx_at0 _ _ _ _ _, rfl, rfl⟩ rfl (Nat.le_of_ble_eq_true rfl) dL_law_557 ⟨Nat.le_of_ble_eq_true rfl, Nat.le_of_ble_eq_true rfl⟩ (List.range 44) [44, 45, 46, 47, 48, 49, 50, 51, 52, 53, 54, 55, 56, 57, 58, 59, 60, 61, 62, 63, 64, 65, 66, 67, 68, 69, 70, 71, 72, 73] rfl rfl rfl rfl (by decide) (fun v9 w9 hp9 => ?_)
          obtain ⟨r1, a1, g1, n1, rfl, rfl, hX⟩ := tX_holds (P := P) (S := S) (T := T) (B := B) hp9
          refine fj_st (st' := .int r1 :: []) rfl ?_
          refine fj_pop C dL_law_560 rfl ?_
          refine fj_aload_n C 1 dL_law_561 rfl rfl ?_
          refine fj_aload_n C 3 dL_law_562 rfl rfl ?_
          refine fj_iload_n C 0 dL_law_563 rfl rfl ?_
          refine fj_iconst (v := 1) C dL_law_564 (by decide) ?_
          refine fj_iadd C dL_law_565 ?_
          refine fj_at (y := nI (i + 1)) (nI_add i 1) ?_
          refine fj_sld C S9 (vp_in_nI (by omega) (by omega)) dL_law_566 ?_
          refine fj_aload_n C 3 dL_law_567 rfl rfl ?_
          refine fj_iload_n C 0 dL_law_568 rfl rfl ?_
          refine fj_iconst (v := 2) C dL_law_569 (by decide) ?_
          refine fj_iadd C dL_law_570 ?_
          refine fj_at (y := nI (i + 2)) (nI_add i 2) ?_
          refine fj_sld C S9 (vp_in_nI (by omega) (by omega)) dL_law_571 ?_
          refine fj_aload_n C 3 dL_law_572 rfl rfl ?_
          refine fj_iload_n C 0 dL_law_573 rfl rfl ?_
          refine fj_iconst (v := 3) C dL_law_574 (by decide) ?_
          refine fj_iadd C dL_law_575 ?_
          refine fj_at (y := nI (i + 3)) (nI_add i 3) ?_
          refine fj_sld C S9 (vp_in_nI (by omega) (by omega)) dL_law_576 ?_
          refine fj_aload_n C 3 dL_law_577 rfl rfl ?_
          refine fj_iload_n C 0 dL_law_578 rfl rfl ?_
          refine fj_iconst (v := 4) C dL_law_579 (by decide) ?_
          refine fj_iadd C dL_law_580 ?_
          refine fj_at (y := nI (i + 4)) (nI_add i 4) ?_
          refine fj_sld C S9 (vp_in_nI (by omega) (by omega)) dL_law_581 ?_
          refine fj_callV (As := [.int (xs (nI (i + 1)).toNatClampNeg), .int (xs (nI (i + 2)).toNatClampNeg), .int (xs (nI (i + 3)).toNatClampNeg), .int (xs (nI (i + 4)).toNatClampNeg)]) (rest := []) (wr := fx_w ad ty a1 g1 n1) C (d_X6_holds l D ty t0 bd a2 fm_g0 n2 P S2 T2 B hR.1.2.1 (xs (nI (i + 1)).toNatClampNeg) (xs (nI (i + 2)).toNatClampNeg) (xs (nI (i + 3)).toNatClampNeg) (xs (nI (i + 4)).toNatClampNeg)) (cwV 4 C.2.2.2.2.1 gL_law_X6_holds rfl rfl rfl (by decide +kernel) ⟨Nat.le_of_ble_eq_true rfl, Nat.le_of_ble_eq_true rfl⟩) ⟨0, 6, _, _, fm_at0 _ _ _ _ _, rfl, rfl⟩ rfl (Nat.le_of_ble_eq_true rfl) dL_law_582 ⟨Nat.le_of_ble_eq_true rfl, Nat.le_of_ble_eq_true rfl⟩ (List.range 30) [30, 31, 32, 33, 34, 35, 36, 37, 38, 39, 40, 41, 42, 43, 44, 45, 46, 47, 48, 49, 50, 51, 52, 53, 54, 55, 56, 57, 58, 59, 60, 61, 62, 63, 64, 65, 66, 67, 68, 69, 70, 71, 72, 73] rfl rfl rfl rfl (by decide) (fun v9 w9 hp9 => ?_)
          obtain ⟨r2, a3, n3, rfl, rfl, hY⟩ := tY_holds (P := P) (S := S2) (T := T2) (B := B) hp9
          obtain ⟨hEq, hR9⟩ := rl2_holds hR hX hY
          refine fj_st (st' := .int r2 :: []) rfl ?_
          refine fj_pop C dL_law_585 rfl ?_
          refine fj_goto (tgt := 797) C dL_law_586 (by decide) ?_
          refine fj_iinc (v := nI (i + 6)) (lv' := [(3, .int (nI (i + 6))), (2, .ref (bd 0)), (1, .ref (ad 0)), (0, .ref b)]) C 0 dL_law_797 rfl (nI_add i 6) (by decide) rfl ?_
          refine fj_goto (tgt := 18) C dL_law_800 (by decide) ?_
          refine fj_lv (lv' := [(3, .int (nI (i + 6))), (2, .ref (bd 0)), (1, .ref (ad 0)), (0, .ref b)]) [0, 1, 2, 3] rfl ?_
          exact ih (i + 6) a1 g1 n1 a3 n3 hm1 hi6 hR9
        · refine fj_tableIn (off := 556) (tgt := 589) C dL_law_33 (by omega) (by omega) (by rw [hsw]; rfl) (by decide) ?_
          refine fj_aload_n C 2 dL_law_589 rfl rfl ?_
          refine fj_aload_n C 3 dL_law_590 rfl rfl ?_
          refine fj_iload_n C 0 dL_law_591 rfl rfl ?_
          refine fj_iconst (v := 1) C dL_law_592 (by decide) ?_
          refine fj_iadd C dL_law_593 ?_
          refine fj_at (y := nI (i + 1)) (nI_add i 1) ?_
          refine fj_sld C S9 (vp_in_nI (by omega) (by omega)) dL_law_594 ?_
          refine fj_aload_n C 3 dL_law_595 rfl rfl ?_
          refine fj_iload_n C 0 dL_law_596 rfl rfl ?_
          refine fj_iconst (v := 2) C dL_law_597 (by decide) ?_
          refine fj_iadd C dL_law_598 ?_
          refine fj_at (y := nI (i + 2)) (nI_add i 2) ?_
          refine fj_sld C S9 (vp_in_nI (by omega) (by omega)) dL_law_599 ?_
          refine fj_callV (As := [.int (xs (nI (i + 1)).toNatClampNeg), .int (xs (nI (i + 2)).toNatClampNeg)]) (rest := []) (wr := fm_w bd ty a2 fm_g0 n2) C (d_X5_holdings l D ty t0 ad a g n P S T B hR.1.1 (xs (nI (i + 1)).toNatClampNeg) (xs (nI (i + 2)).toNatClampNeg)) (cwV 2 C.2.2.2.2.1 gL_law_X5_holdings rfl rfl rfl (by decide +kernel) ⟨Nat.le_of_ble_eq_true rfl, Nat.le_of_ble_eq_true rfl⟩) ⟨0, 5, _, _, fx_at0 _ _ _ _ _, rfl, rfl⟩ rfl (Nat.le_of_ble_eq_true rfl) dL_law_600 ⟨Nat.le_of_ble_eq_true rfl, Nat.le_of_ble_eq_true rfl⟩ (List.range 44) [44, 45, 46, 47, 48, 49, 50, 51, 52, 53, 54, 55, 56, 57, 58, 59, 60, 61, 62, 63, 64, 65, 66, 67, 68, 69, 70, 71, 72, 73] rfl rfl rfl rfl (by decide) (fun v9 w9 hp9 => ?_)
          obtain ⟨r1, a1, g1, n1, rfl, rfl, hX⟩ := tX_holdings (P := P) (S := S) (T := T) (B := B) hp9
          refine fj_st (st' := .int r1 :: []) rfl ?_
          refine fj_pop C dL_law_603 rfl ?_
          refine fj_aload_n C 1 dL_law_604 rfl rfl ?_
          refine fj_aload_n C 3 dL_law_605 rfl rfl ?_
          refine fj_iload_n C 0 dL_law_606 rfl rfl ?_
          refine fj_iconst (v := 1) C dL_law_607 (by decide) ?_
          refine fj_iadd C dL_law_608 ?_
          refine fj_at (y := nI (i + 1)) (nI_add i 1) ?_
          refine fj_sld C S9 (vp_in_nI (by omega) (by omega)) dL_law_609 ?_
          refine fj_aload_n C 3 dL_law_610 rfl rfl ?_
          refine fj_iload_n C 0 dL_law_611 rfl rfl ?_
          refine fj_iconst (v := 2) C dL_law_612 (by decide) ?_
          refine fj_iadd C dL_law_613 ?_
          refine fj_at (y := nI (i + 2)) (nI_add i 2) ?_
          refine fj_sld C S9 (vp_in_nI (by omega) (by omega)) dL_law_614 ?_
          refine fj_callV (As := [.int (xs (nI (i + 1)).toNatClampNeg), .int (xs (nI (i + 2)).toNatClampNeg)]) (rest := []) (wr := fx_w ad ty a1 g1 n1) C (d_X6_holdings l D ty t0 bd a2 fm_g0 n2 P S2 T2 B hR.1.2.1 (xs (nI (i + 1)).toNatClampNeg) (xs (nI (i + 2)).toNatClampNeg)) (cwV 2 C.2.2.2.2.1 gL_law_X6_holdings rfl rfl rfl (by decide +kernel) ⟨Nat.le_of_ble_eq_true rfl, Nat.le_of_ble_eq_true rfl⟩) ⟨0, 6, _, _, fm_at0 _ _ _ _ _, rfl, rfl⟩ rfl (Nat.le_of_ble_eq_true rfl) dL_law_615 ⟨Nat.le_of_ble_eq_true rfl, Nat.le_of_ble_eq_true rfl⟩ (List.range 30) [30, 31, 32, 33, 34, 35, 36, 37, 38, 39, 40, 41, 42, 43, 44, 45, 46, 47, 48, 49, 50, 51, 52, 53, 54, 55, 56, 57, 58, 59, 60, 61, 62, 63, 64, 65, 66, 67, 68, 69, 70, 71, 72, 73] rfl rfl rfl rfl (by decide) (fun v9 w9 hp9 => ?_)
          obtain ⟨r2, a3, n3, rfl, rfl, hY⟩ := tY_holdings (P := P) (S := S2) (T := T2) (B := B) hp9
          obtain ⟨hEq, hR9⟩ := rl2_holdings hR hX hY
          refine fj_st (st' := .int r2 :: []) rfl ?_
          refine fj_pop C dL_law_618 rfl ?_
          refine fj_goto (tgt := 797) C dL_law_619 (by decide) ?_
          refine fj_iinc (v := nI (i + 6)) (lv' := [(3, .int (nI (i + 6))), (2, .ref (bd 0)), (1, .ref (ad 0)), (0, .ref b)]) C 0 dL_law_797 rfl (nI_add i 6) (by decide) rfl ?_
          refine fj_goto (tgt := 18) C dL_law_800 (by decide) ?_
          refine fj_lv (lv' := [(3, .int (nI (i + 6))), (2, .ref (bd 0)), (1, .ref (ad 0)), (0, .ref b)]) [0, 1, 2, 3] rfl ?_
          exact ih (i + 6) a1 g1 n1 a3 n3 hm1 hi6 hR9
        · refine fj_tableIn (off := 589) (tgt := 622) C dL_law_33 (by omega) (by omega) (by rw [hsw]; rfl) (by decide) ?_
          refine fj_aload_n C 2 dL_law_622 rfl rfl ?_
          refine fj_aload_n C 3 dL_law_623 rfl rfl ?_
          refine fj_iload_n C 0 dL_law_624 rfl rfl ?_
          refine fj_iconst (v := 1) C dL_law_625 (by decide) ?_
          refine fj_iadd C dL_law_626 ?_
          refine fj_at (y := nI (i + 1)) (nI_add i 1) ?_
          refine fj_sld C S9 (vp_in_nI (by omega) (by omega)) dL_law_627 ?_
          refine fj_callV (As := [.int (xs (nI (i + 1)).toNatClampNeg)]) (rest := []) (wr := fm_w bd ty a2 fm_g0 n2) C (d_X5_digest l D ty t0 ad a g n P S T B hR.1.1 (xs (nI (i + 1)).toNatClampNeg)) (cwV 1 C.2.2.2.2.1 gL_law_X5_digest rfl rfl rfl (by decide +kernel) ⟨Nat.le_of_ble_eq_true rfl, Nat.le_of_ble_eq_true rfl⟩) ⟨0, 5, _, _, fx_at0 _ _ _ _ _, rfl, rfl⟩ rfl (Nat.le_of_ble_eq_true rfl) dL_law_628 ⟨Nat.le_of_ble_eq_true rfl, Nat.le_of_ble_eq_true rfl⟩ (List.range 44) [44, 45, 46, 47, 48, 49, 50, 51, 52, 53, 54, 55, 56, 57, 58, 59, 60, 61, 62, 63, 64, 65, 66, 67, 68, 69, 70, 71, 72, 73] rfl rfl rfl rfl (by decide) (fun v9 w9 hp9 => ?_)
          obtain ⟨r1, a1, g1, n1, rfl, rfl, hX⟩ := tX_digest (P := P) (S := S) (T := T) (B := B) hp9
          refine fj_st (st' := .int r1 :: []) rfl ?_
          refine fj_aload_n C 1 dL_law_631 rfl rfl ?_
          refine fj_aload_n C 3 dL_law_632 rfl rfl ?_
          refine fj_iload_n C 0 dL_law_633 rfl rfl ?_
          refine fj_iconst (v := 1) C dL_law_634 (by decide) ?_
          refine fj_iadd C dL_law_635 ?_
          refine fj_at (y := nI (i + 1)) (nI_add i 1) ?_
          refine fj_sld C S9 (vp_in_nI (by omega) (by omega)) dL_law_636 ?_
          refine fj_callV (As := [.int (xs (nI (i + 1)).toNatClampNeg)]) (rest := [.int r1]) (wr := fx_w ad ty a1 g1 n1) C (d_X6_digest l D ty t0 bd a2 fm_g0 n2 P S2 T2 B hR.1.2.1 (xs (nI (i + 1)).toNatClampNeg)) (cwV 1 C.2.2.2.2.1 gL_law_X6_digest rfl rfl rfl (by decide +kernel) ⟨Nat.le_of_ble_eq_true rfl, Nat.le_of_ble_eq_true rfl⟩) ⟨0, 6, _, _, fm_at0 _ _ _ _ _, rfl, rfl⟩ rfl (Nat.le_of_ble_eq_true rfl) dL_law_637 ⟨Nat.le_of_ble_eq_true rfl, Nat.le_of_ble_eq_true rfl⟩ (List.range 30) [30, 31, 32, 33, 34, 35, 36, 37, 38, 39, 40, 41, 42, 43, 44, 45, 46, 47, 48, 49, 50, 51, 52, 53, 54, 55, 56, 57, 58, 59, 60, 61, 62, 63, 64, 65, 66, 67, 68, 69, 70, 71, 72, 73] rfl rfl rfl rfl (by decide) (fun v9 w9 hp9 => ?_)
          obtain ⟨r2, a3, n3, rfl, rfl, hY⟩ := tY_digest (P := P) (S := S2) (T := T2) (B := B) hp9
          obtain ⟨hEq, hR9⟩ := rl2_digest hR hX hY
          refine fj_st (st' := .int r2 :: [.int r1]) rfl ?_
          refine fj_icmp_eq (tgt := 797) C dL_law_640 (by decide) (fun _ => ?_) (fun h => absurd hEq h)
          refine fj_iinc (v := nI (i + 6)) (lv' := [(3, .int (nI (i + 6))), (2, .ref (bd 0)), (1, .ref (ad 0)), (0, .ref b)]) C 0 dL_law_797 rfl (nI_add i 6) (by decide) rfl ?_
          refine fj_goto (tgt := 18) C dL_law_800 (by decide) ?_
          refine fj_lv (lv' := [(3, .int (nI (i + 6))), (2, .ref (bd 0)), (1, .ref (ad 0)), (0, .ref b)]) [0, 1, 2, 3] rfl ?_
          exact ih (i + 6) a1 g1 n1 a3 n3 hm1 hi6 hR9
        · refine fj_tableIn (off := 612) (tgt := 645) C dL_law_33 (by omega) (by omega) (by rw [hsw]; rfl) (by decide) ?_
          refine fj_aload_n C 2 dL_law_645 rfl rfl ?_
          refine fj_aload_n C 3 dL_law_646 rfl rfl ?_
          refine fj_iload_n C 0 dL_law_647 rfl rfl ?_
          refine fj_iconst (v := 1) C dL_law_648 (by decide) ?_
          refine fj_iadd C dL_law_649 ?_
          refine fj_at (y := nI (i + 1)) (nI_add i 1) ?_
          refine fj_sld C S9 (vp_in_nI (by omega) (by omega)) dL_law_650 ?_
          refine fj_aload_n C 3 dL_law_651 rfl rfl ?_
          refine fj_iload_n C 0 dL_law_652 rfl rfl ?_
          refine fj_iconst (v := 2) C dL_law_653 (by decide) ?_
          refine fj_iadd C dL_law_654 ?_
          refine fj_at (y := nI (i + 2)) (nI_add i 2) ?_
          refine fj_sld C S9 (vp_in_nI (by omega) (by omega)) dL_law_655 ?_
          refine fj_aload_n C 3 dL_law_656 rfl rfl ?_
          refine fj_iload_n C 0 dL_law_657 rfl rfl ?_
          refine fj_iconst (v := 3) C dL_law_658 (by decide) ?_
          refine fj_iadd C dL_law_659 ?_
          refine fj_at (y := nI (i + 3)) (nI_add i 3) ?_
          refine fj_sld C S9 (vp_in_nI (by omega) (by omega)) dL_law_660 ?_
          refine fj_aload_n C 3 dL_law_661 rfl rfl ?_
          refine fj_iload_n C 0 dL_law_662 rfl rfl ?_
          refine fj_iconst (v := 4) C dL_law_663 (by decide) ?_
          refine fj_iadd C dL_law_664 ?_
          refine fj_at (y := nI (i + 4)) (nI_add i 4) ?_
          refine fj_sld C S9 (vp_in_nI (by omega) (by omega)) dL_law_665 ?_
          refine fj_callV (As := [.int (xs (nI (i + 1)).toNatClampNeg), .int (xs (nI (i + 2)).toNatClampNeg), .int (xs (nI (i + 3)).toNatClampNeg), .int (xs (nI (i + 4)).toNatClampNeg)]) (rest := []) (wr := fm_w bd ty a2 fm_g0 n2) C (d_X5_corner l D ty t0 ad a g n (xs (nI (i + 1)).toNatClampNeg) (xs (nI (i + 2)).toNatClampNeg) (xs (nI (i + 3)).toNatClampNeg) (xs (nI (i + 4)).toNatClampNeg)) (cwV 4 C.2.2.2.2.1 gL_law_X5_corner rfl rfl rfl (by decide +kernel) ⟨Nat.le_of_ble_eq_true rfl, Nat.le_of_ble_eq_true rfl⟩) ⟨0, 5, _, _, fx_at0 _ _ _ _ _, rfl, rfl⟩ rfl (Nat.le_of_ble_eq_true rfl) dL_law_666 ⟨Nat.le_of_ble_eq_true rfl, Nat.le_of_ble_eq_true rfl⟩ (List.range 44) [44, 45, 46, 47, 48, 49, 50, 51, 52, 53, 54, 55, 56, 57, 58, 59, 60, 61, 62, 63, 64, 65, 66, 67, 68, 69, 70, 71, 72, 73] rfl rfl rfl rfl (by decide) (fun v9 w9 hp9 => ?_)
          obtain ⟨r1, a1, g1, n1, rfl, rfl, hX⟩ := tX_corner (P := P) (S := S) (T := T) (B := B) hp9
          refine fj_st (st' := .int r1 :: []) rfl ?_
          refine fj_pop C dL_law_669 rfl ?_
          refine fj_aload_n C 1 dL_law_670 rfl rfl ?_
          refine fj_aload_n C 3 dL_law_671 rfl rfl ?_
          refine fj_iload_n C 0 dL_law_672 rfl rfl ?_
          refine fj_iconst (v := 1) C dL_law_673 (by decide) ?_
          refine fj_iadd C dL_law_674 ?_
          refine fj_at (y := nI (i + 1)) (nI_add i 1) ?_
          refine fj_sld C S9 (vp_in_nI (by omega) (by omega)) dL_law_675 ?_
          refine fj_aload_n C 3 dL_law_676 rfl rfl ?_
          refine fj_iload_n C 0 dL_law_677 rfl rfl ?_
          refine fj_iconst (v := 2) C dL_law_678 (by decide) ?_
          refine fj_iadd C dL_law_679 ?_
          refine fj_at (y := nI (i + 2)) (nI_add i 2) ?_
          refine fj_sld C S9 (vp_in_nI (by omega) (by omega)) dL_law_680 ?_
          refine fj_aload_n C 3 dL_law_681 rfl rfl ?_
          refine fj_iload_n C 0 dL_law_682 rfl rfl ?_
          refine fj_iconst (v := 3) C dL_law_683 (by decide) ?_
          refine fj_iadd C dL_law_684 ?_
          refine fj_at (y := nI (i + 3)) (nI_add i 3) ?_
          refine fj_sld C S9 (vp_in_nI (by omega) (by omega)) dL_law_685 ?_
          refine fj_aload_n C 3 dL_law_686 rfl rfl ?_
          refine fj_iload_n C 0 dL_law_687 rfl rfl ?_
          refine fj_iconst (v := 4) C dL_law_688 (by decide) ?_
          refine fj_iadd C dL_law_689 ?_
          refine fj_at (y := nI (i + 4)) (nI_add i 4) ?_
          refine fj_sld C S9 (vp_in_nI (by omega) (by omega)) dL_law_690 ?_
          refine fj_callV (As := [.int (xs (nI (i + 1)).toNatClampNeg), .int (xs (nI (i + 2)).toNatClampNeg), .int (xs (nI (i + 3)).toNatClampNeg), .int (xs (nI (i + 4)).toNatClampNeg)]) (rest := []) (wr := fx_w ad ty a1 g1 n1) C (d_X6_corner l D ty t0 bd a2 fm_g0 n2 (xs (nI (i + 1)).toNatClampNeg) (xs (nI (i + 2)).toNatClampNeg) (xs (nI (i + 3)).toNatClampNeg) (xs (nI (i + 4)).toNatClampNeg)) (cwV 4 C.2.2.2.2.1 gL_law_X6_corner rfl rfl rfl (by decide +kernel) ⟨Nat.le_of_ble_eq_true rfl, Nat.le_of_ble_eq_true rfl⟩) ⟨0, 6, _, _, fm_at0 _ _ _ _ _, rfl, rfl⟩ rfl (Nat.le_of_ble_eq_true rfl) dL_law_691 ⟨Nat.le_of_ble_eq_true rfl, Nat.le_of_ble_eq_true rfl⟩ (List.range 30) [30, 31, 32, 33, 34, 35, 36, 37, 38, 39, 40, 41, 42, 43, 44, 45, 46, 47, 48, 49, 50, 51, 52, 53, 54, 55, 56, 57, 58, 59, 60, 61, 62, 63, 64, 65, 66, 67, 68, 69, 70, 71, 72, 73] rfl rfl rfl rfl (by decide) (fun v9 w9 hp9 => ?_)
          obtain ⟨r2, a3, n3, rfl, rfl, hY⟩ := tY_corner (P := P) (S := S2) (T := T2) (B := B) hp9
          obtain ⟨hEq, hR9⟩ := rl1_corner hR hX hY
          refine fj_st (st' := .int r2 :: []) rfl ?_
          refine fj_pop C dL_law_694 rfl ?_
          refine fj_goto (tgt := 797) C dL_law_695 (by decide) ?_
          refine fj_iinc (v := nI (i + 6)) (lv' := [(3, .int (nI (i + 6))), (2, .ref (bd 0)), (1, .ref (ad 0)), (0, .ref b)]) C 0 dL_law_797 rfl (nI_add i 6) (by decide) rfl ?_
          refine fj_goto (tgt := 18) C dL_law_800 (by decide) ?_
          refine fj_lv (lv' := [(3, .int (nI (i + 6))), (2, .ref (bd 0)), (1, .ref (ad 0)), (0, .ref b)]) [0, 1, 2, 3] rfl ?_
          exact ih (i + 6) a1 g1 n1 a3 n3 hm1 hi6 hR9
        · refine fj_tableIn (off := 665) (tgt := 698) C dL_law_33 (by omega) (by omega) (by rw [hsw]; rfl) (by decide) ?_
          refine fj_aload_n C 2 dL_law_698 rfl rfl ?_
          refine fj_aload_n C 3 dL_law_699 rfl rfl ?_
          refine fj_iload_n C 0 dL_law_700 rfl rfl ?_
          refine fj_iconst (v := 1) C dL_law_701 (by decide) ?_
          refine fj_iadd C dL_law_702 ?_
          refine fj_at (y := nI (i + 1)) (nI_add i 1) ?_
          refine fj_sld C S9 (vp_in_nI (by omega) (by omega)) dL_law_703 ?_
          refine fj_aload_n C 3 dL_law_704 rfl rfl ?_
          refine fj_iload_n C 0 dL_law_705 rfl rfl ?_
          refine fj_iconst (v := 2) C dL_law_706 (by decide) ?_
          refine fj_iadd C dL_law_707 ?_
          refine fj_at (y := nI (i + 2)) (nI_add i 2) ?_
          refine fj_sld C S9 (vp_in_nI (by omega) (by omega)) dL_law_708 ?_
          refine fj_callV (As := [.int (xs (nI (i + 1)).toNatClampNeg), .int (xs (nI (i + 2)).toNatClampNeg)]) (rest := []) (wr := fm_w bd ty a2 fm_g0 n2) C (d_X5_lose l D ty t0 ad a g n (xs (nI (i + 1)).toNatClampNeg) (xs (nI (i + 2)).toNatClampNeg) hz) (cwV 2 C.2.2.2.2.1 gL_law_X5_lose rfl rfl rfl (by decide +kernel) ⟨Nat.le_of_ble_eq_true rfl, Nat.le_of_ble_eq_true rfl⟩) ⟨0, 5, _, _, fx_at0 _ _ _ _ _, rfl, rfl⟩ rfl (Nat.le_of_ble_eq_true rfl) dL_law_709 ⟨Nat.le_of_ble_eq_true rfl, Nat.le_of_ble_eq_true rfl⟩ (List.range 44) [44, 45, 46, 47, 48, 49, 50, 51, 52, 53, 54, 55, 56, 57, 58, 59, 60, 61, 62, 63, 64, 65, 66, 67, 68, 69, 70, 71, 72, 73] rfl rfl rfl rfl (by decide) (fun v9 w9 hp9 => ?_)
          obtain ⟨r1, a1, g1, n1, rfl, rfl, hX⟩ := tX_lose (P := P) (S := S) (T := T) (B := B) hp9
          refine fj_st (st' := .int r1 :: []) rfl ?_
          refine fj_pop C dL_law_712 rfl ?_
          refine fj_aload_n C 1 dL_law_713 rfl rfl ?_
          refine fj_aload_n C 3 dL_law_714 rfl rfl ?_
          refine fj_iload_n C 0 dL_law_715 rfl rfl ?_
          refine fj_iconst (v := 1) C dL_law_716 (by decide) ?_
          refine fj_iadd C dL_law_717 ?_
          refine fj_at (y := nI (i + 1)) (nI_add i 1) ?_
          refine fj_sld C S9 (vp_in_nI (by omega) (by omega)) dL_law_718 ?_
          refine fj_aload_n C 3 dL_law_719 rfl rfl ?_
          refine fj_iload_n C 0 dL_law_720 rfl rfl ?_
          refine fj_iconst (v := 2) C dL_law_721 (by decide) ?_
          refine fj_iadd C dL_law_722 ?_
          refine fj_at (y := nI (i + 2)) (nI_add i 2) ?_
          refine fj_sld C S9 (vp_in_nI (by omega) (by omega)) dL_law_723 ?_
          refine fj_callV (As := [.int (xs (nI (i + 1)).toNatClampNeg), .int (xs (nI (i + 2)).toNatClampNeg)]) (rest := []) (wr := fx_w ad ty a1 g1 n1) C (d_X6_lose l D ty t0 bd a2 fm_g0 n2 (xs (nI (i + 1)).toNatClampNeg) (xs (nI (i + 2)).toNatClampNeg)) (cwV 2 C.2.2.2.2.1 gL_law_X6_lose rfl rfl rfl (by decide +kernel) ⟨Nat.le_of_ble_eq_true rfl, Nat.le_of_ble_eq_true rfl⟩) ⟨0, 6, _, _, fm_at0 _ _ _ _ _, rfl, rfl⟩ rfl (Nat.le_of_ble_eq_true rfl) dL_law_724 ⟨Nat.le_of_ble_eq_true rfl, Nat.le_of_ble_eq_true rfl⟩ (List.range 30) [30, 31, 32, 33, 34, 35, 36, 37, 38, 39, 40, 41, 42, 43, 44, 45, 46, 47, 48, 49, 50, 51, 52, 53, 54, 55, 56, 57, 58, 59, 60, 61, 62, 63, 64, 65, 66, 67, 68, 69, 70, 71, 72, 73] rfl rfl rfl rfl (by decide) (fun v9 w9 hp9 => ?_)
          obtain ⟨r2, a3, n3, rfl, rfl, hY⟩ := tY_lose (P := P) (S := S2) (T := T2) (B := B) hp9
          obtain ⟨hEq, hR9⟩ := rl1_lose hR hX hY
          refine fj_st (st' := .int r2 :: []) rfl ?_
          refine fj_pop C dL_law_727 rfl ?_
          refine fj_goto (tgt := 797) C dL_law_728 (by decide) ?_
          refine fj_iinc (v := nI (i + 6)) (lv' := [(3, .int (nI (i + 6))), (2, .ref (bd 0)), (1, .ref (ad 0)), (0, .ref b)]) C 0 dL_law_797 rfl (nI_add i 6) (by decide) rfl ?_
          refine fj_goto (tgt := 18) C dL_law_800 (by decide) ?_
          refine fj_lv (lv' := [(3, .int (nI (i + 6))), (2, .ref (bd 0)), (1, .ref (ad 0)), (0, .ref b)]) [0, 1, 2, 3] rfl ?_
          exact ih (i + 6) a1 g1 n1 a3 n3 hm1 hi6 hR9
        · refine fj_tableIn (off := 698) (tgt := 731) C dL_law_33 (by omega) (by omega) (by rw [hsw]; rfl) (by decide) ?_
          refine fj_aload_n C 2 dL_law_731 rfl rfl ?_
          refine fj_aload_n C 3 dL_law_732 rfl rfl ?_
          refine fj_iload_n C 0 dL_law_733 rfl rfl ?_
          refine fj_iconst (v := 1) C dL_law_734 (by decide) ?_
          refine fj_iadd C dL_law_735 ?_
          refine fj_at (y := nI (i + 1)) (nI_add i 1) ?_
          refine fj_sld C S9 (vp_in_nI (by omega) (by omega)) dL_law_736 ?_
          refine fj_aload_n C 3 dL_law_737 rfl rfl ?_
          refine fj_iload_n C 0 dL_law_738 rfl rfl ?_
          refine fj_iconst (v := 2) C dL_law_739 (by decide) ?_
          refine fj_iadd C dL_law_740 ?_
          refine fj_at (y := nI (i + 2)) (nI_add i 2) ?_
          refine fj_sld C S9 (vp_in_nI (by omega) (by omega)) dL_law_741 ?_
          refine fj_aload_n C 3 dL_law_742 rfl rfl ?_
          refine fj_iload_n C 0 dL_law_743 rfl rfl ?_
          refine fj_iconst (v := 3) C dL_law_744 (by decide) ?_
          refine fj_iadd C dL_law_745 ?_
          refine fj_at (y := nI (i + 3)) (nI_add i 3) ?_
          refine fj_sld C S9 (vp_in_nI (by omega) (by omega)) dL_law_746 ?_
          refine fj_callV (As := [.int (xs (nI (i + 1)).toNatClampNeg), .int (xs (nI (i + 2)).toNatClampNeg), .int (xs (nI (i + 3)).toNatClampNeg)]) (rest := []) (wr := fm_w bd ty a2 fm_g0 n2) C (d_X5_lies l D ty t0 ad a g n (xs (nI (i + 1)).toNatClampNeg) (xs (nI (i + 2)).toNatClampNeg) (xs (nI (i + 3)).toNatClampNeg) hz) (cwV 3 C.2.2.2.2.1 gL_law_X5_lies rfl rfl rfl (by decide +kernel) ⟨Nat.le_of_ble_eq_true rfl, Nat.le_of_ble_eq_true rfl⟩) ⟨0, 5, _, _, fx_at0 _ _ _ _ _, rfl, rfl⟩ rfl (Nat.le_of_ble_eq_true rfl) dL_law_747 ⟨Nat.le_of_ble_eq_true rfl, Nat.le_of_ble_eq_true rfl⟩ (List.range 44) [44, 45, 46, 47, 48, 49, 50, 51, 52, 53, 54, 55, 56, 57, 58, 59, 60, 61, 62, 63, 64, 65, 66, 67, 68, 69, 70, 71, 72, 73] rfl rfl rfl rfl (by decide) (fun v9 w9 hp9 => ?_)
          obtain ⟨r1, a1, g1, n1, rfl, rfl, hX⟩ := tX_lies (P := P) (S := S) (T := T) (B := B) hp9
          refine fj_st (st' := .int r1 :: []) rfl ?_
          refine fj_pop C dL_law_750 rfl ?_
          refine fj_aload_n C 1 dL_law_751 rfl rfl ?_
          refine fj_aload_n C 3 dL_law_752 rfl rfl ?_
          refine fj_iload_n C 0 dL_law_753 rfl rfl ?_
          refine fj_iconst (v := 1) C dL_law_754 (by decide) ?_
          refine fj_iadd C dL_law_755 ?_
          refine fj_at (y := nI (i + 1)) (nI_add i 1) ?_
          refine fj_sld C S9 (vp_in_nI (by omega) (by omega)) dL_law_756 ?_
          refine fj_aload_n C 3 dL_law_757 rfl rfl ?_
          refine fj_iload_n C 0 dL_law_758 rfl rfl ?_
          refine fj_iconst (v := 2) C dL_law_759 (by decide) ?_
          refine fj_iadd C dL_law_760 ?_
          refine fj_at (y := nI (i + 2)) (nI_add i 2) ?_
          refine fj_sld C S9 (vp_in_nI (by omega) (by omega)) dL_law_761 ?_
          refine fj_aload_n C 3 dL_law_762 rfl rfl ?_
          refine fj_iload_n C 0 dL_law_763 rfl rfl ?_
          refine fj_iconst (v := 3) C dL_law_764 (by decide) ?_
          refine fj_iadd C dL_law_765 ?_
          refine fj_at (y := nI (i + 3)) (nI_add i 3) ?_
          refine fj_sld C S9 (vp_in_nI (by omega) (by omega)) dL_law_766 ?_
          refine fj_callV (As := [.int (xs (nI (i + 1)).toNatClampNeg), .int (xs (nI (i + 2)).toNatClampNeg), .int (xs (nI (i + 3)).toNatClampNeg)]) (rest := []) (wr := fx_w ad ty a1 g1 n1) C (d_X6_lies l D ty t0 bd a2 fm_g0 n2 (xs (nI (i + 1)).toNatClampNeg) (xs (nI (i + 2)).toNatClampNeg) (xs (nI (i + 3)).toNatClampNeg)) (cwV 3 C.2.2.2.2.1 gL_law_X6_lies rfl rfl rfl (by decide +kernel) ⟨Nat.le_of_ble_eq_true rfl, Nat.le_of_ble_eq_true rfl⟩) ⟨0, 6, _, _, fm_at0 _ _ _ _ _, rfl, rfl⟩ rfl (Nat.le_of_ble_eq_true rfl) dL_law_767 ⟨Nat.le_of_ble_eq_true rfl, Nat.le_of_ble_eq_true rfl⟩ (List.range 30) [30, 31, 32, 33, 34, 35, 36, 37, 38, 39, 40, 41, 42, 43, 44, 45, 46, 47, 48, 49, 50, 51, 52, 53, 54, 55, 56, 57, 58, 59, 60, 61, 62, 63, 64, 65, 66, 67, 68, 69, 70, 71, 72, 73] rfl rfl rfl rfl (by decide) (fun v9 w9 hp9 => ?_)
          obtain ⟨r2, a3, n3, rfl, rfl, hY⟩ := tY_lies (P := P) (S := S2) (T := T2) (B := B) hp9
          obtain ⟨hEq, hR9⟩ := rl1_lies hR hX hY
          refine fj_st (st' := .int r2 :: []) rfl ?_
          refine fj_pop C dL_law_770 rfl ?_
          refine fj_goto (tgt := 797) C dL_law_771 (by decide) ?_
          refine fj_iinc (v := nI (i + 6)) (lv' := [(3, .int (nI (i + 6))), (2, .ref (bd 0)), (1, .ref (ad 0)), (0, .ref b)]) C 0 dL_law_797 rfl (nI_add i 6) (by decide) rfl ?_
          refine fj_goto (tgt := 18) C dL_law_800 (by decide) ?_
          refine fj_lv (lv' := [(3, .int (nI (i + 6))), (2, .ref (bd 0)), (1, .ref (ad 0)), (0, .ref b)]) [0, 1, 2, 3] rfl ?_
          exact ih (i + 6) a1 g1 n1 a3 n3 hm1 hi6 hR9
        · refine fj_tableIn (off := 741) (tgt := 774) C dL_law_33 (by omega) (by omega) (by rw [hsw]; rfl) (by decide) ?_
          refine fj_aload_n C 2 dL_law_774 rfl rfl ?_
          refine fj_aload_n C 3 dL_law_775 rfl rfl ?_
          refine fj_iload_n C 0 dL_law_776 rfl rfl ?_
          refine fj_iconst (v := 1) C dL_law_777 (by decide) ?_
          refine fj_iadd C dL_law_778 ?_
          refine fj_at (y := nI (i + 1)) (nI_add i 1) ?_
          refine fj_sld C S9 (vp_in_nI (by omega) (by omega)) dL_law_779 ?_
          refine fj_callV (As := [.int (xs (nI (i + 1)).toNatClampNeg)]) (rest := []) (wr := fm_w bd ty a2 fm_g0 n2) C (d_X5_area l D ty t0 ad a g n (xs (nI (i + 1)).toNatClampNeg)) (cwV 1 C.2.2.2.2.1 gL_law_X5_area rfl rfl rfl (by decide +kernel) ⟨Nat.le_of_ble_eq_true rfl, Nat.le_of_ble_eq_true rfl⟩) ⟨0, 5, _, _, fx_at0 _ _ _ _ _, rfl, rfl⟩ rfl (Nat.le_of_ble_eq_true rfl) dL_law_780 ⟨Nat.le_of_ble_eq_true rfl, Nat.le_of_ble_eq_true rfl⟩ (List.range 44) [44, 45, 46, 47, 48, 49, 50, 51, 52, 53, 54, 55, 56, 57, 58, 59, 60, 61, 62, 63, 64, 65, 66, 67, 68, 69, 70, 71, 72, 73] rfl rfl rfl rfl (by decide) (fun v9 w9 hp9 => ?_)
          obtain ⟨r1, a1, g1, n1, rfl, rfl, hX⟩ := tX_area (P := P) (S := S) (T := T) (B := B) hp9
          refine fj_st (st' := .long r1 :: []) rfl ?_
          refine fj_pop2 C dL_law_783 rfl ?_
          refine fj_aload_n C 1 dL_law_784 rfl rfl ?_
          refine fj_aload_n C 3 dL_law_785 rfl rfl ?_
          refine fj_iload_n C 0 dL_law_786 rfl rfl ?_
          refine fj_iconst (v := 1) C dL_law_787 (by decide) ?_
          refine fj_iadd C dL_law_788 ?_
          refine fj_at (y := nI (i + 1)) (nI_add i 1) ?_
          refine fj_sld C S9 (vp_in_nI (by omega) (by omega)) dL_law_789 ?_
          refine fj_callV (As := [.int (xs (nI (i + 1)).toNatClampNeg)]) (rest := []) (wr := fx_w ad ty a1 g1 n1) C (d_X6_area l D ty t0 bd a2 fm_g0 n2 (xs (nI (i + 1)).toNatClampNeg)) (cwV 1 C.2.2.2.2.1 gL_law_X6_area rfl rfl rfl (by decide +kernel) ⟨Nat.le_of_ble_eq_true rfl, Nat.le_of_ble_eq_true rfl⟩) ⟨0, 6, _, _, fm_at0 _ _ _ _ _, rfl, rfl⟩ rfl (Nat.le_of_ble_eq_true rfl) dL_law_790 ⟨Nat.le_of_ble_eq_true rfl, Nat.le_of_ble_eq_true rfl⟩ (List.range 30) [30, 31, 32, 33, 34, 35, 36, 37, 38, 39, 40, 41, 42, 43, 44, 45, 46, 47, 48, 49, 50, 51, 52, 53, 54, 55, 56, 57, 58, 59, 60, 61, 62, 63, 64, 65, 66, 67, 68, 69, 70, 71, 72, 73] rfl rfl rfl rfl (by decide) (fun v9 w9 hp9 => ?_)
          obtain ⟨r2, a3, n3, rfl, rfl, hY⟩ := tY_area (P := P) (S := S2) (T := T2) (B := B) hp9
          obtain ⟨hEq, hR9⟩ := rl1_area hR hX hY
          refine fj_st (st' := .long r2 :: []) rfl ?_
          refine fj_pop2 C dL_law_793 rfl ?_
          refine fj_goto (tgt := 797) C dL_law_794 (by decide) ?_
          refine fj_iinc (v := nI (i + 6)) (lv' := [(3, .int (nI (i + 6))), (2, .ref (bd 0)), (1, .ref (ad 0)), (0, .ref b)]) C 0 dL_law_797 rfl (nI_add i 6) (by decide) rfl ?_
          refine fj_goto (tgt := 18) C dL_law_800 (by decide) ?_
          refine fj_lv (lv' := [(3, .int (nI (i + 6))), (2, .ref (bd 0)), (1, .ref (ad 0)), (0, .ref b)]) [0, 1, 2, 3] rfl ?_
          exact ih (i + 6) a1 g1 n1 a3 n3 hm1 hi6 hR9
