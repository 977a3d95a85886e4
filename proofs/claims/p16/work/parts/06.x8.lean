/-- one line of the sweep over the living: next day, days lived, longest row without -/
def lkS (dy nu tu : Int32) (z : Int32 × Int32 × Int32) : Int32 × Int32 × Int32 :=
  if (if tu < dy + nu - 1 then tu else dy + nu - 1) < (if dy < z.1 then z.1 else dy) then z
  else ((if tu < dy + nu - 1 then tu else dy + nu - 1) + 1, z.2.1 + ((if tu < dy + nu - 1 then tu else dy + nu - 1) - (if dy < z.1 then z.1 else dy) + 1), if z.2.2 < (if dy < z.1 then z.1 else dy) - z.1 then (if dy < z.1 then z.1 else dy) - z.1 else z.2.2)
def lkF (a : Nat → Nat → Int32) (i : Nat) (fr tu : Int32) : Nat → Int32 × Int32 × Int32
  | 0 => (fr, 0, 0)
  | d + 1 => if DBH a (a 24 d).toNatClampNeg 1 i then lkS (a 18 (a 24 d).toNatClampNeg) (a 22 (a 24 d).toNatClampNeg) tu (lkF a i fr tu d) else lkF a i fr tu d
/-- the longest row of days without -/
def lkG (tu : Int32) (z : Int32 × Int32 × Int32) : Int32 := if z.2.2 < tu + 1 - z.1 then tu + 1 - z.1 else z.2.2
theorem lkF_s {a : Nat → Nat → Int32} {i d j : Nat} {fr tu : Int32} (h : a 24 d = nI j) (hj : j < 2 ^ 31) (q : DBH a j 1 i) : lkF a i fr tu (d + 1) = lkS (a 18 j) (a 22 j) tu (lkF a i fr tu d) := by
  rw [lkF, h, nI_clamp hj, if_pos q]
theorem lkF_z {a : Nat → Nat → Int32} {i d j : Nat} {fr tu : Int32} (h : a 24 d = nI j) (hj : j < 2 ^ 31) (q : ¬ DBH a j 1 i) : lkF a i fr tu (d + 1) = lkF a i fr tu d := by
  rw [lkF, h, nI_clamp hj, if_neg q]
theorem lkS_no {dy nu tu nx lvd gp f q : Int32} (hf : (if dy < nx then nx else dy) = f) (hq : (if tu < dy + nu - 1 then tu else dy + nu - 1) = q) (h : ¬ f ≤ q) : lkS dy nu tu (nx, lvd, gp) = (nx, lvd, gp) := by
  subst hf hq
  exact if_pos (Int32.not_le.mp h)
theorem lkS_go {dy nu tu nx lvd gp f q : Int32} (hf : (if dy < nx then nx else dy) = f) (hq : (if tu < dy + nu - 1 then tu else dy + nu - 1) = q) (h : f ≤ q) : lkS dy nu tu (nx, lvd, gp) = (q + 1, lvd + (q - f + 1), if gp < f - nx then f - nx else gp) := by
  subst hf hq
  exact if_neg (Int32.not_lt.mpr h)
set_option maxHeartbeats 4000000 in
set_option maxRecDepth 100000 in
theorem d_X4_lookAtLiving (l : Launch) (D : va_G) (ty : Nat → ClassId) (t0 : Nat → Nat) (ad : Nat → Nat) (a : Nat → Nat → Int32) (g : Nat → Nat → Int64) (n : Nat → Int32) (P : Nat) (S : Nat) (T : Nat) (B : Nat) (I : XI P S T B a n) (x : Int32) (fr : Int32) (tu : Int32) (i : Nat) (ei : x = nI i) (hi : i < 120) : fc l yX4_lookAtLiving wsX4_lookAtLiving (fj_rm 1 23 0 0) D ty t0 [.ref (ad 25), .int x, .int fr, .int tu] (fx_w ad ty a g n) 0 0 (fun v w => v = none ∧ w = (fx_w ad ty a g (va_up (va_up n 6 ((lkF a i fr tu B).2.1)) 7 (lkG tu (lkF a i fr tu B))))) := by
  subst ei
  refine fc_start (own := RX4) (cc := cX4_lookAtLiving) (maxL := 9) (ret := none) (by decide) rfl (Nat.le_of_ble_eq_true rfl) rfl ?_
  intro p e s m args below meth c Q A C hmn E9
  obtain ⟨hn0, hP, hn1, hT, hn3, hS, hn4, hB, iLO, iBO, iWho, iSort, iQ, iN⟩ := id I
  have iX4 : ∀ w ∈ u_ws RX4 TX4 18, w ∈ wsX4_lookAtLiving := ptX4_lookAtLiving_wsX40
  have kX4_149 : Cond.fieldLink RX4 149 "FreeLand$Work" "livedDays" "I" ∈ wsX4_lookAtLiving := ptX4_lookAtLiving_woX4_lookAtLiving _ (by decide +kernel)
  have kX4_152 : Cond.fieldLink RX4 152 "FreeLand$Work" "longestGap" "I" ∈ wsX4_lookAtLiving := ptX4_lookAtLiving_woX4_lookAtLiving _ (by decide +kernel)
  have kX4_61 : Cond.fieldLink RX4 61 "FreeLand$Work" "book" "LFreeLand$Book;" ∈ wsX4_lookAtLiving := ptX4_lookAtLiving_woX4_lookAtLiving _ (by decide +kernel)
  have iX0 : ∀ w ∈ u_ws RX0 TX0 8, w ∈ wsX4_lookAtLiving := ptX4_lookAtLiving_wsX00
  have kX4_68 : (RX4, 68, "FreeLand$Book", "size", "I") ∈ nw_F := (by decide +kernel)
  have kM168 : Cond.methodLink RX4 168 Lib.Math.max.name ∈ wsX4_lookAtLiving := ptX4_lookAtLiving_woX4_lookAtLiving _ (by decide +kernel)
  have kMsmax : Cond.static Lib.Math.max.name ∈ wsX4_lookAtLiving := ptX4_lookAtLiving_woX4_lookAtLiving _ (by decide +kernel)
  have kMi : Cond.initialized "java/lang/Math" ∈ wsX4_lookAtLiving := ptX4_lookAtLiving_woX4_lookAtLiving _ (by decide +kernel)
  have kMcmax : Cond.code Lib.Math.max.name Lib.Math.max.code 2 (some .int) ∈ wsX4_lookAtLiving := ptX4_lookAtLiving_woX4_lookAtLiving _ (by decide +kernel)
  have kX4_73 : (RX4, 73, "FreeLand$Book", "order", "[I") ∈ nw_F := (by decide +kernel)
  have kX4_76 : (RX4, 76, "FreeLand$Book", "day", "[I") ∈ nw_F := (by decide +kernel)
  have kX4_158 : (RX4, 158, "FreeLand$Book", "number", "[I") ∈ nw_F := (by decide +kernel)
  have kM173 : Cond.methodLink RX4 173 Lib.Math.min.name ∈ wsX4_lookAtLiving := ptX4_lookAtLiving_woX4_lookAtLiving _ (by decide +kernel)
  have kMsmin : Cond.static Lib.Math.min.name ∈ wsX4_lookAtLiving := ptX4_lookAtLiving_woX4_lookAtLiving _ (by decide +kernel)
  have kMcmin : Cond.code Lib.Math.min.name Lib.Math.min.code 2 (some .int) ∈ wsX4_lookAtLiving := ptX4_lookAtLiving_woX4_lookAtLiving _ (by decide +kernel)
  refine fj_lv (lv' := [(0, .ref (ad 25)), (1, .int (nI i)), (2, .int fr), (3, .int tu)]) [0, 1, 2, 3] rfl ?_
  refine fj_aload_n C 0 dX4_lookAtLiving_0 rfl rfl ?_
  refine fj_iconst (v := 0) C dX4_lookAtLiving_1 (by decide) ?_
  refine fj_put (Cn := RX4) (T := TX4) (N := 18) (ci := 4) C iX4 tyX4 tyX4_ok nmX4 25 (fx_at25 _ _ _ _ _) rfl 16 (by decide) kX4_149 rfl rfl rfl (Nat.le_of_ble_eq_true rfl) dX4_lookAtLiving_2 (fx_si25_16 _ _ _ _ _ _) ?_
  refine fj_aload_n C 0 dX4_lookAtLiving_5 rfl rfl ?_
  refine fj_iconst (v := 0) C dX4_lookAtLiving_6 (by decide) ?_
  refine fj_put (Cn := RX4) (T := TX4) (N := 18) (ci := 4) C iX4 tyX4 tyX4_ok nmX4 25 (fx_at25 _ _ _ _ _) rfl 17 (by decide) kX4_152 rfl rfl rfl (Nat.le_of_ble_eq_true rfl) dX4_lookAtLiving_7 (fx_si25_17 _ _ _ _ _ _) ?_
  refine fj_iload_n C 2 dX4_lookAtLiving_10 rfl rfl ?_
  refine fj_istore (lv' := [(4, .int fr), (0, .ref (ad 25)), (1, .int (nI i)), (2, .int fr), (3, .int tu)]) C dX4_lookAtLiving_11 (by decide) rfl ?_
  refine fj_iconst (v := 0) C dX4_lookAtLiving_13 (by decide) ?_
  refine fj_istore (lv' := [(5, .int 0), (4, .int fr), (0, .ref (ad 25)), (1, .int (nI i)), (2, .int fr), (3, .int tu)]) C dX4_lookAtLiving_14 (by decide) rfl ?_
  refine fj_lv (lv' := [(0, .ref (ad 25)), (1, .int (nI i)), (2, .int fr), (3, .int tu), (4, .int fr), (5, .int 0)]) [2, 3, 4, 5, 1, 0] rfl ?_
  have lp16 : ∀ (d : Nat) (nx : Int32) (lvd : Int32) (gp : Int32), (d ≤ B) → (lkF a i fr tu d = (nx, lvd, gp)) → fj p l e (fj_rm 1 23 0 0) s m args below meth c Q A D 9 0 0 (fx_w ad ty a g (va_up (va_up n 6 lvd) 7 gp)) [(0, .ref (ad 25)), (1, .int (nI i)), (2, .int fr), (3, .int tu), (4, .int nx), (5, .int (nI d))] 16 [] := by
    have key : ∀ zz : Nat × Int32 × Int32 × Int32, (fun (zz : Nat × Int32 × Int32 × Int32) => match zz with | (d, nx, lvd, gp) => (d ≤ B) → (lkF a i fr tu d = (nx, lvd, gp)) → fj p l e (fj_rm 1 23 0 0) s m args below meth c Q A D 9 0 0 (fx_w ad ty a g (va_up (va_up n 6 lvd) 7 gp)) [(0, .ref (ad 25)), (1, .int (nI i)), (2, .int fr), (3, .int tu), (4, .int nx), (5, .int (nI d))] 16 []) zz := by
      refine fx_ind (fun (zz : Nat × Int32 × Int32 × Int32) => match zz with | (d, nx, lvd, gp) => B - d) _ ?_
      rintro ⟨d, nx, lvd, gp⟩ ih hd hst
      refine fj_iload C 5 dX4_lookAtLiving_16 rfl ?_
      refine fj_aload_n C 0 dX4_lookAtLiving_18 rfl rfl ?_
      refine fj_get (Cn := RX4) (T := TX4) (N := 18) (ci := 4) (v := .ref (ad 17)) C iX4 25 (fx_at25 _ _ _ _ _) rfl 2 (by decide) kX4_61 rfl dX4_lookAtLiving_19 ?_
      refine fj_getN (Cn := RX0) (T := TX0) (N := 8) (ci := 0) (v := .int (n 4)) C iX0 17 (fx_at17 _ _ _ _ _) rfl 7 (by decide) kX4_68 rfl dX4_lookAtLiving_22 ?_
      refine fj_at (y := nI B) hn4 ?_
      refine fj_icmp_ge (tgt := 154) C dX4_lookAtLiving_25 (by decide) (fun h25 => ?_) (fun h25 => ?_)
      · have hge : B ≤ d := Nat.le_of_not_lt fun q => absurd (Int32.not_lt.mpr h25) (not_not_intro ((nI_ltI (by omega) (by omega)).mpr q))
        refine fj_aload_n C 0 dX4_lookAtLiving_154 rfl rfl ?_
        refine fj_aload_n C 0 dX4_lookAtLiving_155 rfl rfl ?_
        refine fj_get (Cn := RX4) (T := TX4) (N := 18) (ci := 4) (v := .int gp) C iX4 25 (fx_at25 _ _ _ _ _) rfl 17 (by decide) kX4_152 rfl dX4_lookAtLiving_156 ?_
        refine fj_iload_n C 3 dX4_lookAtLiving_159 rfl rfl ?_
        refine fj_iconst (v := 1) C dX4_lookAtLiving_160 (by decide) ?_
        refine fj_iadd C dX4_lookAtLiving_161 ?_
        refine fj_iload C 4 dX4_lookAtLiving_162 rfl ?_
        refine fj_isub C dX4_lookAtLiving_164 ?_
        refine fj_max C kM168 kMsmax kMi kMcmax (by decide) (Nat.le_of_ble_eq_true rfl) (Nat.zero_le _) (Nat.zero_le _) dX4_lookAtLiving_165 ?_
        refine fj_put (Cn := RX4) (T := TX4) (N := 18) (ci := 4) C iX4 tyX4 tyX4_ok nmX4 25 (fx_at25 _ _ _ _ _) rfl 17 (by decide) kX4_152 rfl rfl rfl (Nat.le_of_ble_eq_true rfl) dX4_lookAtLiving_168 (fx_si25_17 _ _ _ _ _ _) ?_
        refine fj_ws (ws' := (fx_w ad ty a g (va_up (va_up n 6 lvd) 7 (if gp < (tu + 1) - nx then (tu + 1) - nx else gp)))) rfl ?_
        exact fj_vret C E9 dX4_lookAtLiving_171 ⟨rfl, (by rw [show B = d by omega, hst] <;> rfl)⟩
      · have hlt : d < B := (nI_ltI (by omega) (by omega)).mp (Int32.not_le.mp h25)
        refine fj_aload_n C 0 dX4_lookAtLiving_28 rfl rfl ?_
        refine fj_get (Cn := RX4) (T := TX4) (N := 18) (ci := 4) (v := .ref (ad 17)) C iX4 25 (fx_at25 _ _ _ _ _) rfl 2 (by decide) kX4_61 rfl dX4_lookAtLiving_29 ?_
        refine fj_getN (Cn := RX0) (T := TX0) (N := 8) (ci := 0) (v := .ref (ad 24)) C iX0 17 (fx_at17 _ _ _ _ _) rfl 6 (by decide) kX4_73 rfl dX4_lookAtLiving_32 ?_
        refine fj_iload C 5 dX4_lookAtLiving_35 rfl ?_
        refine fj_iald (f := (a 24)) C 24 (fx_at24 _ _ _ _ _) (vp_in_nI (by omega) (by decide)) dX4_lookAtLiving_37 ?_
        obtain ⟨j, hj, ej⟩ := iBO d (by omega)
        refine fj_at (y := nI j) (by rw [nI_clamp (by omega), ej]) ?_
        refine fj_istore (lv' := [(6, .int (nI j)), (0, .ref (ad 25)), (1, .int (nI i)), (2, .int fr), (3, .int tu), (4, .int nx), (5, .int (nI d))]) C dX4_lookAtLiving_38 (by decide) rfl ?_
        refine fj_aload_n C 1 dX4_lookAtLiving_40 rfl rfl ?_
        refine fj_iload C 0 dX4_lookAtLiving_41 rfl ?_
        refine fj_iconst (v := 1) C dX4_lookAtLiving_43 (by decide) ?_
        refine fj_iload_n C 2 dX4_lookAtLiving_44 rfl rfl ?_
        refine fj_callVw (As := [.int (nI j), .int 1, .int (nI i)]) (rest := []) C (d_X4_isDoneByHolder l D ty t0 ad a g (va_up (va_up n 6 lvd) 7 gp) (nI j) 1 (nI i) j i rfl rfl (by omega) (by omega)) (cwV 3 C.2.2.2.2.1 gX4_lookAtLiving_X4_isDoneByHolder rfl rfl rfl (by decide +kernel) ⟨Nat.le_of_ble_eq_true rfl, Nat.le_of_ble_eq_true rfl⟩) ⟨25, 4, _, _, fx_at25 _ _ _ _ _, rfl, rfl⟩ rfl (Nat.le_of_ble_eq_true rfl) dX4_lookAtLiving_45 ⟨Nat.zero_le _, Nat.zero_le _⟩ (fun v9 w9 hp9 => ?_)
        obtain ⟨rfl, rfl⟩ := hp9
        refine fj_st (st' := .int (if DBH a j 1 i then 1 else 0) :: []) rfl ?_
        refine fj_ifb_ne (tgt := 54) C dX4_lookAtLiving_48 (by decide) (fun h48 => ?_) (fun h48 => ?_)
        · refine fj_aload_n C 1 dX4_lookAtLiving_54 rfl rfl ?_
          refine fj_get (Cn := RX4) (T := TX4) (N := 18) (ci := 4) (v := .ref (ad 17)) C iX4 25 (fx_at25 _ _ _ _ _) rfl 2 (by decide) kX4_61 rfl dX4_lookAtLiving_55 ?_
          refine fj_getN (Cn := RX0) (T := TX0) (N := 8) (ci := 0) (v := .ref (ad 18)) C iX0 17 (fx_at17 _ _ _ _ _) rfl 0 (by decide) kX4_76 rfl dX4_lookAtLiving_58 ?_
          refine fj_iload C 0 dX4_lookAtLiving_61 rfl ?_
          refine fj_iald (f := (a 18)) C 18 (fx_at18 _ _ _ _ _) (vp_in_nI (by omega) (by decide)) dX4_lookAtLiving_63 ?_
          refine fj_at (y := a 18 j) (by rw [nI_clamp (by omega)]) ?_
          refine fj_iload C 5 dX4_lookAtLiving_64 rfl ?_
          refine fj_max C kM168 kMsmax kMi kMcmax (by decide) (Nat.le_of_ble_eq_true rfl) (Nat.zero_le _) (Nat.zero_le _) dX4_lookAtLiving_66 ?_
          refine fj_topi (fun f9 e_f9 => ?_)
          refine fj_istore (lv' := [(7, .int f9), (6, .int (nI j)), (0, .ref (ad 25)), (1, .int (nI i)), (2, .int fr), (3, .int tu), (4, .int nx), (5, .int (nI d))]) C dX4_lookAtLiving_69 (by decide) rfl ?_
          refine fj_aload_n C 2 dX4_lookAtLiving_71 rfl rfl ?_
          refine fj_get (Cn := RX4) (T := TX4) (N := 18) (ci := 4) (v := .ref (ad 17)) C iX4 25 (fx_at25 _ _ _ _ _) rfl 2 (by decide) kX4_61 rfl dX4_lookAtLiving_72 ?_
          refine fj_getN (Cn := RX0) (T := TX0) (N := 8) (ci := 0) (v := .ref (ad 18)) C iX0 17 (fx_at17 _ _ _ _ _) rfl 0 (by decide) kX4_76 rfl dX4_lookAtLiving_75 ?_
          refine fj_iload C 1 dX4_lookAtLiving_78 rfl ?_
          refine fj_iald (f := (a 18)) C 18 (fx_at18 _ _ _ _ _) (vp_in_nI (by omega) (by decide)) dX4_lookAtLiving_80 ?_
          refine fj_at (y := a 18 j) (by rw [nI_clamp (by omega)]) ?_
          refine fj_aload_n C 2 dX4_lookAtLiving_81 rfl rfl ?_
          refine fj_get (Cn := RX4) (T := TX4) (N := 18) (ci := 4) (v := .ref (ad 17)) C iX4 25 (fx_at25 _ _ _ _ _) rfl 2 (by decide) kX4_61 rfl dX4_lookAtLiving_82 ?_
          refine fj_getN (Cn := RX0) (T := TX0) (N := 8) (ci := 0) (v := .ref (ad 22)) C iX0 17 (fx_at17 _ _ _ _ _) rfl 4 (by decide) kX4_158 rfl dX4_lookAtLiving_85 ?_
          refine fj_iload C 1 dX4_lookAtLiving_88 rfl ?_
          refine fj_iald (f := (a 22)) C 22 (fx_at22 _ _ _ _ _) (vp_in_nI (by omega) (by decide)) dX4_lookAtLiving_90 ?_
          refine fj_at (y := a 22 j) (by rw [nI_clamp (by omega)]) ?_
          refine fj_iadd C dX4_lookAtLiving_91 ?_
          refine fj_iconst (v := 1) C dX4_lookAtLiving_92 (by decide) ?_
          refine fj_isub C dX4_lookAtLiving_93 ?_
          refine fj_iload_n C 5 dX4_lookAtLiving_94 rfl rfl ?_
          refine fj_min C kM173 kMsmin kMi kMcmin (by decide) (Nat.le_of_ble_eq_true rfl) (Nat.zero_le _) (Nat.zero_le _) dX4_lookAtLiving_95 ?_
          refine fj_topi (fun q9 e_q9 => ?_)
          refine fj_istore (lv' := [(8, .int q9), (7, .int f9), (6, .int (nI j)), (0, .ref (ad 25)), (1, .int (nI i)), (2, .int fr), (3, .int tu), (4, .int nx), (5, .int (nI d))]) C dX4_lookAtLiving_98 (by decide) rfl ?_
          refine fj_iload C 1 dX4_lookAtLiving_100 rfl ?_
          refine fj_iload C 0 dX4_lookAtLiving_102 rfl ?_
          refine fj_icmp_le (tgt := 110) C dX4_lookAtLiving_104 (by decide) (fun h104 => ?_) (fun h104 => ?_)
          · refine fj_aload_n C 3 dX4_lookAtLiving_110 rfl rfl ?_
            refine fj_aload_n C 3 dX4_lookAtLiving_111 rfl rfl ?_
            refine fj_get (Cn := RX4) (T := TX4) (N := 18) (ci := 4) (v := .int gp) C iX4 25 (fx_at25 _ _ _ _ _) rfl 17 (by decide) kX4_152 rfl dX4_lookAtLiving_112 ?_
            refine fj_iload C 1 dX4_lookAtLiving_115 rfl ?_
            refine fj_iload C 7 dX4_lookAtLiving_117 rfl ?_
            refine fj_isub C dX4_lookAtLiving_119 ?_
            refine fj_max C kM168 kMsmax kMi kMcmax (by decide) (Nat.le_of_ble_eq_true rfl) (Nat.zero_le _) (Nat.zero_le _) dX4_lookAtLiving_120 ?_
            refine fj_put (Cn := RX4) (T := TX4) (N := 18) (ci := 4) C iX4 tyX4 tyX4_ok nmX4 25 (fx_at25 _ _ _ _ _) rfl 17 (by decide) kX4_152 rfl rfl rfl (Nat.le_of_ble_eq_true rfl) dX4_lookAtLiving_123 (fx_si25_17 _ _ _ _ _ _) ?_
            refine fj_ws (ws' := (fx_w ad ty a g (va_up (va_up n 6 lvd) 7 (if gp < f9 - nx then f9 - nx else gp)))) rfl ?_
            refine fj_aload_n C 3 dX4_lookAtLiving_126 rfl rfl ?_
            refine fj_dup C dX4_lookAtLiving_127 rfl ?_
            refine fj_get (Cn := RX4) (T := TX4) (N := 18) (ci := 4) (v := .int lvd) C iX4 25 (fx_at25 _ _ _ _ _) rfl 16 (by decide) kX4_149 rfl dX4_lookAtLiving_128 ?_
            refine fj_iload C 0 dX4_lookAtLiving_131 rfl ?_
            refine fj_iload C 1 dX4_lookAtLiving_133 rfl ?_
            refine fj_isub C dX4_lookAtLiving_135 ?_
            refine fj_iconst (v := 1) C dX4_lookAtLiving_136 (by decide) ?_
            refine fj_iadd C dX4_lookAtLiving_137 ?_
            refine fj_iadd C dX4_lookAtLiving_138 ?_
            refine fj_put (Cn := RX4) (T := TX4) (N := 18) (ci := 4) C iX4 tyX4 tyX4_ok nmX4 25 (fx_at25 _ _ _ _ _) rfl 16 (by decide) kX4_149 rfl rfl rfl (Nat.le_of_ble_eq_true rfl) dX4_lookAtLiving_139 (fx_si25_16 _ _ _ _ _ _) ?_
            refine fj_ws (ws' := (fx_w ad ty a g (va_up (va_up n 7 (if gp < f9 - nx then f9 - nx else gp)) 6 (lvd + ((q9 - f9) + 1))))) rfl ?_
            refine fj_iload C 0 dX4_lookAtLiving_142 rfl ?_
            refine fj_iconst (v := 1) C dX4_lookAtLiving_144 (by decide) ?_
            refine fj_iadd C dX4_lookAtLiving_145 ?_
            refine fj_istore (lv' := [(4, .int (q9 + 1)), (8, .int q9), (7, .int f9), (6, .int (nI j)), (0, .ref (ad 25)), (1, .int (nI i)), (2, .int fr), (3, .int tu), (5, .int (nI d))]) C dX4_lookAtLiving_146 (by decide) rfl ?_
            refine fj_iinc (v := nI (d + 1)) (lv' := [(5, .int (nI (d + 1))), (4, .int (q9 + 1)), (8, .int q9), (7, .int f9), (6, .int (nI j)), (0, .ref (ad 25)), (1, .int (nI i)), (2, .int fr), (3, .int tu)]) C 8 dX4_lookAtLiving_148 rfl (nI_1 d) (by decide) rfl ?_
            refine fj_goto (tgt := 16) C dX4_lookAtLiving_151 (by decide) ?_
            refine fj_lv (lv' := [(0, .ref (ad 25)), (1, .int (nI i)), (2, .int fr), (3, .int tu), (4, .int (q9 + 1)), (5, .int (nI (d + 1)))]) [5, 6, 7, 8, 1, 0] rfl ?_
            refine fj_ws (ws' := (fx_w ad ty a g (va_up (va_up n 6 (lvd + ((q9 - f9) + 1))) 7 (if gp < f9 - nx then f9 - nx else gp)))) rfl ?_
            exact ih ⟨d + 1, q9 + 1, lvd + ((q9 - f9) + 1), if gp < f9 - nx then f9 - nx else gp⟩ (by show B - (d + 1) < B - d; omega) (by omega) (by first | exact (lkF_z ej (by omega) h48).trans hst | exact (lkF_s ej (by omega) h48).trans ((congrArg (lkS (a 18 j) (a 22 j) tu) hst).trans (lkS_no e_f9 e_q9 h104)) | exact (lkF_s ej (by omega) h48).trans ((congrArg (lkS (a 18 j) (a 22 j) tu) hst).trans (lkS_go e_f9 e_q9 h104)) | exact (lkF_s ej (by omega) h48).trans ((congrArg (lkS (a 18 j) (a 22 j) tu) hst).trans (lkS_no e_f9.symm e_q9.symm h104)) | exact (lkF_s ej (by omega) h48).trans ((congrArg (lkS (a 18 j) (a 22 j) tu) hst).trans (lkS_go e_f9.symm e_q9.symm h104)))
          · refine fj_goto (tgt := 148) C dX4_lookAtLiving_107 (by decide) ?_
            refine fj_iinc (v := nI (d + 1)) (lv' := [(5, .int (nI (d + 1))), (8, .int q9), (7, .int f9), (6, .int (nI j)), (0, .ref (ad 25)), (1, .int (nI i)), (2, .int fr), (3, .int tu), (4, .int nx)]) C 8 dX4_lookAtLiving_148 rfl (nI_1 d) (by decide) rfl ?_
            refine fj_goto (tgt := 16) C dX4_lookAtLiving_151 (by decide) ?_
            refine fj_lv (lv' := [(0, .ref (ad 25)), (1, .int (nI i)), (2, .int fr), (3, .int tu), (4, .int nx), (5, .int (nI (d + 1)))]) [4, 5, 6, 7, 8, 0] rfl ?_
            refine fj_ws (ws' := (fx_w ad ty a g (va_up (va_up n 6 lvd) 7 gp))) rfl ?_
            exact ih ⟨d + 1, nx, lvd, gp⟩ (by show B - (d + 1) < B - d; omega) (by omega) (by first | exact (lkF_z ej (by omega) h48).trans hst | exact (lkF_s ej (by omega) h48).trans ((congrArg (lkS (a 18 j) (a 22 j) tu) hst).trans (lkS_no e_f9 e_q9 h104)) | exact (lkF_s ej (by omega) h48).trans ((congrArg (lkS (a 18 j) (a 22 j) tu) hst).trans (lkS_go e_f9 e_q9 h104)) | exact (lkF_s ej (by omega) h48).trans ((congrArg (lkS (a 18 j) (a 22 j) tu) hst).trans (lkS_no e_f9.symm e_q9.symm h104)) | exact (lkF_s ej (by omega) h48).trans ((congrArg (lkS (a 18 j) (a 22 j) tu) hst).trans (lkS_go e_f9.symm e_q9.symm h104)))
        · refine fj_goto (tgt := 148) C dX4_lookAtLiving_51 (by decide) ?_
          refine fj_iinc (v := nI (d + 1)) (lv' := [(5, .int (nI (d + 1))), (6, .int (nI j)), (0, .ref (ad 25)), (1, .int (nI i)), (2, .int fr), (3, .int tu), (4, .int nx)]) C 6 dX4_lookAtLiving_148 rfl (nI_1 d) (by decide) rfl ?_
          refine fj_goto (tgt := 16) C dX4_lookAtLiving_151 (by decide) ?_
          refine fj_lv (lv' := [(0, .ref (ad 25)), (1, .int (nI i)), (2, .int fr), (3, .int tu), (4, .int nx), (5, .int (nI (d + 1)))]) [2, 3, 4, 5, 6, 0] rfl ?_
          refine fj_ws (ws' := (fx_w ad ty a g (va_up (va_up n 6 lvd) 7 gp))) rfl ?_
          exact ih ⟨d + 1, nx, lvd, gp⟩ (by show B - (d + 1) < B - d; omega) (by omega) (by first | exact (lkF_z ej (by omega) h48).trans hst | exact (lkF_s ej (by omega) h48).trans ((congrArg (lkS (a 18 j) (a 22 j) tu) hst).trans (lkS_no e_f9 e_q9 h104)) | exact (lkF_s ej (by omega) h48).trans ((congrArg (lkS (a 18 j) (a 22 j) tu) hst).trans (lkS_go e_f9 e_q9 h104)) | exact (lkF_s ej (by omega) h48).trans ((congrArg (lkS (a 18 j) (a 22 j) tu) hst).trans (lkS_no e_f9.symm e_q9.symm h104)) | exact (lkF_s ej (by omega) h48).trans ((congrArg (lkS (a 18 j) (a 22 j) tu) hst).trans (lkS_go e_f9.symm e_q9.symm h104)))
    intro d nx lvd gp
    exact key ⟨d, nx, lvd, gp⟩
  exact lp16 0 fr 0 0 (Nat.zero_le B) rfl

set_option maxHeartbeats 4000000 in
set_option maxRecDepth 100000 in
theorem d_X4_daysLived (l : Launch) (D : va_G) (ty : Nat → ClassId) (t0 : Nat → Nat) (ad : Nat → Nat) (a : Nat → Nat → Int32) (g : Nat → Nat → Int64) (n : Nat → Int32) (P : Nat) (S : Nat) (T : Nat) (B : Nat) (I : XI P S T B a n) (x : Int32) (y : Int32) (k : Nat) (ek : x = nI k) (hk : k < 64) (hw : WI B a) : fc l yX4_daysLived wsX4_daysLived (fj_rm 2 51 0 0) D ty t0 [.ref (ad 25), .int x, .int y] (fx_w ad ty a g n) 0 0 (fun v w => (a 33 k = -1 ∧ v = some (.int 0) ∧ w = fx_w ad ty a g n) ∨ (∃ e t, e < B ∧ a 33 k = nI e ∧ t < B ∧ a 32 e = nI t ∧ v = some (.int (lkF a e (a 18 e) y B).2.1) ∧ w = (fx_w ad ty a g (va_up (va_up n 6 ((lkF a e (a 18 e) y B).2.1)) 7 (lkG y (lkF a e (a 18 e) y B)))))) := by
  subst ek
  refine fc_start (own := RX4) (cc := cX4_daysLived) (maxL := 4) (ret := (some .int)) (by decide) rfl (Nat.le_of_ble_eq_true rfl) rfl ?_
  intro p e s m args below meth c Q A C hmn E9
  obtain ⟨hn0, hP, hn1, hT, hn3, hS, hn4, hB, iLO, iBO, iWho, iSort, iQ, iN⟩ := id I
  have iX4 : ∀ w ∈ u_ws RX4 TX4 18, w ∈ wsX4_daysLived := ptX4_daysLived_wsX40
  have kX4_37 : Cond.fieldLink RX4 37 "FreeLand$Work" "held" "[I" ∈ wsX4_daysLived := ptX4_daysLived_woX4_daysLived _ (by decide +kernel)
  have kX4_61 : Cond.fieldLink RX4 61 "FreeLand$Work" "book" "LFreeLand$Book;" ∈ wsX4_daysLived := ptX4_daysLived_woX4_daysLived _ (by decide +kernel)
  have iX0 : ∀ w ∈ u_ws RX0 TX0 8, w ∈ wsX4_daysLived := ptX4_daysLived_wsX00
  have kX4_76 : (RX4, 76, "FreeLand$Book", "day", "[I") ∈ nw_F := (by decide +kernel)
  have kX4_149 : Cond.fieldLink RX4 149 "FreeLand$Work" "livedDays" "I" ∈ wsX4_daysLived := ptX4_daysLived_woX4_daysLived _ (by decide +kernel)
  refine fj_lv (lv' := [(0, .ref (ad 25)), (1, .int (nI k)), (2, .int y)]) [0, 1, 2] rfl ?_
  refine fj_aload_n C 0 dX4_daysLived_0 rfl rfl ?_
  refine fj_get (Cn := RX4) (T := TX4) (N := 18) (ci := 4) (v := .ref (ad 33)) C iX4 25 (fx_at25 _ _ _ _ _) rfl 11 (by decide) kX4_37 rfl dX4_daysLived_1 ?_
  refine fj_iload_n C 1 dX4_daysLived_4 rfl rfl ?_
  refine fj_iald (f := (a 33)) C 33 (fx_at33 _ _ _ _ _) (vp_in_nI (by omega) (by decide)) dX4_daysLived_5 ?_
  refine fj_at (y := a 33 k) (by rw [nI_clamp (by omega)]) ?_
  refine fj_istore_n (lv' := [(3, .int (a 33 k)), (0, .ref (ad 25)), (1, .int (nI k)), (2, .int y)]) C dX4_daysLived_6 rfl (by decide) rfl ?_
  refine fj_iload_n C 0 dX4_daysLived_7 rfl rfl ?_
  refine fj_iconst (v := (-1)) C dX4_daysLived_8 (by decide) ?_
  refine fj_icmp_ne (tgt := 14) C dX4_daysLived_9 (by decide) (fun h9 => ?_) (fun h9 => ?_)
  · obtain ⟨e9, t9, he9, ee9, ht9, et9⟩ := (hw k hk).resolve_left h9
    refine fj_lv (lv' := [(3, .int (nI e9)), (0, .ref (ad 25)), (1, .int (nI k)), (2, .int y)]) [0, 1, 2, 3] (by rw [← ee9]; rfl) ?_
    refine fj_aload_n C 1 dX4_daysLived_14 rfl rfl ?_
    refine fj_iload_n C 0 dX4_daysLived_15 rfl rfl ?_
    refine fj_aload_n C 1 dX4_daysLived_16 rfl rfl ?_
    refine fj_get (Cn := RX4) (T := TX4) (N := 18) (ci := 4) (v := .ref (ad 17)) C iX4 25 (fx_at25 _ _ _ _ _) rfl 2 (by decide) kX4_61 rfl dX4_daysLived_17 ?_
    refine fj_getN (Cn := RX0) (T := TX0) (N := 8) (ci := 0) (v := .ref (ad 18)) C iX0 17 (fx_at17 _ _ _ _ _) rfl 0 (by decide) kX4_76 rfl dX4_daysLived_20 ?_
    refine fj_iload_n C 0 dX4_daysLived_23 rfl rfl ?_
    refine fj_iald (f := (a 18)) C 18 (fx_at18 _ _ _ _ _) (vp_in_nI (by omega) (by decide)) dX4_daysLived_24 ?_
    refine fj_at (y := a 18 e9) (by rw [nI_clamp (by omega)]) ?_
    refine fj_iload_n C 3 dX4_daysLived_25 rfl rfl ?_
    refine fj_callVw (As := [.int (nI e9), .int (a 18 e9), .int y]) (rest := []) C (d_X4_lookAtLiving l D ty t0 ad a g n P S T B I (nI e9) (a 18 e9) y e9 rfl (by omega)) (cwV 3 C.2.2.2.2.1 gX4_daysLived_X4_lookAtLiving rfl rfl rfl (by decide +kernel) ⟨Nat.le_of_ble_eq_true rfl, Nat.le_of_ble_eq_true rfl⟩) ⟨25, 4, _, _, fx_at25 _ _ _ _ _, rfl, rfl⟩ rfl (Nat.le_of_ble_eq_true rfl) dX4_daysLived_26 ⟨Nat.zero_le _, Nat.zero_le _⟩ (fun v9 w9 hp9 => ?_)
    obtain ⟨rfl, rfl⟩ := hp9
    refine fj_st (st' := []) rfl ?_
    refine fj_aload_n C 1 dX4_daysLived_29 rfl rfl ?_
    refine fj_get (Cn := RX4) (T := TX4) (N := 18) (ci := 4) (v := .int ((lkF a e9 (a 18 e9) y B).2.1)) C iX4 25 (fx_at25 _ _ _ _ _) rfl 16 (by decide) kX4_149 rfl dX4_daysLived_30 ?_
    exact fj_iret C E9 dX4_daysLived_33 (Or.inr ⟨e9, t9, he9, ee9, ht9, et9, rfl, rfl⟩)
  · refine fj_iconst (v := 0) C dX4_daysLived_12 (by decide) ?_
    exact fj_iret C E9 dX4_daysLived_13 (Or.inl ⟨h9, rfl, rfl⟩)
