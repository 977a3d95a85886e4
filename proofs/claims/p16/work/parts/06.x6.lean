/-- the first N of a row are v -/
def fil (f : Nat → Int32) (v : Int32) (N : Nat) : Nat → Int32 := fun i => if i < N then v else f i
theorem fil_0 (f : Nat → Int32) (v : Int32) : fil f v 0 = f := by
  funext i
  simp [fil]
theorem fil_s (f : Nat → Int32) (v : Int32) (N : Nat) : upd (fil f v N) N v = fil f v (N + 1) := by
  funext i
  simp only [upd, fil]
  by_cases e : i = N
  · subst e; simp
  · by_cases q : i < N
    · rw [if_neg e, if_pos q, if_pos (by omega)]
    · rw [if_neg e, if_neg q, if_neg (by omega)]
/-- what holds while the book is worked: an entry that holds a quarter is a line, and so is its spot -/
def WI (B : Nat) (a : Nat → Nat → Int32) : Prop := ∀ q, q < 64 → a 33 q = -1 ∨ ∃ e t, e < B ∧ a 33 q = nI e ∧ t < B ∧ a 32 e = nI t
theorem q_div2 : ∀ k, k < 64 → nI k / 2 = nI (k / 2) := by decide +kernel
theorem q_mod2 : ∀ k, k < 64 → nI k - nI k / 2 * 2 = nI (k % 2) := by decide +kernel
/-- the railroad has it -/
abbrev RLR (y x : Int32) (k : Nat) : Prop := y ≤ x ∧ (k % 8 / 2 + k / 8 / 2) % 2 = 1
abbrev HLV (a : Nat → Nat → Int32) (k : Nat) : Prop := ¬ a 33 k = -1 ∧ a 27 (a 33 k).toNatClampNeg = 1
def cnE (f : Nat → Int32) (x : Int32) : Nat → Nat
  | 0 => 0
  | k + 1 => cnE f x k + if f k = x then 1 else 0
def cnG (f : Nat → Int32) : Nat → Nat
  | 0 => 0
  | k + 1 => cnG f k + if 0 < f k then 1 else 0
theorem cnE_p {f : Nat → Int32} {x : Int32} {k : Nat} (h : f k = x) : cnE f x (k + 1) = cnE f x k + 1 := by simp [cnE, h]
theorem cnE_z {f : Nat → Int32} {x : Int32} {k : Nat} (h : ¬ f k = x) : cnE f x (k + 1) = cnE f x k := by simp [cnE, h]
theorem cnG_p {f : Nat → Int32} {k : Nat} (h : 0 < f k) : cnG f (k + 1) = cnG f k + 1 := by simp [cnG, h]
theorem cnG_z {f : Nat → Int32} {k : Nat} (h : ¬ 0 < f k) : cnG f (k + 1) = cnG f k := by simp [cnG, h]
set_option maxHeartbeats 4000000 in
set_option maxRecDepth 100000 in
theorem d_X4_isRailroads (l : Launch) (D : va_G) (ty : Nat → ClassId) (t0 : Nat → Nat) (ad : Nat → Nat) (a : Nat → Nat → Int32) (g : Nat → Nat → Int64) (n : Nat → Int32)  (x : Int32) (y : Int32) (k : Nat) (ek : x = nI k) (hk : k < 64) : fc l yX4_isRailroads wsX4_isRailroads (fj_rm 0 0 0 0) D ty t0 [.ref (ad 25), .int x, .int y] (fx_w ad ty a g n) 0 0 (fun v w => v = some (.int (if RLR (n 5) y k then 1 else 0)) ∧ w = fx_w ad ty a g n) := by
  subst ek
  refine fc_start (own := RX4) (cc := cX4_isRailroads) (maxL := 5) (ret := (some .boolean)) (by decide) rfl (Nat.le_of_ble_eq_true rfl) rfl ?_
  intro p e s m args below meth c Q A C hmn E9
  have iX4 : ∀ w ∈ u_ws RX4 TX4 18, w ∈ wsX4_isRailroads := ptX4_isRailroads_wsX40
  have kX4_9 : Cond.fieldLink RX4 9 "FreeLand$Work" "mapDay" "I" ∈ wsX4_isRailroads := ptX4_isRailroads_woX4_isRailroads _ (by decide +kernel)
  refine fj_lv (lv' := [(0, .ref (ad 25)), (1, .int (nI k)), (2, .int y)]) [0, 1, 2] rfl ?_
  refine fj_iload_n C 1 dX4_isRailroads_0 rfl rfl ?_
  refine fj_bipush (v := 8) C dX4_isRailroads_1 (by decide) ?_
  refine fj_irem C dX4_isRailroads_3 (by decide) ?_
  refine fj_at (y := nI (k % 8)) (q_mod k hk) ?_
  refine fj_istore_n (lv' := [(3, .int (nI (k % 8))), (0, .ref (ad 25)), (1, .int (nI k)), (2, .int y)]) C dX4_isRailroads_4 rfl (by decide) rfl ?_
  refine fj_iload_n C 2 dX4_isRailroads_5 rfl rfl ?_
  refine fj_bipush (v := 8) C dX4_isRailroads_6 (by decide) ?_
  refine fj_idiv C dX4_isRailroads_8 (by decide) ?_
  refine fj_at (y := nI (k / 8)) (q_div k hk) ?_
  refine fj_istore (lv' := [(4, .int (nI (k / 8))), (3, .int (nI (k % 8))), (0, .ref (ad 25)), (1, .int (nI k)), (2, .int y)]) C dX4_isRailroads_9 (by decide) rfl ?_
  refine fj_iload_n C 4 dX4_isRailroads_11 rfl rfl ?_
  refine fj_aload_n C 2 dX4_isRailroads_12 rfl rfl ?_
  refine fj_get (Cn := RX4) (T := TX4) (N := 18) (ci := 4) (v := .int (n 5)) C iX4 25 (fx_at25 _ _ _ _ _) rfl 3 (by decide) kX4_9 rfl dX4_isRailroads_13 ?_
  refine fj_icmp_lt (tgt := 37) C dX4_isRailroads_16 (by decide) (fun h16 => ?_) (fun h16 => ?_)
  · refine fj_iconst (v := 0) C dX4_isRailroads_37 (by decide) ?_
    exact fj_zret C E9 rfl dX4_isRailroads_38 ⟨by first | (rw [if_neg (fun z => h16 (Int32.not_lt.mpr z.1 |> fun y => absurd h16 y))]; done) | (rw [if_neg (fun z => absurd h16 (Int32.not_lt.mpr z.1))]; done) | (rw [if_neg (fun z => h30 (by rw [z.2]; rfl))]; done) | (rw [if_pos ⟨Int32.not_lt.mp h16, fx_eqI (b := 1) h30 (by omega) (by decide)⟩]; done), rfl⟩
  · refine fj_iload_n C 1 dX4_isRailroads_19 rfl rfl ?_
    refine fj_iconst (v := 2) C dX4_isRailroads_20 (by decide) ?_
    refine fj_idiv C dX4_isRailroads_21 (by decide) ?_
    refine fj_at (y := nI (k % 8 / 2)) (q_div2 _ (by omega)) ?_
    refine fj_iload C 0 dX4_isRailroads_22 rfl ?_
    refine fj_iconst (v := 2) C dX4_isRailroads_24 (by decide) ?_
    refine fj_idiv C dX4_isRailroads_25 (by decide) ?_
    refine fj_at (y := nI (k / 8 / 2)) (q_div2 _ (by omega)) ?_
    refine fj_iadd C dX4_isRailroads_26 ?_
    refine fj_at (y := nI (k % 8 / 2 + k / 8 / 2)) (nI_add _ _) ?_
    refine fj_iconst (v := 2) C dX4_isRailroads_27 (by decide) ?_
    refine fj_irem C dX4_isRailroads_28 (by decide) ?_
    refine fj_at (y := nI ((k % 8 / 2 + k / 8 / 2) % 2)) (q_mod2 _ (by omega)) ?_
    refine fj_iconst (v := 1) C dX4_isRailroads_29 (by decide) ?_
    refine fj_icmp_ne (tgt := 37) C dX4_isRailroads_30 (by decide) (fun h30 => ?_) (fun h30 => ?_)
    · refine fj_iconst (v := 0) C dX4_isRailroads_37 (by decide) ?_
      exact fj_zret C E9 rfl dX4_isRailroads_38 ⟨by first | (rw [if_neg (fun z => h16 (Int32.not_lt.mpr z.1 |> fun y => absurd h16 y))]; done) | (rw [if_neg (fun z => absurd h16 (Int32.not_lt.mpr z.1))]; done) | (rw [if_neg (fun z => h30 (by rw [z.2]; rfl))]; done) | (rw [if_pos ⟨Int32.not_lt.mp h16, fx_eqI (b := 1) h30 (by omega) (by decide)⟩]; done), rfl⟩
    · refine fj_iconst (v := 1) C dX4_isRailroads_33 (by decide) ?_
      refine fj_goto (tgt := 38) C dX4_isRailroads_34 (by decide) ?_
      exact fj_zret C E9 rfl dX4_isRailroads_38 ⟨by first | (rw [if_neg (fun z => h16 (Int32.not_lt.mpr z.1 |> fun y => absurd h16 y))]; done) | (rw [if_neg (fun z => absurd h16 (Int32.not_lt.mpr z.1))]; done) | (rw [if_neg (fun z => h30 (by rw [z.2]; rfl))]; done) | (rw [if_pos ⟨Int32.not_lt.mp h16, fx_eqI (b := 1) h30 (by omega) (by decide)⟩]; done), rfl⟩

set_option maxHeartbeats 4000000 in
set_option maxRecDepth 100000 in
theorem d_X4_isHeldLive (l : Launch) (D : va_G) (ty : Nat → ClassId) (t0 : Nat → Nat) (ad : Nat → Nat) (a : Nat → Nat → Int32) (g : Nat → Nat → Int64) (n : Nat → Int32) (P : Nat) (S : Nat) (T : Nat) (B : Nat) (I : XI P S T B a n) (x : Int32) (k : Nat) (ek : x = nI k) (hk : k < 64) (hw : WI B a) : fc l yX4_isHeldLive wsX4_isHeldLive (fj_rm 0 0 0 0) D ty t0 [.ref (ad 25), .int x] (fx_w ad ty a g n) 0 0 (fun v w => v = some (.int (if HLV a k then 1 else 0)) ∧ w = fx_w ad ty a g n) := by
  subst ek
  refine fc_start (own := RX4) (cc := cX4_isHeldLive) (maxL := 2) (ret := (some .boolean)) (by decide) rfl (Nat.le_of_ble_eq_true rfl) rfl ?_
  intro p e s m args below meth c Q A C hmn E9
  obtain ⟨hn0, hP, hn1, hT, hn3, hS, hn4, hB, iLO, iBO, iWho, iSort, iQ, iN⟩ := id I
  have iX4 : ∀ w ∈ u_ws RX4 TX4 18, w ∈ wsX4_isHeldLive := ptX4_isHeldLive_wsX40
  have kX4_37 : Cond.fieldLink RX4 37 "FreeLand$Work" "held" "[I" ∈ wsX4_isHeldLive := ptX4_isHeldLive_woX4_isHeldLive _ (by decide +kernel)
  have kX4_19 : Cond.fieldLink RX4 19 "FreeLand$Work" "state" "[I" ∈ wsX4_isHeldLive := ptX4_isHeldLive_woX4_isHeldLive _ (by decide +kernel)
  refine fj_lv (lv' := [(0, .ref (ad 25)), (1, .int (nI k))]) [0, 1] rfl ?_
  refine fj_aload_n C 0 dX4_isHeldLive_0 rfl rfl ?_
  refine fj_get (Cn := RX4) (T := TX4) (N := 18) (ci := 4) (v := .ref (ad 33)) C iX4 25 (fx_at25 _ _ _ _ _) rfl 11 (by decide) kX4_37 rfl dX4_isHeldLive_1 ?_
  refine fj_iload_n C 1 dX4_isHeldLive_4 rfl rfl ?_
  refine fj_iald (f := (a 33)) C 33 (fx_at33 _ _ _ _ _) (vp_in_nI (by omega) (by decide)) dX4_isHeldLive_5 ?_
  refine fj_at (y := a 33 k) (by rw [nI_clamp (by omega)]) ?_
  refine fj_iconst (v := (-1)) C dX4_isHeldLive_6 (by decide) ?_
  refine fj_icmp_eq (tgt := 29) C dX4_isHeldLive_7 (by decide) (fun h7 => ?_) (fun h7 => ?_)
  · refine fj_iconst (v := 0) C dX4_isHeldLive_29 (by decide) ?_
    exact fj_zret C E9 rfl dX4_isHeldLive_30 ⟨by first | (rw [if_neg (fun z => z.1 h7)]; done) | (rw [if_neg (fun z => h22 (by have := z.2; rwa [ee9, nI_clamp (by omega : e9 < 2 ^ 31)] at this))]; done) | (rw [if_pos ⟨h7, by rw [ee9, nI_clamp (by omega : e9 < 2 ^ 31)]; exact h22⟩]; done), rfl⟩
  · obtain ⟨e9, t9, he9, ee9, ht9, et9⟩ := (hw k hk).resolve_left h7
    refine fj_aload_n C 0 dX4_isHeldLive_10 rfl rfl ?_
    refine fj_get (Cn := RX4) (T := TX4) (N := 18) (ci := 4) (v := .ref (ad 27)) C iX4 25 (fx_at25 _ _ _ _ _) rfl 5 (by decide) kX4_19 rfl dX4_isHeldLive_11 ?_
    refine fj_aload_n C 0 dX4_isHeldLive_14 rfl rfl ?_
    refine fj_get (Cn := RX4) (T := TX4) (N := 18) (ci := 4) (v := .ref (ad 33)) C iX4 25 (fx_at25 _ _ _ _ _) rfl 11 (by decide) kX4_37 rfl dX4_isHeldLive_15 ?_
    refine fj_iload_n C 1 dX4_isHeldLive_18 rfl rfl ?_
    refine fj_iald (f := (a 33)) C 33 (fx_at33 _ _ _ _ _) (vp_in_nI (by omega) (by decide)) dX4_isHeldLive_19 ?_
    refine fj_at (y := nI e9) (by rw [nI_clamp (by omega), ee9]) ?_
    refine fj_iald (f := (a 27)) C 27 (fx_at27 _ _ _ _ _) (vp_in_nI (by omega) (by decide)) dX4_isHeldLive_20 ?_
    refine fj_at (y := a 27 e9) (by rw [nI_clamp (by omega)]) ?_
    refine fj_iconst (v := 1) C dX4_isHeldLive_21 (by decide) ?_
    refine fj_icmp_ne (tgt := 29) C dX4_isHeldLive_22 (by decide) (fun h22 => ?_) (fun h22 => ?_)
    · refine fj_iconst (v := 0) C dX4_isHeldLive_29 (by decide) ?_
      exact fj_zret C E9 rfl dX4_isHeldLive_30 ⟨by first | (rw [if_neg (fun z => z.1 h7)]; done) | (rw [if_neg (fun z => h22 (by have := z.2; rwa [ee9, nI_clamp (by omega : e9 < 2 ^ 31)] at this))]; done) | (rw [if_pos ⟨h7, by rw [ee9, nI_clamp (by omega : e9 < 2 ^ 31)]; exact h22⟩]; done), rfl⟩
    · refine fj_iconst (v := 1) C dX4_isHeldLive_25 (by decide) ?_
      refine fj_goto (tgt := 30) C dX4_isHeldLive_26 (by decide) ?_
      exact fj_zret C E9 rfl dX4_isHeldLive_30 ⟨by first | (rw [if_neg (fun z => z.1 h7)]; done) | (rw [if_neg (fun z => h22 (by have := z.2; rwa [ee9, nI_clamp (by omega : e9 < 2 ^ 31)] at this))]; done) | (rw [if_pos ⟨h7, by rw [ee9, nI_clamp (by omega : e9 < 2 ^ 31)]; exact h22⟩]; done), rfl⟩

set_option maxHeartbeats 4000000 in
set_option maxRecDepth 100000 in
theorem d_X4_isHeldLiveBy (l : Launch) (D : va_G) (ty : Nat → ClassId) (t0 : Nat → Nat) (ad : Nat → Nat) (a : Nat → Nat → Int32) (g : Nat → Nat → Int64) (n : Nat → Int32) (P : Nat) (S : Nat) (T : Nat) (B : Nat) (I : XI P S T B a n) (x : Int32) (y : Int32) (k : Nat) (ek : x = nI k) (hk : k < 64) (hw : WI B a) : fc l yX4_isHeldLiveBy wsX4_isHeldLiveBy (fj_rm 1 21 0 0) D ty t0 [.ref (ad 25), .int x, .int y] (fx_w ad ty a g n) 0 0 (fun v w => v = some (.int (if HLV a k ∧ a 28 (a 33 k).toNatClampNeg = y then 1 else 0)) ∧ w = fx_w ad ty a g n) := by
  subst ek
  refine fc_start (own := RX4) (cc := cX4_isHeldLiveBy) (maxL := 3) (ret := (some .boolean)) (by decide) rfl (Nat.le_of_ble_eq_true rfl) rfl ?_
  intro p e s m args below meth c Q A C hmn E9
  obtain ⟨hn0, hP, hn1, hT, hn3, hS, hn4, hB, iLO, iBO, iWho, iSort, iQ, iN⟩ := id I
  have iX4 : ∀ w ∈ u_ws RX4 TX4 18, w ∈ wsX4_isHeldLiveBy := ptX4_isHeldLiveBy_wsX40
  have kX4_22 : Cond.fieldLink RX4 22 "FreeLand$Work" "holder" "[I" ∈ wsX4_isHeldLiveBy := ptX4_isHeldLiveBy_woX4_isHeldLiveBy _ (by decide +kernel)
  have kX4_37 : Cond.fieldLink RX4 37 "FreeLand$Work" "held" "[I" ∈ wsX4_isHeldLiveBy := ptX4_isHeldLiveBy_woX4_isHeldLiveBy _ (by decide +kernel)
  refine fj_lv (lv' := [(0, .ref (ad 25)), (1, .int (nI k)), (2, .int y)]) [0, 1, 2] rfl ?_
  refine fj_aload_n C 0 dX4_isHeldLiveBy_0 rfl rfl ?_
  refine fj_iload_n C 1 dX4_isHeldLiveBy_1 rfl rfl ?_
  refine fj_callVw (As := [.int (nI k)]) (rest := []) C (d_X4_isHeldLive l D ty t0 ad a g n P S T B I (nI k) k rfl hk hw) (cwV 1 C.2.2.2.2.1 gX4_isHeldLiveBy_X4_isHeldLive rfl rfl rfl (by decide +kernel) ⟨Nat.le_of_ble_eq_true rfl, Nat.le_of_ble_eq_true rfl⟩) ⟨25, 4, _, _, fx_at25 _ _ _ _ _, rfl, rfl⟩ rfl (Nat.le_of_ble_eq_true rfl) dX4_isHeldLiveBy_2 ⟨Nat.zero_le _, Nat.zero_le _⟩ (fun v9 w9 hp9 => ?_)
  obtain ⟨rfl, rfl⟩ := hp9
  refine fj_st (st' := .int (if HLV a k then 1 else 0) :: []) rfl ?_
  refine fj_ifb_eq (tgt := 27) C dX4_isHeldLiveBy_5 (by decide) (fun h5 => ?_) (fun h5 => ?_)
  · refine fj_iconst (v := 0) C dX4_isHeldLiveBy_27 (by decide) ?_
    exact fj_zret C E9 rfl dX4_isHeldLiveBy_28 ⟨by first | (rw [if_neg (fun z => h5 z.1)]; done) | (rw [if_neg (fun z => h20 (by have := z.2; rwa [ee9, nI_clamp (by omega : e9 < 2 ^ 31)] at this))]; done) | (rw [if_pos ⟨h5, by rw [ee9, nI_clamp (by omega : e9 < 2 ^ 31)]; exact h20⟩]; done), rfl⟩
  · obtain ⟨e9, t9, he9, ee9, ht9, et9⟩ := (hw k hk).resolve_left h5.1
    refine fj_aload_n C 0 dX4_isHeldLiveBy_8 rfl rfl ?_
    refine fj_get (Cn := RX4) (T := TX4) (N := 18) (ci := 4) (v := .ref (ad 28)) C iX4 25 (fx_at25 _ _ _ _ _) rfl 6 (by decide) kX4_22 rfl dX4_isHeldLiveBy_9 ?_
    refine fj_aload_n C 0 dX4_isHeldLiveBy_12 rfl rfl ?_
    refine fj_get (Cn := RX4) (T := TX4) (N := 18) (ci := 4) (v := .ref (ad 33)) C iX4 25 (fx_at25 _ _ _ _ _) rfl 11 (by decide) kX4_37 rfl dX4_isHeldLiveBy_13 ?_
    refine fj_iload_n C 1 dX4_isHeldLiveBy_16 rfl rfl ?_
    refine fj_iald (f := (a 33)) C 33 (fx_at33 _ _ _ _ _) (vp_in_nI (by omega) (by decide)) dX4_isHeldLiveBy_17 ?_
    refine fj_at (y := nI e9) (by rw [nI_clamp (by omega), ee9]) ?_
    refine fj_iald (f := (a 28)) C 28 (fx_at28 _ _ _ _ _) (vp_in_nI (by omega) (by decide)) dX4_isHeldLiveBy_18 ?_
    refine fj_at (y := a 28 e9) (by rw [nI_clamp (by omega)]) ?_
    refine fj_iload_n C 2 dX4_isHeldLiveBy_19 rfl rfl ?_
    refine fj_icmp_ne (tgt := 27) C dX4_isHeldLiveBy_20 (by decide) (fun h20 => ?_) (fun h20 => ?_)
    · refine fj_iconst (v := 0) C dX4_isHeldLiveBy_27 (by decide) ?_
      exact fj_zret C E9 rfl dX4_isHeldLiveBy_28 ⟨by first | (rw [if_neg (fun z => h5 z.1)]; done) | (rw [if_neg (fun z => h20 (by have := z.2; rwa [ee9, nI_clamp (by omega : e9 < 2 ^ 31)] at this))]; done) | (rw [if_pos ⟨h5, by rw [ee9, nI_clamp (by omega : e9 < 2 ^ 31)]; exact h20⟩]; done), rfl⟩
    · refine fj_iconst (v := 1) C dX4_isHeldLiveBy_23 (by decide) ?_
      refine fj_goto (tgt := 28) C dX4_isHeldLiveBy_24 (by decide) ?_
      exact fj_zret C E9 rfl dX4_isHeldLiveBy_28 ⟨by first | (rw [if_neg (fun z => h5 z.1)]; done) | (rw [if_neg (fun z => h20 (by have := z.2; rwa [ee9, nI_clamp (by omega : e9 < 2 ^ 31)] at this))]; done) | (rw [if_pos ⟨h5, by rw [ee9, nI_clamp (by omega : e9 < 2 ^ 31)]; exact h20⟩]; done), rfl⟩

set_option maxHeartbeats 4000000 in
set_option maxRecDepth 100000 in
theorem d_X4_holderOf (l : Launch) (D : va_G) (ty : Nat → ClassId) (t0 : Nat → Nat) (ad : Nat → Nat) (a : Nat → Nat → Int32) (g : Nat → Nat → Int64) (n : Nat → Int32) (P : Nat) (S : Nat) (T : Nat) (B : Nat) (I : XI P S T B a n) (x : Int32) (k : Nat) (ek : x = nI k) (hk : k < 64) (hw : WI B a) : fc l yX4_holderOf wsX4_holderOf (fj_rm 0 0 0 0) D ty t0 [.ref (ad 25), .int x] (fx_w ad ty a g n) 0 0 (fun v w => v = some (.int (if a 33 k = -1 then -1 else a 28 (a 33 k).toNatClampNeg)) ∧ w = fx_w ad ty a g n) := by
  subst ek
  refine fc_start (own := RX4) (cc := cX4_holderOf) (maxL := 2) (ret := (some .int)) (by decide) rfl (Nat.le_of_ble_eq_true rfl) rfl ?_
  intro p e s m args below meth c Q A C hmn E9
  obtain ⟨hn0, hP, hn1, hT, hn3, hS, hn4, hB, iLO, iBO, iWho, iSort, iQ, iN⟩ := id I
  have iX4 : ∀ w ∈ u_ws RX4 TX4 18, w ∈ wsX4_holderOf := ptX4_holderOf_wsX40
  have kX4_37 : Cond.fieldLink RX4 37 "FreeLand$Work" "held" "[I" ∈ wsX4_holderOf := ptX4_holderOf_woX4_holderOf _ (by decide +kernel)
  have kX4_22 : Cond.fieldLink RX4 22 "FreeLand$Work" "holder" "[I" ∈ wsX4_holderOf := ptX4_holderOf_woX4_holderOf _ (by decide +kernel)
  refine fj_lv (lv' := [(0, .ref (ad 25)), (1, .int (nI k))]) [0, 1] rfl ?_
  refine fj_aload_n C 0 dX4_holderOf_0 rfl rfl ?_
  refine fj_get (Cn := RX4) (T := TX4) (N := 18) (ci := 4) (v := .ref (ad 33)) C iX4 25 (fx_at25 _ _ _ _ _) rfl 11 (by decide) kX4_37 rfl dX4_holderOf_1 ?_
  refine fj_iload_n C 1 dX4_holderOf_4 rfl rfl ?_
  refine fj_iald (f := (a 33)) C 33 (fx_at33 _ _ _ _ _) (vp_in_nI (by omega) (by decide)) dX4_holderOf_5 ?_
  refine fj_at (y := a 33 k) (by rw [nI_clamp (by omega)]) ?_
  refine fj_iconst (v := (-1)) C dX4_holderOf_6 (by decide) ?_
  refine fj_icmp_ne (tgt := 14) C dX4_holderOf_7 (by decide) (fun h7 => ?_) (fun h7 => ?_)
  · obtain ⟨e9, t9, he9, ee9, ht9, et9⟩ := (hw k hk).resolve_left h7
    refine fj_aload_n C 0 dX4_holderOf_14 rfl rfl ?_
    refine fj_get (Cn := RX4) (T := TX4) (N := 18) (ci := 4) (v := .ref (ad 28)) C iX4 25 (fx_at25 _ _ _ _ _) rfl 6 (by decide) kX4_22 rfl dX4_holderOf_15 ?_
    refine fj_aload_n C 0 dX4_holderOf_18 rfl rfl ?_
    refine fj_get (Cn := RX4) (T := TX4) (N := 18) (ci := 4) (v := .ref (ad 33)) C iX4 25 (fx_at25 _ _ _ _ _) rfl 11 (by decide) kX4_37 rfl dX4_holderOf_19 ?_
    refine fj_iload_n C 1 dX4_holderOf_22 rfl rfl ?_
    refine fj_iald (f := (a 33)) C 33 (fx_at33 _ _ _ _ _) (vp_in_nI (by omega) (by decide)) dX4_holderOf_23 ?_
    refine fj_at (y := nI e9) (by rw [nI_clamp (by omega), ee9]) ?_
    refine fj_iald (f := (a 28)) C 28 (fx_at28 _ _ _ _ _) (vp_in_nI (by omega) (by decide)) dX4_holderOf_24 ?_
    refine fj_at (y := a 28 e9) (by rw [nI_clamp (by omega)]) ?_
    exact fj_iret C E9 dX4_holderOf_25 ⟨by first | (rw [if_pos h7]; done) | (rw [if_neg h7, ee9, nI_clamp (by omega : e9 < 2 ^ 31)]; done), rfl⟩
  · refine fj_iconst (v := (-1)) C dX4_holderOf_10 (by decide) ?_
    refine fj_goto (tgt := 25) C dX4_holderOf_11 (by decide) ?_
    exact fj_iret C E9 dX4_holderOf_25 ⟨by first | (rw [if_pos h7]; done) | (rw [if_neg h7, ee9, nI_clamp (by omega : e9 < 2 ^ 31)]; done), rfl⟩

set_option maxHeartbeats 4000000 in
set_option maxRecDepth 100000 in
theorem d_X4_preferredOn (l : Launch) (D : va_G) (ty : Nat → ClassId) (t0 : Nat → Nat) (ad : Nat → Nat) (a : Nat → Nat → Int32) (g : Nat → Nat → Int64) (n : Nat → Int32)  (x : Int32) (y : Int32) (k : Nat) (ek : x = nI k) (hk : k < 64) : fc l yX4_preferredOn wsX4_preferredOn (fj_rm 0 0 0 0) D ty t0 [.ref (ad 25), .int x, .int y] (fx_w ad ty a g n) 0 0 (fun v w => v = some (.int (if ¬ a 34 k = -1 ∧ y ≤ a 35 k then a 34 k else -1)) ∧ w = fx_w ad ty a g n) := by
  subst ek
  refine fc_start (own := RX4) (cc := cX4_preferredOn) (maxL := 3) (ret := (some .int)) (by decide) rfl (Nat.le_of_ble_eq_true rfl) rfl ?_
  intro p e s m args below meth c Q A C hmn E9
  have iX4 : ∀ w ∈ u_ws RX4 TX4 18, w ∈ wsX4_preferredOn := ptX4_preferredOn_wsX40
  have kX4_40 : Cond.fieldLink RX4 40 "FreeLand$Work" "preferred" "[I" ∈ wsX4_preferredOn := ptX4_preferredOn_woX4_preferredOn _ (by decide +kernel)
  have kX4_43 : Cond.fieldLink RX4 43 "FreeLand$Work" "preferredTo" "[I" ∈ wsX4_preferredOn := ptX4_preferredOn_woX4_preferredOn _ (by decide +kernel)
  refine fj_lv (lv' := [(0, .ref (ad 25)), (1, .int (nI k)), (2, .int y)]) [0, 1, 2] rfl ?_
  refine fj_aload_n C 0 dX4_preferredOn_0 rfl rfl ?_
  refine fj_get (Cn := RX4) (T := TX4) (N := 18) (ci := 4) (v := .ref (ad 34)) C iX4 25 (fx_at25 _ _ _ _ _) rfl 12 (by decide) kX4_40 rfl dX4_preferredOn_1 ?_
  refine fj_iload_n C 1 dX4_preferredOn_4 rfl rfl ?_
  refine fj_iald (f := (a 34)) C 34 (fx_at34 _ _ _ _ _) (vp_in_nI (by omega) (by decide)) dX4_preferredOn_5 ?_
  refine fj_at (y := a 34 k) (by rw [nI_clamp (by omega)]) ?_
  refine fj_iconst (v := (-1)) C dX4_preferredOn_6 (by decide) ?_
  refine fj_icmp_eq (tgt := 29) C dX4_preferredOn_7 (by decide) (fun h7 => ?_) (fun h7 => ?_)
  · refine fj_iconst (v := (-1)) C dX4_preferredOn_29 (by decide) ?_
    exact fj_iret C E9 dX4_preferredOn_30 ⟨by first | (rw [if_neg (fun z => z.1 h7)]; done) | (rw [if_neg (fun z => absurd h17 (Int32.not_lt.mpr z.2))]; done) | (rw [if_pos ⟨h7, Int32.not_lt.mp h17⟩]; done), rfl⟩
  · refine fj_iload_n C 2 dX4_preferredOn_10 rfl rfl ?_
    refine fj_aload_n C 0 dX4_preferredOn_11 rfl rfl ?_
    refine fj_get (Cn := RX4) (T := TX4) (N := 18) (ci := 4) (v := .ref (ad 35)) C iX4 25 (fx_at25 _ _ _ _ _) rfl 13 (by decide) kX4_43 rfl dX4_preferredOn_12 ?_
    refine fj_iload_n C 1 dX4_preferredOn_15 rfl rfl ?_
    refine fj_iald (f := (a 35)) C 35 (fx_at35 _ _ _ _ _) (vp_in_nI (by omega) (by decide)) dX4_preferredOn_16 ?_
    refine fj_at (y := a 35 k) (by rw [nI_clamp (by omega)]) ?_
    refine fj_icmp_gt (tgt := 29) C dX4_preferredOn_17 (by decide) (fun h17 => ?_) (fun h17 => ?_)
    · refine fj_iconst (v := (-1)) C dX4_preferredOn_29 (by decide) ?_
      exact fj_iret C E9 dX4_preferredOn_30 ⟨by first | (rw [if_neg (fun z => z.1 h7)]; done) | (rw [if_neg (fun z => absurd h17 (Int32.not_lt.mpr z.2))]; done) | (rw [if_pos ⟨h7, Int32.not_lt.mp h17⟩]; done), rfl⟩
    · refine fj_aload_n C 0 dX4_preferredOn_20 rfl rfl ?_
      refine fj_get (Cn := RX4) (T := TX4) (N := 18) (ci := 4) (v := .ref (ad 34)) C iX4 25 (fx_at25 _ _ _ _ _) rfl 12 (by decide) kX4_40 rfl dX4_preferredOn_21 ?_
      refine fj_iload_n C 1 dX4_preferredOn_24 rfl rfl ?_
      refine fj_iald (f := (a 34)) C 34 (fx_at34 _ _ _ _ _) (vp_in_nI (by omega) (by decide)) dX4_preferredOn_25 ?_
      refine fj_at (y := a 34 k) (by rw [nI_clamp (by omega)]) ?_
      refine fj_goto (tgt := 30) C dX4_preferredOn_26 (by decide) ?_
      exact fj_iret C E9 dX4_preferredOn_30 ⟨by first | (rw [if_neg (fun z => z.1 h7)]; done) | (rw [if_neg (fun z => absurd h17 (Int32.not_lt.mpr z.2))]; done) | (rw [if_pos ⟨h7, Int32.not_lt.mp h17⟩]; done), rfl⟩

set_option maxHeartbeats 4000000 in
set_option maxRecDepth 100000 in
theorem d_X4_standing (l : Launch) (D : va_G) (ty : Nat → ClassId) (t0 : Nat → Nat) (ad : Nat → Nat) (a : Nat → Nat → Int32) (g : Nat → Nat → Int64) (n : Nat → Int32) (P : Nat) (S : Nat) (T : Nat) (B : Nat) (I : XI P S T B a n) (x : Int32) (y : Int32) (k : Nat) (ek : x = nI k) (hk : k < 64) (hw : WI B a) : fc l yX4_standing wsX4_standing (fj_rm 1 24 0 0) D ty t0 [.ref (ad 25), .int x, .int y] (fx_w ad ty a g n) 0 0 (fun v w => v = some (.int (if a 33 k = -1 then (if RLR (n 5) y k then 4 else 0) else if a 27 (a 33 k).toNatClampNeg = 2 ∧ a 31 (a 33 k).toNatClampNeg ≤ y then 3 else a 27 (a 33 k).toNatClampNeg)) ∧ w = fx_w ad ty a g n) := by
  subst ek
  refine fc_start (own := RX4) (cc := cX4_standing) (maxL := 4) (ret := (some .int)) (by decide) rfl (Nat.le_of_ble_eq_true rfl) rfl ?_
  intro p e s m args below meth c Q A C hmn E9
  obtain ⟨hn0, hP, hn1, hT, hn3, hS, hn4, hB, iLO, iBO, iWho, iSort, iQ, iN⟩ := id I
  have iX4 : ∀ w ∈ u_ws RX4 TX4 18, w ∈ wsX4_standing := ptX4_standing_wsX40
  have kX4_37 : Cond.fieldLink RX4 37 "FreeLand$Work" "held" "[I" ∈ wsX4_standing := ptX4_standing_woX4_standing _ (by decide +kernel)
  have kX4_19 : Cond.fieldLink RX4 19 "FreeLand$Work" "state" "[I" ∈ wsX4_standing := ptX4_standing_woX4_standing _ (by decide +kernel)
  have kX4_31 : Cond.fieldLink RX4 31 "FreeLand$Work" "bindsFrom" "[I" ∈ wsX4_standing := ptX4_standing_woX4_standing _ (by decide +kernel)
  refine fj_lv (lv' := [(0, .ref (ad 25)), (1, .int (nI k)), (2, .int y)]) [0, 1, 2] rfl ?_
  refine fj_aload_n C 0 dX4_standing_0 rfl rfl ?_
  refine fj_get (Cn := RX4) (T := TX4) (N := 18) (ci := 4) (v := .ref (ad 33)) C iX4 25 (fx_at25 _ _ _ _ _) rfl 11 (by decide) kX4_37 rfl dX4_standing_1 ?_
  refine fj_iload_n C 1 dX4_standing_4 rfl rfl ?_
  refine fj_iald (f := (a 33)) C 33 (fx_at33 _ _ _ _ _) (vp_in_nI (by omega) (by decide)) dX4_standing_5 ?_
  refine fj_at (y := a 33 k) (by rw [nI_clamp (by omega)]) ?_
  refine fj_istore_n (lv' := [(3, .int (a 33 k)), (0, .ref (ad 25)), (1, .int (nI k)), (2, .int y)]) C dX4_standing_6 rfl (by decide) rfl ?_
  refine fj_iload_n C 0 dX4_standing_7 rfl rfl ?_
  refine fj_iconst (v := (-1)) C dX4_standing_8 (by decide) ?_
  refine fj_icmp_ne (tgt := 27) C dX4_standing_9 (by decide) (fun h9 => ?_) (fun h9 => ?_)
  · obtain ⟨e9, t9, he9, ee9, ht9, et9⟩ := (hw k hk).resolve_left h9
    refine fj_lv (lv' := [(3, .int (nI e9)), (0, .ref (ad 25)), (1, .int (nI k)), (2, .int y)]) [0, 1, 2, 3] (by rw [← ee9]; rfl) ?_
    refine fj_aload_n C 1 dX4_standing_27 rfl rfl ?_
    refine fj_get (Cn := RX4) (T := TX4) (N := 18) (ci := 4) (v := .ref (ad 27)) C iX4 25 (fx_at25 _ _ _ _ _) rfl 5 (by decide) kX4_19 rfl dX4_standing_28 ?_
    refine fj_iload_n C 0 dX4_standing_31 rfl rfl ?_
    refine fj_iald (f := (a 27)) C 27 (fx_at27 _ _ _ _ _) (vp_in_nI (by omega) (by decide)) dX4_standing_32 ?_
    refine fj_at (y := a 27 e9) (by rw [nI_clamp (by omega)]) ?_
    refine fj_iconst (v := 2) C dX4_standing_33 (by decide) ?_
    refine fj_icmp_ne (tgt := 49) C dX4_standing_34 (by decide) (fun h34 => ?_) (fun h34 => ?_)
    · refine fj_aload_n C 1 dX4_standing_49 rfl rfl ?_
      refine fj_get (Cn := RX4) (T := TX4) (N := 18) (ci := 4) (v := .ref (ad 27)) C iX4 25 (fx_at25 _ _ _ _ _) rfl 5 (by decide) kX4_19 rfl dX4_standing_50 ?_
      refine fj_iload_n C 0 dX4_standing_53 rfl rfl ?_
      refine fj_iald (f := (a 27)) C 27 (fx_at27 _ _ _ _ _) (vp_in_nI (by omega) (by decide)) dX4_standing_54 ?_
      refine fj_at (y := a 27 e9) (by rw [nI_clamp (by omega)]) ?_
      exact fj_iret C E9 dX4_standing_55 ⟨by first | (rw [if_pos h9, if_pos h18]; done) | (rw [if_pos h9, if_neg h18]; done) | (rw [if_neg h9, ee9, nI_clamp (by omega : e9 < 2 ^ 31)]; first | (rw [if_pos ⟨h34, Int32.not_lt.mp h44⟩]; done) | (rw [if_neg (fun z => h34 z.1)]; done) | (rw [if_neg (fun z => absurd h44 (Int32.not_lt.mpr z.2))]; done)), rfl⟩
    · refine fj_iload_n C 3 dX4_standing_37 rfl rfl ?_
      refine fj_aload_n C 1 dX4_standing_38 rfl rfl ?_
      refine fj_get (Cn := RX4) (T := TX4) (N := 18) (ci := 4) (v := .ref (ad 31)) C iX4 25 (fx_at25 _ _ _ _ _) rfl 9 (by decide) kX4_31 rfl dX4_standing_39 ?_
      refine fj_iload_n C 0 dX4_standing_42 rfl rfl ?_
      refine fj_iald (f := (a 31)) C 31 (fx_at31 _ _ _ _ _) (vp_in_nI (by omega) (by decide)) dX4_standing_43 ?_
      refine fj_at (y := a 31 e9) (by rw [nI_clamp (by omega)]) ?_
      refine fj_icmp_lt (tgt := 49) C dX4_standing_44 (by decide) (fun h44 => ?_) (fun h44 => ?_)
      · refine fj_aload_n C 1 dX4_standing_49 rfl rfl ?_
        refine fj_get (Cn := RX4) (T := TX4) (N := 18) (ci := 4) (v := .ref (ad 27)) C iX4 25 (fx_at25 _ _ _ _ _) rfl 5 (by decide) kX4_19 rfl dX4_standing_50 ?_
        refine fj_iload_n C 0 dX4_standing_53 rfl rfl ?_
        refine fj_iald (f := (a 27)) C 27 (fx_at27 _ _ _ _ _) (vp_in_nI (by omega) (by decide)) dX4_standing_54 ?_
        refine fj_at (y := a 27 e9) (by rw [nI_clamp (by omega)]) ?_
        exact fj_iret C E9 dX4_standing_55 ⟨by first | (rw [if_pos h9, if_pos h18]; done) | (rw [if_pos h9, if_neg h18]; done) | (rw [if_neg h9, ee9, nI_clamp (by omega : e9 < 2 ^ 31)]; first | (rw [if_pos ⟨h34, Int32.not_lt.mp h44⟩]; done) | (rw [if_neg (fun z => h34 z.1)]; done) | (rw [if_neg (fun z => absurd h44 (Int32.not_lt.mpr z.2))]; done)), rfl⟩
      · refine fj_iconst (v := 3) C dX4_standing_47 (by decide) ?_
        exact fj_iret C E9 dX4_standing_48 ⟨by first | (rw [if_pos h9, if_pos h18]; done) | (rw [if_pos h9, if_neg h18]; done) | (rw [if_neg h9, ee9, nI_clamp (by omega : e9 < 2 ^ 31)]; first | (rw [if_pos ⟨h34, Int32.not_lt.mp h44⟩]; done) | (rw [if_neg (fun z => h34 z.1)]; done) | (rw [if_neg (fun z => absurd h44 (Int32.not_lt.mpr z.2))]; done)), rfl⟩
  · refine fj_aload_n C 1 dX4_standing_12 rfl rfl ?_
    refine fj_iload_n C 2 dX4_standing_13 rfl rfl ?_
    refine fj_iload_n C 3 dX4_standing_14 rfl rfl ?_
    refine fj_callVw (As := [.int (nI k), .int y]) (rest := []) C (d_X4_isRailroads l D ty t0 ad a g n (nI k) y k rfl hk) (cwV 2 C.2.2.2.2.1 gX4_standing_X4_isRailroads rfl rfl rfl (by decide +kernel) ⟨Nat.le_of_ble_eq_true rfl, Nat.le_of_ble_eq_true rfl⟩) ⟨25, 4, _, _, fx_at25 _ _ _ _ _, rfl, rfl⟩ rfl (Nat.le_of_ble_eq_true rfl) dX4_standing_15 ⟨Nat.zero_le _, Nat.zero_le _⟩ (fun v9 w9 hp9 => ?_)
    obtain ⟨rfl, rfl⟩ := hp9
    refine fj_st (st' := .int (if RLR (n 5) y k then 1 else 0) :: []) rfl ?_
    refine fj_ifb_eq (tgt := 25) C dX4_standing_18 (by decide) (fun h18 => ?_) (fun h18 => ?_)
    · refine fj_iconst (v := 0) C dX4_standing_25 (by decide) ?_
      exact fj_iret C E9 dX4_standing_26 ⟨by first | (rw [if_pos h9, if_pos h18]; done) | (rw [if_pos h9, if_neg h18]; done) | (rw [if_neg h9, ee9, nI_clamp (by omega : e9 < 2 ^ 31)]; first | (rw [if_pos ⟨h34, Int32.not_lt.mp h44⟩]; done) | (rw [if_neg (fun z => h34 z.1)]; done) | (rw [if_neg (fun z => absurd h44 (Int32.not_lt.mpr z.2))]; done)), rfl⟩
    · refine fj_iconst (v := 4) C dX4_standing_21 (by decide) ?_
      refine fj_goto (tgt := 26) C dX4_standing_22 (by decide) ?_
      exact fj_iret C E9 dX4_standing_26 ⟨by first | (rw [if_pos h9, if_pos h18]; done) | (rw [if_pos h9, if_neg h18]; done) | (rw [if_neg h9, ee9, nI_clamp (by omega : e9 < 2 ^ 31)]; first | (rw [if_pos ⟨h34, Int32.not_lt.mp h44⟩]; done) | (rw [if_neg (fun z => h34 z.1)]; done) | (rw [if_neg (fun z => absurd h44 (Int32.not_lt.mpr z.2))]; done)), rfl⟩

set_option maxHeartbeats 4000000 in
set_option maxRecDepth 100000 in
theorem d_X4_clear (l : Launch) (D : va_G) (ty : Nat → ClassId) (t0 : Nat → Nat) (ad : Nat → Nat) (a : Nat → Nat → Int32) (g : Nat → Nat → Int64) (n : Nat → Int32)    : fc l yX4_clear wsX4_clear (fj_rm 0 0 0 0) D ty t0 [.ref (ad 25)] (fx_w ad ty a g n) 0 0 (fun v w => v = none ∧ w = (fx_w ad ty (va_up (va_up (va_up (va_up (va_up (va_up a 26 (fil (a 26) (-1) 120)) 27 (fil (a 27) 0 120)) 33 (fil (a 33) (-1) 64)) 34 (fil (a 34) (-1) 64)) 36 (fil (a 36) 0 12)) 37 (fil (a 37) 0 12)) g n)) := by
  refine fc_start (own := RX4) (cc := cX4_clear) (maxL := 2) (ret := none) (by decide) rfl (Nat.le_of_ble_eq_true rfl) rfl ?_
  intro p e s m args below meth c Q A C hmn E9
  have iX4 : ∀ w ∈ u_ws RX4 TX4 18, w ∈ wsX4_clear := ptX4_clear_wsX40
  have kX4_46 : Cond.fieldLink RX4 46 "FreeLand$Work" "dead" "[Z" ∈ wsX4_clear := ptX4_clear_woX4_clear _ (by decide +kernel)
  have kX4_50 : Cond.fieldLink RX4 50 "FreeLand$Work" "filed" "[I" ∈ wsX4_clear := ptX4_clear_woX4_clear _ (by decide +kernel)
  have kX4_37 : Cond.fieldLink RX4 37 "FreeLand$Work" "held" "[I" ∈ wsX4_clear := ptX4_clear_woX4_clear _ (by decide +kernel)
  have kX4_40 : Cond.fieldLink RX4 40 "FreeLand$Work" "preferred" "[I" ∈ wsX4_clear := ptX4_clear_woX4_clear _ (by decide +kernel)
  have kX4_15 : Cond.fieldLink RX4 15 "FreeLand$Work" "result" "[I" ∈ wsX4_clear := ptX4_clear_woX4_clear _ (by decide +kernel)
  have kX4_19 : Cond.fieldLink RX4 19 "FreeLand$Work" "state" "[I" ∈ wsX4_clear := ptX4_clear_woX4_clear _ (by decide +kernel)
  refine fj_lv (lv' := [(0, .ref (ad 25))]) [0] rfl ?_
  refine fj_iconst (v := 0) C dX4_clear_0 (by decide) ?_
  refine fj_istore_n (lv' := [(1, .int 0), (0, .ref (ad 25))]) C dX4_clear_1 rfl (by decide) rfl ?_
  refine fj_lv (lv' := [(0, .ref (ad 25)), (1, .int 0)]) [1, 0] rfl ?_
  have lp2 : ∀ (k : Nat), (k ≤ 120) → fj p l e (fj_rm 0 0 0 0) s m args below meth c Q A D 2 0 0 (fx_w ad ty (va_up (va_up a 26 (fil (a 26) (-1) k)) 27 (fil (a 27) 0 k)) g n) [(0, .ref (ad 25)), (1, .int (nI k))] 2 [] := by
    have key : ∀ zz : Nat, (fun (k : Nat) => (k ≤ 120) → fj p l e (fj_rm 0 0 0 0) s m args below meth c Q A D 2 0 0 (fx_w ad ty (va_up (va_up a 26 (fil (a 26) (-1) k)) 27 (fil (a 27) 0 k)) g n) [(0, .ref (ad 25)), (1, .int (nI k))] 2 []) zz := by
      refine fx_ind (fun (k : Nat) => 120 - k) _ ?_
      rintro k ih hk
      refine fj_iload_n C 1 dX4_clear_2 rfl rfl ?_
      refine fj_bipush (v := 120) C dX4_clear_3 (by decide) ?_
      refine fj_icmp_ge (tgt := 28) C dX4_clear_5 (by decide) (fun h5 => ?_) (fun h5 => ?_)
      · obtain rfl : k = 120 := by have := (nI_leI (a := 120) (by decide) (by omega)).mp h5; omega
        refine fj_iconst (v := 0) C dX4_clear_28 (by decide) ?_
        refine fj_istore_n (lv' := [(1, .int 0), (0, .ref (ad 25))]) C dX4_clear_29 rfl (by decide) rfl ?_
        refine fj_lv (lv' := [(0, .ref (ad 25)), (1, .int 0)]) [1, 0] rfl ?_
        have lp30 : ∀ (k : Nat), (k ≤ 64) → fj p l e (fj_rm 0 0 0 0) s m args below meth c Q A D 2 0 0 (fx_w ad ty (va_up (va_up (va_up (va_up a 26 (fil (a 26) (-1) 120)) 27 (fil (a 27) 0 120)) 33 (fil (a 33) (-1) k)) 34 (fil (a 34) (-1) k)) g n) [(0, .ref (ad 25)), (1, .int (nI k))] 30 [] := by
          have key : ∀ zz : Nat, (fun (k : Nat) => (k ≤ 64) → fj p l e (fj_rm 0 0 0 0) s m args below meth c Q A D 2 0 0 (fx_w ad ty (va_up (va_up (va_up (va_up a 26 (fil (a 26) (-1) 120)) 27 (fil (a 27) 0 120)) 33 (fil (a 33) (-1) k)) 34 (fil (a 34) (-1) k)) g n) [(0, .ref (ad 25)), (1, .int (nI k))] 30 []) zz := by
            refine fx_ind (fun (k : Nat) => 64 - k) _ ?_
            rintro k ih hk
            refine fj_iload_n C 1 dX4_clear_30 rfl rfl ?_
            refine fj_bipush (v := 64) C dX4_clear_31 (by decide) ?_
            refine fj_icmp_ge (tgt := 56) C dX4_clear_33 (by decide) (fun h33 => ?_) (fun h33 => ?_)
            · obtain rfl : k = 64 := by have := (nI_leI (a := 64) (by decide) (by omega)).mp h33; omega
              refine fj_iconst (v := 0) C dX4_clear_56 (by decide) ?_
              refine fj_istore_n (lv' := [(1, .int 0), (0, .ref (ad 25))]) C dX4_clear_57 rfl (by decide) rfl ?_
              refine fj_lv (lv' := [(0, .ref (ad 25)), (1, .int 0)]) [1, 0] rfl ?_
              have lp58 : ∀ (k : Nat), (k ≤ 12) → fj p l e (fj_rm 0 0 0 0) s m args below meth c Q A D 2 0 0 (fx_w ad ty (va_up (va_up (va_up (va_up (va_up (va_up a 26 (fil (a 26) (-1) 120)) 27 (fil (a 27) 0 120)) 33 (fil (a 33) (-1) 64)) 34 (fil (a 34) (-1) 64)) 36 (fil (a 36) 0 k)) 37 (fil (a 37) 0 k)) g n) [(0, .ref (ad 25)), (1, .int (nI k))] 58 [] := by
                have key : ∀ zz : Nat, (fun (k : Nat) => (k ≤ 12) → fj p l e (fj_rm 0 0 0 0) s m args below meth c Q A D 2 0 0 (fx_w ad ty (va_up (va_up (va_up (va_up (va_up (va_up a 26 (fil (a 26) (-1) 120)) 27 (fil (a 27) 0 120)) 33 (fil (a 33) (-1) 64)) 34 (fil (a 34) (-1) 64)) 36 (fil (a 36) 0 k)) 37 (fil (a 37) 0 k)) g n) [(0, .ref (ad 25)), (1, .int (nI k))] 58 []) zz := by
                  refine fx_ind (fun (k : Nat) => 12 - k) _ ?_
                  rintro k ih hk
                  refine fj_iload_n C 1 dX4_clear_58 rfl rfl ?_
                  refine fj_bipush (v := 12) C dX4_clear_59 (by decide) ?_
                  refine fj_icmp_ge (tgt := 84) C dX4_clear_61 (by decide) (fun h61 => ?_) (fun h61 => ?_)
                  · obtain rfl : k = 12 := by have := (nI_leI (a := 12) (by decide) (by omega)).mp h61; omega
                    exact fj_vret C E9 dX4_clear_84 ⟨rfl, rfl⟩
                  · have hlt : k < 12 := Nat.lt_of_not_le fun q => h61 ((nI_leI (a := 12) (by decide) (by omega)).mpr q)
                    refine fj_aload_n C 0 dX4_clear_64 rfl rfl ?_
                    refine fj_get (Cn := RX4) (T := TX4) (N := 18) (ci := 4) (v := .ref (ad 36)) C iX4 25 (fx_at25 _ _ _ _ _) rfl 14 (by decide) kX4_46 rfl dX4_clear_65 ?_
                    refine fj_iload_n C 1 dX4_clear_68 rfl rfl ?_
                    refine fj_iconst (v := 0) C dX4_clear_69 (by decide) ?_
                    refine fj_zast (f := (fil (a 36) 0 k)) C 36 (fx_at36 _ _ _ _ _) (vp_in_nI (by omega) (by decide)) dX4_clear_70 (fx_st36 _ _ _ _ _ _) ?_
                    refine fj_ws (ws' := (fx_w ad ty (va_up (va_up (va_up (va_up (va_up (va_up a 26 (fil (a 26) (-1) 120)) 27 (fil (a 27) 0 120)) 33 (fil (a 33) (-1) 64)) 34 (fil (a 34) (-1) 64)) 37 (fil (a 37) 0 k)) 36 (upd (fil (a 36) 0 k) (nI k).toNatClampNeg (vp_nar .boolean 0))) g n)) rfl ?_
                    refine fj_ws (ws' := (fx_w ad ty (va_up (va_up (va_up (va_up (va_up (va_up a 26 (fil (a 26) (-1) 120)) 27 (fil (a 27) 0 120)) 33 (fil (a 33) (-1) 64)) 34 (fil (a 34) (-1) 64)) 37 (fil (a 37) 0 k)) 36 (fil (a 36) 0 (k + 1))) g n)) (by rw [nI_clamp (by omega), show vp_nar .boolean 0 = 0 from rfl, fil_s]) ?_
                    refine fj_aload_n C 0 dX4_clear_71 rfl rfl ?_
                    refine fj_get (Cn := RX4) (T := TX4) (N := 18) (ci := 4) (v := .ref (ad 37)) C iX4 25 (fx_at25 _ _ _ _ _) rfl 15 (by decide) kX4_50 rfl dX4_clear_72 ?_
                    refine fj_iload_n C 1 dX4_clear_75 rfl rfl ?_
                    refine fj_iconst (v := 0) C dX4_clear_76 (by decide) ?_
                    refine fj_iast (f := (fil (a 37) 0 k)) C 37 (fx_at37 _ _ _ _ _) (vp_in_nI (by omega) (by decide)) dX4_clear_77 (fx_st37 _ _ _ _ _ _) ?_
                    refine fj_ws (ws' := (fx_w ad ty (va_up (va_up (va_up (va_up (va_up (va_up a 26 (fil (a 26) (-1) 120)) 27 (fil (a 27) 0 120)) 33 (fil (a 33) (-1) 64)) 34 (fil (a 34) (-1) 64)) 36 (fil (a 36) 0 (k + 1))) 37 (upd (fil (a 37) 0 k) (nI k).toNatClampNeg 0)) g n)) rfl ?_
                    refine fj_ws (ws' := (fx_w ad ty (va_up (va_up (va_up (va_up (va_up (va_up a 26 (fil (a 26) (-1) 120)) 27 (fil (a 27) 0 120)) 33 (fil (a 33) (-1) 64)) 34 (fil (a 34) (-1) 64)) 36 (fil (a 36) 0 (k + 1))) 37 (fil (a 37) 0 (k + 1))) g n)) (by rw [nI_clamp (by omega), fil_s]) ?_
                    refine fj_iinc (v := nI (k + 1)) (lv' := [(1, .int (nI (k + 1))), (0, .ref (ad 25))]) C 1 dX4_clear_78 rfl (nI_1 k) (by decide) rfl ?_
                    refine fj_goto (tgt := 58) C dX4_clear_81 (by decide) ?_
                    refine fj_lv (lv' := [(0, .ref (ad 25)), (1, .int (nI (k + 1)))]) [1, 0] rfl ?_
                    exact ih (k + 1) (by show 12 - (k + 1) < 12 - k; omega) (by omega)
                intro k
                exact key k
              refine fj_ws (ws' := (fx_w ad ty (va_up (va_up (va_up (va_up (va_up (va_up a 26 (fil (a 26) (-1) 120)) 27 (fil (a 27) 0 120)) 33 (fil (a 33) (-1) 64)) 34 (fil (a 34) (-1) 64)) 36 (fil (a 36) 0 0)) 37 (fil (a 37) 0 0)) g n)) (by rw [fil_0, fil_0]; rfl) ?_
              exact lp58 0 (Nat.zero_le _)
            · have hlt : k < 64 := Nat.lt_of_not_le fun q => h33 ((nI_leI (a := 64) (by decide) (by omega)).mpr q)
              refine fj_aload_n C 0 dX4_clear_36 rfl rfl ?_
              refine fj_get (Cn := RX4) (T := TX4) (N := 18) (ci := 4) (v := .ref (ad 33)) C iX4 25 (fx_at25 _ _ _ _ _) rfl 11 (by decide) kX4_37 rfl dX4_clear_37 ?_
              refine fj_iload_n C 1 dX4_clear_40 rfl rfl ?_
              refine fj_iconst (v := (-1)) C dX4_clear_41 (by decide) ?_
              refine fj_iast (f := (fil (a 33) (-1) k)) C 33 (fx_at33 _ _ _ _ _) (vp_in_nI (by omega) (by decide)) dX4_clear_42 (fx_st33 _ _ _ _ _ _) ?_
              refine fj_ws (ws' := (fx_w ad ty (va_up (va_up (va_up (va_up a 26 (fil (a 26) (-1) 120)) 27 (fil (a 27) 0 120)) 34 (fil (a 34) (-1) k)) 33 (upd (fil (a 33) (-1) k) (nI k).toNatClampNeg (-1))) g n)) rfl ?_
              refine fj_ws (ws' := (fx_w ad ty (va_up (va_up (va_up (va_up a 26 (fil (a 26) (-1) 120)) 27 (fil (a 27) 0 120)) 34 (fil (a 34) (-1) k)) 33 (fil (a 33) (-1) (k + 1))) g n)) (by rw [nI_clamp (by omega), fil_s]) ?_
              refine fj_aload_n C 0 dX4_clear_43 rfl rfl ?_
              refine fj_get (Cn := RX4) (T := TX4) (N := 18) (ci := 4) (v := .ref (ad 34)) C iX4 25 (fx_at25 _ _ _ _ _) rfl 12 (by decide) kX4_40 rfl dX4_clear_44 ?_
              refine fj_iload_n C 1 dX4_clear_47 rfl rfl ?_
              refine fj_iconst (v := (-1)) C dX4_clear_48 (by decide) ?_
              refine fj_iast (f := (fil (a 34) (-1) k)) C 34 (fx_at34 _ _ _ _ _) (vp_in_nI (by omega) (by decide)) dX4_clear_49 (fx_st34 _ _ _ _ _ _) ?_
              refine fj_ws (ws' := (fx_w ad ty (va_up (va_up (va_up (va_up a 26 (fil (a 26) (-1) 120)) 27 (fil (a 27) 0 120)) 33 (fil (a 33) (-1) (k + 1))) 34 (upd (fil (a 34) (-1) k) (nI k).toNatClampNeg (-1))) g n)) rfl ?_
              refine fj_ws (ws' := (fx_w ad ty (va_up (va_up (va_up (va_up a 26 (fil (a 26) (-1) 120)) 27 (fil (a 27) 0 120)) 33 (fil (a 33) (-1) (k + 1))) 34 (fil (a 34) (-1) (k + 1))) g n)) (by rw [nI_clamp (by omega), fil_s]) ?_
              refine fj_iinc (v := nI (k + 1)) (lv' := [(1, .int (nI (k + 1))), (0, .ref (ad 25))]) C 1 dX4_clear_50 rfl (nI_1 k) (by decide) rfl ?_
              refine fj_goto (tgt := 30) C dX4_clear_53 (by decide) ?_
              refine fj_lv (lv' := [(0, .ref (ad 25)), (1, .int (nI (k + 1)))]) [1, 0] rfl ?_
              exact ih (k + 1) (by show 64 - (k + 1) < 64 - k; omega) (by omega)
          intro k
          exact key k
        refine fj_ws (ws' := (fx_w ad ty (va_up (va_up (va_up (va_up a 26 (fil (a 26) (-1) 120)) 27 (fil (a 27) 0 120)) 33 (fil (a 33) (-1) 0)) 34 (fil (a 34) (-1) 0)) g n)) (by rw [fil_0, fil_0]; rfl) ?_
        exact lp30 0 (Nat.zero_le _)
      · have hlt : k < 120 := Nat.lt_of_not_le fun q => h5 ((nI_leI (a := 120) (by decide) (by omega)).mpr q)
        refine fj_aload_n C 0 dX4_clear_8 rfl rfl ?_
        refine fj_get (Cn := RX4) (T := TX4) (N := 18) (ci := 4) (v := .ref (ad 26)) C iX4 25 (fx_at25 _ _ _ _ _) rfl 4 (by decide) kX4_15 rfl dX4_clear_9 ?_
        refine fj_iload_n C 1 dX4_clear_12 rfl rfl ?_
        refine fj_iconst (v := (-1)) C dX4_clear_13 (by decide) ?_
        refine fj_iast (f := (fil (a 26) (-1) k)) C 26 (fx_at26 _ _ _ _ _) (vp_in_nI (by omega) (by decide)) dX4_clear_14 (fx_st26 _ _ _ _ _ _) ?_
        refine fj_ws (ws' := (fx_w ad ty (va_up (va_up a 27 (fil (a 27) 0 k)) 26 (upd (fil (a 26) (-1) k) (nI k).toNatClampNeg (-1))) g n)) rfl ?_
        refine fj_ws (ws' := (fx_w ad ty (va_up (va_up a 27 (fil (a 27) 0 k)) 26 (fil (a 26) (-1) (k + 1))) g n)) (by rw [nI_clamp (by omega), fil_s]) ?_
        refine fj_aload_n C 0 dX4_clear_15 rfl rfl ?_
        refine fj_get (Cn := RX4) (T := TX4) (N := 18) (ci := 4) (v := .ref (ad 27)) C iX4 25 (fx_at25 _ _ _ _ _) rfl 5 (by decide) kX4_19 rfl dX4_clear_16 ?_
        refine fj_iload_n C 1 dX4_clear_19 rfl rfl ?_
        refine fj_iconst (v := 0) C dX4_clear_20 (by decide) ?_
        refine fj_iast (f := (fil (a 27) 0 k)) C 27 (fx_at27 _ _ _ _ _) (vp_in_nI (by omega) (by decide)) dX4_clear_21 (fx_st27 _ _ _ _ _ _) ?_
        refine fj_ws (ws' := (fx_w ad ty (va_up (va_up a 26 (fil (a 26) (-1) (k + 1))) 27 (upd (fil (a 27) 0 k) (nI k).toNatClampNeg 0)) g n)) rfl ?_
        refine fj_ws (ws' := (fx_w ad ty (va_up (va_up a 26 (fil (a 26) (-1) (k + 1))) 27 (fil (a 27) 0 (k + 1))) g n)) (by rw [nI_clamp (by omega), fil_s]) ?_
        refine fj_iinc (v := nI (k + 1)) (lv' := [(1, .int (nI (k + 1))), (0, .ref (ad 25))]) C 1 dX4_clear_22 rfl (nI_1 k) (by decide) rfl ?_
        refine fj_goto (tgt := 2) C dX4_clear_25 (by decide) ?_
        refine fj_lv (lv' := [(0, .ref (ad 25)), (1, .int (nI (k + 1)))]) [1, 0] rfl ?_
        exact ih (k + 1) (by show 120 - (k + 1) < 120 - k; omega) (by omega)
    intro k
    exact key k
  refine fj_ws (ws' := (fx_w ad ty (va_up (va_up a 26 (fil (a 26) (-1) 0)) 27 (fil (a 27) 0 0)) g n)) (by rw [fil_0, fil_0]; rfl) ?_
  exact lp2 0 (Nat.zero_le _)
