set_option maxHeartbeats 8000000 in
set_option maxRecDepth 100000 in
theorem d_L_most (l : Launch) (D : va_G) (ty : Nat → ClassId) (t0 : Nat → Nat) (W9 : va_W) (x y : Int32) : fc l yL_most wsL_most (fj_rm 0 0 0 0) D ty t0 [.int x, .int y] W9 0 0 (fun v w => v = some (.int (if y < x then x else y)) ∧ w = W9) := by
  refine fc_start (own := RL) (cc := cL_most) (maxL := 2) (ret := (some .int)) (by decide) rfl (Nat.le_of_ble_eq_true rfl) rfl ?_
  intro p e s m args below meth c Q A C hmn E9
  refine fj_lv (lv' := [(0, .int x), (1, .int y)]) [0, 1] rfl ?_
  refine fj_iload_n C 0 dL_most_0 rfl rfl ?_
  refine fj_iload_n C 1 dL_most_1 rfl rfl ?_
  refine fj_icmp_le (tgt := 9) C dL_most_2 (by decide) (fun h2 => ?_) (fun h2 => ?_)
  · refine fj_iload_n C 1 dL_most_9 rfl rfl ?_
    exact fj_iret C E9 dL_most_10 ⟨by rw [if_neg (Int32.not_lt.mpr h2)], rfl⟩
  · refine fj_iload_n C 0 dL_most_5 rfl rfl ?_
    refine fj_goto (tgt := 10) C dL_most_6 (by decide) ?_
    exact fj_iret C E9 dL_most_10 ⟨by rw [if_pos (Int32.not_le.mp h2)], rfl⟩
set_option maxHeartbeats 8000000 in
set_option maxRecDepth 100000 in
theorem d_L_cell (l : Launch) (D : va_G) (ty : Nat → ClassId) (t0 : Nat → Nat) (W9 : va_W) (hL : t0 2 ≤ 260) (k : Nat) (hk : k < 2) : fc l yL_cell wsL_cell (fj_rm 0 0 0 0) D ty t0 [.ref (t0 1), .int (nI k)] W9 0 0 (fun v w => (∃ r, v = some (.int r)) ∧ w = W9) := by
  refine fc_start (own := RL) (cc := cL_cell) (maxL := 2) (ret := (some .int)) (by decide) rfl (Nat.le_of_ble_eq_true rfl) rfl ?_
  intro p e s m args below meth c Q A C hmn E9
  refine fj_lv (lv' := [(0, .ref (t0 1)), (1, .int (nI k))]) [0, 1] rfl ?_
  refine fj_iload_n C 1 dL_cell_0 rfl rfl ?_
  refine fj_aload_n C 0 dL_cell_1 rfl rfl ?_
  refine fj_slenX C dL_cell_2 ?_
  refine fj_icmp_ge (tgt := 12) C dL_cell_3 (by decide) (fun h3 => ?_) (fun h3 => ?_)
  · refine fj_iconst (v := 0) C dL_cell_12 (by decide) ?_
    exact fj_iret C E9 dL_cell_13 ⟨⟨_, rfl⟩, rfl⟩
  · refine fj_aload_n C 0 dL_cell_6 rfl rfl ?_
    refine fj_iload_n C 1 dL_cell_7 rfl rfl ?_
    have hlt : k < t0 2 := Nat.not_le.mp fun w => h3 ((nI_leI (by omega) (by omega)).mpr w)
    refine fj_sldX C (vp_in_nI hlt (by omega)) dL_cell_8 ?_
    refine fj_goto (tgt := 13) C dL_cell_9 (by decide) ?_
    exact fj_iret C E9 dL_cell_13 ⟨⟨_, rfl⟩, rfl⟩
set_option maxHeartbeats 8000000 in
set_option maxRecDepth 100000 in
theorem d_L_some (l : Launch) (D : va_G) (ty : Nat → ClassId) (t0 : Nat → Nat) (W9 : va_W) (hL : t0 2 ≤ 260) (k mo : Nat) (hk : k < 2) (h0 : 0 < mo) (h31 : mo < 2 ^ 31) : fc l yL_some wsL_some (fj_rm 1 21 0 0) D ty t0 [.ref (t0 1), .int (nI k), .int (nI mo)] W9 0 0 (fun v w => (∃ r, r < mo ∧ v = some (.int (nI r))) ∧ w = W9) := by
  refine fc_start (own := RL) (cc := cL_some) (maxL := 3) (ret := (some .int)) (by decide) rfl (Nat.le_of_ble_eq_true rfl) rfl ?_
  intro p e s m args below meth c Q A C hmn E9
  have kC13 : Cond.constant RL 13 (2147483647) ∈ wsL_some := ptL_some_woL_some _ (by decide +kernel)
  refine fj_lv (lv' := [(0, .ref (t0 1)), (1, .int (nI k)), (2, .int (nI mo))]) [0, 1, 2] rfl ?_
  refine fj_aload_n C 0 dL_some_0 rfl rfl ?_
  refine fj_iload_n C 1 dL_some_1 rfl rfl ?_
  refine fj_callSw (As := [.ref (t0 1), .int (nI k)]) (rest := []) C (d_L_cell l D ty t0 W9 hL k hk) (va_cwS 2 C.2.2.2.2.1 gL_some_L_cell rfl rfl rfl (by decide +kernel) ⟨Nat.le_of_ble_eq_true rfl, Nat.le_of_ble_eq_true rfl⟩) rfl (Nat.le_of_ble_eq_true rfl) dL_some_2 ⟨Nat.zero_le _, Nat.zero_le _⟩ (fun v9 w9 hp9 => ?_)
  obtain ⟨⟨r0, rfl⟩, hw9⟩ := hp9
  rw [hw9]
  refine fj_st (st' := .int r0 :: []) rfl ?_
  refine fj_ldcI (v := 2147483647) C kC13 dL_some_5 ?_
  refine fj_iand C dL_some_7 ?_
  obtain ⟨V, hV, eV⟩ := pk_andE r0 (m := 2147483647) 31 (by decide)
  refine fj_at (y := nI V) eV ?_
  refine fj_iload_n C 2 dL_some_8 rfl rfl ?_
  refine fj_irem C dL_some_9 (nI_ne0 h0 h31) ?_
  refine fj_at (y := nI (V % mo)) (pk_rem hV h0 h31) ?_
  exact fj_iret C E9 dL_some_10 ⟨⟨V % mo, Nat.mod_lt _ h0, rfl⟩, rfl⟩
/-- the law's own two rows -/
def pw (q1 q2 : Nat) (ty : Nat → ClassId) (f g : Nat → Int32) : va_W := [(q1, .inl (ty 0, 60, .inl f)), (q2, .inl (ty 0, 60, .inl g))]
section FJL
variable {p : Program} {l : Launch} {e : Env} {s : State} {m : MethodId} {below : List Frame} {meth : Method} {c : Code} {D : va_G} {ty : Nat → ClassId} {t0 : Nat → Nat} {nL : Nat} {own : String} {Ts : List Cond} {cells slots : Nat} {ws : va_W} {lv : List (Nat × Value)} {pc : Nat} {b : Nat}
theorem fj_lend (C : fj_C p s m #[Value.ref b] c code nL own Ts (fun q => s.heap.size ≤ q) D ty t0) (hr : meth.sig.returnType = ret) (hlk : meth.locks = false) (hdg : decode code pc = .ok (.ireturn, 1)) (hc : cells ≤ 600000) (hs : slots ≤ 7302250) : fj p l e room_1 s m #[Value.ref b] below meth c (lw_Z below #[Value.ref b] s) (fun q => s.heap.size ≤ q) D nL cells slots ws lv pc [.int 1] := fun H locs ls hP hD hS hl => va_forget (fun q hq => hS.2.2 q hq) (W.widen hc hs (lw_ret C.1 C.2.1 hr hlk hdg))
end FJL
theorem bk_ord {F G M B : Nat} {a : Nat → Nat → Int32} {n : Nat → Int32} (hb : BK F G M B a n) : ORD B (a 18) (a 24) := hb.2.2.2.2.2.2.2.1
theorem ib_01 {x : Int32} (h : x = 0 ∨ x = 1) : ib x 2 := by rcases h with rfl | rfl <;> exact ⟨by decide, by decide⟩
theorem q_910 {x : Int32} (h : x = 9 ∨ x = 10) : 0 ≤ x ∧ x ≤ 63 := by rcases h with rfl | rfl <;> exact ⟨by decide, by decide⟩
/-- a line of a life or of acres is taken -/
theorem lok_of {P B D N mx : Nat} {z p9 q : Int32} (hB : B < 120) (hD : D ≤ 20000) (hN : 1 ≤ N ∧ N ≤ mx) (hmx : mx ≤ 400) (hz : (z = 2 ∧ N ≤ 160) ∨ (z = 1 ∧ N ≤ 5000)) (hp : p9 = 0 ∨ p9 = 1) (hq : q = 9 ∨ q = 10) : LOKp 2 B (nI D) z p9 q (nI N) := by
  have z0 : 0 ≤ z ∧ z ≤ 6 := by rcases hz with ⟨rfl, _⟩ | ⟨rfl, _⟩ <;> exact ⟨by decide, by decide⟩
  have z6 : ¬ z = 6 := by rcases hz with ⟨rfl, _⟩ | ⟨rfl, _⟩ <;> decide
  have t0 : (0 : Int32).toInt = 0 := by decide
  have t1 : (1 : Int32).toInt = 1 := by decide
  have t2 : (160 : Int32).toInt = 160 := by decide
  have t5 : (5000 : Int32).toInt = 5000 := by decide
  have t20 : (20000 : Int32).toInt = 20000 := by decide
  have tD : (nI D).toInt = D := nI_toInt (by omega)
  have tN : (nI N).toInt = N := nI_toInt (by omega)
  refine ⟨z0, ⟨ib_01 hp, fun w => absurd w z6, fun _ => q_910 hq⟩, ⟨by rw [le_i, t0, tD]; omega, by rw [le_i, tD, t20]; omega⟩, ⟨fun w => ⟨by rw [le_i, t1, tN]; omega, by rw [le_i, tN, t5]; omega⟩, fun w => ⟨by rw [le_i, t1, tN]; omega, ?_⟩⟩, hB⟩
  rw [le_i, tN, t2]
  rcases hz with ⟨_, h⟩ | ⟨h, _⟩
  · omega
  · rw [h] at w; exact absurd w (by decide)
