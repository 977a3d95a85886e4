set_option maxHeartbeats 8000000 in
set_option maxRecDepth 100000 in
theorem law_4 {p : Program} {e : Env} {s : State} {m : MethodId} {below : List Frame} {meth : Method} {c : Code} (l : Launch) {b : Nat} {D : va_G} {ty : Nat → ClassId} {t0 : Nat → Nat} (C : fj_C p s m #[Value.ref b] c cL_law 16 RL wsL_law (fun q => s.heap.size ≤ q) D ty t0) (hr : meth.sig.returnType = ret) (hlk : meth.locks = false) (hL : t0 2 ≤ 260) (ad : Nat → Nat) (q1 q2 : Nat) {F G : Nat} (hF4 : F < 4000) {gg : Nat → Nat → Int64} {M : Nat} {f g Fm : Nat → Int32} {acr : Int32} (a : Nat → Nat → Int32) (n : Nat → Int32) (hk : BKF F G M M a n Fm acr) (hs : a 23 1 = 0) : fj p l e room_1 s m #[Value.ref b] below meth c (lw_Z below #[Value.ref b] s) (fun q => s.heap.size ≤ q) D 16 46 2555 (pw q1 q2 ty f g ++ fx_w ad ty a gg n) [(9, .int (nI M)), (1, .ref (ad 0)), (0, .ref (t0 1))] 744 [] := by
  have hM2 := bk_M hk.1
  have hFG := bk_F hk.1
  refine fj_aload_n C 1 dL_law_744 rfl rfl ?_
  refine fj_sipush (v := 20000) C dL_law_745 (by decide) ?_
  refine fj_iconst (v := 0) C dL_law_748 (by decide) ?_
  refine fj_iconst (v := 1) C dL_law_749 (by decide) ?_
  refine fj_bipush (v := 9) C dL_law_750 (by decide) ?_
  refine fj_iconst (v := 0) C dL_law_752 (by decide) ?_
  refine fj_callV (As := [.int 20000, .int 0, .int 1, .int 9, .int 0]) (rest := []) (wr := pw q1 q2 ty f g) C (d_X5_line l D ty t0 ad a gg n 2 0 0 M hk.1.1 20000 0 1 9 0) (cwV 5 C.2.2.2.2.1 gL_law_X5_line rfl rfl rfl (by decide +kernel) ⟨Nat.le_of_ble_eq_true rfl, Nat.le_of_ble_eq_true rfl⟩) ⟨0, 5, _, _, fx_at0 _ _ _ _ _, rfl, rfl⟩ rfl (Nat.le_of_ble_eq_true rfl) dL_law_753 ⟨Nat.le_of_ble_eq_true rfl, Nat.le_of_ble_eq_true rfl⟩ [2, 3, 4, 5, 6, 7, 8, 9, 10, 11, 12, 13, 14, 15, 16, 17, 18, 19, 20, 21, 22, 23, 24, 25, 26, 27, 28, 29, 30, 31, 32, 33, 34, 35, 36, 37, 38, 39, 40, 41, 42, 43, 44, 45] [0, 1] rfl rfl rfl rfl (by decide) (fun v9 w9 hp9 => ?_)
  obtain ⟨rfl, al, nl, rfl, hlf⟩ := q_line hk.1.1 (bk_ord hk.1) (lok_last hM2.2) hp9
  have hkl := bk_last hk hlf
  have hsl : al 23 1 = 0 := by rw [hlf.2.2.2.2.2.2.2.1 23 (Or.inr rfl)]; exact hs
  refine fj_st (st' := .int (nI M) :: []) rfl ?_
  refine fj_iload C 0 dL_law_756 rfl ?_
  refine fj_icmp_ne (tgt := 822) C dL_law_758 (by decide) (fun h758 => absurd (rfl : nI M = nI M) h758) (fun h758 => ?_)
  refine fj_aload_n C 1 dL_law_761 rfl rfl ?_
  refine fj_iload C 0 dL_law_762 rfl ?_
  refine fj_iconst (v := (-1)) C dL_law_764 (by decide) ?_
  refine fj_callV (As := [.int (nI M), .int (-1)]) (rest := []) (wr := pw q1 q2 ty f g) C (d_X5_outcome l D ty t0 ad al gg nl 2 0 0 (M + 1) hkl.1.1 (nI M) (-1)) (cwV 2 C.2.2.2.2.1 gL_law_X5_outcome rfl rfl rfl (by decide +kernel) ⟨Nat.le_of_ble_eq_true rfl, Nat.le_of_ble_eq_true rfl⟩) ⟨0, 5, _, _, fx_at0 _ _ _ _ _, rfl, rfl⟩ rfl (Nat.le_of_ble_eq_true rfl) dL_law_765 ⟨Nat.le_of_ble_eq_true rfl, Nat.le_of_ble_eq_true rfl⟩ [2, 3, 4, 5, 6, 7, 8, 9, 10, 11, 12, 13, 14, 15, 16, 17, 18, 19, 20, 21, 22, 23, 24, 25, 26, 27, 28, 29, 30, 31, 32, 33, 34, 35, 36, 37, 38, 39, 40, 41, 42, 43, 44, 45] [0, 1] rfl rfl rfl rfl (by decide) (fun v9 w9 hp9 => ?_)
  obtain ⟨z1, u1, hr1, rfl, rfl⟩ := q_out hkl (k := M) (N := (M + 1)) rfl (by omega) (by omega) (by omega) (Or.inl ⟨rfl, rfl⟩) hp9
  have hk1 := (rs_bk hr1).1
  have hs1 : z1 23 1 = 0 := by rw [(rs_bk hr1).2]; exact hsl
  have hv1 : z1 26 M = 5 := by rw [rs_last hr1 rfl t_20, if_pos (Nat.lt_succ_self M)]
  refine fj_st (st' := .int (z1 26 M) :: []) rfl ?_
  refine fj_at (y := 5) hv1 ?_
  refine fj_iconst (v := 5) C dL_law_768 (by decide) ?_
  refine fj_icmp_ne (tgt := 822) C dL_law_769 (by decide) (fun h => absurd (by decide) h) (fun _ => ?_)
  refine fj_aload_n C 1 dL_law_772 rfl rfl ?_
  refine fj_iload C 0 dL_law_773 rfl ?_
  refine fj_iload C 0 dL_law_775 rfl ?_
  refine fj_callV (As := [.int (nI M), .int (nI M)]) (rest := []) (wr := pw q1 q2 ty f g) C (d_X5_outcome l D ty t0 ad z1 gg u1 2 0 0 (M + 1) hk1.1.1 (nI M) (nI M)) (cwV 2 C.2.2.2.2.1 gL_law_X5_outcome rfl rfl rfl (by decide +kernel) ⟨Nat.le_of_ble_eq_true rfl, Nat.le_of_ble_eq_true rfl⟩) ⟨0, 5, _, _, fx_at0 _ _ _ _ _, rfl, rfl⟩ rfl (Nat.le_of_ble_eq_true rfl) dL_law_777 ⟨Nat.le_of_ble_eq_true rfl, Nat.le_of_ble_eq_true rfl⟩ [2, 3, 4, 5, 6, 7, 8, 9, 10, 11, 12, 13, 14, 15, 16, 17, 18, 19, 20, 21, 22, 23, 24, 25, 26, 27, 28, 29, 30, 31, 32, 33, 34, 35, 36, 37, 38, 39, 40, 41, 42, 43, 44, 45] [0, 1] rfl rfl rfl rfl (by decide) (fun v9 w9 hp9 => ?_)
  obtain ⟨z2, u2, hr2, rfl, rfl⟩ := q_out hk1 (k := M) (N := M) rfl (by omega) (by omega) (by omega) (Or.inr rfl) hp9
  have hk2 := (rs_bk hr2).1
  have hs2 : z2 23 1 = 0 := by rw [(rs_bk hr2).2]; exact hs1
  have hv2 : z2 26 M = (-1) := by rw [rs_last hr2 rfl t_20, if_neg (Nat.lt_irrefl M)]
  refine fj_st (st' := .int (z2 26 M) :: []) rfl ?_
  refine fj_at (y := (-1)) hv2 ?_
  refine fj_iconst (v := (-1)) C dL_law_780 (by decide) ?_
  refine fj_icmp_ne (tgt := 822) C dL_law_781 (by decide) (fun h => absurd (by decide) h) (fun _ => ?_)
  refine fj_aload_n C 1 dL_law_784 rfl rfl ?_
  refine fj_iconst (v := 1) C dL_law_785 (by decide) ?_
  refine fj_iconst (v := 1) C dL_law_786 (by decide) ?_
  refine fj_callV (As := [.int 1, .int 1]) (rest := []) (wr := pw q1 q2 ty f g) C (d_X5_strike l D ty t0 ad z2 gg u2 2 0 0 (M + 1) hk2.1.1 1 1) (cwV 2 C.2.2.2.2.1 gL_law_X5_strike rfl rfl rfl (by decide +kernel) ⟨Nat.le_of_ble_eq_true rfl, Nat.le_of_ble_eq_true rfl⟩) ⟨0, 5, _, _, fx_at0 _ _ _ _ _, rfl, rfl⟩ rfl (Nat.le_of_ble_eq_true rfl) dL_law_787 ⟨Nat.le_of_ble_eq_true rfl, Nat.le_of_ble_eq_true rfl⟩ [2, 3, 4, 5, 6, 7, 8, 9, 10, 11, 12, 13, 14, 15, 16, 17, 18, 19, 20, 21, 22, 23, 24, 25, 26, 27, 28, 29, 30, 31, 32, 33, 34, 35, 36, 37, 38, 39, 40, 41, 42, 43, 44, 45] [0, 1] rfl rfl rfl rfl (by decide) (fun v9 w9 hp9 => ?_)
  obtain ⟨rfl, z3, rfl, hk3, hs3⟩ := q_strike hk2 hs2 hp9
  refine fj_st (st' := .int 0 :: []) rfl ?_
  refine fj_if_ne (tgt := 822) C dL_law_790 (by decide) (fun h => absurd (by decide) h) (fun _ => ?_)
  refine fj_aload_n C 1 dL_law_793 rfl rfl ?_
  refine fj_iconst (v := 1) C dL_law_794 (by decide) ?_
  refine fj_iconst (v := (-1)) C dL_law_795 (by decide) ?_
  refine fj_callV (As := [.int 1, .int (-1)]) (rest := []) (wr := pw q1 q2 ty f g) C (d_X5_outcome l D ty t0 ad z3 gg u2 2 0 0 (M + 1) hk3.1.1 1 (-1)) (cwV 2 C.2.2.2.2.1 gL_law_X5_outcome rfl rfl rfl (by decide +kernel) ⟨Nat.le_of_ble_eq_true rfl, Nat.le_of_ble_eq_true rfl⟩) ⟨0, 5, _, _, fx_at0 _ _ _ _ _, rfl, rfl⟩ rfl (Nat.le_of_ble_eq_true rfl) dL_law_796 ⟨Nat.le_of_ble_eq_true rfl, Nat.le_of_ble_eq_true rfl⟩ [2, 3, 4, 5, 6, 7, 8, 9, 10, 11, 12, 13, 14, 15, 16, 17, 18, 19, 20, 21, 22, 23, 24, 25, 26, 27, 28, 29, 30, 31, 32, 33, 34, 35, 36, 37, 38, 39, 40, 41, 42, 43, 44, 45] [0, 1] rfl rfl rfl rfl (by decide) (fun v9 w9 hp9 => ?_)
  obtain ⟨z4, u4, hr4, rfl, rfl⟩ := q_out hk3 (k := 1) (N := (M + 1)) rfl (by omega) (by omega) (by omega) (Or.inl ⟨rfl, rfl⟩) hp9
  have hk4 := (rs_bk hr4).1
  have hs4 : ¬ z4 23 1 = 0 := by rw [(rs_bk hr4).2]; exact hs3
  have hv4 : z4 26 1 = (-1) := rs_str hr4 hs3
  refine fj_st (st' := .int (z4 26 1) :: []) rfl ?_
  refine fj_at (y := (-1)) hv4 ?_
  refine fj_iconst (v := (-1)) C dL_law_799 (by decide) ?_
  refine fj_icmp_ne (tgt := 822) C dL_law_800 (by decide) (fun h => absurd (by decide) h) (fun _ => ?_)
  refine fj_aload_n C 1 dL_law_803 rfl rfl ?_
  refine fj_bipush (v := 9) C dL_law_804 (by decide) ?_
  refine fj_sipush (v := 20000) C dL_law_806 (by decide) ?_
  refine fj_iconst (v := (-1)) C dL_law_809 (by decide) ?_
  refine fj_iconst (v := 1) C dL_law_810 (by decide) ?_
  refine fj_callV (As := [.int 9, .int 20000, .int (-1), .int 1]) (rest := []) (wr := pw q1 q2 ty f g) C (d_X5_holds l D ty t0 ad z4 gg u4 2 0 0 (M + 1) hk4.1.1 9 20000 (-1) 1) (cwV 4 C.2.2.2.2.1 gL_law_X5_holds rfl rfl rfl (by decide +kernel) ⟨Nat.le_of_ble_eq_true rfl, Nat.le_of_ble_eq_true rfl⟩) ⟨0, 5, _, _, fx_at0 _ _ _ _ _, rfl, rfl⟩ rfl (Nat.le_of_ble_eq_true rfl) dL_law_811 ⟨Nat.le_of_ble_eq_true rfl, Nat.le_of_ble_eq_true rfl⟩ [2, 3, 4, 5, 6, 7, 8, 9, 10, 11, 12, 13, 14, 15, 16, 17, 18, 19, 20, 21, 22, 23, 24, 25, 26, 27, 28, 29, 30, 31, 32, 33, 34, 35, 36, 37, 38, 39, 40, 41, 42, 43, 44, 45] [0, 1] rfl rfl rfl rfl (by decide) (fun v9 w9 hp9 => ?_)
  obtain ⟨z5, u5, y5, r5, hr5, hd5, rfl, rfl, hk5, he5⟩ := q_holds hk4 ⟨by decide, by decide⟩ ⟨by decide, by decide⟩ hp9
  have hs5 : ¬ z5 23 1 = 0 := by rw [he5]; exact hs4
  have hv5 : r5 = 1 := an_l hr5 hd5 (le_20 hk4).1 (Or.inr (Or.inl hs4))
  refine fj_st (st' := .int r5 :: []) rfl ?_
  refine fj_at (y := 1) hv5 ?_
  refine fj_iconst (v := 1) C dL_law_814 (by decide) ?_
  refine fj_icmp_ne (tgt := 822) C dL_law_815 (by decide) (fun h => absurd (by decide) h) (fun _ => ?_)
  refine fj_iconst (v := 1) C dL_law_818 (by decide) ?_
  refine fj_goto (tgt := 823) C dL_law_819 (by decide) ?_
  refine fj_istore (lv' := [(4, .int 1), (9, .int (nI M)), (1, .ref (ad 0)), (0, .ref (t0 1))]) C dL_law_823 (by decide) rfl ?_
  refine fj_iload C 0 dL_law_825 rfl ?_
  refine fj_if_eq (tgt := 862) C dL_law_827 (by decide) (fun h => absurd h (by decide)) (fun _ => ?_)
  refine fj_aload_n C 2 dL_law_830 rfl rfl ?_
  refine fj_iconst (v := 0) C dL_law_831 (by decide) ?_
  refine fj_iconst (v := (-1)) C dL_law_832 (by decide) ?_
  refine fj_callV (As := [.int 0, .int (-1)]) (rest := []) (wr := pw q1 q2 ty f g) C (d_X5_holdings l D ty t0 ad z5 gg y5 2 0 0 (M + 1) hk5.1.1 0 (-1)) (cwV 2 C.2.2.2.2.1 gL_law_X5_holdings rfl rfl rfl (by decide +kernel) ⟨Nat.le_of_ble_eq_true rfl, Nat.le_of_ble_eq_true rfl⟩) ⟨0, 5, _, _, fx_at0 _ _ _ _ _, rfl, rfl⟩ rfl (Nat.le_of_ble_eq_true rfl) dL_law_833 ⟨Nat.le_of_ble_eq_true rfl, Nat.le_of_ble_eq_true rfl⟩ [2, 3, 4, 5, 6, 7, 8, 9, 10, 11, 12, 13, 14, 15, 16, 17, 18, 19, 20, 21, 22, 23, 24, 25, 26, 27, 28, 29, 30, 31, 32, 33, 34, 35, 36, 37, 38, 39, 40, 41, 42, 43, 44, 45] [0, 1] rfl rfl rfl rfl (by decide) (fun v9 w9 hp9 => ?_)
  obtain ⟨z6, u6, hr6, rfl, rfl⟩ := q_hold hk5 (Or.inl rfl) hp9
  have hk6 := (rs_bk hr6).1
  have hs6 : ¬ z6 23 1 = 0 := by rw [(rs_bk hr6).2]; exact hs5
  have hv6 : nI (cnH z6 0 64) = 1 := by rw [(rs_cnH hr6 (le_20 hk5).1).1]; rfl
  refine fj_st (st' := .int (nI (cnH z6 0 64)) :: []) rfl ?_
  refine fj_at (y := 1) hv6 ?_
  refine fj_iconst (v := 1) C dL_law_836 (by decide) ?_
  refine fj_icmp_ne (tgt := 862) C dL_law_837 (by decide) (fun h => absurd (by decide) h) (fun _ => ?_)
  refine fj_aload_n C 2 dL_law_840 rfl rfl ?_
  refine fj_iconst (v := 1) C dL_law_841 (by decide) ?_
  refine fj_iconst (v := (-1)) C dL_law_842 (by decide) ?_
  refine fj_callV (As := [.int 1, .int (-1)]) (rest := []) (wr := pw q1 q2 ty f g) C (d_X5_holdings l D ty t0 ad z6 gg u6 2 0 0 (M + 1) hk6.1.1 1 (-1)) (cwV 2 C.2.2.2.2.1 gL_law_X5_holdings rfl rfl rfl (by decide +kernel) ⟨Nat.le_of_ble_eq_true rfl, Nat.le_of_ble_eq_true rfl⟩) ⟨0, 5, _, _, fx_at0 _ _ _ _ _, rfl, rfl⟩ rfl (Nat.le_of_ble_eq_true rfl) dL_law_843 ⟨Nat.le_of_ble_eq_true rfl, Nat.le_of_ble_eq_true rfl⟩ [2, 3, 4, 5, 6, 7, 8, 9, 10, 11, 12, 13, 14, 15, 16, 17, 18, 19, 20, 21, 22, 23, 24, 25, 26, 27, 28, 29, 30, 31, 32, 33, 34, 35, 36, 37, 38, 39, 40, 41, 42, 43, 44, 45] [0, 1] rfl rfl rfl rfl (by decide) (fun v9 w9 hp9 => ?_)
  obtain ⟨z7, u7, hr7, rfl, rfl⟩ := q_hold hk6 (Or.inr rfl) hp9
  have hk7 := (rs_bk hr7).1
  have hs7 : ¬ z7 23 1 = 0 := by rw [(rs_bk hr7).2]; exact hs6
  have hv7 : nI (cnH z7 1 64) = 0 := by rw [(rs_cnH hr7 (le_20 hk6).1).2]; rfl
  refine fj_st (st' := .int (nI (cnH z7 1 64)) :: []) rfl ?_
  refine fj_at (y := 0) hv7 ?_
  refine fj_if_ne (tgt := 862) C dL_law_846 (by decide) (fun h => absurd (by decide) h) (fun _ => ?_)
  refine fj_aload_n C 2 dL_law_849 rfl rfl ?_
  refine fj_iconst (v := 5) C dL_law_850 (by decide) ?_
  refine fj_callV (As := [.int 5]) (rest := []) (wr := pw q1 q2 ty f g) C (d_X5_count l D ty t0 ad z7 gg u7 2 0 0 (M + 1) hk7.1.1 5) (cwV 1 C.2.2.2.2.1 gL_law_X5_count rfl rfl rfl (by decide +kernel) ⟨Nat.le_of_ble_eq_true rfl, Nat.le_of_ble_eq_true rfl⟩) ⟨0, 5, _, _, fx_at0 _ _ _ _ _, rfl, rfl⟩ rfl (Nat.le_of_ble_eq_true rfl) dL_law_851 ⟨Nat.le_of_ble_eq_true rfl, Nat.le_of_ble_eq_true rfl⟩ [2, 3, 4, 5, 6, 7, 8, 9, 10, 11, 12, 13, 14, 15, 16, 17, 18, 19, 20, 21, 22, 23, 24, 25, 26, 27, 28, 29, 30, 31, 32, 33, 34, 35, 36, 37, 38, 39, 40, 41, 42, 43, 44, 45] [0, 1] rfl rfl rfl rfl (by decide) (fun v9 w9 hp9 => ?_)
  obtain ⟨rfl, z8, u8, rfl⟩ := q_count hk7 hs7 hp9
  refine fj_st (st' := .int 1 :: []) rfl ?_
  refine fj_iconst (v := 1) C dL_law_854 (by decide) ?_
  refine fj_icmp_ne (tgt := 862) C dL_law_855 (by decide) (fun h => absurd (by decide) h) (fun _ => ?_)
  refine fj_iconst (v := 1) C dL_law_858 (by decide) ?_
  refine fj_goto (tgt := 863) C dL_law_859 (by decide) ?_
  exact fj_lend C hr hlk dL_law_863 (Nat.le_of_ble_eq_true rfl) (Nat.le_of_ble_eq_true rfl)
