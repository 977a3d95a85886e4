/-- a byte of the text as the class keeps it, beside the same byte as the reference keeps it -/
def TXR (x y : Int32) : Prop := x = y ∨ (x < 0 ∧ 127 < y)
theorem bR_w (w : Int64) : TXR (vp_nar .byte (w.toInt32.toInt8.toInt32)) ((w &&& 255).toInt32) := by
  have hN : w.toInt = if 2 * w.toBitVec.toNat < 2 ^ 64 then (w.toBitVec.toNat : Int) else (w.toBitVec.toNat : Int) - ((2 ^ 64 : Nat) : Int) := BitVec.toInt_eq_toNat_cond _
  have hL : w.toBitVec.toNat < 2 ^ 64 := w.toBitVec.isLt
  have e1 : (vp_nar .byte (w.toInt32.toInt8.toInt32)).toInt = w.toInt.bmod 256 := by
    show ((w.toInt32.toInt8.toInt32).toInt8.toInt32).toInt = _
    rw [Int8.toInt_toInt32, Int32.toInt_toInt8, Int8.toInt_toInt32, Int32.toInt_toInt8, Int64.toInt_toInt32, Int.bmod_bmod_of_dvd (by decide), Int.bmod_bmod_of_dvd (by decide)]
  have e3 : (w &&& 255).toBitVec.toNat = w.toBitVec.toNat % 256 := by
    rw [Int64.toBitVec_and, BitVec.toNat_and, show (255 : Int64).toBitVec.toNat = 2 ^ 8 - 1 from rfl, Nat.and_two_pow_sub_one_eq_mod]
  have e4 : (w &&& 255).toInt = (w.toBitVec.toNat % 256 : Nat) := by
    have : (w &&& 255).toInt = if 2 * (w &&& 255).toBitVec.toNat < 2 ^ 64 then ((w &&& 255).toBitVec.toNat : Int) else ((w &&& 255).toBitVec.toNat : Int) - ((2 ^ 64 : Nat) : Int) := BitVec.toInt_eq_toNat_cond _
    rw [this, e3, if_pos (by omega)]
  have e2 : ((w &&& 255).toInt32).toInt = (w.toBitVec.toNat % 256 : Nat) := by
    rw [Int64.toInt_toInt32, e4]
    exact Int.bmod_eq_of_le (by omega) (by omega)
  have e5 : w.toInt.bmod 256 = if w.toBitVec.toNat % 256 < 128 then ((w.toBitVec.toNat % 256 : Nat) : Int) else ((w.toBitVec.toNat % 256 : Nat) : Int) - 256 := by
    have h : w.toInt % ((256 : Nat) : Int) = ((w.toBitVec.toNat % 256 : Nat) : Int) := by
      rw [hN]
      by_cases c : 2 * w.toBitVec.toNat < 2 ^ 64
      · rw [if_pos c]; omega
      · rw [if_neg c]; omega
    rw [Int.bmod_def, h]
    by_cases c : w.toBitVec.toNat % 256 < 128
    · rw [if_pos c, if_pos (by omega)]
    · rw [if_neg c, if_neg (by omega)]; rfl
  by_cases c : w.toBitVec.toNat % 256 < 128
  · exact Or.inl (Int32.toInt_inj.mp (by rw [e1, e2, e5, if_pos c]))
  · refine Or.inr ⟨Int32.lt_iff_toInt_lt.mpr ?_, Int32.lt_iff_toInt_lt.mpr ?_⟩
    · rw [e1, e5, if_neg c]; show _ < (0 : Int); omega
    · rw [e2]; show (127 : Int) < _; omega
theorem bR_u (u : Int64) (j : Nat) : TXR (byt u j) (byM u j) := bR_w _
theorem bR_ap (f f2 : Nat → Int32) (T : Nat) (u : Int64) (k : Nat) (h : ∀ j, j < T → TXR (f j) (f2 j)) : ∀ d j, j < T + d → TXR (apT f T u k d j) (apM f2 T u k d j) := by
  intro d
  induction d with
  | zero => intro j hj; exact h j hj
  | succ d ih =>
    intro j hj
    show TXR (upd (apT f T u k d) (T + d) (byt u (k - (d + 1))) j) (upd (apM f2 T u k d) (T + d) (byM u (k - (d + 1))) j)
    by_cases e : j = T + d
    · rw [e, upd_at, upd_at]; exact bR_u _ _
    · rw [upd_ne e, upd_ne e]; exact ih j (by omega)
theorem bR_eq {x y : Int32} (h : TXR x y) {k : Nat} (hk : k < 128) : x = nI k ↔ y = nI k := by
  rcases h with rfl | ⟨h1, h2⟩
  · exact Iff.rfl
  · have e := nI_toInt (n := k) (by omega)
    have h1' := Int32.lt_iff_toInt_lt.mp h1
    have h2' := Int32.lt_iff_toInt_lt.mp h2
    have z0 : (0 : Int32).toInt = 0 := rfl
    have z1 : (127 : Int32).toInt = 127 := rfl
    constructor
    · intro h; rw [h, e, z0] at h1'; omega
    · intro h; rw [h, e, z1] at h2'; omega
theorem bR_32 {x y : Int32} (h : TXR x y) : x = 32 ↔ y = 32 := bR_eq h (k := 32) (by decide)
theorem bR_in {x y : Int32} (h : TXR x y) {a b : Nat} (ha : a < 128) (hb : b < 128) : (nI a ≤ x ∧ x ≤ nI b) ↔ (nI a ≤ y ∧ y ≤ nI b) := by
  rcases h with rfl | ⟨h1, h2⟩
  · exact Iff.rfl
  · have h1' := Int32.lt_iff_toInt_lt.mp h1
    have h2' := Int32.lt_iff_toInt_lt.mp h2
    have z0 : (0 : Int32).toInt = 0 := rfl
    have z1 : (127 : Int32).toInt = 127 := rfl
    have ea := nI_toInt (n := a) (by omega)
    have eb := nI_toInt (n := b) (by omega)
    constructor
    · intro h; have := Int32.le_iff_toInt_le.mp h.1; omega
    · intro h; have := Int32.le_iff_toInt_le.mp h.2; omega

section TXT
variable {f f2 : Nat → Int32} {T : Nat}
/-- two texts of T bytes, one as the class keeps it, one as the reference does -/
def TXA (f f2 : Nat → Int32) (T : Nat) : Prop := ∀ j, j < T → TXR (f j) (f2 j)
theorem tA_bg (h : TXA f f2 T) {k : Nat} (hk : k < T) : bgT f k ↔ bgT f2 k := by
  unfold bgT
  rw [bR_32 (h k hk)]
  by_cases e : k = 0
  · simp [e]
  · rw [bR_32 (h (k - 1) (by omega))]
theorem tA_en (h : TXA f f2 T) {k z : Nat} : enT f T k z ↔ enT f2 T k z := by
  unfold enT
  constructor
  · rintro ⟨h1, h2, h3, h4⟩
    refine ⟨h1, h2, fun j a b e => h3 j a b ((bR_32 (h j (by omega))).mpr e), ?_⟩
    by_cases c : z = T
    · exact Or.inl c
    · exact h4.imp id (fun e => (bR_32 (h z (by omega))).mp e)
  · rintro ⟨h1, h2, h3, h4⟩
    refine ⟨h1, h2, fun j a b e => h3 j a b ((bR_32 (h j (by omega))).mp e), ?_⟩
    by_cases c : z = T
    · exact Or.inl c
    · exact h4.imp id (fun e => (bR_32 (h z (by omega))).mpr e)
theorem bR_dg {x y : Int32} (h : TXR x y) : (¬ x < 48 ∧ x ≤ 57) ↔ (¬ y < 48 ∧ y ≤ 57) := by
  rw [Int32.not_lt, Int32.not_lt]
  exact bR_in h (a := 48) (b := 57) (by decide) (by decide)
theorem tA_dg (h : TXA f f2 T) {k z : Nat} (hz : z ≤ T) : dgs f k z ↔ dgs f2 k z := by
  unfold dgs
  exact ⟨fun q j a b => (bR_dg (h j (by omega))).mp (q j a b), fun q j a b => (bR_dg (h j (by omega))).mpr (q j a b)⟩
theorem bR_pos {x y : Int32} (h : TXR x y) (h0 : 0 ≤ x) : x = y := by
  rcases h with h | ⟨h, _⟩
  · exact h
  · exact absurd h0 (Int32.not_le.mpr h)
theorem tA_nm (h : TXA f f2 T) {k z : Nat} (hz : z ≤ T) (hd : dgs f k z) : ∀ d, k + d ≤ z → num f k d = num f2 k d := by
  intro d
  induction d with
  | zero => intro _; rfl
  | succ d ih =>
    intro hk
    have e : f (k + d) = f2 (k + d) := bR_pos (h _ (by omega)) (Int32.le_trans (show (0 : Int32) ≤ 48 by decide) (Int32.not_lt.mp (hd (k + d) (by omega) (by omega)).1))
    show 10 * num f k d + f (k + d) - 48 = 10 * num f2 k d + f2 (k + d) - 48
    rw [ih (by omega), e]
theorem nm_le {k z : Nat} (hd : dgs f k z) : ∀ d, k + d ≤ z → d ≤ 5 → ∃ N, num f k d = nI N ∧ N < 10 ^ d := by
  intro d
  induction d with
  | zero => intro _ _; exact ⟨0, rfl, by decide⟩
  | succ d ih =>
    intro hk h5
    obtain ⟨N, e, hN⟩ := ih (by omega) (by omega)
    have q := hd (k + d) (by omega) (by omega)
    have q1 := Int32.le_iff_toInt_le.mp (Int32.not_lt.mp q.1)
    have q2 := Int32.le_iff_toInt_le.mp q.2
    have z1 : (48 : Int32).toInt = 48 := rfl
    have z2 : (57 : Int32).toInt = 57 := rfl
    have hp : 10 ^ d ≤ 10 ^ 4 := Nat.pow_le_pow_right (by decide) (by omega)
    have hs : 10 ^ (d + 1) = 10 ^ d * 10 := rfl
    obtain ⟨v, hv⟩ : ∃ v : Nat, (f (k + d)).toInt = v := ⟨(f (k + d)).toInt.toNat, by omega⟩
    refine ⟨10 * N + (v - 48), Int32.toInt_inj.mp ?_, by omega⟩
    show (10 * num f k d + f (k + d) - 48).toInt = _
    rw [nI_toInt (by omega), Int32.toInt_sub, Int32.toInt_add, Int32.toInt_mul, e, nI_toInt (by omega), hv, z1, show (10 : Int32).toInt = 10 from rfl]
    rw [show ((10 : Int) * N).bmod (2 ^ 32) = 10 * N from Int.bmod_eq_of_le (by omega) (by omega), show ((10 : Int) * N + v).bmod (2 ^ 32) = 10 * N + v from Int.bmod_eq_of_le (by omega) (by omega), Int.bmod_eq_of_le (by omega) (by omega)]
    omega
end TXT

/-- a word of d bytes as one number -/
def wN (v : Nat → Nat) : Nat → Nat
  | 0 => 0
  | d + 1 => wN v d * 256 + v d
theorem i64_in {a b : Int64} (h : a.toBitVec.toNat = b.toBitVec.toNat) : a = b := Int64.toBitVec_inj.mp (BitVec.eq_of_toNat_eq h)
theorem i64_of {n : Nat} (h : n < 2 ^ 63) : (Int64.ofNat n).toBitVec.toNat = n := by
  show (BitVec.ofNat 64 n).toNat = n
  rw [BitVec.toNat_ofNat]
  exact Nat.mod_eq_of_lt (by omega)
theorem wd_st {W v : Nat} (hW : W < 2 ^ 48) (hv : v < 256) : (Int64.ofNat W <<< ((8 : Int32).toInt64 &&& 63)) ||| (nI v).toInt64 = Int64.ofNat (W * 256 + v) := by
  have e8 : ((8 : Int32).toInt64 &&& 63) = 8 := by decide
  have ev : (nI v).toInt64 = Int64.ofNat v := Int64.toInt_inj.mp (by rw [Int32.toInt_toInt64, nI_toInt (by omega), Int64.toInt_ofNat_of_lt (by omega)])
  rw [e8, ev]
  refine i64_in ?_
  rw [i64_of (by omega), Int64.toBitVec_or, BitVec.toNat_or, i64_of (by omega)]
  have es : (Int64.ofNat W <<< (8 : Int64)).toBitVec.toNat = W <<< 8 := by
    show ((BitVec.ofNat 64 W) <<< 8).toNat = W <<< 8
    rw [BitVec.toNat_shiftLeft, BitVec.toNat_ofNat, Nat.mod_eq_of_lt (a := W) (by omega), Nat.shiftLeft_eq]
    exact Nat.mod_eq_of_lt (by omega)
  rw [es, ← Nat.shiftLeft_add_eq_or_of_lt (by omega), Nat.shiftLeft_eq]
theorem wd_nat {f : Nat → Int32} {k : Nat} {v : Nat → Nat} : ∀ d, d < 7 → (∀ j, j < d → f (k + j) = nI (v j) ∧ v j < 256) → wdw f k d = Int64.ofNat (wN v d) ∧ wN v d < 256 ^ d := by
  intro d
  induction d with
  | zero => intro _ _; exact ⟨rfl, show 0 < 256 ^ 0 from Nat.one_pos⟩
  | succ d ih =>
    intro hd h
    obtain ⟨e, hl⟩ := ih (by omega) (fun j hj => h j (by omega))
    obtain ⟨e1, h1⟩ := h d (by omega)
    have hp : 256 ^ d ≤ 256 ^ 5 := Nat.pow_le_pow_right (by decide) (by omega)
    refine ⟨?_, ?_⟩
    · show wdw f k d <<< ((8 : Int32).toInt64 &&& 63) ||| (f (k + d)).toInt64 = _
      rw [e, e1, wd_st (by omega) h1]
      rfl
    · show wN v d * 256 + v d < 256 ^ (d + 1)
      rw [Nat.pow_succ]; omega
theorem wd_cg {f g : Nat → Int32} {k : Nat} : ∀ d, (∀ j, j < d → f (k + j) = g j) → wdw f k d = wdw g 0 d := by
  intro d
  induction d with
  | zero => intro _; rfl
  | succ d ih =>
    intro h
    show wdw f k d <<< ((8 : Int32).toInt64 &&& 63) ||| (f (k + d)).toInt64 = wdw g 0 d <<< ((8 : Int32).toInt64 &&& 63) ||| (g (0 + d)).toInt64
    rw [ih (fun j hj => h j (by omega)), h d (by omega), Nat.zero_add]
theorem wd_g0 : ∀ i, i < 9 → wdw (fun j => sx_c i j) 0 (sx_len.getD i 0) = fm_g0 7 i := by decide +kernel
theorem g0_ij : ∀ i, i < 9 → ∀ j, j < 9 → fm_g0 7 i = fm_g0 7 j → i = j := by decide +kernel
theorem sx_lt : ∀ i, i < 9 → sx_len.getD i 0 < 7 ∧ ∀ j, j < sx_len.getD i 0 → 97 ≤ sx_c i j ∧ sx_c i j ≤ 122 := by decide +kernel
theorem g0_bk {d : Nat} {v : Nat → Nat} (hd : d < 7) (hv : ∀ j, j < d → 97 ≤ v j ∧ v j ≤ 122) (i : Nat) (hi : i < 9) (e : Int64.ofNat (wN v d) = fm_g0 7 i) (hl : wN v d < 2 ^ 48) : sx_len.getD i 0 = d ∧ ∀ j, j < d → nI (v j) = sx_c i j := by
  have e' : wN v d = (fm_g0 7 i).toBitVec.toNat := by rw [← e, i64_of (by omega)]
  rcases (show i = 0 ∨ i = 1 ∨ i = 2 ∨ i = 3 ∨ i = 4 ∨ i = 5 ∨ i = 6 ∨ i = 7 ∨ i = 8 by omega) with rfl | rfl | rfl | rfl | rfl | rfl | rfl | rfl | rfl
  · have e2 : wN v d = 6383461 := e'
    rcases (show d = 0 ∨ d = 1 ∨ d = 2 ∨ d = 3 ∨ d = 4 ∨ d = 5 ∨ d = 6 by omega) with rfl | rfl | rfl | rfl | rfl | rfl | rfl
    · simp only [wN] at e2
      omega
    · simp only [wN] at e2
      have b0 := hv 0 (by decide)
      omega
    · simp only [wN] at e2
      have b0 := hv 0 (by decide)
      have b1 := hv 1 (by decide)
      omega
    · simp only [wN] at e2
      have b0 := hv 0 (by decide)
      have b1 := hv 1 (by decide)
      have b2 := hv 2 (by decide)
      refine ⟨rfl, fun j hj => ?_⟩
      rcases (show j = 0 ∨ j = 1 ∨ j = 2 by omega) with rfl | rfl | rfl
      · rw [show v 0 = 97 by omega]; rfl
      · rw [show v 1 = 103 by omega]; rfl
      · rw [show v 2 = 101 by omega]; rfl
    · simp only [wN] at e2
      have b0 := hv 0 (by decide)
      have b1 := hv 1 (by decide)
      have b2 := hv 2 (by decide)
      have b3 := hv 3 (by decide)
      omega
    · simp only [wN] at e2
      have b0 := hv 0 (by decide)
      have b1 := hv 1 (by decide)
      have b2 := hv 2 (by decide)
      have b3 := hv 3 (by decide)
      have b4 := hv 4 (by decide)
      omega
    · simp only [wN] at e2
      have b0 := hv 0 (by decide)
      have b1 := hv 1 (by decide)
      have b2 := hv 2 (by decide)
      have b3 := hv 3 (by decide)
      have b4 := hv 4 (by decide)
      have b5 := hv 5 (by decide)
      omega
  · have e2 : wN v d = 1818850917 := e'
    rcases (show d = 0 ∨ d = 1 ∨ d = 2 ∨ d = 3 ∨ d = 4 ∨ d = 5 ∨ d = 6 by omega) with rfl | rfl | rfl | rfl | rfl | rfl | rfl
    · simp only [wN] at e2
      omega
    · simp only [wN] at e2
      have b0 := hv 0 (by decide)
      omega
    · simp only [wN] at e2
      have b0 := hv 0 (by decide)
      have b1 := hv 1 (by decide)
      omega
    · simp only [wN] at e2
      have b0 := hv 0 (by decide)
      have b1 := hv 1 (by decide)
      have b2 := hv 2 (by decide)
      omega
    · simp only [wN] at e2
      have b0 := hv 0 (by decide)
      have b1 := hv 1 (by decide)
      have b2 := hv 2 (by decide)
      have b3 := hv 3 (by decide)
      refine ⟨rfl, fun j hj => ?_⟩
      rcases (show j = 0 ∨ j = 1 ∨ j = 2 ∨ j = 3 by omega) with rfl | rfl | rfl | rfl
      · rw [show v 0 = 108 by omega]; rfl
      · rw [show v 1 = 105 by omega]; rfl
      · rw [show v 2 = 118 by omega]; rfl
      · rw [show v 3 = 101 by omega]; rfl
    · simp only [wN] at e2
      have b0 := hv 0 (by decide)
      have b1 := hv 1 (by decide)
      have b2 := hv 2 (by decide)
      have b3 := hv 3 (by decide)
      have b4 := hv 4 (by decide)
      omega
    · simp only [wN] at e2
      have b0 := hv 0 (by decide)
      have b1 := hv 1 (by decide)
      have b2 := hv 2 (by decide)
      have b3 := hv 3 (by decide)
      have b4 := hv 4 (by decide)
      have b5 := hv 5 (by decide)
      omega
  · have e2 : wN v d = 6775152 := e'
    rcases (show d = 0 ∨ d = 1 ∨ d = 2 ∨ d = 3 ∨ d = 4 ∨ d = 5 ∨ d = 6 by omega) with rfl | rfl | rfl | rfl | rfl | rfl | rfl
    · simp only [wN] at e2
      omega
    · simp only [wN] at e2
      have b0 := hv 0 (by decide)
      omega
    · simp only [wN] at e2
      have b0 := hv 0 (by decide)
      have b1 := hv 1 (by decide)
      omega
    · simp only [wN] at e2
      have b0 := hv 0 (by decide)
      have b1 := hv 1 (by decide)
      have b2 := hv 2 (by decide)
      refine ⟨rfl, fun j hj => ?_⟩
      rcases (show j = 0 ∨ j = 1 ∨ j = 2 by omega) with rfl | rfl | rfl
      · rw [show v 0 = 103 by omega]; rfl
      · rw [show v 1 = 97 by omega]; rfl
      · rw [show v 2 = 112 by omega]; rfl
    · simp only [wN] at e2
      have b0 := hv 0 (by decide)
      have b1 := hv 1 (by decide)
      have b2 := hv 2 (by decide)
      have b3 := hv 3 (by decide)
      omega
    · simp only [wN] at e2
      have b0 := hv 0 (by decide)
      have b1 := hv 1 (by decide)
      have b2 := hv 2 (by decide)
      have b3 := hv 3 (by decide)
      have b4 := hv 4 (by decide)
      omega
    · simp only [wN] at e2
      have b0 := hv 0 (by decide)
      have b1 := hv 1 (by decide)
      have b2 := hv 2 (by decide)
      have b3 := hv 3 (by decide)
      have b4 := hv 4 (by decide)
      have b5 := hv 5 (by decide)
      omega
  · have e2 : wN v d = 123611028744040 := e'
    rcases (show d = 0 ∨ d = 1 ∨ d = 2 ∨ d = 3 ∨ d = 4 ∨ d = 5 ∨ d = 6 by omega) with rfl | rfl | rfl | rfl | rfl | rfl | rfl
    · simp only [wN] at e2
      omega
    · simp only [wN] at e2
      have b0 := hv 0 (by decide)
      omega
    · simp only [wN] at e2
      have b0 := hv 0 (by decide)
      have b1 := hv 1 (by decide)
      omega
    · simp only [wN] at e2
      have b0 := hv 0 (by decide)
      have b1 := hv 1 (by decide)
      have b2 := hv 2 (by decide)
      omega
    · simp only [wN] at e2
      have b0 := hv 0 (by decide)
      have b1 := hv 1 (by decide)
      have b2 := hv 2 (by decide)
      have b3 := hv 3 (by decide)
      omega
    · simp only [wN] at e2
      have b0 := hv 0 (by decide)
      have b1 := hv 1 (by decide)
      have b2 := hv 2 (by decide)
      have b3 := hv 3 (by decide)
      have b4 := hv 4 (by decide)
      omega
    · simp only [wN] at e2
      have b0 := hv 0 (by decide)
      have b1 := hv 1 (by decide)
      have b2 := hv 2 (by decide)
      have b3 := hv 3 (by decide)
      have b4 := hv 4 (by decide)
      have b5 := hv 5 (by decide)
      refine ⟨rfl, fun j hj => ?_⟩
      rcases (show j = 0 ∨ j = 1 ∨ j = 2 ∨ j = 3 ∨ j = 4 ∨ j = 5 by omega) with rfl | rfl | rfl | rfl | rfl | rfl
      · rw [show v 0 = 112 by omega]; rfl
      · rw [show v 1 = 108 by omega]; rfl
      · rw [show v 2 = 111 by omega]; rfl
      · rw [show v 3 = 117 by omega]; rfl
      · rw [show v 4 = 103 by omega]; rfl
      · rw [show v 5 = 104 by omega]; rfl
  · have e2 : wN v d = 1952805485 := e'
    rcases (show d = 0 ∨ d = 1 ∨ d = 2 ∨ d = 3 ∨ d = 4 ∨ d = 5 ∨ d = 6 by omega) with rfl | rfl | rfl | rfl | rfl | rfl | rfl
    · simp only [wN] at e2
      omega
    · simp only [wN] at e2
      have b0 := hv 0 (by decide)
      omega
    · simp only [wN] at e2
      have b0 := hv 0 (by decide)
      have b1 := hv 1 (by decide)
      omega
    · simp only [wN] at e2
      have b0 := hv 0 (by decide)
      have b1 := hv 1 (by decide)
      have b2 := hv 2 (by decide)
      omega
    · simp only [wN] at e2
      have b0 := hv 0 (by decide)
      have b1 := hv 1 (by decide)
      have b2 := hv 2 (by decide)
      have b3 := hv 3 (by decide)
      refine ⟨rfl, fun j hj => ?_⟩
      rcases (show j = 0 ∨ j = 1 ∨ j = 2 ∨ j = 3 by omega) with rfl | rfl | rfl | rfl
      · rw [show v 0 = 116 by omega]; rfl
      · rw [show v 1 = 101 by omega]; rfl
      · rw [show v 2 = 114 by omega]; rfl
      · rw [show v 3 = 109 by omega]; rfl
    · simp only [wN] at e2
      have b0 := hv 0 (by decide)
      have b1 := hv 1 (by decide)
      have b2 := hv 2 (by decide)
      have b3 := hv 3 (by decide)
      have b4 := hv 4 (by decide)
      omega
    · simp only [wN] at e2
      have b0 := hv 0 (by decide)
      have b1 := hv 1 (by decide)
      have b2 := hv 2 (by decide)
      have b3 := hv 3 (by decide)
      have b4 := hv 4 (by decide)
      have b5 := hv 5 (by decide)
      omega
  · have e2 : wN v d = 1768189029 := e'
    rcases (show d = 0 ∨ d = 1 ∨ d = 2 ∨ d = 3 ∨ d = 4 ∨ d = 5 ∨ d = 6 by omega) with rfl | rfl | rfl | rfl | rfl | rfl | rfl
    · simp only [wN] at e2
      omega
    · simp only [wN] at e2
      have b0 := hv 0 (by decide)
      omega
    · simp only [wN] at e2
      have b0 := hv 0 (by decide)
      have b1 := hv 1 (by decide)
      omega
    · simp only [wN] at e2
      have b0 := hv 0 (by decide)
      have b1 := hv 1 (by decide)
      have b2 := hv 2 (by decide)
      omega
    · simp only [wN] at e2
      have b0 := hv 0 (by decide)
      have b1 := hv 1 (by decide)
      have b2 := hv 2 (by decide)
      have b3 := hv 3 (by decide)
      refine ⟨rfl, fun j hj => ?_⟩
      rcases (show j = 0 ∨ j = 1 ∨ j = 2 ∨ j = 3 by omega) with rfl | rfl | rfl | rfl
      · rw [show v 0 = 105 by omega]; rfl
      · rw [show v 1 = 100 by omega]; rfl
      · rw [show v 2 = 108 by omega]; rfl
      · rw [show v 3 = 101 by omega]; rfl
    · simp only [wN] at e2
      have b0 := hv 0 (by decide)
      have b1 := hv 1 (by decide)
      have b2 := hv 2 (by decide)
      have b3 := hv 3 (by decide)
      have b4 := hv 4 (by decide)
      omega
    · simp only [wN] at e2
      have b0 := hv 0 (by decide)
      have b1 := hv 1 (by decide)
      have b2 := hv 2 (by decide)
      have b3 := hv 3 (by decide)
      have b4 := hv 4 (by decide)
      have b5 := hv 5 (by decide)
      omega
  · have e2 : wN v d = 123636629792114 := e'
    rcases (show d = 0 ∨ d = 1 ∨ d = 2 ∨ d = 3 ∨ d = 4 ∨ d = 5 ∨ d = 6 by omega) with rfl | rfl | rfl | rfl | rfl | rfl | rfl
    · simp only [wN] at e2
      omega
    · simp only [wN] at e2
      have b0 := hv 0 (by decide)
      omega
    · simp only [wN] at e2
      have b0 := hv 0 (by decide)
      have b1 := hv 1 (by decide)
      omega
    · simp only [wN] at e2
      have b0 := hv 0 (by decide)
      have b1 := hv 1 (by decide)
      have b2 := hv 2 (by decide)
      omega
    · simp only [wN] at e2
      have b0 := hv 0 (by decide)
      have b1 := hv 1 (by decide)
      have b2 := hv 2 (by decide)
      have b3 := hv 3 (by decide)
      omega
    · simp only [wN] at e2
      have b0 := hv 0 (by decide)
      have b1 := hv 1 (by decide)
      have b2 := hv 2 (by decide)
      have b3 := hv 3 (by decide)
      have b4 := hv 4 (by decide)
      omega
    · simp only [wN] at e2
      have b0 := hv 0 (by decide)
      have b1 := hv 1 (by decide)
      have b2 := hv 2 (by decide)
      have b3 := hv 3 (by decide)
      have b4 := hv 4 (by decide)
      have b5 := hv 5 (by decide)
      refine ⟨rfl, fun j hj => ?_⟩
      rcases (show j = 0 ∨ j = 1 ∨ j = 2 ∨ j = 3 ∨ j = 4 ∨ j = 5 by omega) with rfl | rfl | rfl | rfl | rfl | rfl
      · rw [show v 0 = 112 by omega]; rfl
      · rw [show v 1 = 114 by omega]; rfl
      · rw [show v 2 = 101 by omega]; rfl
      · rw [show v 3 = 102 by omega]; rfl
      · rw [show v 4 = 101 by omega]; rfl
      · rw [show v 5 = 114 by omega]; rfl
  · have e2 : wN v d = 1836020596 := e'
    rcases (show d = 0 ∨ d = 1 ∨ d = 2 ∨ d = 3 ∨ d = 4 ∨ d = 5 ∨ d = 6 by omega) with rfl | rfl | rfl | rfl | rfl | rfl | rfl
    · simp only [wN] at e2
      omega
    · simp only [wN] at e2
      have b0 := hv 0 (by decide)
      omega
    · simp only [wN] at e2
      have b0 := hv 0 (by decide)
      have b1 := hv 1 (by decide)
      omega
    · simp only [wN] at e2
      have b0 := hv 0 (by decide)
      have b1 := hv 1 (by decide)
      have b2 := hv 2 (by decide)
      omega
    · simp only [wN] at e2
      have b0 := hv 0 (by decide)
      have b1 := hv 1 (by decide)
      have b2 := hv 2 (by decide)
      have b3 := hv 3 (by decide)
      refine ⟨rfl, fun j hj => ?_⟩
      rcases (show j = 0 ∨ j = 1 ∨ j = 2 ∨ j = 3 by omega) with rfl | rfl | rfl | rfl
      · rw [show v 0 = 109 by omega]; rfl
      · rw [show v 1 = 111 by omega]; rfl
      · rw [show v 2 = 115 by omega]; rfl
      · rw [show v 3 = 116 by omega]; rfl
    · simp only [wN] at e2
      have b0 := hv 0 (by decide)
      have b1 := hv 1 (by decide)
      have b2 := hv 2 (by decide)
      have b3 := hv 3 (by decide)
      have b4 := hv 4 (by decide)
      omega
    · simp only [wN] at e2
      have b0 := hv 0 (by decide)
      have b1 := hv 1 (by decide)
      have b2 := hv 2 (by decide)
      have b3 := hv 3 (by decide)
      have b4 := hv 4 (by decide)
      have b5 := hv 5 (by decide)
      omega
  · have e2 : wN v d = 1651076708 := e'
    rcases (show d = 0 ∨ d = 1 ∨ d = 2 ∨ d = 3 ∨ d = 4 ∨ d = 5 ∨ d = 6 by omega) with rfl | rfl | rfl | rfl | rfl | rfl | rfl
    · simp only [wN] at e2
      omega
    · simp only [wN] at e2
      have b0 := hv 0 (by decide)
      omega
    · simp only [wN] at e2
      have b0 := hv 0 (by decide)
      have b1 := hv 1 (by decide)
      omega
    · simp only [wN] at e2
      have b0 := hv 0 (by decide)
      have b1 := hv 1 (by decide)
      have b2 := hv 2 (by decide)
      omega
    · simp only [wN] at e2
      have b0 := hv 0 (by decide)
      have b1 := hv 1 (by decide)
      have b2 := hv 2 (by decide)
      have b3 := hv 3 (by decide)
      refine ⟨rfl, fun j hj => ?_⟩
      rcases (show j = 0 ∨ j = 1 ∨ j = 2 ∨ j = 3 by omega) with rfl | rfl | rfl | rfl
      · rw [show v 0 = 98 by omega]; rfl
      · rw [show v 1 = 105 by omega]; rfl
      · rw [show v 2 = 110 by omega]; rfl
      · rw [show v 3 = 100 by omega]; rfl
    · simp only [wN] at e2
      have b0 := hv 0 (by decide)
      have b1 := hv 1 (by decide)
      have b2 := hv 2 (by decide)
      have b3 := hv 3 (by decide)
      have b4 := hv 4 (by decide)
      omega
    · simp only [wN] at e2
      have b0 := hv 0 (by decide)
      have b1 := hv 1 (by decide)
      have b2 := hv 2 (by decide)
      have b3 := hv 3 (by decide)
      have b4 := hv 4 (by decide)
      have b5 := hv 5 (by decide)
      omega

theorem fo_sp (h : Nat → Int64) (u : Int64) : ∀ n, (fo h u n = -1 ∧ ∀ i, i < n → h i ≠ u) ∨ ∃ i, i < n ∧ h i = u ∧ fo h u n = nI i := by
  intro n
  induction n with
  | zero => exact Or.inl ⟨rfl, fun i hi => absurd hi (Nat.not_lt_zero i)⟩
  | succ n ih =>
    show ((if h n = u then nI n else fo h u n) = -1 ∧ _) ∨ ∃ i, i < n + 1 ∧ h i = u ∧ (if h n = u then nI n else fo h u n) = nI i
    by_cases c : h n = u
    · rw [if_pos c]; exact Or.inr ⟨n, by omega, c, rfl⟩
    · rw [if_neg c]
      rcases ih with ⟨h1, h2⟩ | ⟨i, h1, h2, h3⟩
      · refine Or.inl ⟨h1, fun i hi => ?_⟩
        by_cases q : i = n
        · rw [q]; exact c
        · exact h2 i (by omega)
      · exact Or.inr ⟨i, by omega, h2, h3⟩
section TXW
variable {f f2 : Nat → Int32} {T : Nat}
theorem wr_to (h : TXA f f2 T) {i k z : Nat} (hi : i < 9) (hk : k ≤ z) (hz : z ≤ T) (hw : WRT f i k z) : LTR f2 k z ∧ wdw f2 k (z - k) = fm_g0 7 i := by
  obtain ⟨h1, h2⟩ := hw
  obtain ⟨l1, l2⟩ := sx_lt i hi
  have hf : ∀ j, j < z - k → f2 (k + j) = sx_c i j := by
    intro j hj
    have e := h2 j (by omega)
    rw [← e]
    refine (bR_pos (h (k + j) (by omega)) ?_).symm
    rw [e]
    exact Int32.le_trans (show (0 : Int32) ≤ 97 by decide) (l2 j (by omega)).1
  refine ⟨⟨by omega, fun j hj => ?_⟩, ?_⟩
  · rw [hf j hj]; exact l2 j (by omega)
  · rw [wd_cg (g := fun j => sx_c i j) (z - k) hf, ← h1, wd_g0 i hi]
theorem wr_of (h : TXA f f2 T) {i k z : Nat} (hi : i < 9) (hk : k ≤ z) (hz : z ≤ T) (hl : LTR f2 k z) (hw : wdw f2 k (z - k) = fm_g0 7 i) : WRT f i k z := by
  obtain ⟨h7, hb⟩ := hl
  have hq : ∀ j, j < z - k → ∃ v : Nat, f2 (k + j) = nI v ∧ 97 ≤ v ∧ v ≤ 122 := by
    intro j hj
    obtain ⟨q1, q2⟩ := hb j hj
    have p1 := Int32.le_iff_toInt_le.mp q1
    have p2 := Int32.le_iff_toInt_le.mp q2
    have z1 : (97 : Int32).toInt = 97 := rfl
    have z2 : (122 : Int32).toInt = 122 := rfl
    refine ⟨(f2 (k + j)).toInt.toNat, Int32.toInt_inj.mp ?_, by omega, by omega⟩
    rw [nI_toInt (by omega)]; omega
  have hv : ∃ v : Nat → Nat, ∀ j, j < z - k → f2 (k + j) = nI (v j) ∧ 97 ≤ v j ∧ v j ≤ 122 := ⟨fun j => if hj : j < z - k then (hq j hj).choose else 0, fun j hj => by
    show f2 (k + j) = nI (if hj : j < z - k then (hq j hj).choose else 0) ∧ 97 ≤ (if hj : j < z - k then (hq j hj).choose else 0) ∧ (if hj : j < z - k then (hq j hj).choose else 0) ≤ 122
    rw [dif_pos hj]; exact (hq j hj).choose_spec⟩
  obtain ⟨v, hv⟩ := hv
  obtain ⟨e1, e2⟩ := wd_nat (f := f2) (k := k) (v := v) (z - k) h7 (fun j hj => ⟨(hv j hj).1, by have := (hv j hj).2.2; omega⟩)
  have hp : 256 ^ (z - k) ≤ 256 ^ 6 := Nat.pow_le_pow_right (by decide) (by omega)
  obtain ⟨g1, g2⟩ := g0_bk h7 (fun j hj => (hv j hj).2) i hi (by rw [← e1, hw]) (by omega)
  refine ⟨g1, fun j hj => ?_⟩
  have e := (hv j (by omega)).1
  rw [← g2 j (by omega), ← e]
  have t := h (k + j) (by omega)
  exact ((bR_eq t (k := v j) (by have := (hv j (by omega)).2.2; omega)).mpr e).trans e.symm
theorem md_wd (h : TXA f f2 T) {k z : Nat} {r : Int32} (hk : k ≤ z) (hz : z ≤ T) (hm : MDR f2 (fm_g0 7) k z r) : WDR f k z r := by
  rcases hm with ⟨hl, e⟩ | ⟨hl, e⟩
  · rcases fo_sp (fm_g0 7) (wdw f2 k (z - k)) 9 with ⟨h1, h2⟩ | ⟨i, h1, h2, h3⟩
    · exact Or.inr ⟨fun i hi w => h2 i hi (wr_to h hi hk hz w).2.symm, e.trans h1⟩
    · refine Or.inl ⟨i, h1, wr_of h h1 hk hz hl h2.symm, fun j hj w => ?_, e.trans h3⟩
      have := g0_ij j (by omega) i h1 (((wr_to h (by omega) hk hz w).2).symm.trans h2.symm)
      omega
  · exact Or.inr ⟨fun i hi w => hl (wr_to h hi hk hz w).1, e⟩
theorem wd_in {k z : Nat} {r : Int32} (h : WDR f k z r) : r = -1 ∨ ∃ j, j < 9 ∧ r = nI j := by
  rcases h with ⟨i, h1, _, _, e⟩ | ⟨_, e⟩
  · exact Or.inr ⟨i, h1, e⟩
  · exact Or.inl e
theorem wd_dt {k z : Nat} {r r2 : Int32} (h : WDR f k z r) (h2 : WDR f k z r2) : r = r2 := by
  rcases h with ⟨i, a1, a2, a3, e⟩ | ⟨a1, e⟩
  · rcases h2 with ⟨j, b1, b2, b3, e2⟩ | ⟨b1, e2⟩
    · have : i = j := by
        rcases Nat.lt_trichotomy i j with q | q | q
        · exact absurd a2 (b3 i q)
        · exact q
        · exact absurd b2 (a3 j q)
      rw [e, e2, this]
    · exact absurd a2 (b1 i a1)
  · rcases h2 with ⟨j, b1, b2, b3, e2⟩ | ⟨b1, e2⟩
    · exact absurd b2 (a1 j b1)
    · rw [e, e2]
end TXW
section TXD
variable {f f2 : Nat → Int32} {T : Nat}
theorem nI_mm {j : Nat} (h : j < 2 ^ 31) : ¬ nI j = -1 := fun e => by
  have := congrArg Int32.toInt e
  rw [nI_toInt h, show (-1 : Int32).toInt = -1 from rfl] at this; omega
theorem nI_nn {j : Nat} (h : j < 2 ^ 31) : ¬ nI j < 0 := fun e => by
  have := Int32.lt_iff_toInt_lt.mp e
  rw [nI_toInt h, show (0 : Int32).toInt = 0 from rfl] at this; omega
/-- what a reading keeps: the word that waits, and the row -/
def rdI (R : Nat → Int32) (aw : Int32) : Prop := (aw = -1 ∨ ∃ j, j < 9 ∧ aw = nI j) ∧ ∀ i, i < 9 → R i = -1 ∨ ∃ N, N < 100000 ∧ R i = nI N
theorem rs_in : ∀ k, k ≤ T → ∀ R aw, RDS f T k R aw → rdI R aw := by
  intro k
  induction k with
  | zero => intro _ R aw h; exact ⟨Or.inl h.2, fun i hi => Or.inl (h.1 i hi)⟩
  | succ k ih =>
    intro hk R aw h
    obtain ⟨R0, aw0, h0, ⟨_, rfl, rfl⟩ | ⟨_, z, hz, ⟨_, hw, _, _, rfl⟩ | ⟨hn, hd, h5, rfl, rfl⟩⟩⟩ := h
    · exact ih (by omega) _ _ h0
    · exact ⟨wd_in hw, (ih (by omega) _ _ h0).2⟩
    · obtain ⟨q1, q2⟩ := ih (by omega) _ _ h0
      refine ⟨Or.inl rfl, fun i hi => ?_⟩
      obtain ⟨N, e, hN⟩ := nm_le hd (z - k) (by have := hz.1; omega) h5
      have hp : 10 ^ (z - k) ≤ 10 ^ 5 := Nat.pow_le_pow_right (by decide) h5
      by_cases c : i = aw0.toNatClampNeg
      · rw [c, upd_at]; exact Or.inr ⟨N, by omega, e⟩
      · rw [upd_ne c]; exact q2 i hi
theorem rdI_lt {R : Nat → Int32} {aw : Int32} (h : rdI R aw) : aw < 0 ↔ aw = -1 := by
  rcases h.1 with rfl | ⟨j, hj, rfl⟩
  · exact ⟨fun _ => rfl, fun _ => by decide⟩
  · exact ⟨fun e => absurd e (nI_nn (by omega)), fun e => absurd e (nI_mm (by omega))⟩
theorem rdI_at {R : Nat → Int32} {aw : Int32} (h : rdI R aw) {i : Nat} (hi : i < 9) : R i < 0 ↔ R i = -1 := by
  rcases h.2 i hi with e | ⟨N, hN, e⟩
  · rw [e]; exact ⟨fun _ => rfl, fun _ => by decide⟩
  · rw [e]; exact ⟨fun e => absurd e (nI_nn (by omega)), fun e => absurd e (nI_mm (by omega))⟩
theorem wd_cl {k z : Nat} {r : Int32} (h : WDR f k z r) (hn : ¬ r = -1) : ∃ j, j < 9 ∧ r = nI j ∧ r.toNatClampNeg = j := by
  rcases wd_in h with e | ⟨j, hj, e⟩
  · exact absurd e hn
  · exact ⟨j, hj, e, by rw [e, nI_clamp (by omega)]⟩
theorem wd_lt {k z : Nat} {r : Int32} (h : WDR f k z r) : r < 0 ↔ r = -1 := by
  rcases wd_in h with rfl | ⟨j, hj, rfl⟩
  · exact ⟨fun _ => rfl, fun _ => by decide⟩
  · exact ⟨fun e => absurd e (nI_nn (by omega)), fun e => absurd e (nI_mm (by omega))⟩
theorem ms_rs (h : TXA f f2 T) : ∀ k, k ≤ T → ∀ R aw, MDS f2 (fm_g0 7) T k R aw → RDS f T k R aw := by
  intro k
  induction k with
  | zero => intro _ R aw h; exact h
  | succ k ih =>
    intro hk R aw hm
    obtain ⟨R0, aw0, h0, c⟩ := hm
    have r0 := ih (by omega) _ _ h0
    have q := rs_in k (by omega) _ _ r0
    refine ⟨R0, aw0, r0, ?_⟩
    rcases c with ⟨hb, e1, e2⟩ | ⟨hb, z, hz, ⟨ha, hw, hn, hr, e⟩ | ⟨hn, hd, h5, e1, e2⟩⟩
    · exact Or.inl ⟨fun c => hb ((tA_bg h (by omega)).mp c), e1, e2⟩
    · have hw' := md_wd h hz.1 hz.2.1 hw
      have hn' : ¬ aw = -1 := fun c => hn ((wd_lt hw').mpr c)
      obtain ⟨j, hj, _, ej⟩ := wd_cl hw' hn'
      refine Or.inr ⟨(tA_bg h (by omega)).mpr hb, z, (tA_en h).mpr hz, Or.inl ⟨(rdI_lt q).mp ha, hw', hn', ?_, e⟩⟩
      rw [ej] at hr ⊢
      exact (rdI_at q hj).mp hr
    · have hd' := (tA_dg h hz.2.1).mpr hd
      refine Or.inr ⟨(tA_bg h (by omega)).mpr hb, z, (tA_en h).mpr hz, Or.inr ⟨fun c => hn ((rdI_lt q).mpr c), hd', h5, ?_, e2⟩⟩
      rw [tA_nm h hz.2.1 hd' (z - k) (by have := hz.1; omega)]; exact e1
theorem me_re (h : TXA f f2 T) {k : Nat} (hk : k < T) {c : Int32} (hm : MDE f2 (fm_g0 7) T k c) : RDE f T k c := by
  obtain ⟨R, aw, h0, hb, z, hz, e⟩ := hm
  have r0 := ms_rs h k (by omega) _ _ h0
  have q := rs_in k (by omega) _ _ r0
  refine ⟨R, aw, r0, (tA_bg h hk).mpr hb, z, (tA_en h).mpr hz, ?_⟩
  rcases e with ⟨ha, ⟨r, hr, rfl, hc⟩ | ⟨r, hr, hn, hR, hc⟩⟩ | ⟨ha, e⟩
  · refine Or.inl ⟨(rdI_lt q).mp ha, Or.inl ⟨?_, hc⟩⟩
    rcases md_wd h hz.1 hz.2.1 hr with ⟨i, hi, _, _, e⟩ | ⟨e, _⟩
    · exact absurd e.symm (nI_mm (by omega))
    · exact e
  · have hw := md_wd h hz.1 hz.2.1 hr
    have hn' : ¬ r = -1 := fun c => hn ((wd_lt hw).mpr c)
    obtain ⟨j, hj, _, ej⟩ := wd_cl hw hn'
    refine Or.inl ⟨(rdI_lt q).mp ha, Or.inr ⟨r, hw, hn', fun c => hR ?_, hc⟩⟩
    rw [ej] at c ⊢
    exact (rdI_at q hj).mpr c
  · refine Or.inr ⟨fun c => ha ((rdI_lt q).mpr c), ?_⟩
    rcases e with ⟨hd, hc⟩ | ⟨hd, h5, hc⟩
    · exact Or.inl ⟨fun d => hd ((tA_dg h hz.2.1).mp d), hc⟩
    · exact Or.inr ⟨(tA_dg h hz.2.1).mpr hd, h5, hc⟩
theorem mp_rp (h : TXA f f2 T) {R : Nat → Int32} {fa c : Int32} (hm : MDP f2 (fm_g0 7) T R fa c) : RDP f T R fa c := by
  rcases hm with ⟨h1, h2⟩ | ⟨⟨aw, h1, h3⟩, h2⟩ | ⟨k, hk, h1, h2⟩
  · exact Or.inl ⟨ms_rs h T (Nat.le_refl _) _ _ h1, h2⟩
  · have r := ms_rs h T (Nat.le_refl _) _ _ h1
    exact Or.inr (Or.inl ⟨⟨aw, r, fun e => h3 ((rdI_lt (rs_in T (Nat.le_refl _) _ _ r)).mpr e)⟩, h2⟩)
  · exact Or.inr (Or.inr ⟨k, hk, me_re h hk h1, h2⟩)
theorem en_dt {k z z2 : Nat} (h : enT f T k z) (h2 : enT f T k z2) : z = z2 := by
  obtain ⟨a1, a2, a3, a4⟩ := h
  obtain ⟨b1, b2, b3, b4⟩ := h2
  rcases Nat.lt_trichotomy z z2 with q | q | q
  · rcases a4 with e | e
    · omega
    · exact absurd e (b3 z a1 q)
  · exact q
  · rcases b4 with e | e
    · omega
    · exact absurd e (a3 z2 b1 q)
theorem rs_dt : ∀ k, ∀ R aw R2 aw2, RDS f T k R aw → RDS f T k R2 aw2 → aw = aw2 ∧ ∀ i, i < 9 → R i = R2 i := by
  intro k
  induction k with
  | zero => intro R aw R2 aw2 h h2; exact ⟨h.2.trans h2.2.symm, fun i hi => (h.1 i hi).trans (h2.1 i hi).symm⟩
  | succ k ih =>
    intro R aw R2 aw2 h h2
    obtain ⟨R0, aw0, h0, c⟩ := h
    obtain ⟨R02, aw02, h02, c2⟩ := h2
    obtain ⟨rfl, eR⟩ := ih _ _ _ _ h0 h02
    rcases c with ⟨hb, rfl, rfl⟩ | ⟨hb, z, hz, ⟨ha, hw, hn, hr, rfl⟩ | ⟨hn, hd, h5, rfl, rfl⟩⟩
    · rcases c2 with ⟨_, rfl, rfl⟩ | ⟨hb2, _⟩
      · exact ⟨rfl, eR⟩
      · exact absurd hb2 hb
    · rcases c2 with ⟨hb2, _⟩ | ⟨_, z2, hz2, ⟨_, hw2, _, _, rfl⟩ | ⟨hn2, _⟩⟩
      · exact absurd hb hb2
      · cases en_dt hz hz2
        exact ⟨wd_dt hw hw2, eR⟩
      · exact absurd ha hn2
    · rcases c2 with ⟨hb2, _⟩ | ⟨_, z2, hz2, ⟨ha2, _⟩ | ⟨_, _, _, rfl, rfl⟩⟩
      · exact absurd hb hb2
      · exact absurd ha2 hn
      · cases en_dt hz hz2
        refine ⟨rfl, fun i hi => ?_⟩
        by_cases c : i = aw0.toNatClampNeg
        · rw [c, upd_at, upd_at]
        · rw [upd_ne c, upd_ne c]; exact eR i hi
theorem wd_no {k z : Nat} {r : Int32} (h : WDR f k z r) (hn : ¬ r = -1) (ha : ∀ i, i < 9 → ¬ WRT f i k z) : False := by
  rcases h with ⟨i, hi, w, _⟩ | ⟨_, e⟩
  · exact ha i hi w
  · exact hn e
theorem re_dt {k : Nat} {c c2 : Int32} (h : RDE f T k c) (h2 : RDE f T k c2) : c = c2 := by
  obtain ⟨R, aw, h0, hb, z, hz, e⟩ := h
  obtain ⟨R2, aw2, h02, hb2, z2, hz2, e2⟩ := h2
  obtain ⟨rfl, eR⟩ := rs_dt k _ _ _ _ h0 h02
  cases en_dt hz hz2
  rcases e with ⟨ha, ⟨hw, rfl⟩ | ⟨r, hr, hn, hR, rfl⟩⟩ | ⟨ha, ⟨hd, rfl⟩ | ⟨hd, h5, rfl⟩⟩
  · rcases e2 with ⟨_, ⟨_, rfl⟩ | ⟨r2, hr2, hn2, _⟩⟩ | ⟨ha2, _⟩
    · rfl
    · exact (wd_no hr2 hn2 hw).elim
    · exact absurd ha ha2
  · rcases e2 with ⟨_, ⟨hw2, _⟩ | ⟨r2, hr2, hn2, _, rfl⟩⟩ | ⟨ha2, _⟩
    · exact (wd_no hr hn hw2).elim
    · rfl
    · exact absurd ha ha2
  · rcases e2 with ⟨ha2, _⟩ | ⟨_, ⟨_, rfl⟩ | ⟨hd2, _⟩⟩
    · exact absurd ha2 ha
    · rfl
    · exact absurd hd2 hd
  · rcases e2 with ⟨ha2, _⟩ | ⟨_, ⟨hd2, _⟩ | ⟨_, _, rfl⟩⟩
    · exact absurd ha2 ha
    · exact absurd hd hd2
    · rfl
theorem re_rs {k : Nat} {c : Int32} (h : RDE f T k c) {R2 : Nat → Int32} {aw2 : Int32} (h2 : RDS f T (k + 1) R2 aw2) : False := by
  obtain ⟨R, aw, h0, hb, z, hz, e⟩ := h
  obtain ⟨R0, aw0, h02, c2⟩ := h2
  obtain ⟨rfl, eR⟩ := rs_dt k _ _ _ _ h0 h02
  rcases c2 with ⟨hb2, _⟩ | ⟨_, z2, hz2, ⟨ha2, hw2, hn2, hr2, _⟩ | ⟨hn2, hd2, h52, _⟩⟩
  · exact hb2 hb
  · cases en_dt hz hz2
    rcases e with ⟨_, ⟨hw, _⟩ | ⟨r, hr, hn, hR, _⟩⟩ | ⟨ha, _⟩
    · exact wd_no hw2 hn2 hw
    · cases wd_dt hr hw2
      obtain ⟨j, hj, _, ej⟩ := wd_cl hr hn
      rw [ej] at hR hr2
      exact hR ((eR j hj).trans hr2)
    · exact ha ha2
  · cases en_dt hz hz2
    rcases e with ⟨ha, _⟩ | ⟨_, ⟨hd, _⟩ | ⟨_, h5, _⟩⟩
    · exact hn2 ha
    · exact hd hd2
    · exact h5 h52
theorem rs_le {k : Nat} : ∀ d R aw, RDS f T (k + d) R aw → ∃ R aw, RDS f T k R aw := by
  intro d
  induction d with
  | zero => intro R aw h; exact ⟨R, aw, h⟩
  | succ d ih => intro R aw h; obtain ⟨R0, aw0, h0, _⟩ := h; exact ih _ _ h0
theorem re_no {k K : Nat} {c : Int32} (h : RDE f T k c) (hk : k < K) {R : Nat → Int32} {aw : Int32} (h2 : RDS f T K R aw) : False := by
  obtain ⟨d, rfl⟩ : ∃ d, K = k + 1 + d := ⟨K - (k + 1), by omega⟩
  obtain ⟨R1, aw1, h1⟩ := rs_le d _ _ h2
  exact re_rs h h1
theorem rp_dt {R R2 : Nat → Int32} {fa c fa2 c2 : Int32} (h : RDP f T R fa c) (h2 : RDP f T R2 fa2 c2) : fa = fa2 ∧ c = c2 ∧ (c = 0 → ∀ i, i < 9 → R i = R2 i) := by
  rcases h with ⟨a1, rfl, rfl⟩ | ⟨⟨aw, a1, a3⟩, rfl, rfl⟩ | ⟨k, hk, a1, a2, rfl⟩
  · rcases h2 with ⟨b1, rfl, rfl⟩ | ⟨⟨aw2, b1, b3⟩, _⟩ | ⟨k2, hk2, b1, b2, rfl⟩
    · exact ⟨rfl, rfl, fun _ => (rs_dt T _ _ _ _ a1 b1).2⟩
    · exact absurd (rs_dt T _ _ _ _ a1 b1).1.symm b3
    · exact (re_no b1 hk2 a1).elim
  · rcases h2 with ⟨b1, _⟩ | ⟨_, rfl, rfl⟩ | ⟨k2, hk2, b1, b2, rfl⟩
    · exact absurd (rs_dt T _ _ _ _ a1 b1).1 a3
    · exact ⟨rfl, rfl, fun e => absurd e (by decide)⟩
    · exact (re_no b1 hk2 a1).elim
  · rcases h2 with ⟨b1, _⟩ | ⟨⟨aw2, b1, b3⟩, _⟩ | ⟨k2, hk2, b1, b2, rfl⟩
    · exact (re_no a1 hk b1).elim
    · exact (re_no a1 hk b1).elim
    · have : k = k2 := by
        rcases Nat.lt_trichotomy k k2 with q | q | q
        · obtain ⟨R0, aw0, h0, _⟩ := b1
          exact (re_no a1 q h0).elim
        · exact q
        · obtain ⟨R0, aw0, h0, _⟩ := a1
          exact (re_no b1 q h0).elim
      subst this
      exact ⟨rfl, re_dt a1 b1, fun e => absurd e a2⟩
end TXD
