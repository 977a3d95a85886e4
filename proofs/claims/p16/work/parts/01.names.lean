/-- the arrays of arrays of a type are there, and anewarray finds them -/
def va_AOA (ty : FieldType) (U : State) : Prop := (Cond.arrayOver (.array ty)).before #[] U = true
theorem va_AOA.use {ty : FieldType} {A : Array Value} {U : State} (h : va_AOA ty U) : (Cond.arrayOver (.array ty)).before A U = true := h
/-! ===== BEGIN words of one list among another's, by their places ===== -/
theorem goodIn_r {big : List Cond} (ws : List Cond) (ps : List Nat) (hp : ws = ps.filterMap (fun i => big[i]?)) (h : ws.all goodWord = true) : GoodIn big ws := by
  intro w hw
  have h1 := List.all_eq_true.mp h w hw
  rw [hp] at hw
  obtain ⟨i, -, hi⟩ := List.mem_filterMap.mp hw
  have hm : w ∈ big := by first | exact List.mem_of_getElem? hi | exact List.getElem?_mem hi
  exact ⟨hm, good_of_word h1⟩
theorem goodIn_app {big a b : List Cond} (ha : GoodIn big a) (hb : GoodIn big b) : GoodIn big (a ++ b) := fun w h => (List.mem_append.mp h).elim (ha w) (hb w)
theorem goodIn_ca {big a b : List Cond} {c : Cond} (ha : GoodIn big (c :: a)) (hb : GoodIn big b) : GoodIn big (c :: (a ++ b)) := fun w h => (List.mem_cons.mp h).elim (fun e => ha w (List.mem_cons.mpr (Or.inl e))) (fun h => (List.mem_append.mp h).elim (fun h => ha w (List.mem_cons.mpr (Or.inr h))) (hb w))
theorem goodIn_sub {big ws : List Cond} (hm : ∀ w ∈ ws, w ∈ big) (h : ws.all goodWord = true) : GoodIn big ws := fun w hw => ⟨hm w hw, good_of_word (List.all_eq_true.mp h w hw)⟩
/-! ===== END ===== -/

/-! ===== BEGIN new T[n][m]: the outer array a place, the inner ones among the pooled ===== -/
/-- f, but v at every address of l -/
def vr_up {α : Type} (f : Nat → α) (l : List Nat) (v : α) : Nat → α := fun a => if a ∈ l then v else f a
theorem vr_up_in {α : Type} {f : Nat → α} {l : List Nat} {v : α} {a : Nat} (h : a ∈ l) : vr_up f l v a = v := if_pos h
theorem vr_up_ne {α : Type} {f : Nat → α} {l : List Nat} {v : α} {a : Nat} (h : a ∉ l) : vr_up f l v a = f a := if_neg h
theorem vr_rows {L l : List Nat} {f : Nat → va_E} {e : va_E} (h : ∀ a, a ∈ l → a ∉ L) : va_pl L f ++ l.map (fun a => (a, e)) = va_pl (L ++ l) (vr_up f l e) := by
  unfold va_pl
  rw [List.map_append]
  congr 1
  · apply List.map_congr_left
    intro a ha
    rw [vr_up_ne (fun q => h a q ha)]
  · apply List.map_congr_left
    intro a ha
    rw [vr_up_in ha]
theorem vr_lay {X rows : va_W} {x : Nat × va_E} {pl : va_W} {D : va_G} {cl : List vw_C} {H : Heap} (hP : va_P D cl (((X ++ pl) ++ [x]) ++ rows) H) : va_P D cl ((X ++ [x]) ++ (pl ++ rows)) H := by
  rw [List.append_assoc (X ++ pl)] at hP
  have h := va_P.swap hP
  rw [← List.append_assoc X] at h
  have h2 := va_P.swap h
  rw [List.append_assoc (X ++ [x])] at h2
  exact h2
theorem vr_layD {X rows : va_W} {x : Nat × va_E} {pl : va_W} {A : Nat → Prop} (hD : va_D A (((X ++ pl) ++ [x]) ++ rows)) : va_D A ((X ++ [x]) ++ (pl ++ rows)) := by
  rw [List.append_assoc (X ++ pl)] at hD
  have h := va_D.swap hD
  rw [← List.append_assoc X] at h
  have h2 := va_D.swap h
  rw [List.append_assoc (X ++ [x])] at h2
  exact h2
theorem vr_outer (c : ClassId) (N h0 : Nat) : ∀ i : Nat, Jvm.Free.Multi.outerC c N h0 i = arrV c N (fun j => va_rf (if j < i then some (h0 + 1 + j) else none))
  | 0 => by
    show ({ cls := c, slots := Array.replicate N .null, vm := .none } : Cell) = _
    rw [arrV_new]
    refine congrArg (arrV c N) (funext fun j => ?_)
    simp [va_rf]
  | i + 1 => by
    show (Jvm.Free.Multi.outerC c N h0 i).setSlot i (.ref (h0 + 1 + i)) = _
    rw [vr_outer c N h0 i, arrV_store]
    refine congrArg (arrV c N) (funext fun j => ?_)
    by_cases e : j = i
    · subst e
      simp [updV, va_rf]
    · by_cases h : j < i
      · simp [updV, e, h, Nat.lt_succ_of_lt h]
      · simp [updV, e, h, show ¬ j < i + 1 by omega]
section VGM
variable {p : Program} {l : Launch} {e : Env} {R : Room} {s : State} {m : MethodId} {args : Array Value} {below : List Frame} {meth : Method} {c : Code} {H : Heap} {locs : List Loc} {cells slots : Nat} {Q : State → Prop}
variable {cc : ByteArray} {pc : Nat} {ls : Array Slot} {rest : List Value} {D : va_G} {cl : List vw_C} {A : Nat → Prop} {a : Nat} {tys : List (ClassId × FieldType)} {ws : va_W} {H0 : Heap}
theorem va_mna {X : va_W} {L : List Nat} {f : Nat → va_E} {cc : ByteArray} (hexec : p.tables.exec = Jvm.exec) (hb : c.code = cc) {own : String} {index : Nat} {ty : FieldType} {cy : ClassId} (hown : s.vm.findClass own = some m.cls) (hclink : (Cond.classLink own index ("[" ++ (FieldType.array ty).toString)).before args s = true) (hover : va_AOA ty s) (harr : (Cond.arrayClass ty).before args s = true) (hcy : s.vm.findClass (FieldType.array ty).toString = some cy)
    (hK : va_K D cl tys s) (hP : va_P D cl (X ++ va_pl L f) H) (hD : va_D A (X ++ va_pl L f)) (hS : va_S A H0 H locs) (hA : ∀ q, H0.size ≤ q → A q) {n k : Int32} {N' K' : Nat} {z : vp_A} (hn : ¬ n < 0) (hk : ¬ k < 0) (hN : n.toNatClampNeg = N') (hM : k.toNatClampNeg = K')
    (hb1 : N' * 4 ≤ 536870912) (hb2 : K' * componentBytes ty ≤ 536870912) (hb3 : K' ≤ 536870912) (hdf : fits ty (defaultValue ty) = true) (hdd : (defaultValue ty).isDefault = true) (hcells : cells + (1 + N') ≤ R.cells) (hslots : slots + (N' + N' * K') ≤ R.slots) (hz : ∀ c : ClassId, Jvm.Free.Multi.innerC c K' (defaultValue ty) = vp_cell c z) (hdg : decode cc pc = .ok (.multianewarray index 2, 4))
    (kk : ∀ (q : Nat) (r : Nat → Nat) (cA : ClassId) (H1 : Heap), (∀ i j : Nat, i < N' → j < N' → r i = r j → i = j) → (∀ i : Nat, i < N' → r i ∉ L) → va_K D cl (tys ++ [(cA, .array ty)]) s →
      va_P D cl ((X ++ [(q, .inl (cA, N', .inr (.inr (.inr (.inr (fun i => if i < N' then some (r i) else none))))))]) ++ va_pl (L ++ (List.range N').map r) (vr_up f ((List.range N').map r) (.inl (cy, z)))) H1 → va_D A ((X ++ [(q, .inl (cA, N', .inr (.inr (.inr (.inr (fun i => if i < N' then some (r i) else none))))))]) ++ va_pl (L ++ (List.range N').map r) (vr_up f ((List.range N').map r) (.inl (cy, z)))) → va_S A H0 H1 locs →
      W p l e R s m args below meth c H1 locs (cells + 1 + N') (slots + N' + N' * K') Q (F0 m (pc + 4) ls (.ref q :: rest))) : W p l e R s m args below meth c H locs cells slots Q (F0 m pc ls (.int k :: .int n :: rest)) := by
  subst hN
  subst hM
  intro T hT Xs
  obtain ⟨vm₁, cA, comp, -, fA, fC, hO, -, X', step⟩ := Xs.multianewarray2F hexec hown hclink (va_AOA.use hover) harr (g := F0 m pc ls (.int k :: .int n :: rest)) rfl (by rw [hb]; exact hdg) rfl hn hk hb1 hb2 hb3 hdf hdd hcells hslots
  have ec : some cy = some comp := hcy.symm.trans fC
  cases ec
  generalize hF : Jvm.Free.Multi.fill (T.setVm vm₁) cA cy n.toNatClampNeg k.toNatClampNeg (defaultValue ty) n.toNatClampNeg = F at X' step
  have hTh : (T.setVm vm₁).heap = H := hT
  obtain ⟨f1, f2, -, -⟩ := Jvm.Free.Multi.fill_facts (T.setVm vm₁) cA cy n.toNatClampNeg k.toNatClampNeg (defaultValue ty) n.toNatClampNeg
  rw [hF, hTh] at f1 f2
  have hold : ∀ x : Nat, x < H.size → F.heap[x]? = H[x]? := fun x hx => by
    have := Jvm.Free.Multi.fill_old (T.setVm vm₁) cA cy n.toNatClampNeg k.toNatClampNeg (defaultValue ty) (a := x) (by rw [hTh]; exact hx) n.toNatClampNeg
    rw [hF, hTh] at this
    exact this
  have hrow : ∀ j : Nat, j < n.toNatClampNeg → F.heap[H.size + 1 + j]? = some (vp_cell cy z) := fun j hj => by
    have := Jvm.Free.Multi.fill_inner (T.setVm vm₁) cA cy n.toNatClampNeg k.toNatClampNeg (defaultValue ty) n.toNatClampNeg j hj
    rw [hF, hTh, hz] at this
    exact this
  have hout : Jvm.Free.Multi.outerC cA n.toNatClampNeg H.size n.toNatClampNeg = vp_cell cA (n.toNatClampNeg, .inr (.inr (.inr (.inr (fun i => if i < n.toNatClampNeg then some (H.size + 1 + i) else none))))) := by
    rw [vp_cell_q]
    exact vr_outer cA n.toNatClampNeg H.size n.toNatClampNeg
  rw [hout] at f2
  have hlt : ∀ a, a ∈ L → a < H.size := fun a ha => by
    obtain ⟨k9, hk9⟩ := va_pl_get (X := X) (f := f) ha
    exact (hP k9 _ hk9).lt
  have hnl : ∀ i : Nat, i < n.toNatClampNeg → H.size + 1 + i ∉ L := fun i _ h => by
    have := hlt _ h
    omega
  have hnm : ∀ a, a ∈ (List.range n.toNatClampNeg).map (fun i => H.size + 1 + i) → a ∉ L := fun a ha h => by
    obtain ⟨i, -, rfl⟩ := List.mem_map.mp ha
    have := hlt _ h
    omega
  have hP0 : va_P D cl (X ++ va_pl L f) F.heap := hP.kept (fun k9 x hx => hold x.1 ((hP k9 x hx).lt))
  have hP1 : va_P D cl ((X ++ va_pl L f) ++ [(H.size, .inl (cA, n.toNatClampNeg, .inr (.inr (.inr (.inr (fun i => if i < n.toNatClampNeg then some (H.size + 1 + i) else none))))))]) F.heap := hP0.app (fun k9 x hx => by
    have h0 : k9 < 1 := (List.getElem?_eq_some_iff.mp hx).1
    rw [show k9 = 0 by omega] at hx
    cases hx
    exact f2)
  have hP2 : va_P D cl (((X ++ va_pl L f) ++ [(H.size, .inl (cA, n.toNatClampNeg, .inr (.inr (.inr (.inr (fun i => if i < n.toNatClampNeg then some (H.size + 1 + i) else none))))))]) ++ ((List.range n.toNatClampNeg).map (fun i => H.size + 1 + i)).map (fun a => (a, .inl (cy, z)))) F.heap := hP1.app (fun k9 x hx => by
    obtain ⟨a, ha, rfl⟩ := List.mem_map.mp (List.mem_of_getElem? hx)
    obtain ⟨i, hi, rfl⟩ := List.mem_map.mp ha
    exact hrow i (List.mem_range.mp hi))
  have hD2 : va_D A (((X ++ va_pl L f) ++ [(H.size, .inl (cA, n.toNatClampNeg, .inr (.inr (.inr (.inr (fun i => if i < n.toNatClampNeg then some (H.size + 1 + i) else none))))))]) ++ ((List.range n.toNatClampNeg).map (fun i => H.size + 1 + i)).map (fun a => (a, .inl (cy, z)))) := by
    have hD1 := hD.push (e := .inl (cA, n.toNatClampNeg, .inr (.inr (.inr (.inr (fun i => if i < n.toNatClampNeg then some (H.size + 1 + i) else none)))))) hP rfl (hA _ hS.1)
    generalize hW1 : (X ++ va_pl L f) ++ [(H.size, .inl (cA, n.toNatClampNeg, .inr (.inr (.inr (.inr (fun i => if i < n.toNatClampNeg then some (H.size + 1 + i) else none))))))] = W1 at hD1 hP1 ⊢
    have hle : ∀ (k9 : Nat) (x : Nat × va_E), W1[k9]? = some x → x.1 ≤ H.size := fun k9 x hx => by
      rw [← hW1] at hx
      by_cases hl : k9 < (X ++ va_pl L f).length
      · rw [List.getElem?_append_left hl] at hx
        exact Nat.le_of_lt ((hP k9 x hx).lt)
      · rw [List.getElem?_append_right (by omega)] at hx
        have h0 : k9 - (X ++ va_pl L f).length < 1 := (List.getElem?_eq_some_iff.mp hx).1
        rw [show k9 - (X ++ va_pl L f).length = 0 by omega] at hx
        cases hx
        exact Nat.le_refl _
    have hr : ∀ (k9 : Nat) (x : Nat × va_E), (((List.range n.toNatClampNeg).map (fun i => H.size + 1 + i)).map (fun a => ((a, .inl (cy, z)) : Nat × va_E)))[k9]? = some x → x.1 = H.size + 1 + k9 := fun k9 x hx => by
      rw [List.getElem?_map, List.getElem?_map] at hx
      by_cases h9 : k9 < n.toNatClampNeg
      · rw [List.getElem?_range h9] at hx
        cases hx
        rfl
      · have hn0 : (List.range n.toNatClampNeg)[k9]? = none := List.getElem?_eq_none (by rw [List.length_range]; omega)
        rw [hn0] at hx
        cases hx
    refine ⟨fun i j x y hi hj hxy => ?_, fun k9 x hx => ?_⟩
    · by_cases h1 : i < W1.length <;> by_cases h2 : j < W1.length
      · rw [List.getElem?_append_left h1] at hi
        rw [List.getElem?_append_left h2] at hj
        exact hD1.1 i j x y hi hj hxy
      · rw [List.getElem?_append_left h1] at hi
        rw [List.getElem?_append_right (by omega)] at hj
        have := hle _ _ hi
        have := hr _ _ hj
        omega
      · rw [List.getElem?_append_right (by omega)] at hi
        rw [List.getElem?_append_left h2] at hj
        have := hle _ _ hj
        have := hr _ _ hi
        omega
      · rw [List.getElem?_append_right (by omega)] at hi hj
        have := hr _ _ hi
        have := hr _ _ hj
        omega
    · by_cases h1 : k9 < W1.length
      · rw [List.getElem?_append_left h1] at hx
        exact hD1.2 k9 x hx
      · rw [List.getElem?_append_right (by omega)] at hx
        have := hr _ _ hx
        exact hA _ (by have := hS.1; omega)
  have hAr : ArrOfT s cA (.array ty) := fun N9 z9 => by
    obtain ⟨-, k9, hk9, cm9, hkk9⟩ := (hO 0 0 0).1
    exact ⟨(fun q hq => by cases hq), k9, hk9, cm9, hkk9⟩
  have hK2 : va_K D cl (tys ++ [(cA, .array ty)]) s := ⟨hK.1, fun k9 x hx => by
    by_cases hl : k9 < tys.length
    · rw [List.getElem?_append_left hl] at hx
      exact hK.2 k9 x hx
    · rw [List.getElem?_append_right (by omega)] at hx
      have h0 : k9 - tys.length < 1 := (List.getElem?_eq_some_iff.mp hx).1
      rw [show k9 - tys.length = 0 by omega] at hx
      cases hx
      exact ⟨hAr, fA⟩⟩
  obtain ⟨t, a1, b1⟩ := kk H.size (fun i => H.size + 1 + i) cA F.heap (fun i j _ _ h => by have h9 : H.size + 1 + i = H.size + 1 + j := h; omega) hnl hK2 (by rw [← vr_rows hnm]; exact vr_lay hP2) (by rw [← vr_rows hnm]; exact vr_layD hD2) ⟨by rw [f1]; have := hS.1; omega, fun x h1 h2 => (hold x (Nat.lt_of_lt_of_le h1 hS.1)).trans (hS.2.1 x h1 h2), hS.2.2⟩ F rfl X'
  refine ⟨t, step t ?_, b1⟩
  have e : T.heap.size = H.size := by rw [hT]
  rw [e]
  exact a1
end VGM
/-! ===== END ===== -/

/-! ===== BEGIN printed: names, fields, word lists, decode rows ===== -/
def RX0 : String := "FreeLand$Book"
def TX0 : u_T := fun k => match k with
  | 0 => ("FreeLand$Book", "day", "[I", true)
  | 1 => ("FreeLand$Book", "sort", "[I", true)
  | 2 => ("FreeLand$Book", "who", "[I", true)
  | 3 => ("FreeLand$Book", "where", "[I", true)
  | 4 => ("FreeLand$Book", "number", "[I", true)
  | 5 => ("FreeLand$Book", "struck", "[Z", true)
  | 6 => ("FreeLand$Book", "order", "[I", true)
  | _ => ("FreeLand$Book", "size", "I", false)
def tyX0 : Nat → FieldType := fun k => match k with
  | 0 => .array .int
  | 1 => .array .int
  | 2 => .array .int
  | 3 => .array .int
  | 4 => .array .int
  | 5 => .array .boolean
  | 6 => .array .int
  | _ => .int
abbrev wsX00 : List Cond := u_ws RX0 TX0 8
theorem nmX0 : ∀ a, a < 8 → ∀ b, b < 8 → a ≠ b → (TX0 a).2.1 ≠ (TX0 b).2.1 := by decide +kernel
theorem tyX0_ok : ∀ k, k < 8 → parseFieldDescriptor (TX0 k).2.2.1 = some (tyX0 k) := by decide +kernel
abbrev cX0_init : ByteArray := prog_2_method_1_code
def yX0_init : MethodName := ⟨RX0, "<init>", "()V"⟩
abbrev cX0_add : ByteArray := prog_2_method_2_code
def yX0_add : MethodName := ⟨RX0, "add", "(II)I"⟩
abbrev cX0_countStruck : ByteArray := prog_2_method_3_code
def yX0_countStruck : MethodName := ⟨RX0, "countStruck", "()I"⟩
def RX1 : String := "FreeLand$Corners"
def TX1 : u_T := fun k => match k with
  | 0 => ("FreeLand$Corners", "known", "[Z", true)
  | 1 => ("FreeLand$Corners", "x", "[I", true)
  | 2 => ("FreeLand$Corners", "y", "[I", true)
  | 3 => ("FreeLand$Corners", "foundX", "I", false)
  | 4 => ("FreeLand$Corners", "foundY", "I", false)
  | 5 => ("FreeLand$Corners", "aroundX", "[J", true)
  | _ => ("FreeLand$Corners", "aroundY", "[J", true)
def tyX1 : Nat → FieldType := fun k => match k with
  | 0 => .array .boolean
  | 1 => .array .int
  | 2 => .array .int
  | 3 => .int
  | 4 => .int
  | 5 => .array .long
  | _ => .array .long
abbrev wsX10 : List Cond := u_ws RX1 TX1 7
theorem nmX1 : ∀ a, a < 7 → ∀ b, b < 7 → a ≠ b → (TX1 a).2.1 ≠ (TX1 b).2.1 := by decide +kernel
theorem tyX1_ok : ∀ k, k < 7 → parseFieldDescriptor (TX1 k).2.2.1 = some (tyX1 k) := by decide +kernel
abbrev cX1_init : ByteArray := prog_3_method_1_code
def yX1_init : MethodName := ⟨RX1, "<init>", "()V"⟩
abbrev cX1_set : ByteArray := prog_3_method_2_code
def yX1_set : MethodName := ⟨RX1, "set", "(IIII)V"⟩
abbrev cX1_forget : ByteArray := prog_3_method_3_code
def yX1_forget : MethodName := ⟨RX1, "forget", "(II)Z"⟩
abbrev cX1_isKnown : ByteArray := prog_3_method_4_code
def yX1_isKnown : MethodName := ⟨RX1, "isKnown", "(II)Z"⟩
abbrev cX1_find : ByteArray := prog_3_method_5_code
def yX1_find : MethodName := ⟨RX1, "find", "(II)Z"⟩
abbrev cX1_findBetween : ByteArray := prog_3_method_6_code
def yX1_findBetween : MethodName := ⟨RX1, "findBetween", "(III)Z"⟩
abbrev cX1_findAround : ByteArray := prog_3_method_7_code
def yX1_findAround : MethodName := ⟨RX1, "findAround", "(II)Z"⟩
abbrev cX1_crossSum : ByteArray := prog_3_method_8_code
def yX1_crossSum : MethodName := ⟨RX1, "crossSum", "()J"⟩
def RX2 : String := "FreeLand$Laws"
def TX2 : u_T := fun k => match k with
  | 0 => ("FreeLand$Laws", "text", "[B", true)
  | 1 => ("FreeLand$Laws", "length", "I", false)
  | 2 => ("FreeLand$Laws", "faultAt", "I", false)
  | 3 => ("FreeLand$Laws", "from", "[I", true)
  | 4 => ("FreeLand$Laws", "value", "[[I", true)
  | 5 => ("FreeLand$Laws", "order", "[I", true)
  | _ => ("FreeLand$Laws", "size", "I", false)
def tyX2 : Nat → FieldType := fun k => match k with
  | 0 => .array .byte
  | 1 => .int
  | 2 => .int
  | 3 => .array .int
  | 4 => .array (.array .int)
  | 5 => .array .int
  | _ => .int
abbrev wsX20 : List Cond := u_ws RX2 TX2 7
theorem nmX2 : ∀ a, a < 7 → ∀ b, b < 7 → a ≠ b → (TX2 a).2.1 ≠ (TX2 b).2.1 := by decide +kernel
theorem tyX2_ok : ∀ k, k < 7 → parseFieldDescriptor (TX2 k).2.2.1 = some (tyX2 k) := by decide +kernel
abbrev cX2_init : ByteArray := prog_4_method_1_code
def yX2_init : MethodName := ⟨RX2, "<init>", "()V"⟩
abbrev cX2_append : ByteArray := prog_4_method_2_code
def yX2_append : MethodName := ⟨RX2, "append", "(IJ)I"⟩
abbrev cX2_enact : ByteArray := prog_4_method_3_code
def yX2_enact : MethodName := ⟨RX2, "enact", "(I)I"⟩
abbrev cX2_read : ByteArray := prog_4_method_4_code
def yX2_read : MethodName := ⟨RX2, "read", "([I)I"⟩
abbrev cX2_beginsThing : ByteArray := prog_4_method_5_code
def yX2_beginsThing : MethodName := ⟨RX2, "beginsThing", "(I)Z"⟩
abbrev cX2_endOfThing : ByteArray := prog_4_method_6_code
def yX2_endOfThing : MethodName := ⟨RX2, "endOfThing", "(I)I"⟩
abbrev cX2_wordAt : ByteArray := prog_4_method_7_code
def yX2_wordAt : MethodName := ⟨RX2, "wordAt", "(II)I"⟩
abbrev cX2_isWritten : ByteArray := prog_4_method_8_code
def yX2_isWritten : MethodName := ⟨RX2, "isWritten", "(Ljava/lang/String;II)Z"⟩
abbrev cX2_nameOf : ByteArray := prog_4_method_9_code
def yX2_nameOf : MethodName := ⟨RX2, "nameOf", "(I)Ljava/lang/String;"⟩
abbrev cX2_faultOfNumber : ByteArray := prog_4_method_10_code
def yX2_faultOfNumber : MethodName := ⟨RX2, "faultOfNumber", "(II)I"⟩
abbrev cX2_numberAt : ByteArray := prog_4_method_11_code
def yX2_numberAt : MethodName := ⟨RX2, "numberAt", "(II)I"⟩
abbrev cX2_valueOf : ByteArray := prog_4_method_12_code
def yX2_valueOf : MethodName := ⟨RX2, "valueOf", "(II)I"⟩
abbrev cX2_inForce : ByteArray := prog_4_method_13_code
def yX2_inForce : MethodName := ⟨RX2, "inForce", "(I)I"⟩
def RX3 : String := "FreeLand$Persons"
def TX3 : u_T := fun k => match k with
  | 0 => ("FreeLand$Persons", "birth", "[I", true)
  | 1 => ("FreeLand$Persons", "citizen", "[I", true)
  | _ => ("FreeLand$Persons", "size", "I", false)
def tyX3 : Nat → FieldType := fun k => match k with
  | 0 => .array .int
  | 1 => .array .int
  | _ => .int
abbrev wsX30 : List Cond := u_ws RX3 TX3 3
theorem nmX3 : ∀ a, a < 3 → ∀ b, b < 3 → a ≠ b → (TX3 a).2.1 ≠ (TX3 b).2.1 := by decide +kernel
theorem tyX3_ok : ∀ k, k < 3 → parseFieldDescriptor (TX3 k).2.2.1 = some (tyX3 k) := by decide +kernel
abbrev cX3_init : ByteArray := prog_5_method_1_code
def yX3_init : MethodName := ⟨RX3, "<init>", "()V"⟩
abbrev cX3_add : ByteArray := prog_5_method_2_code
def yX3_add : MethodName := ⟨RX3, "add", "(II)I"⟩
def RX4 : String := "FreeLand$Work"
def TX4 : u_T := fun k => match k with
  | 0 => ("FreeLand$Work", "persons", "LFreeLand$Persons;", true)
  | 1 => ("FreeLand$Work", "laws", "LFreeLand$Laws;", true)
  | 2 => ("FreeLand$Work", "book", "LFreeLand$Book;", true)
  | 3 => ("FreeLand$Work", "mapDay", "I", false)
  | 4 => ("FreeLand$Work", "result", "[I", true)
  | 5 => ("FreeLand$Work", "state", "[I", true)
  | 6 => ("FreeLand$Work", "holder", "[I", true)
  | 7 => ("FreeLand$Work", "holders", "[I", true)
  | 8 => ("FreeLand$Work", "ruling", "[I", true)
  | 9 => ("FreeLand$Work", "bindsFrom", "[I", true)
  | 10 => ("FreeLand$Work", "spot", "[I", true)
  | 11 => ("FreeLand$Work", "held", "[I", true)
  | 12 => ("FreeLand$Work", "preferred", "[I", true)
  | 13 => ("FreeLand$Work", "preferredTo", "[I", true)
  | 14 => ("FreeLand$Work", "dead", "[Z", true)
  | 15 => ("FreeLand$Work", "filed", "[I", true)
  | 16 => ("FreeLand$Work", "livedDays", "I", false)
  | _ => ("FreeLand$Work", "longestGap", "I", false)
def tyX4 : Nat → FieldType := fun k => match k with
  | 0 => .object "FreeLand$Persons"
  | 1 => .object "FreeLand$Laws"
  | 2 => .object "FreeLand$Book"
  | 3 => .int
  | 4 => .array .int
  | 5 => .array .int
  | 6 => .array .int
  | 7 => .array .int
  | 8 => .array .int
  | 9 => .array .int
  | 10 => .array .int
  | 11 => .array .int
  | 12 => .array .int
  | 13 => .array .int
  | 14 => .array .boolean
  | 15 => .array .int
  | 16 => .int
  | _ => .int
abbrev wsX40 : List Cond := u_ws RX4 TX4 18
theorem nmX4 : ∀ a, a < 18 → ∀ b, b < 18 → a ≠ b → (TX4 a).2.1 ≠ (TX4 b).2.1 := by decide +kernel
theorem tyX4_ok : ∀ k, k < 18 → parseFieldDescriptor (TX4 k).2.2.1 = some (tyX4 k) := by decide +kernel
abbrev cX4_init : ByteArray := prog_6_method_1_code
def yX4_init : MethodName := ⟨RX4, "<init>", "(LFreeLand$Persons;LFreeLand$Laws;LFreeLand$Book;)V"⟩
abbrev cX4_through : ByteArray := prog_6_method_2_code
def yX4_through : MethodName := ⟨RX4, "through", "(II)V"⟩
abbrev cX4_clear : ByteArray := prog_6_method_3_code
def yX4_clear : MethodName := ⟨RX4, "clear", "()V"⟩
abbrev cX4_workLine : ByteArray := prog_6_method_4_code
def yX4_workLine : MethodName := ⟨RX4, "workLine", "(II)I"⟩
abbrev cX4_workFile : ByteArray := prog_6_method_5_code
def yX4_workFile : MethodName := ⟨RX4, "workFile", "(II)I"⟩
abbrev cX4_workGiveUp : ByteArray := prog_6_method_6_code
def yX4_workGiveUp : MethodName := ⟨RX4, "workGiveUp", "(I)I"⟩
abbrev cX4_workContest : ByteArray := prog_6_method_7_code
def yX4_workContest : MethodName := ⟨RX4, "workContest", "(I)I"⟩
abbrev cX4_workProve : ByteArray := prog_6_method_8_code
def yX4_workProve : MethodName := ⟨RX4, "workProve", "(I)I"⟩
abbrev cX4_workDeath : ByteArray := prog_6_method_9_code
def yX4_workDeath : MethodName := ⟨RX4, "workDeath", "(I)I"⟩
abbrev cX4_end : ByteArray := prog_6_method_10_code
def yX4_end : MethodName := ⟨RX4, "end", "(I)V"⟩
abbrev cX4_isRailroads : ByteArray := prog_6_method_11_code
def yX4_isRailroads : MethodName := ⟨RX4, "isRailroads", "(II)Z"⟩
abbrev cX4_isHeldLive : ByteArray := prog_6_method_12_code
def yX4_isHeldLive : MethodName := ⟨RX4, "isHeldLive", "(I)Z"⟩
abbrev cX4_isHeldLiveBy : ByteArray := prog_6_method_13_code
def yX4_isHeldLiveBy : MethodName := ⟨RX4, "isHeldLiveBy", "(II)Z"⟩
abbrev cX4_holderOf : ByteArray := prog_6_method_14_code
def yX4_holderOf : MethodName := ⟨RX4, "holderOf", "(I)I"⟩
abbrev cX4_standing : ByteArray := prog_6_method_15_code
def yX4_standing : MethodName := ⟨RX4, "standing", "(II)I"⟩
abbrev cX4_preferredOn : ByteArray := prog_6_method_16_code
def yX4_preferredOn : MethodName := ⟨RX4, "preferredOn", "(II)I"⟩
abbrev cX4_daysLived : ByteArray := prog_6_method_17_code
def yX4_daysLived : MethodName := ⟨RX4, "daysLived", "(II)I"⟩
abbrev cX4_lookAtLiving : ByteArray := prog_6_method_18_code
def yX4_lookAtLiving : MethodName := ⟨RX4, "lookAtLiving", "(III)V"⟩
abbrev cX4_acres : ByteArray := prog_6_method_19_code
def yX4_acres : MethodName := ⟨RX4, "acres", "(I)I"⟩
abbrev cX4_isDoneByHolder : ByteArray := prog_6_method_20_code
def yX4_isDoneByHolder : MethodName := ⟨RX4, "isDoneByHolder", "(III)Z"⟩
abbrev cX4_countEntries : ByteArray := prog_6_method_21_code
def yX4_countEntries : MethodName := ⟨RX4, "countEntries", "(I)I"⟩
abbrev cX4_countDead : ByteArray := prog_6_method_22_code
def yX4_countDead : MethodName := ⟨RX4, "countDead", "()I"⟩
abbrev cX4_countNotDone : ByteArray := prog_6_method_23_code
def yX4_countNotDone : MethodName := ⟨RX4, "countNotDone", "()I"⟩
def RX5 : String := "FreeLand"
def TX5 : u_T := fun k => match k with
  | 0 => ("FreeLand", "persons", "LFreeLand$Persons;", true)
  | 1 => ("FreeLand", "laws", "LFreeLand$Laws;", true)
  | 2 => ("FreeLand", "book", "LFreeLand$Book;", true)
  | 3 => ("FreeLand", "work", "LFreeLand$Work;", true)
  | _ => ("FreeLand", "corners", "LFreeLand$Corners;", true)
def tyX5 : Nat → FieldType := fun k => match k with
  | 0 => .object "FreeLand$Persons"
  | 1 => .object "FreeLand$Laws"
  | 2 => .object "FreeLand$Book"
  | 3 => .object "FreeLand$Work"
  | _ => .object "FreeLand$Corners"
abbrev wsX50 : List Cond := u_ws RX5 TX5 5
theorem nmX5 : ∀ a, a < 5 → ∀ b, b < 5 → a ≠ b → (TX5 a).2.1 ≠ (TX5 b).2.1 := by decide +kernel
theorem tyX5_ok : ∀ k, k < 5 → parseFieldDescriptor (TX5 k).2.2.1 = some (tyX5 k) := by decide +kernel
abbrev cX5_init : ByteArray := prog_1_method_1_code
def yX5_init : MethodName := ⟨RX5, "<init>", "()V"⟩
abbrev cX5_person : ByteArray := prog_1_method_2_code
def yX5_person : MethodName := ⟨RX5, "person", "(II)I"⟩
abbrev cX5_map : ByteArray := prog_1_method_3_code
def yX5_map : MethodName := ⟨RX5, "map", "(I)I"⟩
abbrev cX5_feed : ByteArray := prog_1_method_4_code
def yX5_feed : MethodName := ⟨RX5, "feed", "(IJ)I"⟩
abbrev cX5_law : ByteArray := prog_1_method_5_code
def yX5_law : MethodName := ⟨RX5, "law", "(I)I"⟩
abbrev cX5_place : ByteArray := prog_1_method_6_code
def yX5_place : MethodName := ⟨RX5, "place", "()I"⟩
abbrev cX5_sets : ByteArray := prog_1_method_7_code
def yX5_sets : MethodName := ⟨RX5, "sets", "(II)I"⟩
abbrev cX5_lawOf : ByteArray := prog_1_method_8_code
def yX5_lawOf : MethodName := ⟨RX5, "lawOf", "(I)I"⟩
abbrev cX5_line : ByteArray := prog_1_method_9_code
def yX5_line : MethodName := ⟨RX5, "line", "(IIIII)I"⟩
abbrev cX5_strike : ByteArray := prog_1_method_10_code
def yX5_strike : MethodName := ⟨RX5, "strike", "(IZ)I"⟩
abbrev cX5_told : ByteArray := prog_1_method_11_code
def yX5_told : MethodName := ⟨RX5, "told", "(II)I"⟩
abbrev cX5_outcome : ByteArray := prog_1_method_12_code
def yX5_outcome : MethodName := ⟨RX5, "outcome", "(II)I"⟩
abbrev cX5_count : ByteArray := prog_1_method_13_code
def yX5_count : MethodName := ⟨RX5, "count", "(I)I"⟩
abbrev cX5_countOfWork : ByteArray := prog_1_method_14_code
def yX5_countOfWork : MethodName := ⟨RX5, "countOfWork", "(I)I"⟩
abbrev cX5_holds : ByteArray := prog_1_method_15_code
def yX5_holds : MethodName := ⟨RX5, "holds", "(IIII)I"⟩
abbrev cX5_holdings : ByteArray := prog_1_method_16_code
def yX5_holdings : MethodName := ⟨RX5, "holdings", "(II)I"⟩
abbrev cX5_digest : ByteArray := prog_1_method_17_code
def yX5_digest : MethodName := ⟨RX5, "digest", "(I)I"⟩
abbrev cX5_corner : ByteArray := prog_1_method_18_code
def yX5_corner : MethodName := ⟨RX5, "corner", "(IIII)I"⟩
abbrev cX5_lose : ByteArray := prog_1_method_19_code
def yX5_lose : MethodName := ⟨RX5, "lose", "(II)I"⟩
abbrev cX5_lies : ByteArray := prog_1_method_20_code
def yX5_lies : MethodName := ⟨RX5, "lies", "(III)I"⟩
abbrev cX5_area : ByteArray := prog_1_method_21_code
def yX5_area : MethodName := ⟨RX5, "area", "(I)J"⟩
abbrev cX5_within : ByteArray := prog_1_method_22_code
def yX5_within : MethodName := ⟨RX5, "within", "(III)Z"⟩
abbrev cX5_isDay : ByteArray := prog_1_method_23_code
def yX5_isDay : MethodName := ⟨RX5, "isDay", "(I)Z"⟩
abbrev cX5_isQuarter : ByteArray := prog_1_method_24_code
def yX5_isQuarter : MethodName := ⟨RX5, "isQuarter", "(I)Z"⟩
abbrev cX5_isCorner : ByteArray := prog_1_method_25_code
def yX5_isCorner : MethodName := ⟨RX5, "isCorner", "(II)Z"⟩
abbrev cX5_isPerson : ByteArray := prog_1_method_26_code
def yX5_isPerson : MethodName := ⟨RX5, "isPerson", "(I)Z"⟩
abbrev cX5_isLine : ByteArray := prog_1_method_27_code
def yX5_isLine : MethodName := ⟨RX5, "isLine", "(I)Z"⟩
abbrev cX5_isKnownBy : ByteArray := prog_1_method_28_code
def yX5_isKnownBy : MethodName := ⟨RX5, "isKnownBy", "(I)Z"⟩
abbrev cX5_linesOf : ByteArray := prog_1_method_29_code
def yX5_linesOf : MethodName := ⟨RX5, "linesOf", "(I)I"⟩
abbrev cX5_fitsSort : ByteArray := prog_1_method_30_code
def yX5_fitsSort : MethodName := ⟨RX5, "fitsSort", "(II)Z"⟩
def RX6 : String := "FreeLandModel"
def TX6 : u_T := fun k => match k with
  | 0 => ("FreeLandModel", "persons", "I", false)
  | 1 => ("FreeLandModel", "births", "[I", true)
  | 2 => ("FreeLandModel", "citizens", "[I", true)
  | 3 => ("FreeLandModel", "mapDay", "I", false)
  | 4 => ("FreeLandModel", "text", "[I", true)
  | 5 => ("FreeLandModel", "texted", "I", false)
  | 6 => ("FreeLandModel", "faultPlace", "I", false)
  | 7 => ("FreeLandModel", "laws", "I", false)
  | 8 => ("FreeLandModel", "lawDays", "[I", true)
  | 9 => ("FreeLandModel", "lawSets", "[I", true)
  | 10 => ("FreeLandModel", "defaults", "[I", true)
  | 11 => ("FreeLandModel", "words", "[J", true)
  | 12 => ("FreeLandModel", "lines", "I", false)
  | 13 => ("FreeLandModel", "days", "[I", true)
  | 14 => ("FreeLandModel", "sorts", "[I", true)
  | 15 => ("FreeLandModel", "people", "[I", true)
  | 16 => ("FreeLandModel", "quarters", "[I", true)
  | 17 => ("FreeLandModel", "numbers", "[I", true)
  | 18 => ("FreeLandModel", "struck", "[Z", true)
  | 19 => ("FreeLandModel", "known", "[Z", true)
  | 20 => ("FreeLandModel", "cornerX", "[I", true)
  | 21 => ("FreeLandModel", "cornerY", "[I", true)
  | 22 => ("FreeLandModel", "order", "[I", true)
  | 23 => ("FreeLandModel", "orderMany", "I", false)
  | 24 => ("FreeLandModel", "outcomes", "[I", true)
  | 25 => ("FreeLandModel", "isDead", "[Z", true)
  | 26 => ("FreeLandModel", "entries", "I", false)
  | 27 => ("FreeLandModel", "entryLine", "[I", true)
  | 28 => ("FreeLandModel", "entryAt", "[I", true)
  | 29 => ("FreeLandModel", "holders", "[I", true)
  | 30 => ("FreeLandModel", "heldBy", "[I", true)
  | 31 => ("FreeLandModel", "entryLaw", "[I", true)
  | 32 => ("FreeLandModel", "entryState", "[I", true)
  | 33 => ("FreeLandModel", "bindDay", "[I", true)
  | 34 => ("FreeLandModel", "preferred", "[I", true)
  | 35 => ("FreeLandModel", "preferDay", "[I", true)
  | 36 => ("FreeLandModel", "worked", "I", false)
  | 37 => ("FreeLandModel", "lived", "[Z", true)
  | 38 => ("FreeLandModel", "one", "I", false)
  | 39 => ("FreeLandModel", "two", "I", false)
  | 40 => ("FreeLandModel", "share", "I", false)
  | 41 => ("FreeLandModel", "whole", "I", false)
  | 42 => ("FreeLandModel", "lieX", "I", false)
  | _ => ("FreeLandModel", "lieY", "I", false)
def tyX6 : Nat → FieldType := fun k => match k with
  | 0 => .int
  | 1 => .array .int
  | 2 => .array .int
  | 3 => .int
  | 4 => .array .int
  | 5 => .int
  | 6 => .int
  | 7 => .int
  | 8 => .array .int
  | 9 => .array .int
  | 10 => .array .int
  | 11 => .array .long
  | 12 => .int
  | 13 => .array .int
  | 14 => .array .int
  | 15 => .array .int
  | 16 => .array .int
  | 17 => .array .int
  | 18 => .array .boolean
  | 19 => .array .boolean
  | 20 => .array .int
  | 21 => .array .int
  | 22 => .array .int
  | 23 => .int
  | 24 => .array .int
  | 25 => .array .boolean
  | 26 => .int
  | 27 => .array .int
  | 28 => .array .int
  | 29 => .array .int
  | 30 => .array .int
  | 31 => .array .int
  | 32 => .array .int
  | 33 => .array .int
  | 34 => .array .int
  | 35 => .array .int
  | 36 => .int
  | 37 => .array .boolean
  | 38 => .int
  | 39 => .int
  | 40 => .int
  | 41 => .int
  | 42 => .int
  | _ => .int
abbrev wsX60 : List Cond := u_ws RX6 TX6 44
theorem nmX6 : ∀ a, a < 44 → ∀ b, b < 44 → a ≠ b → (TX6 a).2.1 ≠ (TX6 b).2.1 := by decide +kernel
theorem tyX6_ok : ∀ k, k < 44 → parseFieldDescriptor (TX6 k).2.2.1 = some (tyX6 k) := by decide +kernel
abbrev cX6_init : ByteArray := prog_8_method_1_code
def yX6_init : MethodName := ⟨RX6, "<init>", "()V"⟩
abbrev cX6_setDefault : ByteArray := prog_8_method_2_code
def yX6_setDefault : MethodName := ⟨RX6, "setDefault", "(IJI)V"⟩
abbrev cX6_in : ByteArray := prog_8_method_4_code
def yX6_in : MethodName := ⟨RX6, "in", "(JJJ)Z"⟩
abbrev cX6_isDay : ByteArray := prog_8_method_5_code
def yX6_isDay : MethodName := ⟨RX6, "isDay", "(I)Z"⟩
abbrev cX6_isPerson : ByteArray := prog_8_method_6_code
def yX6_isPerson : MethodName := ⟨RX6, "isPerson", "(I)Z"⟩
abbrev cX6_isQuarter : ByteArray := prog_8_method_7_code
def yX6_isQuarter : MethodName := ⟨RX6, "isQuarter", "(I)Z"⟩
abbrev cX6_person : ByteArray := prog_8_method_8_code
def yX6_person : MethodName := ⟨RX6, "person", "(II)I"⟩
abbrev cX6_map : ByteArray := prog_8_method_9_code
def yX6_map : MethodName := ⟨RX6, "map", "(I)I"⟩
abbrev cX6_feed : ByteArray := prog_8_method_10_code
def yX6_feed : MethodName := ⟨RX6, "feed", "(IJ)I"⟩
abbrev cX6_fails : ByteArray := prog_8_method_11_code
def yX6_fails : MethodName := ⟨RX6, "fails", "(II)I"⟩
abbrev cX6_wordAt : ByteArray := prog_8_method_12_code
def yX6_wordAt : MethodName := ⟨RX6, "wordAt", "(II)I"⟩
abbrev cX6_law : ByteArray := prog_8_method_13_code
def yX6_law : MethodName := ⟨RX6, "law", "(I)I"⟩
abbrev cX6_place : ByteArray := prog_8_method_14_code
def yX6_place : MethodName := ⟨RX6, "place", "()I"⟩
abbrev cX6_isBefore : ByteArray := prog_8_method_15_code
def yX6_isBefore : MethodName := ⟨RX6, "isBefore", "(II)Z"⟩
abbrev cX6_setBy : ByteArray := prog_8_method_16_code
def yX6_setBy : MethodName := ⟨RX6, "setBy", "(II)I"⟩
abbrev cX6_sets : ByteArray := prog_8_method_17_code
def yX6_sets : MethodName := ⟨RX6, "sets", "(II)I"⟩
abbrev cX6_lawFor : ByteArray := prog_8_method_18_code
def yX6_lawFor : MethodName := ⟨RX6, "lawFor", "(I)I"⟩
abbrev cX6_lawOf : ByteArray := prog_8_method_19_code
def yX6_lawOf : MethodName := ⟨RX6, "lawOf", "(I)I"⟩
abbrev cX6_line : ByteArray := prog_8_method_20_code
def yX6_line : MethodName := ⟨RX6, "line", "(IIIII)I"⟩
abbrev cX6_isLine : ByteArray := prog_8_method_21_code
def yX6_isLine : MethodName := ⟨RX6, "isLine", "(I)Z"⟩
abbrev cX6_strike : ByteArray := prog_8_method_22_code
def yX6_strike : MethodName := ⟨RX6, "strike", "(IZ)I"⟩
abbrev cX6_told : ByteArray := prog_8_method_23_code
def yX6_told : MethodName := ⟨RX6, "told", "(II)I"⟩
abbrev cX6_putInOrder : ByteArray := prog_8_method_24_code
def yX6_putInOrder : MethodName := ⟨RX6, "putInOrder", "(II)V"⟩
abbrev cX6_entryOf : ByteArray := prog_8_method_25_code
def yX6_entryOf : MethodName := ⟨RX6, "entryOf", "(I)I"⟩
abbrev cX6_openOf : ByteArray := prog_8_method_26_code
def yX6_openOf : MethodName := ⟨RX6, "openOf", "(I)I"⟩
abbrev cX6_markLived : ByteArray := prog_8_method_27_code
def yX6_markLived : MethodName := ⟨RX6, "markLived", "(I)V"⟩
abbrev cX6_livedDays : ByteArray := prog_8_method_28_code
def yX6_livedDays : MethodName := ⟨RX6, "livedDays", "(II)I"⟩
abbrev cX6_longestGap : ByteArray := prog_8_method_29_code
def yX6_longestGap : MethodName := ⟨RX6, "longestGap", "(II)I"⟩
abbrev cX6_acres : ByteArray := prog_8_method_30_code
def yX6_acres : MethodName := ⟨RX6, "acres", "(I)I"⟩
abbrev cX6_isOdd : ByteArray := prog_8_method_31_code
def yX6_isOdd : MethodName := ⟨RX6, "isOdd", "(I)Z"⟩
abbrev cX6_preferredOn : ByteArray := prog_8_method_32_code
def yX6_preferredOn : MethodName := ⟨RX6, "preferredOn", "(II)I"⟩
abbrev cX6_filedBy : ByteArray := prog_8_method_33_code
def yX6_filedBy : MethodName := ⟨RX6, "filedBy", "(I)I"⟩
abbrev cX6_file : ByteArray := prog_8_method_34_code
def yX6_file : MethodName := ⟨RX6, "file", "(I)I"⟩
abbrev cX6_contest : ByteArray := prog_8_method_35_code
def yX6_contest : MethodName := ⟨RX6, "contest", "(I)I"⟩
abbrev cX6_prove : ByteArray := prog_8_method_36_code
def yX6_prove : MethodName := ⟨RX6, "prove", "(I)I"⟩
abbrev cX6_death : ByteArray := prog_8_method_37_code
def yX6_death : MethodName := ⟨RX6, "death", "(I)I"⟩
abbrev cX6_giveUp : ByteArray := prog_8_method_38_code
def yX6_giveUp : MethodName := ⟨RX6, "giveUp", "(I)I"⟩
abbrev cX6_comesTo : ByteArray := prog_8_method_39_code
def yX6_comesTo : MethodName := ⟨RX6, "comesTo", "(I)I"⟩
abbrev cX6_work : ByteArray := prog_8_method_40_code
def yX6_work : MethodName := ⟨RX6, "work", "(II)V"⟩
abbrev cX6_isKnown : ByteArray := prog_8_method_41_code
def yX6_isKnown : MethodName := ⟨RX6, "isKnown", "(I)Z"⟩
abbrev cX6_first : ByteArray := prog_8_method_42_code
def yX6_first : MethodName := ⟨RX6, "first", "(I)I"⟩
abbrev cX6_outcome : ByteArray := prog_8_method_43_code
def yX6_outcome : MethodName := ⟨RX6, "outcome", "(II)I"⟩
abbrev cX6_entryMany : ByteArray := prog_8_method_44_code
def yX6_entryMany : MethodName := ⟨RX6, "entryMany", "(I)I"⟩
abbrev cX6_count : ByteArray := prog_8_method_45_code
def yX6_count : MethodName := ⟨RX6, "count", "(I)I"⟩
abbrev cX6_stateOf : ByteArray := prog_8_method_46_code
def yX6_stateOf : MethodName := ⟨RX6, "stateOf", "(III)I"⟩
abbrev cX6_holds : ByteArray := prog_8_method_47_code
def yX6_holds : MethodName := ⟨RX6, "holds", "(IIII)I"⟩
abbrev cX6_holderOf : ByteArray := prog_8_method_48_code
def yX6_holderOf : MethodName := ⟨RX6, "holderOf", "(I)I"⟩
abbrev cX6_holdings : ByteArray := prog_8_method_49_code
def yX6_holdings : MethodName := ⟨RX6, "holdings", "(II)I"⟩
abbrev cX6_digest : ByteArray := prog_8_method_50_code
def yX6_digest : MethodName := ⟨RX6, "digest", "(I)I"⟩
abbrev cX6_isCorner : ByteArray := prog_8_method_51_code
def yX6_isCorner : MethodName := ⟨RX6, "isCorner", "(II)Z"⟩
abbrev cX6_corner : ByteArray := prog_8_method_52_code
def yX6_corner : MethodName := ⟨RX6, "corner", "(IIII)I"⟩
abbrev cX6_lose : ByteArray := prog_8_method_53_code
def yX6_lose : MethodName := ⟨RX6, "lose", "(II)I"⟩
abbrev cX6_findSides : ByteArray := prog_8_method_54_code
def yX6_findSides : MethodName := ⟨RX6, "findSides", "(III)Z"⟩
abbrev cX6_findPlace : ByteArray := prog_8_method_55_code
def yX6_findPlace : MethodName := ⟨RX6, "findPlace", "(II)Z"⟩
abbrev cX6_lies : ByteArray := prog_8_method_56_code
def yX6_lies : MethodName := ⟨RX6, "lies", "(III)I"⟩
abbrev cX6_area : ByteArray := prog_8_method_57_code
def yX6_area : MethodName := ⟨RX6, "area", "(I)J"⟩
def RJ9 : String := "java/lang/Math"
def TJ9 : u_T := fun k => match k with
  | _ => ("", "", "", false)
def tyJ9 : Nat → FieldType := fun k => match k with
  | _ => .int
abbrev wsJ90 : List Cond := u_ws RJ9 TJ9 0
theorem nmJ9 : ∀ a, a < 0 → ∀ b, b < 0 → a ≠ b → (TJ9 a).2.1 ≠ (TJ9 b).2.1 := by decide +kernel
theorem tyJ9_ok : ∀ k, k < 0 → parseFieldDescriptor (TJ9 k).2.2.1 = some (tyJ9 k) := by decide +kernel
abbrev cJ9_max_7cf53 : ByteArray := prog_9_method_65_code
def yJ9_max_7cf53 : MethodName := ⟨RJ9, "max", "(II)I"⟩
abbrev cJ9_min_7cf53 : ByteArray := prog_9_method_69_code
def yJ9_min_7cf53 : MethodName := ⟨RJ9, "min", "(II)I"⟩
def RJ0 : String := "java/lang/String"
def TJ0 : u_T := fun k => match k with
  | _ => ("", "", "", false)
def tyJ0 : Nat → FieldType := fun k => match k with
  | _ => .int
abbrev wsJ00 : List Cond := u_ws RJ0 TJ0 0
theorem nmJ0 : ∀ a, a < 0 → ∀ b, b < 0 → a ≠ b → (TJ0 a).2.1 ≠ (TJ0 b).2.1 := by decide +kernel
theorem tyJ0_ok : ∀ k, k < 0 → parseFieldDescriptor (TJ0 k).2.2.1 = some (tyJ0 k) := by decide +kernel
abbrev cJ0_length_8abf5 : ByteArray := prog_10_method_54_code
def yJ0_length_8abf5 : MethodName := ⟨RJ0, "length", "()I"⟩
abbrev cJ0_charAt_5068e : ByteArray := prog_10_method_56_code
def yJ0_charAt_5068e : MethodName := ⟨RJ0, "charAt", "(I)C"⟩
abbrev cJ0_coder_7d493 : ByteArray := prog_10_method_152_code
def yJ0_coder_7d493 : MethodName := ⟨RJ0, "coder", "()B"⟩
abbrev cJ0_isLatin1_aae02 : ByteArray := prog_10_method_154_code
def yJ0_isLatin1_aae02 : MethodName := ⟨RJ0, "isLatin1", "()Z"⟩
abbrev cJ0_checkIndex_df160 : ByteArray := prog_10_method_155_code
def yJ0_checkIndex_df160 : MethodName := ⟨RJ0, "checkIndex", "(II)V"⟩
def RJ1 : String := "java/lang/StringLatin1"
def TJ1 : u_T := fun k => match k with
  | _ => ("", "", "", false)
def tyJ1 : Nat → FieldType := fun k => match k with
  | _ => .int
abbrev wsJ10 : List Cond := u_ws RJ1 TJ1 0
theorem nmJ1 : ∀ a, a < 0 → ∀ b, b < 0 → a ≠ b → (TJ1 a).2.1 ≠ (TJ1 b).2.1 := by decide +kernel
theorem tyJ1_ok : ∀ k, k < 0 → parseFieldDescriptor (TJ1 k).2.2.1 = some (tyJ1 k) := by decide +kernel
abbrev cJ1_charAt_3b067 : ByteArray := prog_11_method_2_code
def yJ1_charAt_3b067 : MethodName := ⟨RJ1, "charAt", "([BI)C"⟩
def RJ2 : String := "java/lang/StringUTF16"
def TJ2 : u_T := fun k => match k with
  | _ => ("", "", "", false)
def tyJ2 : Nat → FieldType := fun k => match k with
  | _ => .int
abbrev wsJ20 : List Cond := u_ws RJ2 TJ2 0
theorem nmJ2 : ∀ a, a < 0 → ∀ b, b < 0 → a ≠ b → (TJ2 a).2.1 ≠ (TJ2 b).2.1 := by decide +kernel
theorem tyJ2_ok : ∀ k, k < 0 → parseFieldDescriptor (TJ2 k).2.2.1 = some (tyJ2 k) := by decide +kernel
abbrev cJ2_getChar_3b067 : ByteArray := prog_12_method_5_code
def yJ2_getChar_3b067 : MethodName := ⟨RJ2, "getChar", "([BI)C"⟩
abbrev cJ2_length_9d52b : ByteArray := prog_12_method_6_code
def yJ2_length_9d52b : MethodName := ⟨RJ2, "length", "([B)I"⟩
abbrev cJ2_charAt_3b067 : ByteArray := prog_12_method_83_code
def yJ2_charAt_3b067 : MethodName := ⟨RJ2, "charAt", "([BI)C"⟩
abbrev cJ2_checkIndex_2214a : ByteArray := prog_12_method_91_code
def yJ2_checkIndex_2214a : MethodName := ⟨RJ2, "checkIndex", "(I[B)V"⟩
def RJ3 : String := "jdk/internal/util/Preconditions"
def TJ3 : u_T := fun k => match k with
  | _ => ("", "", "", false)
def tyJ3 : Nat → FieldType := fun k => match k with
  | _ => .int
abbrev wsJ30 : List Cond := u_ws RJ3 TJ3 0
theorem nmJ3 : ∀ a, a < 0 → ∀ b, b < 0 → a ≠ b → (TJ3 a).2.1 ≠ (TJ3 b).2.1 := by decide +kernel
theorem tyJ3_ok : ∀ k, k < 0 → parseFieldDescriptor (TJ3 k).2.2.1 = some (tyJ3 k) := by decide +kernel
abbrev cJ3_checkIndex_8e157 : ByteArray := prog_13_method_11_code
def yJ3_checkIndex_8e157 : MethodName := ⟨RJ3, "checkIndex", "(IILjava/util/function/BiFunction;)I"⟩
def RL : String := "FreeLandLaw"
abbrev cL_law : ByteArray := code
def yL_law : MethodName := ⟨RL, "law", "([I)Z"⟩
abbrev vwCl : List vw_C := [(RX0, TX0, 8), (RX1, TX1, 7), (RX2, TX2, 7), (RX3, TX3, 3), (RX4, TX4, 18), (RX5, TX5, 5), (RX6, TX6, 44)]
