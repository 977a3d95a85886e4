theorem fl_in {α : Type} {v : α} {f : Nat → α} {i k : Nat} (h : k < i) : fl v f i k = v := if_pos h
def fx_cx (i : Nat) : Nat → Int32 := fun j => if j < i then nI (100 * (j % 9)) else 0
def fx_cy (i : Nat) : Nat → Int32 := fun j => if j < i then nI (100 * (j / 9)) else 0
/-- the arrays and numbers of a new object -/
def fx_a0 : Nat → Nat → Int32 := fun k => if k = 39 then fl 1 (fun _ => 0) 81 else if k = 40 then fx_cx 81 else if k = 41 then fx_cy 81 else (fun _ => 0)
def fx_g0 : Nat → Nat → Int64 := fun _ _ => 0
def fx_n0 : Nat → Int32 := fun k => if k = 2 then -1 else if k = 5 then 20001 else 0
def fm_d9 : Nat → Int32 := upd (upd (upd (upd (upd (upd (upd (upd (upd (fun _ => 0) 0 7600) 1 1800) 2 180) 3 10) 4 2600) 5 180) 6 30) 7 1) 8 100
/-- the arrays and numbers of a new reference -/
def fm_a0 : Nat → Nat → Int32 := fun k => if k = 14 then fl 1 (fun _ => 0) 81 else if k = 15 then fx_cx 81 else if k = 16 then fx_cy 81 else if k = 6 then fm_d9 else (fun _ => 0)
def fm_g0 : Nat → Nat → Int64 := fun k => if k = 7 then vp_updL (vp_updL (vp_updL (vp_updL (vp_updL (vp_updL (vp_updL (vp_updL (vp_updL (fun _ => 0) 0 6383461) 1 1818850917) 2 6775152) 3 123611028744040) 4 1952805485) 5 1768189029) 6 123636629792114) 7 1836020596) 8 1651076708 else (fun _ => 0)
def fm_n0 : Nat → Int32 := fun k => if k = 3 then -1 else if k = 1 then 20001 else 0
theorem fl_nIb (f : Nat → Int32) {i : Nat} (hi : i < 2 ^ 31) : upd (fl 1 f i) (nI i).toNatClampNeg (vp_nar .boolean 1) = fl 1 f (i + 1) := fl_nI 1 f hi
theorem fx_cx_0 : fx_cx 0 = (fun _ => 0) := by funext j; simp [fx_cx]
theorem fx_cy_0 : fx_cy 0 = (fun _ => 0) := by funext j; simp [fx_cy]
theorem fx_cx_s {i : Nat} (hi : i < 2 ^ 31) : upd (fx_cx i) (nI i).toNatClampNeg (100 * (nI i - nI i / 9 * 9)) = fx_cx (i + 1) := by
  funext j
  rw [nI_clamp hi, show (9 : Int32) = nI 9 from rfl, pk_rem hi (by decide) (by decide), show (100 : Int32) = nI 100 from rfl, pk_mul]
  simp only [upd, fx_cx]
  by_cases h : j = i
  · subst h; simp
  · by_cases h2 : j < i
    · simp [h, h2, Nat.lt_succ_of_lt h2]
    · simp [h, h2, show ¬ j < i + 1 by omega]
theorem fx_cy_s {i : Nat} (hi : i < 2 ^ 31) : upd (fx_cy i) (nI i).toNatClampNeg (100 * (nI i / 9)) = fx_cy (i + 1) := by
  funext j
  rw [nI_clamp hi, show (9 : Int32) = nI 9 from rfl, pk_div hi (by decide) (by decide), show (100 : Int32) = nI 100 from rfl, pk_mul]
  simp only [upd, fx_cy]
  by_cases h : j = i
  · subst h; simp
  · by_cases h2 : j < i
    · simp [h, h2, Nat.lt_succ_of_lt h2]
    · simp [h, h2, show ¬ j < i + 1 by omega]
theorem fx_outer (r : Nat → Nat) (L : List Nat) : (fun i => if i < 8 then some (r i) else none) = (fun i => if i < 8 then some ((fun k => if 9 ≤ k ∧ k < 17 then r (k - 9) else L.getD k 0) (9 + i)) else none) := by
  funext i
  by_cases h : i < 8
  · simp [h, show 9 + i < 17 by omega]
  · simp [h]
def fm_z : Nat → Nat → Int32 := fun _ _ => 0
def fm_z6 : Nat → Nat → Int64 := fun _ _ => 0
section FJM
variable {p : Program} {l : Launch} {e : Env} {R : Room} {s : State} {m : MethodId} {args : Array Value} {below : List Frame} {meth : Method} {c : Code} {Q : State → Prop} {A : Nat → Prop} {D : va_G} {ty : Nat → ClassId} {t0 : Nat → Nat} {cc : ByteArray} {nL : Nat} {own : String} {Ts : List Cond} {cells slots : Nat} {ws : va_W} {lv : List (Nat × Value)} {pc : Nat} {st : List Value}
theorem fj_mna (C : fj_C p s m args c cc nL own Ts A D ty t0) {index : Nat} (hcl : Cond.classLink own index "[[I" ∈ Ts) (harr : Cond.arrayClass .int ∈ Ts) (hc : cells + (1 + 8) ≤ R.cells) (hs : slots + (8 + 8 * 9) ≤ R.slots) (hdg : decode cc pc = .ok (.multianewarray index 2, 4))
    (k : ∀ (q : Nat) (r : Nat → Nat), fj p l e R s m args below meth c Q A D nL (cells + 1 + 8) (slots + 8 + 8 * 9) (ws ++ [(q, .inl (ty 4, 8, .inr (.inr (.inr (.inr (fun i => if i < 8 then some (r i) else none)))))), (r 0, .inl (ty 0, 9, .inl (fun _ => 0))), (r 1, .inl (ty 0, 9, .inl (fun _ => 0))), (r 2, .inl (ty 0, 9, .inl (fun _ => 0))), (r 3, .inl (ty 0, 9, .inl (fun _ => 0))), (r 4, .inl (ty 0, 9, .inl (fun _ => 0))), (r 5, .inl (ty 0, 9, .inl (fun _ => 0))), (r 6, .inl (ty 0, 9, .inl (fun _ => 0))), (r 7, .inl (ty 0, 9, .inl (fun _ => 0)))]) lv (pc + 4) (.ref q :: st)) :
    fj p l e R s m args below meth c Q A D nL cells slots ws lv pc (.int 9 :: .int 8 :: st) := by
  intro H locs ls hP hD hS hl
  have e1 : "[" ++ (FieldType.array .int).toString = "[[I" := by decide
  have hcy : s.vm.findClass (FieldType.array .int).toString = some (ty 0) := (C.2.2.2.2.2.1.2 0 (ty 0, .int) rfl).2
  have h4 := (C.2.2.2.2.2.1.2 4 (ty 4, .array .int) rfl).2
  have hz : ∀ c : ClassId, Jvm.Free.Multi.innerC c 9 (defaultValue .int) = vp_cell c (9, .inl (fun _ => 0)) := fun c => by
    show ({ cls := c, slots := Array.replicate 9 (.int 0), vm := .none } : Cell) = _
    rw [arrV_new]
    rfl
  have hP0 : va_P D vwCl (ws ++ va_pl [] (fun _ => (.inl (ty 0, 9, .inl (fun _ => 0)) : va_E))) H := by
    show va_P D vwCl (ws ++ []) H
    rw [List.append_nil]; exact hP
  have hD0 : va_D A (ws ++ va_pl [] (fun _ => (.inl (ty 0, 9, .inl (fun _ => 0)) : va_E))) := by
    show va_D A (ws ++ [])
    rw [List.append_nil]; exact hD
  refine va_mna (cy := ty 0) (N' := 8) (K' := 9) (z := (9, .inl (fun _ => 0))) C.1 C.2.1 C.2.2.2.1 (by rw [e1]; exact C.2.2.2.2.1 _ hcl) C.2.2.2.2.2.2.2.1.2.2.1 (C.2.2.2.2.1 _ harr) hcy C.2.2.2.2.2.1 hP0 hD0 hS C.2.2.2.2.2.2.1 (by decide) (by decide) rfl rfl (by decide) (by decide) (by decide) rfl rfl hc hs hz hdg (fun q r cA H1 hr hrL hK1 hP1 hD1 hS1 => ?_)
  have h5 := (hK1.2 5 (cA, .array .int) rfl).2
  have h6 : cA = ty 4 := Option.some.inj (h5.symm.trans h4)
  subst h6
  have e2 : vr_up (fun _ => (.inl (ty 0, 9, .inl (fun _ => 0)) : va_E)) ((List.range 8).map r) (.inl (ty 0, 9, .inl (fun _ => 0))) = (fun _ => (.inl (ty 0, 9, .inl (fun _ => 0)) : va_E)) := by
    funext a
    unfold vr_up
    split <;> rfl
  rw [e2, List.append_assoc] at hP1 hD1
  exact k q r H1 locs ls hP1 hD1 hS1 hl
end FJM
