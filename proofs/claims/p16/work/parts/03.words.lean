/-- the table, part by part -/
def lq_tb : Nat → List Cond
  | 0 => k2_sels lw_privs
  | 1 => tables_1_1
  | 2 => tables_1_2
  | 3 => tables_1_3
  | 4 => tables_1_4
  | 5 => tables_1_5
  | _ => []
theorem lq_tb_in : ∀ k, ∀ w ∈ lq_tb k, w ∈ lw_tbl
  | 0, _, h => List.mem_append_left _ h
  | 1, _, h => List.mem_append_right _ (List.mem_append_left _ h)
  | 2, _, h => List.mem_append_right _ (List.mem_append_right _ (List.mem_append_left _ h))
  | 3, _, h => List.mem_append_right _ (List.mem_append_right _ (List.mem_append_right _ (List.mem_append_left _ h)))
  | 4, _, h => List.mem_append_right _ (List.mem_append_right _ (List.mem_append_right _ (List.mem_append_right _ (List.mem_append_left _ h))))
  | 5, _, h => List.mem_append_right _ (List.mem_append_right _ (List.mem_append_right _ (List.mem_append_right _ (List.mem_append_right _ h))))
  | _ + 6, _, h => absurd h List.not_mem_nil
theorem lwi_mem {ws : List Cond} (ps : List (Nat × Nat)) (hp : ws = ps.filterMap (fun q => (lq_tb q.1)[q.2]?)) : ∀ w ∈ ws, w ∈ lw_tbl := by
  intro w hw
  rw [hp] at hw
  obtain ⟨q, -, hi⟩ := List.mem_filterMap.mp hw
  exact lq_tb_in q.1 w (List.mem_of_getElem? hi)
set_option maxRecDepth 100000 in
set_option maxHeartbeats 4000000 in
theorem lwi_X0 : ∀ w ∈ wsX00, w ∈ lw_tbl := lwi_mem [(1, 105), (1, 107), (1, 109), (1, 111), (1, 113), (1, 115), (1, 117), (1, 119)] (by decide +kernel)
theorem ok_X0 : ∀ w ∈ wsX00, goodWord w = true := by decide +kernel
theorem inX0 : ∀ w ∈ wsX00, w ∈ lw_tbl := lwi_X0
set_option maxRecDepth 100000 in
set_option maxHeartbeats 4000000 in
theorem lwi_X1 : ∀ w ∈ wsX10, w ∈ lw_tbl := lwi_mem [(1, 202), (1, 204), (1, 206), (1, 208), (1, 210), (1, 212), (1, 214)] (by decide +kernel)
theorem ok_X1 : ∀ w ∈ wsX10, goodWord w = true := by decide +kernel
theorem inX1 : ∀ w ∈ wsX10, w ∈ lw_tbl := lwi_X1
set_option maxRecDepth 100000 in
set_option maxHeartbeats 4000000 in
theorem lwi_X2 : ∀ w ∈ wsX20, w ∈ lw_tbl := lwi_mem [(1, 60), (1, 62), (1, 64), (1, 66), (1, 68), (1, 70), (1, 72)] (by decide +kernel)
theorem ok_X2 : ∀ w ∈ wsX20, goodWord w = true := by decide +kernel
theorem inX2 : ∀ w ∈ wsX20, w ∈ lw_tbl := lwi_X2
set_option maxRecDepth 100000 in
set_option maxHeartbeats 4000000 in
theorem lwi_X3 : ∀ w ∈ wsX30, w ∈ lw_tbl := lwi_mem [(1, 33), (1, 35), (1, 37)] (by decide +kernel)
theorem ok_X3 : ∀ w ∈ wsX30, goodWord w = true := by decide +kernel
theorem inX3 : ∀ w ∈ wsX30, w ∈ lw_tbl := lwi_X3
set_option maxRecDepth 100000 in
set_option maxHeartbeats 4000000 in
theorem lwi_X4 : ∀ w ∈ wsX40, w ∈ lw_tbl := lwi_mem [(1, 150), (1, 152), (1, 154), (1, 156), (1, 158), (1, 160), (1, 162), (1, 164), (1, 166), (1, 168), (1, 170), (1, 172), (1, 174), (1, 176), (1, 178), (1, 180), (1, 182), (1, 184)] (by decide +kernel)
theorem ok_X4 : ∀ w ∈ wsX40, goodWord w = true := by decide +kernel
theorem inX4 : ∀ w ∈ wsX40, w ∈ lw_tbl := lwi_X4
set_option maxRecDepth 100000 in
set_option maxHeartbeats 4000000 in
theorem lwi_X5 : ∀ w ∈ wsX50, w ∈ lw_tbl := lwi_mem [(1, 223), (1, 225), (1, 227), (1, 229), (1, 231)] (by decide +kernel)
theorem ok_X5 : ∀ w ∈ wsX50, goodWord w = true := by decide +kernel
theorem inX5 : ∀ w ∈ wsX50, w ∈ lw_tbl := lwi_X5
set_option maxRecDepth 100000 in
set_option maxHeartbeats 4000000 in
theorem lwi_X6 : ∀ w ∈ wsX60, w ∈ lw_tbl := lwi_mem [(3, 177), (3, 179), (3, 181), (3, 183), (3, 185), (3, 187), (3, 189), (3, 191), (3, 193), (3, 195), (3, 197), (3, 199), (3, 201), (3, 203), (3, 205), (3, 207), (3, 209), (3, 211), (3, 213), (3, 215), (3, 217), (3, 219), (3, 221), (3, 223), (3, 225), (3, 227), (3, 229), (3, 231), (3, 233), (3, 235), (3, 237), (3, 239), (4, 1), (4, 3), (4, 5), (4, 7), (4, 9), (4, 11), (4, 13), (4, 15), (4, 17), (4, 19), (4, 21), (4, 23)] (by decide +kernel)
theorem ok_X6 : ∀ w ∈ wsX60, goodWord w = true := by decide +kernel
theorem inX6 : ∀ w ∈ wsX60, w ∈ lw_tbl := lwi_X6
def woX0_init : List Cond := [Cond.methodLink RX0 3 objectInit, Cond.instanceMethod objectInit, Cond.code objectInit ⟨#[0xb1]⟩ 1 none, Cond.arrayClass .int, Cond.fieldLink RX0 9 "FreeLand$Book" "day" "[I", Cond.fieldLink RX0 15 "FreeLand$Book" "sort" "[I", Cond.fieldLink RX0 18 "FreeLand$Book" "who" "[I", Cond.fieldLink RX0 21 "FreeLand$Book" "where" "[I", Cond.fieldLink RX0 24 "FreeLand$Book" "number" "[I", Cond.arrayClass .boolean, Cond.fieldLink RX0 27 "FreeLand$Book" "struck" "[Z", Cond.fieldLink RX0 31 "FreeLand$Book" "order" "[I"]
def wsX0_init : List Cond := .code yX0_init cX0_init 1 none :: (woX0_init ++ (wsX00))
set_option maxRecDepth 100000 in
set_option maxHeartbeats 4000000 in
theorem lwo_X0_init : ∀ w ∈ Cond.code yX0_init cX0_init 1 none :: woX0_init, w ∈ lw_tbl := lwi_mem [(1, 80), (1, 81), (1, 19), (1, 20), (1, 40), (1, 82), (1, 85), (1, 88), (1, 91), (1, 94), (1, 122), (1, 97), (1, 100)] (by decide +kernel)
theorem oko_X0_init : ∀ w ∈ woX0_init, goodWord w = true := by decide +kernel
theorem lw_X0_init : ∀ w ∈ wsX0_init, w ∈ lw_tbl := List.forall_mem_cons.mpr ⟨lwo_X0_init _ List.mem_cons_self, List.forall_mem_append.mpr ⟨(fun w h => lwo_X0_init w (List.mem_cons_of_mem _ h)), lwi_X0⟩⟩
theorem ok_X0_init : ∀ w ∈ wsX0_init, goodWord w = true := List.forall_mem_cons.mpr ⟨rfl, List.forall_mem_append.mpr ⟨oko_X0_init, ok_X0⟩⟩
theorem ptX0_init_woX0_init : ∀ w ∈ woX0_init, w ∈ wsX0_init := fun _ h => List.mem_cons_of_mem _ (List.mem_append_left _ h)
theorem ptX0_init_wsX00 : ∀ w ∈ wsX00, w ∈ wsX0_init := fun _ h => List.mem_cons_of_mem _ (List.mem_append_right _ h)
def woX0_add : List Cond := [Cond.fieldLink RX0 9 "FreeLand$Book" "day" "[I", Cond.fieldLink RX0 34 "FreeLand$Book" "size" "I", Cond.fieldLink RX0 15 "FreeLand$Book" "sort" "[I", Cond.fieldLink RX0 31 "FreeLand$Book" "order" "[I"]
def wsX0_add : List Cond := .code yX0_add cX0_add 4 (some .int) :: (woX0_add ++ (wsX00))
set_option maxRecDepth 100000 in
set_option maxHeartbeats 4000000 in
theorem lwo_X0_add : ∀ w ∈ Cond.code yX0_add cX0_add 4 (some .int) :: woX0_add, w ∈ lw_tbl := lwi_mem [(2, 155), (1, 82), (1, 102), (1, 85), (1, 100)] (by decide +kernel)
theorem oko_X0_add : ∀ w ∈ woX0_add, goodWord w = true := by decide +kernel
theorem lw_X0_add : ∀ w ∈ wsX0_add, w ∈ lw_tbl := List.forall_mem_cons.mpr ⟨lwo_X0_add _ List.mem_cons_self, List.forall_mem_append.mpr ⟨(fun w h => lwo_X0_add w (List.mem_cons_of_mem _ h)), lwi_X0⟩⟩
theorem ok_X0_add : ∀ w ∈ wsX0_add, goodWord w = true := List.forall_mem_cons.mpr ⟨rfl, List.forall_mem_append.mpr ⟨oko_X0_add, ok_X0⟩⟩
theorem ptX0_add_woX0_add : ∀ w ∈ woX0_add, w ∈ wsX0_add := fun _ h => List.mem_cons_of_mem _ (List.mem_append_left _ h)
theorem ptX0_add_wsX00 : ∀ w ∈ wsX00, w ∈ wsX0_add := fun _ h => List.mem_cons_of_mem _ (List.mem_append_right _ h)
def woX0_countStruck : List Cond := [Cond.fieldLink RX0 34 "FreeLand$Book" "size" "I", Cond.fieldLink RX0 27 "FreeLand$Book" "struck" "[Z"]
def wsX0_countStruck : List Cond := .code yX0_countStruck cX0_countStruck 3 (some .int) :: (woX0_countStruck ++ (wsX00))
set_option maxRecDepth 100000 in
set_option maxHeartbeats 4000000 in
theorem lwo_X0_countStruck : ∀ w ∈ Cond.code yX0_countStruck cX0_countStruck 3 (some .int) :: woX0_countStruck, w ∈ lw_tbl := lwi_mem [(3, 23), (1, 102), (1, 97)] (by decide +kernel)
theorem oko_X0_countStruck : ∀ w ∈ woX0_countStruck, goodWord w = true := by decide +kernel
theorem lw_X0_countStruck : ∀ w ∈ wsX0_countStruck, w ∈ lw_tbl := List.forall_mem_cons.mpr ⟨lwo_X0_countStruck _ List.mem_cons_self, List.forall_mem_append.mpr ⟨(fun w h => lwo_X0_countStruck w (List.mem_cons_of_mem _ h)), lwi_X0⟩⟩
theorem ok_X0_countStruck : ∀ w ∈ wsX0_countStruck, goodWord w = true := List.forall_mem_cons.mpr ⟨rfl, List.forall_mem_append.mpr ⟨oko_X0_countStruck, ok_X0⟩⟩
theorem ptX0_countStruck_woX0_countStruck : ∀ w ∈ woX0_countStruck, w ∈ wsX0_countStruck := fun _ h => List.mem_cons_of_mem _ (List.mem_append_left _ h)
theorem ptX0_countStruck_wsX00 : ∀ w ∈ wsX00, w ∈ wsX0_countStruck := fun _ h => List.mem_cons_of_mem _ (List.mem_append_right _ h)
def woX1_init : List Cond := [Cond.methodLink RX1 1 objectInit, Cond.instanceMethod objectInit, Cond.code objectInit ⟨#[0xb1]⟩ 1 none, Cond.arrayClass .boolean, Cond.fieldLink RX1 9 "FreeLand$Corners" "known" "[Z", Cond.arrayClass .int, Cond.fieldLink RX1 13 "FreeLand$Corners" "x" "[I", Cond.fieldLink RX1 17 "FreeLand$Corners" "y" "[I", Cond.arrayClass .long, Cond.fieldLink RX1 20 "FreeLand$Corners" "aroundX" "[J", Cond.fieldLink RX1 24 "FreeLand$Corners" "aroundY" "[J"]
def wsX1_init : List Cond := .code yX1_init cX1_init 2 none :: (woX1_init ++ (wsX10))
set_option maxRecDepth 100000 in
set_option maxHeartbeats 4000000 in
theorem lwo_X1_init : ∀ w ∈ Cond.code yX1_init cX1_init 2 none :: woX1_init, w ∈ lw_tbl := lwi_mem [(1, 191), (1, 192), (1, 19), (1, 20), (1, 122), (1, 193), (1, 40), (1, 194), (1, 195), (1, 217), (1, 200), (1, 201)] (by decide +kernel)
theorem oko_X1_init : ∀ w ∈ woX1_init, goodWord w = true := by decide +kernel
theorem lw_X1_init : ∀ w ∈ wsX1_init, w ∈ lw_tbl := List.forall_mem_cons.mpr ⟨lwo_X1_init _ List.mem_cons_self, List.forall_mem_append.mpr ⟨(fun w h => lwo_X1_init w (List.mem_cons_of_mem _ h)), lwi_X1⟩⟩
theorem ok_X1_init : ∀ w ∈ wsX1_init, goodWord w = true := List.forall_mem_cons.mpr ⟨rfl, List.forall_mem_append.mpr ⟨oko_X1_init, ok_X1⟩⟩
theorem ptX1_init_woX1_init : ∀ w ∈ woX1_init, w ∈ wsX1_init := fun _ h => List.mem_cons_of_mem _ (List.mem_append_left _ h)
theorem ptX1_init_wsX10 : ∀ w ∈ wsX10, w ∈ wsX1_init := fun _ h => List.mem_cons_of_mem _ (List.mem_append_right _ h)
def woX1_set : List Cond := [Cond.fieldLink RX1 9 "FreeLand$Corners" "known" "[Z", Cond.fieldLink RX1 13 "FreeLand$Corners" "x" "[I", Cond.fieldLink RX1 17 "FreeLand$Corners" "y" "[I"]
def wsX1_set : List Cond := .code yX1_set cX1_set 6 none :: (woX1_set ++ (wsX10))
set_option maxRecDepth 100000 in
set_option maxHeartbeats 4000000 in
theorem lwo_X1_set : ∀ w ∈ Cond.code yX1_set cX1_set 6 none :: woX1_set, w ∈ lw_tbl := lwi_mem [(3, 73), (1, 193), (1, 194), (1, 195)] (by decide +kernel)
theorem oko_X1_set : ∀ w ∈ woX1_set, goodWord w = true := by decide +kernel
theorem lw_X1_set : ∀ w ∈ wsX1_set, w ∈ lw_tbl := List.forall_mem_cons.mpr ⟨lwo_X1_set _ List.mem_cons_self, List.forall_mem_append.mpr ⟨(fun w h => lwo_X1_set w (List.mem_cons_of_mem _ h)), lwi_X1⟩⟩
theorem ok_X1_set : ∀ w ∈ wsX1_set, goodWord w = true := List.forall_mem_cons.mpr ⟨rfl, List.forall_mem_append.mpr ⟨oko_X1_set, ok_X1⟩⟩
theorem ptX1_set_woX1_set : ∀ w ∈ woX1_set, w ∈ wsX1_set := fun _ h => List.mem_cons_of_mem _ (List.mem_append_left _ h)
theorem ptX1_set_wsX10 : ∀ w ∈ wsX10, w ∈ wsX1_set := fun _ h => List.mem_cons_of_mem _ (List.mem_append_right _ h)
def woX1_isKnown : List Cond := [Cond.fieldLink RX1 9 "FreeLand$Corners" "known" "[Z"]
def wsX1_isKnown : List Cond := .code yX1_isKnown cX1_isKnown 3 (some .boolean) :: (woX1_isKnown ++ (wsX10))
set_option maxRecDepth 100000 in
set_option maxHeartbeats 4000000 in
theorem lwo_X1_isKnown : ∀ w ∈ Cond.code yX1_isKnown cX1_isKnown 3 (some .boolean) :: woX1_isKnown, w ∈ lw_tbl := lwi_mem [(3, 85), (1, 193)] (by decide +kernel)
theorem oko_X1_isKnown : ∀ w ∈ woX1_isKnown, goodWord w = true := by decide +kernel
theorem lw_X1_isKnown : ∀ w ∈ wsX1_isKnown, w ∈ lw_tbl := List.forall_mem_cons.mpr ⟨lwo_X1_isKnown _ List.mem_cons_self, List.forall_mem_append.mpr ⟨(fun w h => lwo_X1_isKnown w (List.mem_cons_of_mem _ h)), lwi_X1⟩⟩
theorem ok_X1_isKnown : ∀ w ∈ wsX1_isKnown, goodWord w = true := List.forall_mem_cons.mpr ⟨rfl, List.forall_mem_append.mpr ⟨oko_X1_isKnown, ok_X1⟩⟩
theorem ptX1_isKnown_woX1_isKnown : ∀ w ∈ woX1_isKnown, w ∈ wsX1_isKnown := fun _ h => List.mem_cons_of_mem _ (List.mem_append_left _ h)
theorem ptX1_isKnown_wsX10 : ∀ w ∈ wsX10, w ∈ wsX1_isKnown := fun _ h => List.mem_cons_of_mem _ (List.mem_append_right _ h)
def woX1_forget : List Cond := [Cond.methodLink RX1 27 yX1_isKnown, Cond.instanceMethod yX1_isKnown, Cond.selects RX1 yX1_isKnown yX1_isKnown, Cond.initialized RX1, Cond.fieldLink RX1 9 "FreeLand$Corners" "known" "[Z"]
def wsX1_forget : List Cond := .code yX1_forget cX1_forget 4 (some .boolean) :: (woX1_forget ++ (wsX10 ++ (wsX1_isKnown)))
set_option maxRecDepth 100000 in
set_option maxHeartbeats 4000000 in
theorem lwo_X1_forget : ∀ w ∈ Cond.code yX1_forget cX1_forget 4 (some .boolean) :: woX1_forget, w ∈ lw_tbl := lwi_mem [(3, 81), (3, 82), (3, 84), (0, 43), (1, 6), (1, 193)] (by decide +kernel)
theorem oko_X1_forget : ∀ w ∈ woX1_forget, goodWord w = true := by decide +kernel
theorem lw_X1_forget : ∀ w ∈ wsX1_forget, w ∈ lw_tbl := List.forall_mem_cons.mpr ⟨lwo_X1_forget _ List.mem_cons_self, List.forall_mem_append.mpr ⟨(fun w h => lwo_X1_forget w (List.mem_cons_of_mem _ h)), List.forall_mem_append.mpr ⟨lwi_X1, lw_X1_isKnown⟩⟩⟩
theorem ok_X1_forget : ∀ w ∈ wsX1_forget, goodWord w = true := List.forall_mem_cons.mpr ⟨rfl, List.forall_mem_append.mpr ⟨oko_X1_forget, List.forall_mem_append.mpr ⟨ok_X1, ok_X1_isKnown⟩⟩⟩
theorem ptX1_forget_woX1_forget : ∀ w ∈ woX1_forget, w ∈ wsX1_forget := fun _ h => List.mem_cons_of_mem _ (List.mem_append_left _ h)
theorem ptX1_forget_wsX10 : ∀ w ∈ wsX10, w ∈ wsX1_forget := fun _ h => List.mem_cons_of_mem _ (List.mem_append_right _ (List.mem_append_left _ h))
theorem ptX1_forget_wsX1_isKnown : ∀ w ∈ wsX1_isKnown, w ∈ wsX1_forget := fun _ h => List.mem_cons_of_mem _ (List.mem_append_right _ (List.mem_append_right _ h))
theorem gX1_forget_X1_isKnown : GoodIn wsX1_forget (wsV RX1 27 RX1 yX1_isKnown wsX1_isKnown) := goodIn_app (goodIn_sub (fun w h => ptX1_forget_woX1_forget w ((by decide +kernel : ∀ w ∈ ([Cond.methodLink RX1 27 yX1_isKnown, Cond.instanceMethod yX1_isKnown, Cond.selects RX1 yX1_isKnown yX1_isKnown, Cond.initialized RX1] : List Cond), w ∈ woX1_forget) w h)) (by decide +kernel)) (goodIn_sub (fun w h => ptX1_forget_wsX1_isKnown w h) (List.all_eq_true.mpr ok_X1_isKnown))
def woX1_findBetween : List Cond := [Cond.fieldLink RX1 9 "FreeLand$Corners" "known" "[Z", Cond.fieldLink RX1 13 "FreeLand$Corners" "x" "[I", Cond.fieldLink RX1 31 "FreeLand$Corners" "foundX" "I", Cond.fieldLink RX1 17 "FreeLand$Corners" "y" "[I", Cond.fieldLink RX1 35 "FreeLand$Corners" "foundY" "I"]
def wsX1_findBetween : List Cond := .code yX1_findBetween cX1_findBetween 9 (some .boolean) :: (woX1_findBetween ++ (wsX10))
set_option maxRecDepth 100000 in
set_option maxHeartbeats 4000000 in
theorem lwo_X1_findBetween : ∀ w ∈ Cond.code yX1_findBetween cX1_findBetween 9 (some .boolean) :: woX1_findBetween, w ∈ lw_tbl := lwi_mem [(3, 97), (1, 193), (1, 194), (1, 196), (1, 195), (1, 198)] (by decide +kernel)
theorem oko_X1_findBetween : ∀ w ∈ woX1_findBetween, goodWord w = true := by decide +kernel
theorem lw_X1_findBetween : ∀ w ∈ wsX1_findBetween, w ∈ lw_tbl := List.forall_mem_cons.mpr ⟨lwo_X1_findBetween _ List.mem_cons_self, List.forall_mem_append.mpr ⟨(fun w h => lwo_X1_findBetween w (List.mem_cons_of_mem _ h)), lwi_X1⟩⟩
theorem ok_X1_findBetween : ∀ w ∈ wsX1_findBetween, goodWord w = true := List.forall_mem_cons.mpr ⟨rfl, List.forall_mem_append.mpr ⟨oko_X1_findBetween, ok_X1⟩⟩
theorem ptX1_findBetween_woX1_findBetween : ∀ w ∈ woX1_findBetween, w ∈ wsX1_findBetween := fun _ h => List.mem_cons_of_mem _ (List.mem_append_left _ h)
theorem ptX1_findBetween_wsX10 : ∀ w ∈ wsX10, w ∈ wsX1_findBetween := fun _ h => List.mem_cons_of_mem _ (List.mem_append_right _ h)
def woX1_find : List Cond := [Cond.fieldLink RX1 9 "FreeLand$Corners" "known" "[Z", Cond.fieldLink RX1 13 "FreeLand$Corners" "x" "[I", Cond.fieldLink RX1 31 "FreeLand$Corners" "foundX" "I", Cond.fieldLink RX1 17 "FreeLand$Corners" "y" "[I", Cond.fieldLink RX1 35 "FreeLand$Corners" "foundY" "I", Cond.methodLink RX1 38 yX1_findBetween, Cond.instanceMethod yX1_findBetween, Cond.selects RX1 yX1_findBetween yX1_findBetween, Cond.initialized RX1]
def wsX1_find : List Cond := .code yX1_find cX1_find 4 (some .boolean) :: (woX1_find ++ (wsX10 ++ (wsX1_findBetween)))
set_option maxRecDepth 100000 in
set_option maxHeartbeats 4000000 in
theorem lwo_X1_find : ∀ w ∈ Cond.code yX1_find cX1_find 4 (some .boolean) :: woX1_find, w ∈ lw_tbl := lwi_mem [(3, 93), (1, 193), (1, 194), (1, 196), (1, 195), (1, 198), (3, 94), (3, 96), (0, 45), (1, 6)] (by decide +kernel)
theorem oko_X1_find : ∀ w ∈ woX1_find, goodWord w = true := by decide +kernel
theorem lw_X1_find : ∀ w ∈ wsX1_find, w ∈ lw_tbl := List.forall_mem_cons.mpr ⟨lwo_X1_find _ List.mem_cons_self, List.forall_mem_append.mpr ⟨(fun w h => lwo_X1_find w (List.mem_cons_of_mem _ h)), List.forall_mem_append.mpr ⟨lwi_X1, lw_X1_findBetween⟩⟩⟩
theorem ok_X1_find : ∀ w ∈ wsX1_find, goodWord w = true := List.forall_mem_cons.mpr ⟨rfl, List.forall_mem_append.mpr ⟨oko_X1_find, List.forall_mem_append.mpr ⟨ok_X1, ok_X1_findBetween⟩⟩⟩
theorem ptX1_find_woX1_find : ∀ w ∈ woX1_find, w ∈ wsX1_find := fun _ h => List.mem_cons_of_mem _ (List.mem_append_left _ h)
theorem ptX1_find_wsX10 : ∀ w ∈ wsX10, w ∈ wsX1_find := fun _ h => List.mem_cons_of_mem _ (List.mem_append_right _ (List.mem_append_left _ h))
theorem ptX1_find_wsX1_findBetween : ∀ w ∈ wsX1_findBetween, w ∈ wsX1_find := fun _ h => List.mem_cons_of_mem _ (List.mem_append_right _ (List.mem_append_right _ h))
theorem gX1_find_X1_findBetween : GoodIn wsX1_find (wsV RX1 38 RX1 yX1_findBetween wsX1_findBetween) := goodIn_app (goodIn_sub (fun w h => ptX1_find_woX1_find w ((by decide +kernel : ∀ w ∈ ([Cond.methodLink RX1 38 yX1_findBetween, Cond.instanceMethod yX1_findBetween, Cond.selects RX1 yX1_findBetween yX1_findBetween, Cond.initialized RX1] : List Cond), w ∈ woX1_find) w h)) (by decide +kernel)) (goodIn_sub (fun w h => ptX1_find_wsX1_findBetween w h) (List.all_eq_true.mpr ok_X1_findBetween))
def woX1_findAround : List Cond := [Cond.methodLink RX1 42 yX1_find, Cond.instanceMethod yX1_find, Cond.selects RX1 yX1_find yX1_find, Cond.initialized RX1, Cond.fieldLink RX1 20 "FreeLand$Corners" "aroundX" "[J", Cond.fieldLink RX1 31 "FreeLand$Corners" "foundX" "I", Cond.fieldLink RX1 24 "FreeLand$Corners" "aroundY" "[J", Cond.fieldLink RX1 35 "FreeLand$Corners" "foundY" "I"]
def wsX1_findAround : List Cond := .code yX1_findAround cX1_findAround 6 (some .boolean) :: (woX1_findAround ++ (wsX10 ++ (wsX1_find)))
set_option maxRecDepth 100000 in
set_option maxHeartbeats 4000000 in
theorem lwo_X1_findAround : ∀ w ∈ Cond.code yX1_findAround cX1_findAround 6 (some .boolean) :: woX1_findAround, w ∈ lw_tbl := lwi_mem [(3, 107), (3, 108), (3, 92), (0, 44), (1, 6), (1, 200), (1, 196), (1, 201), (1, 198)] (by decide +kernel)
theorem oko_X1_findAround : ∀ w ∈ woX1_findAround, goodWord w = true := by decide +kernel
theorem lw_X1_findAround : ∀ w ∈ wsX1_findAround, w ∈ lw_tbl := List.forall_mem_cons.mpr ⟨lwo_X1_findAround _ List.mem_cons_self, List.forall_mem_append.mpr ⟨(fun w h => lwo_X1_findAround w (List.mem_cons_of_mem _ h)), List.forall_mem_append.mpr ⟨lwi_X1, lw_X1_find⟩⟩⟩
theorem ok_X1_findAround : ∀ w ∈ wsX1_findAround, goodWord w = true := List.forall_mem_cons.mpr ⟨rfl, List.forall_mem_append.mpr ⟨oko_X1_findAround, List.forall_mem_append.mpr ⟨ok_X1, ok_X1_find⟩⟩⟩
theorem ptX1_findAround_woX1_findAround : ∀ w ∈ woX1_findAround, w ∈ wsX1_findAround := fun _ h => List.mem_cons_of_mem _ (List.mem_append_left _ h)
theorem ptX1_findAround_wsX10 : ∀ w ∈ wsX10, w ∈ wsX1_findAround := fun _ h => List.mem_cons_of_mem _ (List.mem_append_right _ (List.mem_append_left _ h))
theorem ptX1_findAround_wsX1_find : ∀ w ∈ wsX1_find, w ∈ wsX1_findAround := fun _ h => List.mem_cons_of_mem _ (List.mem_append_right _ (List.mem_append_right _ h))
theorem gX1_findAround_X1_find : GoodIn wsX1_findAround (wsV RX1 42 RX1 yX1_find wsX1_find) := goodIn_app (goodIn_sub (fun w h => ptX1_findAround_woX1_findAround w ((by decide +kernel : ∀ w ∈ ([Cond.methodLink RX1 42 yX1_find, Cond.instanceMethod yX1_find, Cond.selects RX1 yX1_find yX1_find, Cond.initialized RX1] : List Cond), w ∈ woX1_findAround) w h)) (by decide +kernel)) (goodIn_sub (fun w h => ptX1_findAround_wsX1_find w h) (List.all_eq_true.mpr ok_X1_find))
def woX1_crossSum : List Cond := [Cond.fieldLink RX1 20 "FreeLand$Corners" "aroundX" "[J", Cond.fieldLink RX1 24 "FreeLand$Corners" "aroundY" "[J"]
def wsX1_crossSum : List Cond := .code yX1_crossSum cX1_crossSum 5 (some .long) :: (woX1_crossSum ++ (wsX10))
set_option maxRecDepth 100000 in
set_option maxHeartbeats 4000000 in
theorem lwo_X1_crossSum : ∀ w ∈ Cond.code yX1_crossSum cX1_crossSum 5 (some .long) :: woX1_crossSum, w ∈ lw_tbl := lwi_mem [(3, 113), (1, 200), (1, 201)] (by decide +kernel)
theorem oko_X1_crossSum : ∀ w ∈ woX1_crossSum, goodWord w = true := by decide +kernel
theorem lw_X1_crossSum : ∀ w ∈ wsX1_crossSum, w ∈ lw_tbl := List.forall_mem_cons.mpr ⟨lwo_X1_crossSum _ List.mem_cons_self, List.forall_mem_append.mpr ⟨(fun w h => lwo_X1_crossSum w (List.mem_cons_of_mem _ h)), lwi_X1⟩⟩
theorem ok_X1_crossSum : ∀ w ∈ wsX1_crossSum, goodWord w = true := List.forall_mem_cons.mpr ⟨rfl, List.forall_mem_append.mpr ⟨oko_X1_crossSum, ok_X1⟩⟩
theorem ptX1_crossSum_woX1_crossSum : ∀ w ∈ woX1_crossSum, w ∈ wsX1_crossSum := fun _ h => List.mem_cons_of_mem _ (List.mem_append_left _ h)
theorem ptX1_crossSum_wsX10 : ∀ w ∈ wsX10, w ∈ wsX1_crossSum := fun _ h => List.mem_cons_of_mem _ (List.mem_append_right _ h)
def woX2_init : List Cond := [Cond.methodLink RX2 3 objectInit, Cond.instanceMethod objectInit, Cond.code objectInit ⟨#[0xb1]⟩ 1 none, Cond.arrayClass .byte, Cond.fieldLink RX2 9 "FreeLand$Laws" "text" "[B", Cond.fieldLink RX2 15 "FreeLand$Laws" "faultAt" "I", Cond.arrayClass .int, Cond.fieldLink RX2 19 "FreeLand$Laws" "from" "[I", Cond.classLink RX2 23 "[[I", Cond.fieldLink RX2 25 "FreeLand$Laws" "value" "[[I", Cond.fieldLink RX2 28 "FreeLand$Laws" "order" "[I"]
def wsX2_init : List Cond := .code yX2_init cX2_init 1 none :: (woX2_init ++ (wsX20))
set_option maxRecDepth 100000 in
set_option maxHeartbeats 4000000 in
theorem lwo_X2_init : ∀ w ∈ Cond.code yX2_init cX2_init 1 none :: woX2_init, w ∈ lw_tbl := lwi_mem [(1, 45), (1, 46), (1, 19), (1, 20), (1, 75), (1, 49), (1, 52), (1, 40), (1, 54), (1, 47), (1, 56), (1, 57)] (by decide +kernel)
theorem oko_X2_init : ∀ w ∈ woX2_init, goodWord w = true := by decide +kernel
theorem lw_X2_init : ∀ w ∈ wsX2_init, w ∈ lw_tbl := List.forall_mem_cons.mpr ⟨lwo_X2_init _ List.mem_cons_self, List.forall_mem_append.mpr ⟨(fun w h => lwo_X2_init w (List.mem_cons_of_mem _ h)), lwi_X2⟩⟩
theorem ok_X2_init : ∀ w ∈ wsX2_init, goodWord w = true := List.forall_mem_cons.mpr ⟨rfl, List.forall_mem_append.mpr ⟨oko_X2_init, ok_X2⟩⟩
theorem ptX2_init_woX2_init : ∀ w ∈ woX2_init, w ∈ wsX2_init := fun _ h => List.mem_cons_of_mem _ (List.mem_append_left _ h)
theorem ptX2_init_wsX20 : ∀ w ∈ wsX20, w ∈ wsX2_init := fun _ h => List.mem_cons_of_mem _ (List.mem_append_right _ h)
def woX2_append : List Cond := [Cond.fieldLink RX2 9 "FreeLand$Laws" "text" "[B", Cond.fieldLink RX2 31 "FreeLand$Laws" "length" "I"]
def wsX2_append : List Cond := .code yX2_append cX2_append 5 (some .int) :: (woX2_append ++ (wsX20))
set_option maxRecDepth 100000 in
set_option maxHeartbeats 4000000 in
theorem lwo_X2_append : ∀ w ∈ Cond.code yX2_append cX2_append 5 (some .int) :: woX2_append, w ∈ lw_tbl := lwi_mem [(2, 16), (1, 49), (1, 50)] (by decide +kernel)
theorem oko_X2_append : ∀ w ∈ woX2_append, goodWord w = true := by decide +kernel
theorem lw_X2_append : ∀ w ∈ wsX2_append, w ∈ lw_tbl := List.forall_mem_cons.mpr ⟨lwo_X2_append _ List.mem_cons_self, List.forall_mem_append.mpr ⟨(fun w h => lwo_X2_append w (List.mem_cons_of_mem _ h)), lwi_X2⟩⟩
theorem ok_X2_append : ∀ w ∈ wsX2_append, goodWord w = true := List.forall_mem_cons.mpr ⟨rfl, List.forall_mem_append.mpr ⟨oko_X2_append, ok_X2⟩⟩
theorem ptX2_append_woX2_append : ∀ w ∈ woX2_append, w ∈ wsX2_append := fun _ h => List.mem_cons_of_mem _ (List.mem_append_left _ h)
theorem ptX2_append_wsX20 : ∀ w ∈ wsX20, w ∈ wsX2_append := fun _ h => List.mem_cons_of_mem _ (List.mem_append_right _ h)
def woX2_beginsThing : List Cond := [Cond.fieldLink RX2 9 "FreeLand$Laws" "text" "[B"]
def wsX2_beginsThing : List Cond := .code yX2_beginsThing cX2_beginsThing 2 (some .boolean) :: (woX2_beginsThing ++ (wsX20))
set_option maxRecDepth 100000 in
set_option maxHeartbeats 4000000 in
theorem lwo_X2_beginsThing : ∀ w ∈ Cond.code yX2_beginsThing cX2_beginsThing 2 (some .boolean) :: woX2_beginsThing, w ∈ lw_tbl := lwi_mem [(2, 35), (1, 49)] (by decide +kernel)
theorem oko_X2_beginsThing : ∀ w ∈ woX2_beginsThing, goodWord w = true := by decide +kernel
theorem lw_X2_beginsThing : ∀ w ∈ wsX2_beginsThing, w ∈ lw_tbl := List.forall_mem_cons.mpr ⟨lwo_X2_beginsThing _ List.mem_cons_self, List.forall_mem_append.mpr ⟨(fun w h => lwo_X2_beginsThing w (List.mem_cons_of_mem _ h)), lwi_X2⟩⟩
theorem ok_X2_beginsThing : ∀ w ∈ wsX2_beginsThing, goodWord w = true := List.forall_mem_cons.mpr ⟨rfl, List.forall_mem_append.mpr ⟨oko_X2_beginsThing, ok_X2⟩⟩
theorem ptX2_beginsThing_woX2_beginsThing : ∀ w ∈ woX2_beginsThing, w ∈ wsX2_beginsThing := fun _ h => List.mem_cons_of_mem _ (List.mem_append_left _ h)
theorem ptX2_beginsThing_wsX20 : ∀ w ∈ wsX20, w ∈ wsX2_beginsThing := fun _ h => List.mem_cons_of_mem _ (List.mem_append_right _ h)
def woX2_endOfThing : List Cond := [Cond.fieldLink RX2 31 "FreeLand$Laws" "length" "I", Cond.fieldLink RX2 9 "FreeLand$Laws" "text" "[B"]
def wsX2_endOfThing : List Cond := .code yX2_endOfThing cX2_endOfThing 3 (some .int) :: (woX2_endOfThing ++ (wsX20))
set_option maxRecDepth 100000 in
set_option maxHeartbeats 4000000 in
theorem lwo_X2_endOfThing : ∀ w ∈ Cond.code yX2_endOfThing cX2_endOfThing 3 (some .int) :: woX2_endOfThing, w ∈ lw_tbl := lwi_mem [(2, 39), (1, 50), (1, 49)] (by decide +kernel)
theorem oko_X2_endOfThing : ∀ w ∈ woX2_endOfThing, goodWord w = true := by decide +kernel
theorem lw_X2_endOfThing : ∀ w ∈ wsX2_endOfThing, w ∈ lw_tbl := List.forall_mem_cons.mpr ⟨lwo_X2_endOfThing _ List.mem_cons_self, List.forall_mem_append.mpr ⟨(fun w h => lwo_X2_endOfThing w (List.mem_cons_of_mem _ h)), lwi_X2⟩⟩
theorem ok_X2_endOfThing : ∀ w ∈ wsX2_endOfThing, goodWord w = true := List.forall_mem_cons.mpr ⟨rfl, List.forall_mem_append.mpr ⟨oko_X2_endOfThing, ok_X2⟩⟩
theorem ptX2_endOfThing_woX2_endOfThing : ∀ w ∈ woX2_endOfThing, w ∈ wsX2_endOfThing := fun _ h => List.mem_cons_of_mem _ (List.mem_append_left _ h)
theorem ptX2_endOfThing_wsX20 : ∀ w ∈ wsX20, w ∈ wsX2_endOfThing := fun _ h => List.mem_cons_of_mem _ (List.mem_append_right _ h)
def woX2_nameOf : List Cond := []
def wsX2_nameOf : List Cond := .code yX2_nameOf cX2_nameOf 1 (some (.object "java/lang/String")) :: (woX2_nameOf)
set_option maxRecDepth 100000 in
set_option maxHeartbeats 4000000 in
theorem lwo_X2_nameOf : ∀ w ∈ Cond.code yX2_nameOf cX2_nameOf 1 (some (.object "java/lang/String")) :: woX2_nameOf, w ∈ lw_tbl := lwi_mem [(2, 46)] (by decide +kernel)
theorem oko_X2_nameOf : ∀ w ∈ woX2_nameOf, goodWord w = true := by decide +kernel
theorem lw_X2_nameOf : ∀ w ∈ wsX2_nameOf, w ∈ lw_tbl := List.forall_mem_cons.mpr ⟨lwo_X2_nameOf _ List.mem_cons_self, (fun w h => lwo_X2_nameOf w (List.mem_cons_of_mem _ h))⟩
theorem ok_X2_nameOf : ∀ w ∈ wsX2_nameOf, goodWord w = true := List.forall_mem_cons.mpr ⟨rfl, oko_X2_nameOf⟩
theorem ptX2_nameOf_woX2_nameOf : ∀ w ∈ woX2_nameOf, w ∈ wsX2_nameOf := fun _ h => List.mem_cons_of_mem _ (h)
def woJ0_coder_7d493 : List Cond := [Cond.fieldLink RJ0 38 "java/lang/String" "COMPACT_STRINGS" "Z", Cond.fieldLink RJ0 15 "java/lang/String" "coder" "B"]
def wsJ0_coder_7d493 : List Cond := .code yJ0_coder_7d493 cJ0_coder_7d493 1 (some .byte) :: (woJ0_coder_7d493)
set_option maxRecDepth 100000 in
set_option maxHeartbeats 4000000 in
theorem lwo_J0_coder_7d493 : ∀ w ∈ Cond.code yJ0_coder_7d493 cJ0_coder_7d493 1 (some .byte) :: woJ0_coder_7d493, w ∈ lw_tbl := lwi_mem [(2, 67), (2, 68), (5, 20)] (by decide +kernel)
theorem oko_J0_coder_7d493 : ∀ w ∈ woJ0_coder_7d493, goodWord w = true := by decide +kernel
theorem lw_J0_coder_7d493 : ∀ w ∈ wsJ0_coder_7d493, w ∈ lw_tbl := List.forall_mem_cons.mpr ⟨lwo_J0_coder_7d493 _ List.mem_cons_self, (fun w h => lwo_J0_coder_7d493 w (List.mem_cons_of_mem _ h))⟩
theorem ok_J0_coder_7d493 : ∀ w ∈ wsJ0_coder_7d493, goodWord w = true := List.forall_mem_cons.mpr ⟨rfl, oko_J0_coder_7d493⟩
theorem ptJ0_coder_7d493_woJ0_coder_7d493 : ∀ w ∈ woJ0_coder_7d493, w ∈ wsJ0_coder_7d493 := fun _ h => List.mem_cons_of_mem _ (h)
def woJ0_length_8abf5 : List Cond := [Cond.fieldLink RJ0 9 "java/lang/String" "value" "[B", Cond.methodLink RJ0 335 yJ0_coder_7d493, Cond.instanceMethod yJ0_coder_7d493, Cond.selects RJ0 yJ0_coder_7d493 yJ0_coder_7d493, Cond.initialized RJ0]
def wsJ0_length_8abf5 : List Cond := .code yJ0_length_8abf5 cJ0_length_8abf5 1 (some .int) :: (woJ0_length_8abf5 ++ (wsJ0_coder_7d493))
set_option maxRecDepth 100000 in
set_option maxHeartbeats 4000000 in
theorem lwo_J0_length_8abf5 : ∀ w ∈ Cond.code yJ0_length_8abf5 cJ0_length_8abf5 1 (some .int) :: woJ0_length_8abf5, w ∈ lw_tbl := lwi_mem [(2, 63), (5, 19), (2, 64), (2, 65), (2, 66), (1, 8)] (by decide +kernel)
theorem oko_J0_length_8abf5 : ∀ w ∈ woJ0_length_8abf5, goodWord w = true := by decide +kernel
theorem lw_J0_length_8abf5 : ∀ w ∈ wsJ0_length_8abf5, w ∈ lw_tbl := List.forall_mem_cons.mpr ⟨lwo_J0_length_8abf5 _ List.mem_cons_self, List.forall_mem_append.mpr ⟨(fun w h => lwo_J0_length_8abf5 w (List.mem_cons_of_mem _ h)), lw_J0_coder_7d493⟩⟩
theorem ok_J0_length_8abf5 : ∀ w ∈ wsJ0_length_8abf5, goodWord w = true := List.forall_mem_cons.mpr ⟨rfl, List.forall_mem_append.mpr ⟨oko_J0_length_8abf5, ok_J0_coder_7d493⟩⟩
theorem ptJ0_length_8abf5_woJ0_length_8abf5 : ∀ w ∈ woJ0_length_8abf5, w ∈ wsJ0_length_8abf5 := fun _ h => List.mem_cons_of_mem _ (List.mem_append_left _ h)
theorem ptJ0_length_8abf5_wsJ0_coder_7d493 : ∀ w ∈ wsJ0_coder_7d493, w ∈ wsJ0_length_8abf5 := fun _ h => List.mem_cons_of_mem _ (List.mem_append_right _ h)
theorem gJ0_length_8abf5_J0_coder_7d493 : GoodIn wsJ0_length_8abf5 (wsV RJ0 335 RJ0 yJ0_coder_7d493 wsJ0_coder_7d493) := goodIn_app (goodIn_sub (fun w h => ptJ0_length_8abf5_woJ0_length_8abf5 w ((by decide +kernel : ∀ w ∈ ([Cond.methodLink RJ0 335 yJ0_coder_7d493, Cond.instanceMethod yJ0_coder_7d493, Cond.selects RJ0 yJ0_coder_7d493 yJ0_coder_7d493, Cond.initialized RJ0] : List Cond), w ∈ woJ0_length_8abf5) w h)) (by decide +kernel)) (goodIn_sub (fun w h => ptJ0_length_8abf5_wsJ0_coder_7d493 w h) (List.all_eq_true.mpr ok_J0_coder_7d493))
def woJ0_isLatin1_aae02 : List Cond := [Cond.fieldLink RJ0 38 "java/lang/String" "COMPACT_STRINGS" "Z", Cond.fieldLink RJ0 15 "java/lang/String" "coder" "B"]
def wsJ0_isLatin1_aae02 : List Cond := .code yJ0_isLatin1_aae02 cJ0_isLatin1_aae02 1 (some .boolean) :: (woJ0_isLatin1_aae02)
set_option maxRecDepth 100000 in
set_option maxHeartbeats 4000000 in
theorem lwo_J0_isLatin1_aae02 : ∀ w ∈ Cond.code yJ0_isLatin1_aae02 cJ0_isLatin1_aae02 1 (some .boolean) :: woJ0_isLatin1_aae02, w ∈ lw_tbl := lwi_mem [(2, 77), (2, 68), (5, 20)] (by decide +kernel)
theorem oko_J0_isLatin1_aae02 : ∀ w ∈ woJ0_isLatin1_aae02, goodWord w = true := by decide +kernel
theorem lw_J0_isLatin1_aae02 : ∀ w ∈ wsJ0_isLatin1_aae02, w ∈ lw_tbl := List.forall_mem_cons.mpr ⟨lwo_J0_isLatin1_aae02 _ List.mem_cons_self, (fun w h => lwo_J0_isLatin1_aae02 w (List.mem_cons_of_mem _ h))⟩
theorem ok_J0_isLatin1_aae02 : ∀ w ∈ wsJ0_isLatin1_aae02, goodWord w = true := List.forall_mem_cons.mpr ⟨rfl, oko_J0_isLatin1_aae02⟩
theorem ptJ0_isLatin1_aae02_woJ0_isLatin1_aae02 : ∀ w ∈ woJ0_isLatin1_aae02, w ∈ wsJ0_isLatin1_aae02 := fun _ h => List.mem_cons_of_mem _ (h)
def woJ3_checkIndex_8e157 : List Cond := []
def wsJ3_checkIndex_8e157 : List Cond := .code yJ3_checkIndex_8e157 cJ3_checkIndex_8e157 3 (some .int) :: (woJ3_checkIndex_8e157)
set_option maxRecDepth 100000 in
set_option maxHeartbeats 4000000 in
theorem lwo_J3_checkIndex_8e157 : ∀ w ∈ Cond.code yJ3_checkIndex_8e157 cJ3_checkIndex_8e157 3 (some .int) :: woJ3_checkIndex_8e157, w ∈ lw_tbl := lwi_mem [(2, 88)] (by decide +kernel)
theorem oko_J3_checkIndex_8e157 : ∀ w ∈ woJ3_checkIndex_8e157, goodWord w = true := by decide +kernel
theorem lw_J3_checkIndex_8e157 : ∀ w ∈ wsJ3_checkIndex_8e157, w ∈ lw_tbl := List.forall_mem_cons.mpr ⟨lwo_J3_checkIndex_8e157 _ List.mem_cons_self, (fun w h => lwo_J3_checkIndex_8e157 w (List.mem_cons_of_mem _ h))⟩
theorem ok_J3_checkIndex_8e157 : ∀ w ∈ wsJ3_checkIndex_8e157, goodWord w = true := List.forall_mem_cons.mpr ⟨rfl, oko_J3_checkIndex_8e157⟩
theorem ptJ3_checkIndex_8e157_woJ3_checkIndex_8e157 : ∀ w ∈ woJ3_checkIndex_8e157, w ∈ wsJ3_checkIndex_8e157 := fun _ h => List.mem_cons_of_mem _ (h)
def woJ0_checkIndex_df160 : List Cond := [Cond.fieldLink RJ0 1053 "jdk/internal/util/Preconditions" "SIOOBE_FORMATTER" "Ljava/util/function/BiFunction;", Cond.methodLink RJ0 1059 yJ3_checkIndex_8e157, Cond.static yJ3_checkIndex_8e157, Cond.initialized RJ3]
def wsJ0_checkIndex_df160 : List Cond := .code yJ0_checkIndex_df160 cJ0_checkIndex_df160 2 none :: (woJ0_checkIndex_df160 ++ (wsJ3_checkIndex_8e157))
set_option maxRecDepth 100000 in
set_option maxHeartbeats 4000000 in
theorem lwo_J0_checkIndex_df160 : ∀ w ∈ Cond.code yJ0_checkIndex_df160 cJ0_checkIndex_df160 2 none :: woJ0_checkIndex_df160, w ∈ lw_tbl := lwi_mem [(2, 83), (2, 84), (2, 86), (2, 87), (1, 10)] (by decide +kernel)
theorem oko_J0_checkIndex_df160 : ∀ w ∈ woJ0_checkIndex_df160, goodWord w = true := by decide +kernel
theorem lw_J0_checkIndex_df160 : ∀ w ∈ wsJ0_checkIndex_df160, w ∈ lw_tbl := List.forall_mem_cons.mpr ⟨lwo_J0_checkIndex_df160 _ List.mem_cons_self, List.forall_mem_append.mpr ⟨(fun w h => lwo_J0_checkIndex_df160 w (List.mem_cons_of_mem _ h)), lw_J3_checkIndex_8e157⟩⟩
theorem ok_J0_checkIndex_df160 : ∀ w ∈ wsJ0_checkIndex_df160, goodWord w = true := List.forall_mem_cons.mpr ⟨rfl, List.forall_mem_append.mpr ⟨oko_J0_checkIndex_df160, ok_J3_checkIndex_8e157⟩⟩
theorem ptJ0_checkIndex_df160_woJ0_checkIndex_df160 : ∀ w ∈ woJ0_checkIndex_df160, w ∈ wsJ0_checkIndex_df160 := fun _ h => List.mem_cons_of_mem _ (List.mem_append_left _ h)
theorem ptJ0_checkIndex_df160_wsJ3_checkIndex_8e157 : ∀ w ∈ wsJ3_checkIndex_8e157, w ∈ wsJ0_checkIndex_df160 := fun _ h => List.mem_cons_of_mem _ (List.mem_append_right _ h)
theorem gJ0_checkIndex_df160_J3_checkIndex_8e157 : GoodIn wsJ0_checkIndex_df160 (va_wsS RJ0 1059 yJ3_checkIndex_8e157 wsJ3_checkIndex_8e157) := goodIn_app (goodIn_sub (fun w h => ptJ0_checkIndex_df160_woJ0_checkIndex_df160 w ((by decide +kernel : ∀ w ∈ ([Cond.methodLink RJ0 1059 yJ3_checkIndex_8e157, Cond.static yJ3_checkIndex_8e157, Cond.initialized yJ3_checkIndex_8e157.cls] : List Cond), w ∈ woJ0_checkIndex_df160) w h)) (by decide +kernel)) (goodIn_sub (fun w h => ptJ0_checkIndex_df160_wsJ3_checkIndex_8e157 w h) (List.all_eq_true.mpr ok_J3_checkIndex_8e157))
def woJ1_charAt_3b067 : List Cond := [Cond.methodLink RJ1 9 yJ0_checkIndex_df160, Cond.static yJ0_checkIndex_df160, Cond.initialized RJ0]
def wsJ1_charAt_3b067 : List Cond := .code yJ1_charAt_3b067 cJ1_charAt_3b067 2 (some .char) :: (woJ1_charAt_3b067 ++ (wsJ0_checkIndex_df160))
set_option maxRecDepth 100000 in
set_option maxHeartbeats 4000000 in
theorem lwo_J1_charAt_3b067 : ∀ w ∈ Cond.code yJ1_charAt_3b067 cJ1_charAt_3b067 2 (some .char) :: woJ1_charAt_3b067, w ∈ lw_tbl := lwi_mem [(2, 80), (2, 81), (2, 82), (1, 8)] (by decide +kernel)
theorem oko_J1_charAt_3b067 : ∀ w ∈ woJ1_charAt_3b067, goodWord w = true := by decide +kernel
theorem lw_J1_charAt_3b067 : ∀ w ∈ wsJ1_charAt_3b067, w ∈ lw_tbl := List.forall_mem_cons.mpr ⟨lwo_J1_charAt_3b067 _ List.mem_cons_self, List.forall_mem_append.mpr ⟨(fun w h => lwo_J1_charAt_3b067 w (List.mem_cons_of_mem _ h)), lw_J0_checkIndex_df160⟩⟩
theorem ok_J1_charAt_3b067 : ∀ w ∈ wsJ1_charAt_3b067, goodWord w = true := List.forall_mem_cons.mpr ⟨rfl, List.forall_mem_append.mpr ⟨oko_J1_charAt_3b067, ok_J0_checkIndex_df160⟩⟩
theorem ptJ1_charAt_3b067_woJ1_charAt_3b067 : ∀ w ∈ woJ1_charAt_3b067, w ∈ wsJ1_charAt_3b067 := fun _ h => List.mem_cons_of_mem _ (List.mem_append_left _ h)
theorem ptJ1_charAt_3b067_wsJ0_checkIndex_df160 : ∀ w ∈ wsJ0_checkIndex_df160, w ∈ wsJ1_charAt_3b067 := fun _ h => List.mem_cons_of_mem _ (List.mem_append_right _ h)
theorem gJ1_charAt_3b067_J0_checkIndex_df160 : GoodIn wsJ1_charAt_3b067 (va_wsS RJ1 9 yJ0_checkIndex_df160 wsJ0_checkIndex_df160) := goodIn_app (goodIn_sub (fun w h => ptJ1_charAt_3b067_woJ1_charAt_3b067 w ((by decide +kernel : ∀ w ∈ ([Cond.methodLink RJ1 9 yJ0_checkIndex_df160, Cond.static yJ0_checkIndex_df160, Cond.initialized yJ0_checkIndex_df160.cls] : List Cond), w ∈ woJ1_charAt_3b067) w h)) (by decide +kernel)) (goodIn_sub (fun w h => ptJ1_charAt_3b067_wsJ0_checkIndex_df160 w h) (List.all_eq_true.mpr ok_J0_checkIndex_df160))
def woJ0_charAt_5068e : List Cond := [Cond.methodLink RJ0 492 yJ0_isLatin1_aae02, Cond.instanceMethod yJ0_isLatin1_aae02, Cond.selects RJ0 yJ0_isLatin1_aae02 yJ0_isLatin1_aae02, Cond.initialized RJ0, Cond.fieldLink RJ0 9 "java/lang/String" "value" "[B", Cond.methodLink RJ0 495 yJ1_charAt_3b067, Cond.static yJ1_charAt_3b067, Cond.initialized RJ1, Cond.initialized RJ2]
def wsJ0_charAt_5068e : List Cond := .code yJ0_charAt_5068e cJ0_charAt_5068e 2 (some .char) :: (woJ0_charAt_5068e ++ (wsJ0_isLatin1_aae02 ++ (wsJ1_charAt_3b067)))
set_option maxRecDepth 100000 in
set_option maxHeartbeats 4000000 in
theorem lwo_J0_charAt_5068e : ∀ w ∈ Cond.code yJ0_charAt_5068e cJ0_charAt_5068e 2 (some .char) :: woJ0_charAt_5068e, w ∈ lw_tbl := lwi_mem [(2, 73), (2, 74), (2, 75), (2, 76), (1, 8), (5, 19), (2, 78), (2, 79), (1, 9), (1, 11)] (by decide +kernel)
theorem oko_J0_charAt_5068e : ∀ w ∈ woJ0_charAt_5068e, goodWord w = true := by decide +kernel
theorem lw_J0_charAt_5068e : ∀ w ∈ wsJ0_charAt_5068e, w ∈ lw_tbl := List.forall_mem_cons.mpr ⟨lwo_J0_charAt_5068e _ List.mem_cons_self, List.forall_mem_append.mpr ⟨(fun w h => lwo_J0_charAt_5068e w (List.mem_cons_of_mem _ h)), List.forall_mem_append.mpr ⟨lw_J0_isLatin1_aae02, lw_J1_charAt_3b067⟩⟩⟩
theorem ok_J0_charAt_5068e : ∀ w ∈ wsJ0_charAt_5068e, goodWord w = true := List.forall_mem_cons.mpr ⟨rfl, List.forall_mem_append.mpr ⟨oko_J0_charAt_5068e, List.forall_mem_append.mpr ⟨ok_J0_isLatin1_aae02, ok_J1_charAt_3b067⟩⟩⟩
theorem ptJ0_charAt_5068e_woJ0_charAt_5068e : ∀ w ∈ woJ0_charAt_5068e, w ∈ wsJ0_charAt_5068e := fun _ h => List.mem_cons_of_mem _ (List.mem_append_left _ h)
theorem ptJ0_charAt_5068e_wsJ0_isLatin1_aae02 : ∀ w ∈ wsJ0_isLatin1_aae02, w ∈ wsJ0_charAt_5068e := fun _ h => List.mem_cons_of_mem _ (List.mem_append_right _ (List.mem_append_left _ h))
theorem ptJ0_charAt_5068e_wsJ1_charAt_3b067 : ∀ w ∈ wsJ1_charAt_3b067, w ∈ wsJ0_charAt_5068e := fun _ h => List.mem_cons_of_mem _ (List.mem_append_right _ (List.mem_append_right _ h))
theorem gJ0_charAt_5068e_J0_isLatin1_aae02 : GoodIn wsJ0_charAt_5068e (wsV RJ0 492 RJ0 yJ0_isLatin1_aae02 wsJ0_isLatin1_aae02) := goodIn_app (goodIn_sub (fun w h => ptJ0_charAt_5068e_woJ0_charAt_5068e w ((by decide +kernel : ∀ w ∈ ([Cond.methodLink RJ0 492 yJ0_isLatin1_aae02, Cond.instanceMethod yJ0_isLatin1_aae02, Cond.selects RJ0 yJ0_isLatin1_aae02 yJ0_isLatin1_aae02, Cond.initialized RJ0] : List Cond), w ∈ woJ0_charAt_5068e) w h)) (by decide +kernel)) (goodIn_sub (fun w h => ptJ0_charAt_5068e_wsJ0_isLatin1_aae02 w h) (List.all_eq_true.mpr ok_J0_isLatin1_aae02))
theorem gJ0_charAt_5068e_J1_charAt_3b067 : GoodIn wsJ0_charAt_5068e (va_wsS RJ0 495 yJ1_charAt_3b067 wsJ1_charAt_3b067) := goodIn_app (goodIn_sub (fun w h => ptJ0_charAt_5068e_woJ0_charAt_5068e w ((by decide +kernel : ∀ w ∈ ([Cond.methodLink RJ0 495 yJ1_charAt_3b067, Cond.static yJ1_charAt_3b067, Cond.initialized yJ1_charAt_3b067.cls] : List Cond), w ∈ woJ0_charAt_5068e) w h)) (by decide +kernel)) (goodIn_sub (fun w h => ptJ0_charAt_5068e_wsJ1_charAt_3b067 w h) (List.all_eq_true.mpr ok_J1_charAt_3b067))
def woX2_isWritten : List Cond := [Cond.methodLink RX2 67 yJ0_length_8abf5, Cond.instanceMethod yJ0_length_8abf5, Cond.selects RJ0 yJ0_length_8abf5 yJ0_length_8abf5, Cond.initialized RJ0, Cond.fieldLink RX2 9 "FreeLand$Laws" "text" "[B", Cond.methodLink RX2 72 yJ0_charAt_5068e, Cond.instanceMethod yJ0_charAt_5068e, Cond.selects RJ0 yJ0_charAt_5068e yJ0_charAt_5068e]
def wsX2_isWritten : List Cond := .code yX2_isWritten cX2_isWritten 5 (some .boolean) :: (woX2_isWritten ++ (wsX20 ++ (wsJ0_length_8abf5 ++ (wsJ0_charAt_5068e))))
set_option maxRecDepth 100000 in
set_option maxHeartbeats 4000000 in
theorem lwo_X2_isWritten : ∀ w ∈ Cond.code yX2_isWritten cX2_isWritten 5 (some .boolean) :: woX2_isWritten, w ∈ lw_tbl := lwi_mem [(2, 59), (2, 60), (2, 61), (2, 62), (1, 8), (1, 49), (2, 70), (2, 71), (2, 72)] (by decide +kernel)
theorem oko_X2_isWritten : ∀ w ∈ woX2_isWritten, goodWord w = true := by decide +kernel
theorem lw_X2_isWritten : ∀ w ∈ wsX2_isWritten, w ∈ lw_tbl := List.forall_mem_cons.mpr ⟨lwo_X2_isWritten _ List.mem_cons_self, List.forall_mem_append.mpr ⟨(fun w h => lwo_X2_isWritten w (List.mem_cons_of_mem _ h)), List.forall_mem_append.mpr ⟨lwi_X2, List.forall_mem_append.mpr ⟨lw_J0_length_8abf5, lw_J0_charAt_5068e⟩⟩⟩⟩
theorem ok_X2_isWritten : ∀ w ∈ wsX2_isWritten, goodWord w = true := List.forall_mem_cons.mpr ⟨rfl, List.forall_mem_append.mpr ⟨oko_X2_isWritten, List.forall_mem_append.mpr ⟨ok_X2, List.forall_mem_append.mpr ⟨ok_J0_length_8abf5, ok_J0_charAt_5068e⟩⟩⟩⟩
theorem ptX2_isWritten_woX2_isWritten : ∀ w ∈ woX2_isWritten, w ∈ wsX2_isWritten := fun _ h => List.mem_cons_of_mem _ (List.mem_append_left _ h)
theorem ptX2_isWritten_wsX20 : ∀ w ∈ wsX20, w ∈ wsX2_isWritten := fun _ h => List.mem_cons_of_mem _ (List.mem_append_right _ (List.mem_append_left _ h))
theorem ptX2_isWritten_wsJ0_length_8abf5 : ∀ w ∈ wsJ0_length_8abf5, w ∈ wsX2_isWritten := fun _ h => List.mem_cons_of_mem _ (List.mem_append_right _ (List.mem_append_right _ (List.mem_append_left _ h)))
theorem ptX2_isWritten_wsJ0_charAt_5068e : ∀ w ∈ wsJ0_charAt_5068e, w ∈ wsX2_isWritten := fun _ h => List.mem_cons_of_mem _ (List.mem_append_right _ (List.mem_append_right _ (List.mem_append_right _ h)))
theorem gX2_isWritten_J0_length_8abf5 : GoodIn wsX2_isWritten (wsV RX2 67 RJ0 yJ0_length_8abf5 wsJ0_length_8abf5) := goodIn_app (goodIn_sub (fun w h => ptX2_isWritten_woX2_isWritten w ((by decide +kernel : ∀ w ∈ ([Cond.methodLink RX2 67 yJ0_length_8abf5, Cond.instanceMethod yJ0_length_8abf5, Cond.selects RJ0 yJ0_length_8abf5 yJ0_length_8abf5, Cond.initialized RJ0] : List Cond), w ∈ woX2_isWritten) w h)) (by decide +kernel)) (goodIn_sub (fun w h => ptX2_isWritten_wsJ0_length_8abf5 w h) (List.all_eq_true.mpr ok_J0_length_8abf5))
theorem gX2_isWritten_J0_charAt_5068e : GoodIn wsX2_isWritten (wsV RX2 72 RJ0 yJ0_charAt_5068e wsJ0_charAt_5068e) := goodIn_app (goodIn_sub (fun w h => ptX2_isWritten_woX2_isWritten w ((by decide +kernel : ∀ w ∈ ([Cond.methodLink RX2 72 yJ0_charAt_5068e, Cond.instanceMethod yJ0_charAt_5068e, Cond.selects RJ0 yJ0_charAt_5068e yJ0_charAt_5068e, Cond.initialized RJ0] : List Cond), w ∈ woX2_isWritten) w h)) (by decide +kernel)) (goodIn_sub (fun w h => ptX2_isWritten_wsJ0_charAt_5068e w h) (List.all_eq_true.mpr ok_J0_charAt_5068e))
def woX2_wordAt : List Cond := [Cond.methodLink RX2 59 yX2_nameOf, Cond.static yX2_nameOf, Cond.initialized RX2, Cond.methodLink RX2 63 yX2_isWritten, Cond.instanceMethod yX2_isWritten, Cond.selects RX2 yX2_isWritten yX2_isWritten]
def wsX2_wordAt : List Cond := .code yX2_wordAt cX2_wordAt 4 (some .int) :: (woX2_wordAt ++ (wsX2_nameOf ++ (wsX2_isWritten)))
set_option maxRecDepth 100000 in
set_option maxHeartbeats 4000000 in
theorem lwo_X2_wordAt : ∀ w ∈ Cond.code yX2_wordAt cX2_wordAt 4 (some .int) :: woX2_wordAt, w ∈ lw_tbl := lwi_mem [(2, 43), (2, 44), (2, 45), (1, 3), (2, 56), (2, 58), (0, 7)] (by decide +kernel)
theorem oko_X2_wordAt : ∀ w ∈ woX2_wordAt, goodWord w = true := by decide +kernel
theorem lw_X2_wordAt : ∀ w ∈ wsX2_wordAt, w ∈ lw_tbl := List.forall_mem_cons.mpr ⟨lwo_X2_wordAt _ List.mem_cons_self, List.forall_mem_append.mpr ⟨(fun w h => lwo_X2_wordAt w (List.mem_cons_of_mem _ h)), List.forall_mem_append.mpr ⟨lw_X2_nameOf, lw_X2_isWritten⟩⟩⟩
theorem ok_X2_wordAt : ∀ w ∈ wsX2_wordAt, goodWord w = true := List.forall_mem_cons.mpr ⟨rfl, List.forall_mem_append.mpr ⟨oko_X2_wordAt, List.forall_mem_append.mpr ⟨ok_X2_nameOf, ok_X2_isWritten⟩⟩⟩
theorem ptX2_wordAt_woX2_wordAt : ∀ w ∈ woX2_wordAt, w ∈ wsX2_wordAt := fun _ h => List.mem_cons_of_mem _ (List.mem_append_left _ h)
theorem ptX2_wordAt_wsX2_nameOf : ∀ w ∈ wsX2_nameOf, w ∈ wsX2_wordAt := fun _ h => List.mem_cons_of_mem _ (List.mem_append_right _ (List.mem_append_left _ h))
theorem ptX2_wordAt_wsX2_isWritten : ∀ w ∈ wsX2_isWritten, w ∈ wsX2_wordAt := fun _ h => List.mem_cons_of_mem _ (List.mem_append_right _ (List.mem_append_right _ h))
theorem gX2_wordAt_X2_nameOf : GoodIn wsX2_wordAt (va_wsS RX2 59 yX2_nameOf wsX2_nameOf) := goodIn_app (goodIn_sub (fun w h => ptX2_wordAt_woX2_wordAt w ((by decide +kernel : ∀ w ∈ ([Cond.methodLink RX2 59 yX2_nameOf, Cond.static yX2_nameOf, Cond.initialized yX2_nameOf.cls] : List Cond), w ∈ woX2_wordAt) w h)) (by decide +kernel)) (goodIn_sub (fun w h => ptX2_wordAt_wsX2_nameOf w h) (List.all_eq_true.mpr ok_X2_nameOf))
theorem gX2_wordAt_X2_isWritten : GoodIn wsX2_wordAt (wsV RX2 63 RX2 yX2_isWritten wsX2_isWritten) := goodIn_app (goodIn_sub (fun w h => ptX2_wordAt_woX2_wordAt w ((by decide +kernel : ∀ w ∈ ([Cond.methodLink RX2 63 yX2_isWritten, Cond.instanceMethod yX2_isWritten, Cond.selects RX2 yX2_isWritten yX2_isWritten, Cond.initialized RX2] : List Cond), w ∈ woX2_wordAt) w h)) (by decide +kernel)) (goodIn_sub (fun w h => ptX2_wordAt_wsX2_isWritten w h) (List.all_eq_true.mpr ok_X2_isWritten))
def woX2_faultOfNumber : List Cond := [Cond.fieldLink RX2 9 "FreeLand$Laws" "text" "[B"]
def wsX2_faultOfNumber : List Cond := .code yX2_faultOfNumber cX2_faultOfNumber 4 (some .int) :: (woX2_faultOfNumber ++ (wsX20))
set_option maxRecDepth 100000 in
set_option maxHeartbeats 4000000 in
theorem lwo_X2_faultOfNumber : ∀ w ∈ Cond.code yX2_faultOfNumber cX2_faultOfNumber 4 (some .int) :: woX2_faultOfNumber, w ∈ lw_tbl := lwi_mem [(2, 111), (1, 49)] (by decide +kernel)
theorem oko_X2_faultOfNumber : ∀ w ∈ woX2_faultOfNumber, goodWord w = true := by decide +kernel
theorem lw_X2_faultOfNumber : ∀ w ∈ wsX2_faultOfNumber, w ∈ lw_tbl := List.forall_mem_cons.mpr ⟨lwo_X2_faultOfNumber _ List.mem_cons_self, List.forall_mem_append.mpr ⟨(fun w h => lwo_X2_faultOfNumber w (List.mem_cons_of_mem _ h)), lwi_X2⟩⟩
theorem ok_X2_faultOfNumber : ∀ w ∈ wsX2_faultOfNumber, goodWord w = true := List.forall_mem_cons.mpr ⟨rfl, List.forall_mem_append.mpr ⟨oko_X2_faultOfNumber, ok_X2⟩⟩
theorem ptX2_faultOfNumber_woX2_faultOfNumber : ∀ w ∈ woX2_faultOfNumber, w ∈ wsX2_faultOfNumber := fun _ h => List.mem_cons_of_mem _ (List.mem_append_left _ h)
theorem ptX2_faultOfNumber_wsX20 : ∀ w ∈ wsX20, w ∈ wsX2_faultOfNumber := fun _ h => List.mem_cons_of_mem _ (List.mem_append_right _ h)
def woX2_numberAt : List Cond := [Cond.fieldLink RX2 9 "FreeLand$Laws" "text" "[B"]
def wsX2_numberAt : List Cond := .code yX2_numberAt cX2_numberAt 5 (some .int) :: (woX2_numberAt ++ (wsX20))
set_option maxRecDepth 100000 in
set_option maxHeartbeats 4000000 in
theorem lwo_X2_numberAt : ∀ w ∈ Cond.code yX2_numberAt cX2_numberAt 5 (some .int) :: woX2_numberAt, w ∈ lw_tbl := lwi_mem [(2, 115), (1, 49)] (by decide +kernel)
theorem oko_X2_numberAt : ∀ w ∈ woX2_numberAt, goodWord w = true := by decide +kernel
theorem lw_X2_numberAt : ∀ w ∈ wsX2_numberAt, w ∈ lw_tbl := List.forall_mem_cons.mpr ⟨lwo_X2_numberAt _ List.mem_cons_self, List.forall_mem_append.mpr ⟨(fun w h => lwo_X2_numberAt w (List.mem_cons_of_mem _ h)), lwi_X2⟩⟩
theorem ok_X2_numberAt : ∀ w ∈ wsX2_numberAt, goodWord w = true := List.forall_mem_cons.mpr ⟨rfl, List.forall_mem_append.mpr ⟨oko_X2_numberAt, ok_X2⟩⟩
theorem ptX2_numberAt_woX2_numberAt : ∀ w ∈ woX2_numberAt, w ∈ wsX2_numberAt := fun _ h => List.mem_cons_of_mem _ (List.mem_append_left _ h)
theorem ptX2_numberAt_wsX20 : ∀ w ∈ wsX20, w ∈ wsX2_numberAt := fun _ h => List.mem_cons_of_mem _ (List.mem_append_right _ h)
def woX2_read : List Cond := [Cond.fieldLink RX2 15 "FreeLand$Laws" "faultAt" "I", Cond.fieldLink RX2 31 "FreeLand$Laws" "length" "I", Cond.methodLink RX2 41 yX2_beginsThing, Cond.instanceMethod yX2_beginsThing, Cond.selects RX2 yX2_beginsThing yX2_beginsThing, Cond.initialized RX2, Cond.methodLink RX2 45 yX2_endOfThing, Cond.instanceMethod yX2_endOfThing, Cond.selects RX2 yX2_endOfThing yX2_endOfThing, Cond.methodLink RX2 49 yX2_wordAt, Cond.instanceMethod yX2_wordAt, Cond.selects RX2 yX2_wordAt yX2_wordAt, Cond.methodLink RX2 53 yX2_faultOfNumber, Cond.instanceMethod yX2_faultOfNumber, Cond.selects RX2 yX2_faultOfNumber yX2_faultOfNumber, Cond.methodLink RX2 56 yX2_numberAt, Cond.instanceMethod yX2_numberAt, Cond.selects RX2 yX2_numberAt yX2_numberAt]
def wsX2_read : List Cond := .code yX2_read cX2_read 6 (some .int) :: (woX2_read ++ (wsX20 ++ (wsX2_beginsThing ++ (wsX2_endOfThing ++ (wsX2_wordAt ++ (wsX2_faultOfNumber ++ (wsX2_numberAt)))))))
set_option maxRecDepth 100000 in
set_option maxHeartbeats 4000000 in
theorem lwo_X2_read : ∀ w ∈ Cond.code yX2_read cX2_read 6 (some .int) :: woX2_read, w ∈ lw_tbl := lwi_mem [(2, 31), (1, 52), (1, 50), (2, 32), (2, 34), (0, 4), (1, 3), (2, 36), (2, 38), (0, 5), (2, 40), (2, 42), (0, 6), (2, 108), (2, 110), (0, 8), (2, 112), (2, 114), (0, 9)] (by decide +kernel)
theorem oko_X2_read : ∀ w ∈ woX2_read, goodWord w = true := by decide +kernel
theorem lw_X2_read : ∀ w ∈ wsX2_read, w ∈ lw_tbl := List.forall_mem_cons.mpr ⟨lwo_X2_read _ List.mem_cons_self, List.forall_mem_append.mpr ⟨(fun w h => lwo_X2_read w (List.mem_cons_of_mem _ h)), List.forall_mem_append.mpr ⟨lwi_X2, List.forall_mem_append.mpr ⟨lw_X2_beginsThing, List.forall_mem_append.mpr ⟨lw_X2_endOfThing, List.forall_mem_append.mpr ⟨lw_X2_wordAt, List.forall_mem_append.mpr ⟨lw_X2_faultOfNumber, lw_X2_numberAt⟩⟩⟩⟩⟩⟩⟩
theorem ok_X2_read : ∀ w ∈ wsX2_read, goodWord w = true := List.forall_mem_cons.mpr ⟨rfl, List.forall_mem_append.mpr ⟨oko_X2_read, List.forall_mem_append.mpr ⟨ok_X2, List.forall_mem_append.mpr ⟨ok_X2_beginsThing, List.forall_mem_append.mpr ⟨ok_X2_endOfThing, List.forall_mem_append.mpr ⟨ok_X2_wordAt, List.forall_mem_append.mpr ⟨ok_X2_faultOfNumber, ok_X2_numberAt⟩⟩⟩⟩⟩⟩⟩
theorem ptX2_read_woX2_read : ∀ w ∈ woX2_read, w ∈ wsX2_read := fun _ h => List.mem_cons_of_mem _ (List.mem_append_left _ h)
theorem ptX2_read_wsX20 : ∀ w ∈ wsX20, w ∈ wsX2_read := fun _ h => List.mem_cons_of_mem _ (List.mem_append_right _ (List.mem_append_left _ h))
theorem ptX2_read_wsX2_beginsThing : ∀ w ∈ wsX2_beginsThing, w ∈ wsX2_read := fun _ h => List.mem_cons_of_mem _ (List.mem_append_right _ (List.mem_append_right _ (List.mem_append_left _ h)))
theorem ptX2_read_wsX2_endOfThing : ∀ w ∈ wsX2_endOfThing, w ∈ wsX2_read := fun _ h => List.mem_cons_of_mem _ (List.mem_append_right _ (List.mem_append_right _ (List.mem_append_right _ (List.mem_append_left _ h))))
theorem ptX2_read_wsX2_wordAt : ∀ w ∈ wsX2_wordAt, w ∈ wsX2_read := fun _ h => List.mem_cons_of_mem _ (List.mem_append_right _ (List.mem_append_right _ (List.mem_append_right _ (List.mem_append_right _ (List.mem_append_left _ h)))))
theorem ptX2_read_wsX2_faultOfNumber : ∀ w ∈ wsX2_faultOfNumber, w ∈ wsX2_read := fun _ h => List.mem_cons_of_mem _ (List.mem_append_right _ (List.mem_append_right _ (List.mem_append_right _ (List.mem_append_right _ (List.mem_append_right _ (List.mem_append_left _ h))))))
theorem ptX2_read_wsX2_numberAt : ∀ w ∈ wsX2_numberAt, w ∈ wsX2_read := fun _ h => List.mem_cons_of_mem _ (List.mem_append_right _ (List.mem_append_right _ (List.mem_append_right _ (List.mem_append_right _ (List.mem_append_right _ (List.mem_append_right _ h))))))
theorem gX2_read_X2_beginsThing : GoodIn wsX2_read (wsV RX2 41 RX2 yX2_beginsThing wsX2_beginsThing) := goodIn_app (goodIn_sub (fun w h => ptX2_read_woX2_read w ((by decide +kernel : ∀ w ∈ ([Cond.methodLink RX2 41 yX2_beginsThing, Cond.instanceMethod yX2_beginsThing, Cond.selects RX2 yX2_beginsThing yX2_beginsThing, Cond.initialized RX2] : List Cond), w ∈ woX2_read) w h)) (by decide +kernel)) (goodIn_sub (fun w h => ptX2_read_wsX2_beginsThing w h) (List.all_eq_true.mpr ok_X2_beginsThing))
theorem gX2_read_X2_endOfThing : GoodIn wsX2_read (wsV RX2 45 RX2 yX2_endOfThing wsX2_endOfThing) := goodIn_app (goodIn_sub (fun w h => ptX2_read_woX2_read w ((by decide +kernel : ∀ w ∈ ([Cond.methodLink RX2 45 yX2_endOfThing, Cond.instanceMethod yX2_endOfThing, Cond.selects RX2 yX2_endOfThing yX2_endOfThing, Cond.initialized RX2] : List Cond), w ∈ woX2_read) w h)) (by decide +kernel)) (goodIn_sub (fun w h => ptX2_read_wsX2_endOfThing w h) (List.all_eq_true.mpr ok_X2_endOfThing))
theorem gX2_read_X2_wordAt : GoodIn wsX2_read (wsV RX2 49 RX2 yX2_wordAt wsX2_wordAt) := goodIn_app (goodIn_sub (fun w h => ptX2_read_woX2_read w ((by decide +kernel : ∀ w ∈ ([Cond.methodLink RX2 49 yX2_wordAt, Cond.instanceMethod yX2_wordAt, Cond.selects RX2 yX2_wordAt yX2_wordAt, Cond.initialized RX2] : List Cond), w ∈ woX2_read) w h)) (by decide +kernel)) (goodIn_sub (fun w h => ptX2_read_wsX2_wordAt w h) (List.all_eq_true.mpr ok_X2_wordAt))
theorem gX2_read_X2_faultOfNumber : GoodIn wsX2_read (wsV RX2 53 RX2 yX2_faultOfNumber wsX2_faultOfNumber) := goodIn_app (goodIn_sub (fun w h => ptX2_read_woX2_read w ((by decide +kernel : ∀ w ∈ ([Cond.methodLink RX2 53 yX2_faultOfNumber, Cond.instanceMethod yX2_faultOfNumber, Cond.selects RX2 yX2_faultOfNumber yX2_faultOfNumber, Cond.initialized RX2] : List Cond), w ∈ woX2_read) w h)) (by decide +kernel)) (goodIn_sub (fun w h => ptX2_read_wsX2_faultOfNumber w h) (List.all_eq_true.mpr ok_X2_faultOfNumber))
theorem gX2_read_X2_numberAt : GoodIn wsX2_read (wsV RX2 56 RX2 yX2_numberAt wsX2_numberAt) := goodIn_app (goodIn_sub (fun w h => ptX2_read_woX2_read w ((by decide +kernel : ∀ w ∈ ([Cond.methodLink RX2 56 yX2_numberAt, Cond.instanceMethod yX2_numberAt, Cond.selects RX2 yX2_numberAt yX2_numberAt, Cond.initialized RX2] : List Cond), w ∈ woX2_read) w h)) (by decide +kernel)) (goodIn_sub (fun w h => ptX2_read_wsX2_numberAt w h) (List.all_eq_true.mpr ok_X2_numberAt))
def woX2_enact : List Cond := [Cond.fieldLink RX2 25 "FreeLand$Laws" "value" "[[I", Cond.fieldLink RX2 34 "FreeLand$Laws" "size" "I", Cond.methodLink RX2 37 yX2_read, Cond.instanceMethod yX2_read, Cond.selects RX2 yX2_read yX2_read, Cond.initialized RX2, Cond.fieldLink RX2 31 "FreeLand$Laws" "length" "I", Cond.fieldLink RX2 19 "FreeLand$Laws" "from" "[I", Cond.fieldLink RX2 28 "FreeLand$Laws" "order" "[I"]
def wsX2_enact : List Cond := .code yX2_enact cX2_enact 4 (some .int) :: (woX2_enact ++ (wsX20 ++ (wsX2_read)))
set_option maxRecDepth 100000 in
set_option maxHeartbeats 4000000 in
theorem lwo_X2_enact : ∀ w ∈ Cond.code yX2_enact cX2_enact 4 (some .int) :: woX2_enact, w ∈ lw_tbl := lwi_mem [(2, 27), (1, 56), (1, 58), (2, 28), (2, 30), (0, 3), (1, 3), (1, 50), (1, 54), (1, 57)] (by decide +kernel)
theorem oko_X2_enact : ∀ w ∈ woX2_enact, goodWord w = true := by decide +kernel
theorem lw_X2_enact : ∀ w ∈ wsX2_enact, w ∈ lw_tbl := List.forall_mem_cons.mpr ⟨lwo_X2_enact _ List.mem_cons_self, List.forall_mem_append.mpr ⟨(fun w h => lwo_X2_enact w (List.mem_cons_of_mem _ h)), List.forall_mem_append.mpr ⟨lwi_X2, lw_X2_read⟩⟩⟩
theorem ok_X2_enact : ∀ w ∈ wsX2_enact, goodWord w = true := List.forall_mem_cons.mpr ⟨rfl, List.forall_mem_append.mpr ⟨oko_X2_enact, List.forall_mem_append.mpr ⟨ok_X2, ok_X2_read⟩⟩⟩
theorem ptX2_enact_woX2_enact : ∀ w ∈ woX2_enact, w ∈ wsX2_enact := fun _ h => List.mem_cons_of_mem _ (List.mem_append_left _ h)
theorem ptX2_enact_wsX20 : ∀ w ∈ wsX20, w ∈ wsX2_enact := fun _ h => List.mem_cons_of_mem _ (List.mem_append_right _ (List.mem_append_left _ h))
theorem ptX2_enact_wsX2_read : ∀ w ∈ wsX2_read, w ∈ wsX2_enact := fun _ h => List.mem_cons_of_mem _ (List.mem_append_right _ (List.mem_append_right _ h))
theorem gX2_enact_X2_read : GoodIn wsX2_enact (wsV RX2 37 RX2 yX2_read wsX2_read) := goodIn_app (goodIn_sub (fun w h => ptX2_enact_woX2_enact w ((by decide +kernel : ∀ w ∈ ([Cond.methodLink RX2 37 yX2_read, Cond.instanceMethod yX2_read, Cond.selects RX2 yX2_read yX2_read, Cond.initialized RX2] : List Cond), w ∈ woX2_enact) w h)) (by decide +kernel)) (goodIn_sub (fun w h => ptX2_enact_wsX2_read w h) (List.all_eq_true.mpr ok_X2_read))
def woX2_valueOf : List Cond := [Cond.fieldLink RX2 34 "FreeLand$Laws" "size" "I", Cond.fieldLink RX2 28 "FreeLand$Laws" "order" "[I", Cond.fieldLink RX2 25 "FreeLand$Laws" "value" "[[I", Cond.fieldLink RX2 94 "FreeLand$Laws" "AT_FIRST" "[I"]
def wsX2_valueOf : List Cond := .code yX2_valueOf cX2_valueOf 6 (some .int) :: (woX2_valueOf ++ (wsX20))
set_option maxRecDepth 100000 in
set_option maxHeartbeats 4000000 in
theorem lwo_X2_valueOf : ∀ w ∈ Cond.code yX2_valueOf cX2_valueOf 6 (some .int) :: woX2_valueOf, w ∈ lw_tbl := lwi_mem [(2, 127), (1, 58), (1, 57), (1, 56), (2, 128)] (by decide +kernel)
theorem oko_X2_valueOf : ∀ w ∈ woX2_valueOf, goodWord w = true := by decide +kernel
theorem lw_X2_valueOf : ∀ w ∈ wsX2_valueOf, w ∈ lw_tbl := List.forall_mem_cons.mpr ⟨lwo_X2_valueOf _ List.mem_cons_self, List.forall_mem_append.mpr ⟨(fun w h => lwo_X2_valueOf w (List.mem_cons_of_mem _ h)), lwi_X2⟩⟩
theorem ok_X2_valueOf : ∀ w ∈ wsX2_valueOf, goodWord w = true := List.forall_mem_cons.mpr ⟨rfl, List.forall_mem_append.mpr ⟨oko_X2_valueOf, ok_X2⟩⟩
theorem ptX2_valueOf_woX2_valueOf : ∀ w ∈ woX2_valueOf, w ∈ wsX2_valueOf := fun _ h => List.mem_cons_of_mem _ (List.mem_append_left _ h)
theorem ptX2_valueOf_wsX20 : ∀ w ∈ wsX20, w ∈ wsX2_valueOf := fun _ h => List.mem_cons_of_mem _ (List.mem_append_right _ h)
def woX2_inForce : List Cond := [Cond.fieldLink RX2 34 "FreeLand$Laws" "size" "I", Cond.fieldLink RX2 19 "FreeLand$Laws" "from" "[I", Cond.fieldLink RX2 28 "FreeLand$Laws" "order" "[I"]
def wsX2_inForce : List Cond := .code yX2_inForce cX2_inForce 3 (some .int) :: (woX2_inForce ++ (wsX20))
set_option maxRecDepth 100000 in
set_option maxHeartbeats 4000000 in
theorem lwo_X2_inForce : ∀ w ∈ Cond.code yX2_inForce cX2_inForce 3 (some .int) :: woX2_inForce, w ∈ lw_tbl := lwi_mem [(2, 137), (1, 58), (1, 54), (1, 57)] (by decide +kernel)
theorem oko_X2_inForce : ∀ w ∈ woX2_inForce, goodWord w = true := by decide +kernel
theorem lw_X2_inForce : ∀ w ∈ wsX2_inForce, w ∈ lw_tbl := List.forall_mem_cons.mpr ⟨lwo_X2_inForce _ List.mem_cons_self, List.forall_mem_append.mpr ⟨(fun w h => lwo_X2_inForce w (List.mem_cons_of_mem _ h)), lwi_X2⟩⟩
theorem ok_X2_inForce : ∀ w ∈ wsX2_inForce, goodWord w = true := List.forall_mem_cons.mpr ⟨rfl, List.forall_mem_append.mpr ⟨oko_X2_inForce, ok_X2⟩⟩
theorem ptX2_inForce_woX2_inForce : ∀ w ∈ woX2_inForce, w ∈ wsX2_inForce := fun _ h => List.mem_cons_of_mem _ (List.mem_append_left _ h)
theorem ptX2_inForce_wsX20 : ∀ w ∈ wsX20, w ∈ wsX2_inForce := fun _ h => List.mem_cons_of_mem _ (List.mem_append_right _ h)
def woX3_init : List Cond := [Cond.methodLink RX3 3 objectInit, Cond.instanceMethod objectInit, Cond.code objectInit ⟨#[0xb1]⟩ 1 none, Cond.arrayClass .int, Cond.fieldLink RX3 9 "FreeLand$Persons" "birth" "[I", Cond.fieldLink RX3 15 "FreeLand$Persons" "citizen" "[I"]
def wsX3_init : List Cond := .code yX3_init cX3_init 1 none :: (woX3_init ++ (wsX30))
set_option maxRecDepth 100000 in
set_option maxHeartbeats 4000000 in
theorem lwo_X3_init : ∀ w ∈ Cond.code yX3_init cX3_init 1 none :: woX3_init, w ∈ lw_tbl := lwi_mem [(1, 25), (1, 26), (1, 19), (1, 20), (1, 40), (1, 27), (1, 29)] (by decide +kernel)
theorem oko_X3_init : ∀ w ∈ woX3_init, goodWord w = true := by decide +kernel
theorem lw_X3_init : ∀ w ∈ wsX3_init, w ∈ lw_tbl := List.forall_mem_cons.mpr ⟨lwo_X3_init _ List.mem_cons_self, List.forall_mem_append.mpr ⟨(fun w h => lwo_X3_init w (List.mem_cons_of_mem _ h)), lwi_X3⟩⟩
theorem ok_X3_init : ∀ w ∈ wsX3_init, goodWord w = true := List.forall_mem_cons.mpr ⟨rfl, List.forall_mem_append.mpr ⟨oko_X3_init, ok_X3⟩⟩
theorem ptX3_init_woX3_init : ∀ w ∈ woX3_init, w ∈ wsX3_init := fun _ h => List.mem_cons_of_mem _ (List.mem_append_left _ h)
theorem ptX3_init_wsX30 : ∀ w ∈ wsX30, w ∈ wsX3_init := fun _ h => List.mem_cons_of_mem _ (List.mem_append_right _ h)
def woX3_add : List Cond := [Cond.fieldLink RX3 9 "FreeLand$Persons" "birth" "[I", Cond.fieldLink RX3 18 "FreeLand$Persons" "size" "I", Cond.fieldLink RX3 15 "FreeLand$Persons" "citizen" "[I"]
def wsX3_add : List Cond := .code yX3_add cX3_add 3 (some .int) :: (woX3_add ++ (wsX30))
set_option maxRecDepth 100000 in
set_option maxHeartbeats 4000000 in
theorem lwo_X3_add : ∀ w ∈ Cond.code yX3_add cX3_add 3 (some .int) :: woX3_add, w ∈ lw_tbl := lwi_mem [(2, 4), (1, 27), (1, 31), (1, 29)] (by decide +kernel)
theorem oko_X3_add : ∀ w ∈ woX3_add, goodWord w = true := by decide +kernel
theorem lw_X3_add : ∀ w ∈ wsX3_add, w ∈ lw_tbl := List.forall_mem_cons.mpr ⟨lwo_X3_add _ List.mem_cons_self, List.forall_mem_append.mpr ⟨(fun w h => lwo_X3_add w (List.mem_cons_of_mem _ h)), lwi_X3⟩⟩
theorem ok_X3_add : ∀ w ∈ wsX3_add, goodWord w = true := List.forall_mem_cons.mpr ⟨rfl, List.forall_mem_append.mpr ⟨oko_X3_add, ok_X3⟩⟩
theorem ptX3_add_woX3_add : ∀ w ∈ woX3_add, w ∈ wsX3_add := fun _ h => List.mem_cons_of_mem _ (List.mem_append_left _ h)
theorem ptX3_add_wsX30 : ∀ w ∈ wsX30, w ∈ wsX3_add := fun _ h => List.mem_cons_of_mem _ (List.mem_append_right _ h)
def woX4_init : List Cond := [Cond.methodLink RX4 3 objectInit, Cond.instanceMethod objectInit, Cond.code objectInit ⟨#[0xb1]⟩ 1 none, Cond.fieldLink RX4 9 "FreeLand$Work" "mapDay" "I", Cond.arrayClass .int, Cond.fieldLink RX4 15 "FreeLand$Work" "result" "[I", Cond.fieldLink RX4 19 "FreeLand$Work" "state" "[I", Cond.fieldLink RX4 22 "FreeLand$Work" "holder" "[I", Cond.fieldLink RX4 25 "FreeLand$Work" "holders" "[I", Cond.fieldLink RX4 28 "FreeLand$Work" "ruling" "[I", Cond.fieldLink RX4 31 "FreeLand$Work" "bindsFrom" "[I", Cond.fieldLink RX4 34 "FreeLand$Work" "spot" "[I", Cond.fieldLink RX4 37 "FreeLand$Work" "held" "[I", Cond.fieldLink RX4 40 "FreeLand$Work" "preferred" "[I", Cond.fieldLink RX4 43 "FreeLand$Work" "preferredTo" "[I", Cond.arrayClass .boolean, Cond.fieldLink RX4 46 "FreeLand$Work" "dead" "[Z", Cond.fieldLink RX4 50 "FreeLand$Work" "filed" "[I", Cond.fieldLink RX4 53 "FreeLand$Work" "persons" "LFreeLand$Persons;", Cond.fieldLink RX4 57 "FreeLand$Work" "laws" "LFreeLand$Laws;", Cond.fieldLink RX4 61 "FreeLand$Work" "book" "LFreeLand$Book;"]
def wsX4_init : List Cond := .code yX4_init cX4_init 4 none :: (woX4_init ++ (wsX40))
set_option maxRecDepth 100000 in
set_option maxHeartbeats 4000000 in
theorem lwo_X4_init : ∀ w ∈ Cond.code yX4_init cX4_init 4 none :: woX4_init, w ∈ lw_tbl := lwi_mem [(1, 127), (1, 128), (1, 19), (1, 20), (1, 132), (1, 40), (1, 134), (1, 136), (1, 137), (1, 138), (1, 139), (1, 140), (1, 141), (1, 142), (1, 144), (1, 145), (1, 122), (1, 146), (1, 147), (1, 129), (1, 130), (1, 131)] (by decide +kernel)
theorem oko_X4_init : ∀ w ∈ woX4_init, goodWord w = true := by decide +kernel
theorem lw_X4_init : ∀ w ∈ wsX4_init, w ∈ lw_tbl := List.forall_mem_cons.mpr ⟨lwo_X4_init _ List.mem_cons_self, List.forall_mem_append.mpr ⟨(fun w h => lwo_X4_init w (List.mem_cons_of_mem _ h)), lwi_X4⟩⟩
theorem ok_X4_init : ∀ w ∈ wsX4_init, goodWord w = true := List.forall_mem_cons.mpr ⟨rfl, List.forall_mem_append.mpr ⟨oko_X4_init, ok_X4⟩⟩
theorem ptX4_init_woX4_init : ∀ w ∈ woX4_init, w ∈ wsX4_init := fun _ h => List.mem_cons_of_mem _ (List.mem_append_left _ h)
theorem ptX4_init_wsX40 : ∀ w ∈ wsX40, w ∈ wsX4_init := fun _ h => List.mem_cons_of_mem _ (List.mem_append_right _ h)
def woX4_clear : List Cond := [Cond.fieldLink RX4 15 "FreeLand$Work" "result" "[I", Cond.fieldLink RX4 19 "FreeLand$Work" "state" "[I", Cond.fieldLink RX4 37 "FreeLand$Work" "held" "[I", Cond.fieldLink RX4 40 "FreeLand$Work" "preferred" "[I", Cond.fieldLink RX4 46 "FreeLand$Work" "dead" "[Z", Cond.fieldLink RX4 50 "FreeLand$Work" "filed" "[I"]
def wsX4_clear : List Cond := .code yX4_clear cX4_clear 2 none :: (woX4_clear ++ (wsX40))
set_option maxRecDepth 100000 in
set_option maxHeartbeats 4000000 in
theorem lwo_X4_clear : ∀ w ∈ Cond.code yX4_clear cX4_clear 2 none :: woX4_clear, w ∈ lw_tbl := lwi_mem [(2, 187), (1, 134), (1, 136), (1, 142), (1, 144), (1, 146), (1, 147)] (by decide +kernel)
theorem oko_X4_clear : ∀ w ∈ woX4_clear, goodWord w = true := by decide +kernel
theorem lw_X4_clear : ∀ w ∈ wsX4_clear, w ∈ lw_tbl := List.forall_mem_cons.mpr ⟨lwo_X4_clear _ List.mem_cons_self, List.forall_mem_append.mpr ⟨(fun w h => lwo_X4_clear w (List.mem_cons_of_mem _ h)), lwi_X4⟩⟩
theorem ok_X4_clear : ∀ w ∈ wsX4_clear, goodWord w = true := List.forall_mem_cons.mpr ⟨rfl, List.forall_mem_append.mpr ⟨oko_X4_clear, ok_X4⟩⟩
theorem ptX4_clear_woX4_clear : ∀ w ∈ woX4_clear, w ∈ wsX4_clear := fun _ h => List.mem_cons_of_mem _ (List.mem_append_left _ h)
theorem ptX4_clear_wsX40 : ∀ w ∈ wsX40, w ∈ wsX4_clear := fun _ h => List.mem_cons_of_mem _ (List.mem_append_right _ h)
def woX4_isRailroads : List Cond := [Cond.fieldLink RX4 9 "FreeLand$Work" "mapDay" "I"]
def wsX4_isRailroads : List Cond := .code yX4_isRailroads cX4_isRailroads 5 (some .boolean) :: (woX4_isRailroads ++ (wsX40))
set_option maxRecDepth 100000 in
set_option maxHeartbeats 4000000 in
theorem lwo_X4_isRailroads : ∀ w ∈ Cond.code yX4_isRailroads cX4_isRailroads 5 (some .boolean) :: woX4_isRailroads, w ∈ lw_tbl := lwi_mem [(2, 201), (1, 132)] (by decide +kernel)
theorem oko_X4_isRailroads : ∀ w ∈ woX4_isRailroads, goodWord w = true := by decide +kernel
theorem lw_X4_isRailroads : ∀ w ∈ wsX4_isRailroads, w ∈ lw_tbl := List.forall_mem_cons.mpr ⟨lwo_X4_isRailroads _ List.mem_cons_self, List.forall_mem_append.mpr ⟨(fun w h => lwo_X4_isRailroads w (List.mem_cons_of_mem _ h)), lwi_X4⟩⟩
theorem ok_X4_isRailroads : ∀ w ∈ wsX4_isRailroads, goodWord w = true := List.forall_mem_cons.mpr ⟨rfl, List.forall_mem_append.mpr ⟨oko_X4_isRailroads, ok_X4⟩⟩
theorem ptX4_isRailroads_woX4_isRailroads : ∀ w ∈ woX4_isRailroads, w ∈ wsX4_isRailroads := fun _ h => List.mem_cons_of_mem _ (List.mem_append_left _ h)
theorem ptX4_isRailroads_wsX40 : ∀ w ∈ wsX40, w ∈ wsX4_isRailroads := fun _ h => List.mem_cons_of_mem _ (List.mem_append_right _ h)
def woX4_preferredOn : List Cond := [Cond.fieldLink RX4 40 "FreeLand$Work" "preferred" "[I", Cond.fieldLink RX4 43 "FreeLand$Work" "preferredTo" "[I"]
def wsX4_preferredOn : List Cond := .code yX4_preferredOn cX4_preferredOn 3 (some .int) :: (woX4_preferredOn ++ (wsX40))
set_option maxRecDepth 100000 in
set_option maxHeartbeats 4000000 in
theorem lwo_X4_preferredOn : ∀ w ∈ Cond.code yX4_preferredOn cX4_preferredOn 3 (some .int) :: woX4_preferredOn, w ∈ lw_tbl := lwi_mem [(2, 205), (1, 144), (1, 145)] (by decide +kernel)
theorem oko_X4_preferredOn : ∀ w ∈ woX4_preferredOn, goodWord w = true := by decide +kernel
theorem lw_X4_preferredOn : ∀ w ∈ wsX4_preferredOn, w ∈ lw_tbl := List.forall_mem_cons.mpr ⟨lwo_X4_preferredOn _ List.mem_cons_self, List.forall_mem_append.mpr ⟨(fun w h => lwo_X4_preferredOn w (List.mem_cons_of_mem _ h)), lwi_X4⟩⟩
theorem ok_X4_preferredOn : ∀ w ∈ wsX4_preferredOn, goodWord w = true := List.forall_mem_cons.mpr ⟨rfl, List.forall_mem_append.mpr ⟨oko_X4_preferredOn, ok_X4⟩⟩
theorem ptX4_preferredOn_woX4_preferredOn : ∀ w ∈ woX4_preferredOn, w ∈ wsX4_preferredOn := fun _ h => List.mem_cons_of_mem _ (List.mem_append_left _ h)
theorem ptX4_preferredOn_wsX40 : ∀ w ∈ wsX40, w ∈ wsX4_preferredOn := fun _ h => List.mem_cons_of_mem _ (List.mem_append_right _ h)
def woX4_workFile : List Cond := [Cond.fieldLink RX4 61 "FreeLand$Work" "book" "LFreeLand$Book;", Cond.fieldLink RX4 57 "FreeLand$Work" "laws" "LFreeLand$Laws;", Cond.instanceMethod yX2_inForce, Cond.selects RX2 yX2_inForce yX2_inForce, Cond.initialized RX2, Cond.fieldLink RX4 53 "FreeLand$Work" "persons" "LFreeLand$Persons;", Cond.instanceMethod yX2_valueOf, Cond.selects RX2 yX2_valueOf yX2_valueOf, Cond.methodLink RX4 127 yX4_isRailroads, Cond.instanceMethod yX4_isRailroads, Cond.selects RX4 yX4_isRailroads yX4_isRailroads, Cond.initialized RX4, Cond.fieldLink RX4 37 "FreeLand$Work" "held" "[I", Cond.methodLink RX4 131 yX4_preferredOn, Cond.instanceMethod yX4_preferredOn, Cond.selects RX4 yX4_preferredOn yX4_preferredOn, Cond.fieldLink RX4 50 "FreeLand$Work" "filed" "[I", Cond.fieldLink RX4 19 "FreeLand$Work" "state" "[I", Cond.fieldLink RX4 22 "FreeLand$Work" "holder" "[I", Cond.fieldLink RX4 25 "FreeLand$Work" "holders" "[I", Cond.fieldLink RX4 28 "FreeLand$Work" "ruling" "[I", Cond.fieldLink RX4 34 "FreeLand$Work" "spot" "[I"]
def wsX4_workFile : List Cond := .code yX4_workFile cX4_workFile 8 (some .int) :: (woX4_workFile ++ (wsX40 ++ (wsX00 ++ (wsX30 ++ (wsX2_inForce ++ (wsX2_valueOf ++ (wsX4_isRailroads ++ (wsX4_preferredOn))))))))
set_option maxRecDepth 100000 in
set_option maxHeartbeats 4000000 in
theorem lwo_X4_workFile : ∀ w ∈ Cond.code yX4_workFile cX4_workFile 8 (some .int) :: woX4_workFile, w ∈ lw_tbl := lwi_mem [(2, 195), (1, 131), (1, 130), (2, 136), (0, 11), (1, 3), (1, 129), (2, 126), (0, 10), (2, 198), (2, 200), (0, 21), (1, 5), (1, 142), (2, 202), (2, 204), (0, 22), (1, 147), (1, 136), (1, 137), (1, 138), (1, 139), (1, 141)] (by decide +kernel)
theorem oko_X4_workFile : ∀ w ∈ woX4_workFile, goodWord w = true := by decide +kernel
theorem lw_X4_workFile : ∀ w ∈ wsX4_workFile, w ∈ lw_tbl := List.forall_mem_cons.mpr ⟨lwo_X4_workFile _ List.mem_cons_self, List.forall_mem_append.mpr ⟨(fun w h => lwo_X4_workFile w (List.mem_cons_of_mem _ h)), List.forall_mem_append.mpr ⟨lwi_X4, List.forall_mem_append.mpr ⟨lwi_X0, List.forall_mem_append.mpr ⟨lwi_X3, List.forall_mem_append.mpr ⟨lw_X2_inForce, List.forall_mem_append.mpr ⟨lw_X2_valueOf, List.forall_mem_append.mpr ⟨lw_X4_isRailroads, lw_X4_preferredOn⟩⟩⟩⟩⟩⟩⟩⟩
theorem ok_X4_workFile : ∀ w ∈ wsX4_workFile, goodWord w = true := List.forall_mem_cons.mpr ⟨rfl, List.forall_mem_append.mpr ⟨oko_X4_workFile, List.forall_mem_append.mpr ⟨ok_X4, List.forall_mem_append.mpr ⟨ok_X0, List.forall_mem_append.mpr ⟨ok_X3, List.forall_mem_append.mpr ⟨ok_X2_inForce, List.forall_mem_append.mpr ⟨ok_X2_valueOf, List.forall_mem_append.mpr ⟨ok_X4_isRailroads, ok_X4_preferredOn⟩⟩⟩⟩⟩⟩⟩⟩
theorem ptX4_workFile_woX4_workFile : ∀ w ∈ woX4_workFile, w ∈ wsX4_workFile := fun _ h => List.mem_cons_of_mem _ (List.mem_append_left _ h)
theorem ptX4_workFile_wsX40 : ∀ w ∈ wsX40, w ∈ wsX4_workFile := fun _ h => List.mem_cons_of_mem _ (List.mem_append_right _ (List.mem_append_left _ h))
theorem ptX4_workFile_wsX00 : ∀ w ∈ wsX00, w ∈ wsX4_workFile := fun _ h => List.mem_cons_of_mem _ (List.mem_append_right _ (List.mem_append_right _ (List.mem_append_left _ h)))
theorem ptX4_workFile_wsX30 : ∀ w ∈ wsX30, w ∈ wsX4_workFile := fun _ h => List.mem_cons_of_mem _ (List.mem_append_right _ (List.mem_append_right _ (List.mem_append_right _ (List.mem_append_left _ h))))
theorem ptX4_workFile_wsX2_inForce : ∀ w ∈ wsX2_inForce, w ∈ wsX4_workFile := fun _ h => List.mem_cons_of_mem _ (List.mem_append_right _ (List.mem_append_right _ (List.mem_append_right _ (List.mem_append_right _ (List.mem_append_left _ h)))))
theorem ptX4_workFile_wsX2_valueOf : ∀ w ∈ wsX2_valueOf, w ∈ wsX4_workFile := fun _ h => List.mem_cons_of_mem _ (List.mem_append_right _ (List.mem_append_right _ (List.mem_append_right _ (List.mem_append_right _ (List.mem_append_right _ (List.mem_append_left _ h))))))
theorem ptX4_workFile_wsX4_isRailroads : ∀ w ∈ wsX4_isRailroads, w ∈ wsX4_workFile := fun _ h => List.mem_cons_of_mem _ (List.mem_append_right _ (List.mem_append_right _ (List.mem_append_right _ (List.mem_append_right _ (List.mem_append_right _ (List.mem_append_right _ (List.mem_append_left _ h)))))))
theorem ptX4_workFile_wsX4_preferredOn : ∀ w ∈ wsX4_preferredOn, w ∈ wsX4_workFile := fun _ h => List.mem_cons_of_mem _ (List.mem_append_right _ (List.mem_append_right _ (List.mem_append_right _ (List.mem_append_right _ (List.mem_append_right _ (List.mem_append_right _ (List.mem_append_right _ h)))))))
theorem gX4_workFile_X2_inForce_n111 : GoodIn wsX4_workFile wsX2_inForce := goodIn_sub (fun w h => ptX4_workFile_wsX2_inForce w h) (List.all_eq_true.mpr ok_X2_inForce)
theorem gX4_workFile_X2_valueOf_n121 : GoodIn wsX4_workFile wsX2_valueOf := goodIn_sub (fun w h => ptX4_workFile_wsX2_valueOf w h) (List.all_eq_true.mpr ok_X2_valueOf)
theorem gX4_workFile_X4_isRailroads : GoodIn wsX4_workFile (wsV RX4 127 RX4 yX4_isRailroads wsX4_isRailroads) := goodIn_app (goodIn_sub (fun w h => ptX4_workFile_woX4_workFile w ((by decide +kernel : ∀ w ∈ ([Cond.methodLink RX4 127 yX4_isRailroads, Cond.instanceMethod yX4_isRailroads, Cond.selects RX4 yX4_isRailroads yX4_isRailroads, Cond.initialized RX4] : List Cond), w ∈ woX4_workFile) w h)) (by decide +kernel)) (goodIn_sub (fun w h => ptX4_workFile_wsX4_isRailroads w h) (List.all_eq_true.mpr ok_X4_isRailroads))
theorem gX4_workFile_X4_preferredOn : GoodIn wsX4_workFile (wsV RX4 131 RX4 yX4_preferredOn wsX4_preferredOn) := goodIn_app (goodIn_sub (fun w h => ptX4_workFile_woX4_workFile w ((by decide +kernel : ∀ w ∈ ([Cond.methodLink RX4 131 yX4_preferredOn, Cond.instanceMethod yX4_preferredOn, Cond.selects RX4 yX4_preferredOn yX4_preferredOn, Cond.initialized RX4] : List Cond), w ∈ woX4_workFile) w h)) (by decide +kernel)) (goodIn_sub (fun w h => ptX4_workFile_wsX4_preferredOn w h) (List.all_eq_true.mpr ok_X4_preferredOn))
def woX4_isHeldLive : List Cond := [Cond.fieldLink RX4 37 "FreeLand$Work" "held" "[I", Cond.fieldLink RX4 19 "FreeLand$Work" "state" "[I"]
def wsX4_isHeldLive : List Cond := .code yX4_isHeldLive cX4_isHeldLive 2 (some .boolean) :: (woX4_isHeldLive ++ (wsX40))
set_option maxRecDepth 100000 in
set_option maxHeartbeats 4000000 in
theorem lwo_X4_isHeldLive : ∀ w ∈ Cond.code yX4_isHeldLive cX4_isHeldLive 2 (some .boolean) :: woX4_isHeldLive, w ∈ lw_tbl := lwi_mem [(2, 217), (1, 142), (1, 136)] (by decide +kernel)
theorem oko_X4_isHeldLive : ∀ w ∈ woX4_isHeldLive, goodWord w = true := by decide +kernel
theorem lw_X4_isHeldLive : ∀ w ∈ wsX4_isHeldLive, w ∈ lw_tbl := List.forall_mem_cons.mpr ⟨lwo_X4_isHeldLive _ List.mem_cons_self, List.forall_mem_append.mpr ⟨(fun w h => lwo_X4_isHeldLive w (List.mem_cons_of_mem _ h)), lwi_X4⟩⟩
theorem ok_X4_isHeldLive : ∀ w ∈ wsX4_isHeldLive, goodWord w = true := List.forall_mem_cons.mpr ⟨rfl, List.forall_mem_append.mpr ⟨oko_X4_isHeldLive, ok_X4⟩⟩
theorem ptX4_isHeldLive_woX4_isHeldLive : ∀ w ∈ woX4_isHeldLive, w ∈ wsX4_isHeldLive := fun _ h => List.mem_cons_of_mem _ (List.mem_append_left _ h)
theorem ptX4_isHeldLive_wsX40 : ∀ w ∈ wsX40, w ∈ wsX4_isHeldLive := fun _ h => List.mem_cons_of_mem _ (List.mem_append_right _ h)
def woX4_isHeldLiveBy : List Cond := [Cond.methodLink RX4 141 yX4_isHeldLive, Cond.instanceMethod yX4_isHeldLive, Cond.selects RX4 yX4_isHeldLive yX4_isHeldLive, Cond.initialized RX4, Cond.fieldLink RX4 22 "FreeLand$Work" "holder" "[I", Cond.fieldLink RX4 37 "FreeLand$Work" "held" "[I"]
def wsX4_isHeldLiveBy : List Cond := .code yX4_isHeldLiveBy cX4_isHeldLiveBy 3 (some .boolean) :: (woX4_isHeldLiveBy ++ (wsX40 ++ (wsX4_isHeldLive)))
set_option maxRecDepth 100000 in
set_option maxHeartbeats 4000000 in
theorem lwo_X4_isHeldLiveBy : ∀ w ∈ Cond.code yX4_isHeldLiveBy cX4_isHeldLiveBy 3 (some .boolean) :: woX4_isHeldLiveBy, w ∈ lw_tbl := lwi_mem [(2, 213), (2, 214), (2, 216), (0, 25), (1, 5), (1, 137), (1, 142)] (by decide +kernel)
theorem oko_X4_isHeldLiveBy : ∀ w ∈ woX4_isHeldLiveBy, goodWord w = true := by decide +kernel
theorem lw_X4_isHeldLiveBy : ∀ w ∈ wsX4_isHeldLiveBy, w ∈ lw_tbl := List.forall_mem_cons.mpr ⟨lwo_X4_isHeldLiveBy _ List.mem_cons_self, List.forall_mem_append.mpr ⟨(fun w h => lwo_X4_isHeldLiveBy w (List.mem_cons_of_mem _ h)), List.forall_mem_append.mpr ⟨lwi_X4, lw_X4_isHeldLive⟩⟩⟩
theorem ok_X4_isHeldLiveBy : ∀ w ∈ wsX4_isHeldLiveBy, goodWord w = true := List.forall_mem_cons.mpr ⟨rfl, List.forall_mem_append.mpr ⟨oko_X4_isHeldLiveBy, List.forall_mem_append.mpr ⟨ok_X4, ok_X4_isHeldLive⟩⟩⟩
theorem ptX4_isHeldLiveBy_woX4_isHeldLiveBy : ∀ w ∈ woX4_isHeldLiveBy, w ∈ wsX4_isHeldLiveBy := fun _ h => List.mem_cons_of_mem _ (List.mem_append_left _ h)
theorem ptX4_isHeldLiveBy_wsX40 : ∀ w ∈ wsX40, w ∈ wsX4_isHeldLiveBy := fun _ h => List.mem_cons_of_mem _ (List.mem_append_right _ (List.mem_append_left _ h))
theorem ptX4_isHeldLiveBy_wsX4_isHeldLive : ∀ w ∈ wsX4_isHeldLive, w ∈ wsX4_isHeldLiveBy := fun _ h => List.mem_cons_of_mem _ (List.mem_append_right _ (List.mem_append_right _ h))
theorem gX4_isHeldLiveBy_X4_isHeldLive : GoodIn wsX4_isHeldLiveBy (wsV RX4 141 RX4 yX4_isHeldLive wsX4_isHeldLive) := goodIn_app (goodIn_sub (fun w h => ptX4_isHeldLiveBy_woX4_isHeldLiveBy w ((by decide +kernel : ∀ w ∈ ([Cond.methodLink RX4 141 yX4_isHeldLive, Cond.instanceMethod yX4_isHeldLive, Cond.selects RX4 yX4_isHeldLive yX4_isHeldLive, Cond.initialized RX4] : List Cond), w ∈ woX4_isHeldLiveBy) w h)) (by decide +kernel)) (goodIn_sub (fun w h => ptX4_isHeldLiveBy_wsX4_isHeldLive w h) (List.all_eq_true.mpr ok_X4_isHeldLive))
def woX4_end : List Cond := [Cond.fieldLink RX4 19 "FreeLand$Work" "state" "[I", Cond.fieldLink RX4 37 "FreeLand$Work" "held" "[I"]
def wsX4_end : List Cond := .code yX4_end cX4_end 2 none :: (woX4_end ++ (wsX40))
set_option maxRecDepth 100000 in
set_option maxHeartbeats 4000000 in
theorem lwo_X4_end : ∀ w ∈ Cond.code yX4_end cX4_end 2 none :: woX4_end, w ∈ lw_tbl := lwi_mem [(2, 221), (1, 136), (1, 142)] (by decide +kernel)
theorem oko_X4_end : ∀ w ∈ woX4_end, goodWord w = true := by decide +kernel
theorem lw_X4_end : ∀ w ∈ wsX4_end, w ∈ lw_tbl := List.forall_mem_cons.mpr ⟨lwo_X4_end _ List.mem_cons_self, List.forall_mem_append.mpr ⟨(fun w h => lwo_X4_end w (List.mem_cons_of_mem _ h)), lwi_X4⟩⟩
theorem ok_X4_end : ∀ w ∈ wsX4_end, goodWord w = true := List.forall_mem_cons.mpr ⟨rfl, List.forall_mem_append.mpr ⟨oko_X4_end, ok_X4⟩⟩
theorem ptX4_end_woX4_end : ∀ w ∈ woX4_end, w ∈ wsX4_end := fun _ h => List.mem_cons_of_mem _ (List.mem_append_left _ h)
theorem ptX4_end_wsX40 : ∀ w ∈ wsX40, w ∈ wsX4_end := fun _ h => List.mem_cons_of_mem _ (List.mem_append_right _ h)
def woX4_workGiveUp : List Cond := [Cond.fieldLink RX4 61 "FreeLand$Work" "book" "LFreeLand$Book;", Cond.methodLink RX4 134 yX4_isHeldLiveBy, Cond.instanceMethod yX4_isHeldLiveBy, Cond.selects RX4 yX4_isHeldLiveBy yX4_isHeldLiveBy, Cond.initialized RX4, Cond.methodLink RX4 137 yX4_end, Cond.instanceMethod yX4_end, Cond.selects RX4 yX4_end yX4_end]
def wsX4_workGiveUp : List Cond := .code yX4_workGiveUp cX4_workGiveUp 3 (some .int) :: (woX4_workGiveUp ++ (wsX40 ++ (wsX00 ++ (wsX4_isHeldLiveBy ++ (wsX4_end)))))
set_option maxRecDepth 100000 in
set_option maxHeartbeats 4000000 in
theorem lwo_X4_workGiveUp : ∀ w ∈ Cond.code yX4_workGiveUp cX4_workGiveUp 3 (some .int) :: woX4_workGiveUp, w ∈ lw_tbl := lwi_mem [(2, 209), (1, 131), (2, 210), (2, 212), (0, 24), (1, 5), (2, 218), (2, 220), (0, 26)] (by decide +kernel)
theorem oko_X4_workGiveUp : ∀ w ∈ woX4_workGiveUp, goodWord w = true := by decide +kernel
theorem lw_X4_workGiveUp : ∀ w ∈ wsX4_workGiveUp, w ∈ lw_tbl := List.forall_mem_cons.mpr ⟨lwo_X4_workGiveUp _ List.mem_cons_self, List.forall_mem_append.mpr ⟨(fun w h => lwo_X4_workGiveUp w (List.mem_cons_of_mem _ h)), List.forall_mem_append.mpr ⟨lwi_X4, List.forall_mem_append.mpr ⟨lwi_X0, List.forall_mem_append.mpr ⟨lw_X4_isHeldLiveBy, lw_X4_end⟩⟩⟩⟩⟩
theorem ok_X4_workGiveUp : ∀ w ∈ wsX4_workGiveUp, goodWord w = true := List.forall_mem_cons.mpr ⟨rfl, List.forall_mem_append.mpr ⟨oko_X4_workGiveUp, List.forall_mem_append.mpr ⟨ok_X4, List.forall_mem_append.mpr ⟨ok_X0, List.forall_mem_append.mpr ⟨ok_X4_isHeldLiveBy, ok_X4_end⟩⟩⟩⟩⟩
theorem ptX4_workGiveUp_woX4_workGiveUp : ∀ w ∈ woX4_workGiveUp, w ∈ wsX4_workGiveUp := fun _ h => List.mem_cons_of_mem _ (List.mem_append_left _ h)
theorem ptX4_workGiveUp_wsX40 : ∀ w ∈ wsX40, w ∈ wsX4_workGiveUp := fun _ h => List.mem_cons_of_mem _ (List.mem_append_right _ (List.mem_append_left _ h))
theorem ptX4_workGiveUp_wsX00 : ∀ w ∈ wsX00, w ∈ wsX4_workGiveUp := fun _ h => List.mem_cons_of_mem _ (List.mem_append_right _ (List.mem_append_right _ (List.mem_append_left _ h)))
theorem ptX4_workGiveUp_wsX4_isHeldLiveBy : ∀ w ∈ wsX4_isHeldLiveBy, w ∈ wsX4_workGiveUp := fun _ h => List.mem_cons_of_mem _ (List.mem_append_right _ (List.mem_append_right _ (List.mem_append_right _ (List.mem_append_left _ h))))
theorem ptX4_workGiveUp_wsX4_end : ∀ w ∈ wsX4_end, w ∈ wsX4_workGiveUp := fun _ h => List.mem_cons_of_mem _ (List.mem_append_right _ (List.mem_append_right _ (List.mem_append_right _ (List.mem_append_right _ h))))
theorem gX4_workGiveUp_X4_isHeldLiveBy : GoodIn wsX4_workGiveUp (wsV RX4 134 RX4 yX4_isHeldLiveBy wsX4_isHeldLiveBy) := goodIn_app (goodIn_sub (fun w h => ptX4_workGiveUp_woX4_workGiveUp w ((by decide +kernel : ∀ w ∈ ([Cond.methodLink RX4 134 yX4_isHeldLiveBy, Cond.instanceMethod yX4_isHeldLiveBy, Cond.selects RX4 yX4_isHeldLiveBy yX4_isHeldLiveBy, Cond.initialized RX4] : List Cond), w ∈ woX4_workGiveUp) w h)) (by decide +kernel)) (goodIn_sub (fun w h => ptX4_workGiveUp_wsX4_isHeldLiveBy w h) (List.all_eq_true.mpr ok_X4_isHeldLiveBy))
theorem gX4_workGiveUp_X4_end : GoodIn wsX4_workGiveUp (wsV RX4 137 RX4 yX4_end wsX4_end) := goodIn_app (goodIn_sub (fun w h => ptX4_workGiveUp_woX4_workGiveUp w ((by decide +kernel : ∀ w ∈ ([Cond.methodLink RX4 137 yX4_end, Cond.instanceMethod yX4_end, Cond.selects RX4 yX4_end yX4_end, Cond.initialized RX4] : List Cond), w ∈ woX4_workGiveUp) w h)) (by decide +kernel)) (goodIn_sub (fun w h => ptX4_workGiveUp_wsX4_end w h) (List.all_eq_true.mpr ok_X4_end))
def woX4_isDoneByHolder : List Cond := [Cond.fieldLink RX4 15 "FreeLand$Work" "result" "[I", Cond.fieldLink RX4 61 "FreeLand$Work" "book" "LFreeLand$Book;", Cond.fieldLink RX4 25 "FreeLand$Work" "holders" "[I"]
def wsX4_isDoneByHolder : List Cond := .code yX4_isDoneByHolder cX4_isDoneByHolder 4 (some .boolean) :: (woX4_isDoneByHolder ++ (wsX40 ++ (wsX00)))
set_option maxRecDepth 100000 in
set_option maxHeartbeats 4000000 in
theorem lwo_X4_isDoneByHolder : ∀ w ∈ Cond.code yX4_isDoneByHolder cX4_isDoneByHolder 4 (some .boolean) :: woX4_isDoneByHolder, w ∈ lw_tbl := lwi_mem [(2, 233), (1, 134), (1, 131), (1, 138)] (by decide +kernel)
theorem oko_X4_isDoneByHolder : ∀ w ∈ woX4_isDoneByHolder, goodWord w = true := by decide +kernel
theorem lw_X4_isDoneByHolder : ∀ w ∈ wsX4_isDoneByHolder, w ∈ lw_tbl := List.forall_mem_cons.mpr ⟨lwo_X4_isDoneByHolder _ List.mem_cons_self, List.forall_mem_append.mpr ⟨(fun w h => lwo_X4_isDoneByHolder w (List.mem_cons_of_mem _ h)), List.forall_mem_append.mpr ⟨lwi_X4, lwi_X0⟩⟩⟩
theorem ok_X4_isDoneByHolder : ∀ w ∈ wsX4_isDoneByHolder, goodWord w = true := List.forall_mem_cons.mpr ⟨rfl, List.forall_mem_append.mpr ⟨oko_X4_isDoneByHolder, List.forall_mem_append.mpr ⟨ok_X4, ok_X0⟩⟩⟩
theorem ptX4_isDoneByHolder_woX4_isDoneByHolder : ∀ w ∈ woX4_isDoneByHolder, w ∈ wsX4_isDoneByHolder := fun _ h => List.mem_cons_of_mem _ (List.mem_append_left _ h)
theorem ptX4_isDoneByHolder_wsX40 : ∀ w ∈ wsX40, w ∈ wsX4_isDoneByHolder := fun _ h => List.mem_cons_of_mem _ (List.mem_append_right _ (List.mem_append_left _ h))
theorem ptX4_isDoneByHolder_wsX00 : ∀ w ∈ wsX00, w ∈ wsX4_isDoneByHolder := fun _ h => List.mem_cons_of_mem _ (List.mem_append_right _ (List.mem_append_right _ h))
def woX4_lookAtLiving : List Cond := [Cond.fieldLink RX4 149 "FreeLand$Work" "livedDays" "I", Cond.fieldLink RX4 152 "FreeLand$Work" "longestGap" "I", Cond.fieldLink RX4 61 "FreeLand$Work" "book" "LFreeLand$Book;", Cond.methodLink RX4 164 yX4_isDoneByHolder, Cond.instanceMethod yX4_isDoneByHolder, Cond.selects RX4 yX4_isDoneByHolder yX4_isDoneByHolder, Cond.initialized RX4, Cond.methodLink RX4 168 Lib.Math.max.name, Cond.static Lib.Math.max.name, Cond.initialized "java/lang/Math", Cond.code Lib.Math.max.name Lib.Math.max.code 2 (some .int), Cond.methodLink RX4 173 Lib.Math.min.name, Cond.static Lib.Math.min.name, Cond.code Lib.Math.min.name Lib.Math.min.code 2 (some .int)]
def wsX4_lookAtLiving : List Cond := .code yX4_lookAtLiving cX4_lookAtLiving 9 none :: (woX4_lookAtLiving ++ (wsX40 ++ (wsX00 ++ (wsX4_isDoneByHolder))))
set_option maxRecDepth 100000 in
set_option maxHeartbeats 4000000 in
theorem lwo_X4_lookAtLiving : ∀ w ∈ Cond.code yX4_lookAtLiving cX4_lookAtLiving 9 none :: woX4_lookAtLiving, w ∈ lw_tbl := lwi_mem [(2, 229), (1, 148), (1, 149), (1, 131), (2, 230), (2, 232), (0, 29), (1, 5), (2, 234), (2, 235), (1, 12), (2, 236), (2, 237), (2, 238), (2, 239)] (by decide +kernel)
theorem oko_X4_lookAtLiving : ∀ w ∈ woX4_lookAtLiving, goodWord w = true := by decide +kernel
theorem lw_X4_lookAtLiving : ∀ w ∈ wsX4_lookAtLiving, w ∈ lw_tbl := List.forall_mem_cons.mpr ⟨lwo_X4_lookAtLiving _ List.mem_cons_self, List.forall_mem_append.mpr ⟨(fun w h => lwo_X4_lookAtLiving w (List.mem_cons_of_mem _ h)), List.forall_mem_append.mpr ⟨lwi_X4, List.forall_mem_append.mpr ⟨lwi_X0, lw_X4_isDoneByHolder⟩⟩⟩⟩
theorem ok_X4_lookAtLiving : ∀ w ∈ wsX4_lookAtLiving, goodWord w = true := List.forall_mem_cons.mpr ⟨rfl, List.forall_mem_append.mpr ⟨oko_X4_lookAtLiving, List.forall_mem_append.mpr ⟨ok_X4, List.forall_mem_append.mpr ⟨ok_X0, ok_X4_isDoneByHolder⟩⟩⟩⟩
theorem ptX4_lookAtLiving_woX4_lookAtLiving : ∀ w ∈ woX4_lookAtLiving, w ∈ wsX4_lookAtLiving := fun _ h => List.mem_cons_of_mem _ (List.mem_append_left _ h)
theorem ptX4_lookAtLiving_wsX40 : ∀ w ∈ wsX40, w ∈ wsX4_lookAtLiving := fun _ h => List.mem_cons_of_mem _ (List.mem_append_right _ (List.mem_append_left _ h))
theorem ptX4_lookAtLiving_wsX00 : ∀ w ∈ wsX00, w ∈ wsX4_lookAtLiving := fun _ h => List.mem_cons_of_mem _ (List.mem_append_right _ (List.mem_append_right _ (List.mem_append_left _ h)))
theorem ptX4_lookAtLiving_wsX4_isDoneByHolder : ∀ w ∈ wsX4_isDoneByHolder, w ∈ wsX4_lookAtLiving := fun _ h => List.mem_cons_of_mem _ (List.mem_append_right _ (List.mem_append_right _ (List.mem_append_right _ h)))
theorem gX4_lookAtLiving_X4_isDoneByHolder : GoodIn wsX4_lookAtLiving (wsV RX4 164 RX4 yX4_isDoneByHolder wsX4_isDoneByHolder) := goodIn_app (goodIn_sub (fun w h => ptX4_lookAtLiving_woX4_lookAtLiving w ((by decide +kernel : ∀ w ∈ ([Cond.methodLink RX4 164 yX4_isDoneByHolder, Cond.instanceMethod yX4_isDoneByHolder, Cond.selects RX4 yX4_isDoneByHolder yX4_isDoneByHolder, Cond.initialized RX4] : List Cond), w ∈ woX4_lookAtLiving) w h)) (by decide +kernel)) (goodIn_sub (fun w h => ptX4_lookAtLiving_wsX4_isDoneByHolder w h) (List.all_eq_true.mpr ok_X4_isDoneByHolder))
def woX4_workContest : List Cond := [Cond.fieldLink RX4 61 "FreeLand$Work" "book" "LFreeLand$Book;", Cond.methodLink RX4 141 yX4_isHeldLive, Cond.instanceMethod yX4_isHeldLive, Cond.selects RX4 yX4_isHeldLive yX4_isHeldLive, Cond.initialized RX4, Cond.fieldLink RX4 37 "FreeLand$Work" "held" "[I", Cond.fieldLink RX4 22 "FreeLand$Work" "holder" "[I", Cond.fieldLink RX4 57 "FreeLand$Work" "laws" "LFreeLand$Laws;", Cond.fieldLink RX4 28 "FreeLand$Work" "ruling" "[I", Cond.instanceMethod yX2_valueOf, Cond.selects RX2 yX2_valueOf yX2_valueOf, Cond.initialized RX2, Cond.methodLink RX4 145 yX4_lookAtLiving, Cond.instanceMethod yX4_lookAtLiving, Cond.selects RX4 yX4_lookAtLiving yX4_lookAtLiving, Cond.fieldLink RX4 149 "FreeLand$Work" "livedDays" "I", Cond.methodLink RX4 137 yX4_end, Cond.instanceMethod yX4_end, Cond.selects RX4 yX4_end yX4_end, Cond.fieldLink RX4 40 "FreeLand$Work" "preferred" "[I", Cond.fieldLink RX4 43 "FreeLand$Work" "preferredTo" "[I"]
def wsX4_workContest : List Cond := .code yX4_workContest cX4_workContest 6 (some .int) :: (woX4_workContest ++ (wsX40 ++ (wsX00 ++ (wsX4_isHeldLive ++ (wsX2_valueOf ++ (wsX4_lookAtLiving ++ (wsX4_end)))))))
set_option maxRecDepth 100000 in
set_option maxHeartbeats 4000000 in
theorem lwo_X4_workContest : ∀ w ∈ Cond.code yX4_workContest cX4_workContest 6 (some .int) :: woX4_workContest, w ∈ lw_tbl := lwi_mem [(2, 225), (1, 131), (2, 214), (2, 216), (0, 25), (1, 5), (1, 142), (1, 137), (1, 130), (1, 139), (2, 126), (0, 10), (1, 3), (2, 226), (2, 228), (0, 28), (1, 148), (2, 218), (2, 220), (0, 26), (1, 144), (1, 145)] (by decide +kernel)
theorem oko_X4_workContest : ∀ w ∈ woX4_workContest, goodWord w = true := by decide +kernel
theorem lw_X4_workContest : ∀ w ∈ wsX4_workContest, w ∈ lw_tbl := List.forall_mem_cons.mpr ⟨lwo_X4_workContest _ List.mem_cons_self, List.forall_mem_append.mpr ⟨(fun w h => lwo_X4_workContest w (List.mem_cons_of_mem _ h)), List.forall_mem_append.mpr ⟨lwi_X4, List.forall_mem_append.mpr ⟨lwi_X0, List.forall_mem_append.mpr ⟨lw_X4_isHeldLive, List.forall_mem_append.mpr ⟨lw_X2_valueOf, List.forall_mem_append.mpr ⟨lw_X4_lookAtLiving, lw_X4_end⟩⟩⟩⟩⟩⟩⟩
theorem ok_X4_workContest : ∀ w ∈ wsX4_workContest, goodWord w = true := List.forall_mem_cons.mpr ⟨rfl, List.forall_mem_append.mpr ⟨oko_X4_workContest, List.forall_mem_append.mpr ⟨ok_X4, List.forall_mem_append.mpr ⟨ok_X0, List.forall_mem_append.mpr ⟨ok_X4_isHeldLive, List.forall_mem_append.mpr ⟨ok_X2_valueOf, List.forall_mem_append.mpr ⟨ok_X4_lookAtLiving, ok_X4_end⟩⟩⟩⟩⟩⟩⟩
theorem ptX4_workContest_woX4_workContest : ∀ w ∈ woX4_workContest, w ∈ wsX4_workContest := fun _ h => List.mem_cons_of_mem _ (List.mem_append_left _ h)
theorem ptX4_workContest_wsX40 : ∀ w ∈ wsX40, w ∈ wsX4_workContest := fun _ h => List.mem_cons_of_mem _ (List.mem_append_right _ (List.mem_append_left _ h))
theorem ptX4_workContest_wsX00 : ∀ w ∈ wsX00, w ∈ wsX4_workContest := fun _ h => List.mem_cons_of_mem _ (List.mem_append_right _ (List.mem_append_right _ (List.mem_append_left _ h)))
theorem ptX4_workContest_wsX4_isHeldLive : ∀ w ∈ wsX4_isHeldLive, w ∈ wsX4_workContest := fun _ h => List.mem_cons_of_mem _ (List.mem_append_right _ (List.mem_append_right _ (List.mem_append_right _ (List.mem_append_left _ h))))
theorem ptX4_workContest_wsX2_valueOf : ∀ w ∈ wsX2_valueOf, w ∈ wsX4_workContest := fun _ h => List.mem_cons_of_mem _ (List.mem_append_right _ (List.mem_append_right _ (List.mem_append_right _ (List.mem_append_right _ (List.mem_append_left _ h)))))
theorem ptX4_workContest_wsX4_lookAtLiving : ∀ w ∈ wsX4_lookAtLiving, w ∈ wsX4_workContest := fun _ h => List.mem_cons_of_mem _ (List.mem_append_right _ (List.mem_append_right _ (List.mem_append_right _ (List.mem_append_right _ (List.mem_append_right _ (List.mem_append_left _ h))))))
theorem ptX4_workContest_wsX4_end : ∀ w ∈ wsX4_end, w ∈ wsX4_workContest := fun _ h => List.mem_cons_of_mem _ (List.mem_append_right _ (List.mem_append_right _ (List.mem_append_right _ (List.mem_append_right _ (List.mem_append_right _ (List.mem_append_right _ h))))))
theorem gX4_workContest_X4_isHeldLive : GoodIn wsX4_workContest (wsV RX4 141 RX4 yX4_isHeldLive wsX4_isHeldLive) := goodIn_app (goodIn_sub (fun w h => ptX4_workContest_woX4_workContest w ((by decide +kernel : ∀ w ∈ ([Cond.methodLink RX4 141 yX4_isHeldLive, Cond.instanceMethod yX4_isHeldLive, Cond.selects RX4 yX4_isHeldLive yX4_isHeldLive, Cond.initialized RX4] : List Cond), w ∈ woX4_workContest) w h)) (by decide +kernel)) (goodIn_sub (fun w h => ptX4_workContest_wsX4_isHeldLive w h) (List.all_eq_true.mpr ok_X4_isHeldLive))
theorem gX4_workContest_X2_valueOf_n121 : GoodIn wsX4_workContest wsX2_valueOf := goodIn_sub (fun w h => ptX4_workContest_wsX2_valueOf w h) (List.all_eq_true.mpr ok_X2_valueOf)
theorem gX4_workContest_X4_lookAtLiving : GoodIn wsX4_workContest (wsV RX4 145 RX4 yX4_lookAtLiving wsX4_lookAtLiving) := goodIn_app (goodIn_sub (fun w h => ptX4_workContest_woX4_workContest w ((by decide +kernel : ∀ w ∈ ([Cond.methodLink RX4 145 yX4_lookAtLiving, Cond.instanceMethod yX4_lookAtLiving, Cond.selects RX4 yX4_lookAtLiving yX4_lookAtLiving, Cond.initialized RX4] : List Cond), w ∈ woX4_workContest) w h)) (by decide +kernel)) (goodIn_sub (fun w h => ptX4_workContest_wsX4_lookAtLiving w h) (List.all_eq_true.mpr ok_X4_lookAtLiving))
theorem gX4_workContest_X4_end : GoodIn wsX4_workContest (wsV RX4 137 RX4 yX4_end wsX4_end) := goodIn_app (goodIn_sub (fun w h => ptX4_workContest_woX4_workContest w ((by decide +kernel : ∀ w ∈ ([Cond.methodLink RX4 137 yX4_end, Cond.instanceMethod yX4_end, Cond.selects RX4 yX4_end yX4_end, Cond.initialized RX4] : List Cond), w ∈ woX4_workContest) w h)) (by decide +kernel)) (goodIn_sub (fun w h => ptX4_workContest_wsX4_end w h) (List.all_eq_true.mpr ok_X4_end))
def woX4_acres : List Cond := [Cond.fieldLink RX4 37 "FreeLand$Work" "held" "[I", Cond.fieldLink RX4 34 "FreeLand$Work" "spot" "[I", Cond.fieldLink RX4 61 "FreeLand$Work" "book" "LFreeLand$Book;", Cond.methodLink RX4 164 yX4_isDoneByHolder, Cond.instanceMethod yX4_isDoneByHolder, Cond.selects RX4 yX4_isDoneByHolder yX4_isDoneByHolder, Cond.initialized RX4]
def wsX4_acres : List Cond := .code yX4_acres cX4_acres 6 (some .int) :: (woX4_acres ++ (wsX40 ++ (wsX00 ++ (wsX4_isDoneByHolder))))
set_option maxRecDepth 100000 in
set_option maxHeartbeats 4000000 in
theorem lwo_X4_acres : ∀ w ∈ Cond.code yX4_acres cX4_acres 6 (some .int) :: woX4_acres, w ∈ lw_tbl := lwi_mem [(3, 7), (1, 142), (1, 141), (1, 131), (2, 230), (2, 232), (0, 29), (1, 5)] (by decide +kernel)
theorem oko_X4_acres : ∀ w ∈ woX4_acres, goodWord w = true := by decide +kernel
theorem lw_X4_acres : ∀ w ∈ wsX4_acres, w ∈ lw_tbl := List.forall_mem_cons.mpr ⟨lwo_X4_acres _ List.mem_cons_self, List.forall_mem_append.mpr ⟨(fun w h => lwo_X4_acres w (List.mem_cons_of_mem _ h)), List.forall_mem_append.mpr ⟨lwi_X4, List.forall_mem_append.mpr ⟨lwi_X0, lw_X4_isDoneByHolder⟩⟩⟩⟩
theorem ok_X4_acres : ∀ w ∈ wsX4_acres, goodWord w = true := List.forall_mem_cons.mpr ⟨rfl, List.forall_mem_append.mpr ⟨oko_X4_acres, List.forall_mem_append.mpr ⟨ok_X4, List.forall_mem_append.mpr ⟨ok_X0, ok_X4_isDoneByHolder⟩⟩⟩⟩
theorem ptX4_acres_woX4_acres : ∀ w ∈ woX4_acres, w ∈ wsX4_acres := fun _ h => List.mem_cons_of_mem _ (List.mem_append_left _ h)
theorem ptX4_acres_wsX40 : ∀ w ∈ wsX40, w ∈ wsX4_acres := fun _ h => List.mem_cons_of_mem _ (List.mem_append_right _ (List.mem_append_left _ h))
theorem ptX4_acres_wsX00 : ∀ w ∈ wsX00, w ∈ wsX4_acres := fun _ h => List.mem_cons_of_mem _ (List.mem_append_right _ (List.mem_append_right _ (List.mem_append_left _ h)))
theorem ptX4_acres_wsX4_isDoneByHolder : ∀ w ∈ wsX4_isDoneByHolder, w ∈ wsX4_acres := fun _ h => List.mem_cons_of_mem _ (List.mem_append_right _ (List.mem_append_right _ (List.mem_append_right _ h)))
theorem gX4_acres_X4_isDoneByHolder : GoodIn wsX4_acres (wsV RX4 164 RX4 yX4_isDoneByHolder wsX4_isDoneByHolder) := goodIn_app (goodIn_sub (fun w h => ptX4_acres_woX4_acres w ((by decide +kernel : ∀ w ∈ ([Cond.methodLink RX4 164 yX4_isDoneByHolder, Cond.instanceMethod yX4_isDoneByHolder, Cond.selects RX4 yX4_isDoneByHolder yX4_isDoneByHolder, Cond.initialized RX4] : List Cond), w ∈ woX4_acres) w h)) (by decide +kernel)) (goodIn_sub (fun w h => ptX4_acres_wsX4_isDoneByHolder w h) (List.all_eq_true.mpr ok_X4_isDoneByHolder))
def woX4_workProve : List Cond := [Cond.fieldLink RX4 61 "FreeLand$Work" "book" "LFreeLand$Book;", Cond.methodLink RX4 134 yX4_isHeldLiveBy, Cond.instanceMethod yX4_isHeldLiveBy, Cond.selects RX4 yX4_isHeldLiveBy yX4_isHeldLiveBy, Cond.initialized RX4, Cond.fieldLink RX4 37 "FreeLand$Work" "held" "[I", Cond.fieldLink RX4 28 "FreeLand$Work" "ruling" "[I", Cond.fieldLink RX4 57 "FreeLand$Work" "laws" "LFreeLand$Laws;", Cond.instanceMethod yX2_valueOf, Cond.selects RX2 yX2_valueOf yX2_valueOf, Cond.initialized RX2, Cond.methodLink RX4 145 yX4_lookAtLiving, Cond.instanceMethod yX4_lookAtLiving, Cond.selects RX4 yX4_lookAtLiving yX4_lookAtLiving, Cond.fieldLink RX4 149 "FreeLand$Work" "livedDays" "I", Cond.fieldLink RX4 152 "FreeLand$Work" "longestGap" "I", Cond.methodLink RX4 155 yX4_acres, Cond.instanceMethod yX4_acres, Cond.selects RX4 yX4_acres yX4_acres, Cond.fieldLink RX4 19 "FreeLand$Work" "state" "[I", Cond.fieldLink RX4 31 "FreeLand$Work" "bindsFrom" "[I"]
def wsX4_workProve : List Cond := .code yX4_workProve cX4_workProve 6 (some .int) :: (woX4_workProve ++ (wsX40 ++ (wsX00 ++ (wsX4_isHeldLiveBy ++ (wsX2_valueOf ++ (wsX4_lookAtLiving ++ (wsX4_acres)))))))
set_option maxRecDepth 100000 in
set_option maxHeartbeats 4000000 in
theorem lwo_X4_workProve : ∀ w ∈ Cond.code yX4_workProve cX4_workProve 6 (some .int) :: woX4_workProve, w ∈ lw_tbl := lwi_mem [(3, 3), (1, 131), (2, 210), (2, 212), (0, 24), (1, 5), (1, 142), (1, 139), (1, 130), (2, 126), (0, 10), (1, 3), (2, 226), (2, 228), (0, 28), (1, 148), (1, 149), (3, 4), (3, 6), (0, 31), (1, 136), (1, 140)] (by decide +kernel)
theorem oko_X4_workProve : ∀ w ∈ woX4_workProve, goodWord w = true := by decide +kernel
theorem lw_X4_workProve : ∀ w ∈ wsX4_workProve, w ∈ lw_tbl := List.forall_mem_cons.mpr ⟨lwo_X4_workProve _ List.mem_cons_self, List.forall_mem_append.mpr ⟨(fun w h => lwo_X4_workProve w (List.mem_cons_of_mem _ h)), List.forall_mem_append.mpr ⟨lwi_X4, List.forall_mem_append.mpr ⟨lwi_X0, List.forall_mem_append.mpr ⟨lw_X4_isHeldLiveBy, List.forall_mem_append.mpr ⟨lw_X2_valueOf, List.forall_mem_append.mpr ⟨lw_X4_lookAtLiving, lw_X4_acres⟩⟩⟩⟩⟩⟩⟩
theorem ok_X4_workProve : ∀ w ∈ wsX4_workProve, goodWord w = true := List.forall_mem_cons.mpr ⟨rfl, List.forall_mem_append.mpr ⟨oko_X4_workProve, List.forall_mem_append.mpr ⟨ok_X4, List.forall_mem_append.mpr ⟨ok_X0, List.forall_mem_append.mpr ⟨ok_X4_isHeldLiveBy, List.forall_mem_append.mpr ⟨ok_X2_valueOf, List.forall_mem_append.mpr ⟨ok_X4_lookAtLiving, ok_X4_acres⟩⟩⟩⟩⟩⟩⟩
theorem ptX4_workProve_woX4_workProve : ∀ w ∈ woX4_workProve, w ∈ wsX4_workProve := fun _ h => List.mem_cons_of_mem _ (List.mem_append_left _ h)
theorem ptX4_workProve_wsX40 : ∀ w ∈ wsX40, w ∈ wsX4_workProve := fun _ h => List.mem_cons_of_mem _ (List.mem_append_right _ (List.mem_append_left _ h))
theorem ptX4_workProve_wsX00 : ∀ w ∈ wsX00, w ∈ wsX4_workProve := fun _ h => List.mem_cons_of_mem _ (List.mem_append_right _ (List.mem_append_right _ (List.mem_append_left _ h)))
theorem ptX4_workProve_wsX4_isHeldLiveBy : ∀ w ∈ wsX4_isHeldLiveBy, w ∈ wsX4_workProve := fun _ h => List.mem_cons_of_mem _ (List.mem_append_right _ (List.mem_append_right _ (List.mem_append_right _ (List.mem_append_left _ h))))
theorem ptX4_workProve_wsX2_valueOf : ∀ w ∈ wsX2_valueOf, w ∈ wsX4_workProve := fun _ h => List.mem_cons_of_mem _ (List.mem_append_right _ (List.mem_append_right _ (List.mem_append_right _ (List.mem_append_right _ (List.mem_append_left _ h)))))
theorem ptX4_workProve_wsX4_lookAtLiving : ∀ w ∈ wsX4_lookAtLiving, w ∈ wsX4_workProve := fun _ h => List.mem_cons_of_mem _ (List.mem_append_right _ (List.mem_append_right _ (List.mem_append_right _ (List.mem_append_right _ (List.mem_append_right _ (List.mem_append_left _ h))))))
theorem ptX4_workProve_wsX4_acres : ∀ w ∈ wsX4_acres, w ∈ wsX4_workProve := fun _ h => List.mem_cons_of_mem _ (List.mem_append_right _ (List.mem_append_right _ (List.mem_append_right _ (List.mem_append_right _ (List.mem_append_right _ (List.mem_append_right _ h))))))
theorem gX4_workProve_X4_isHeldLiveBy : GoodIn wsX4_workProve (wsV RX4 134 RX4 yX4_isHeldLiveBy wsX4_isHeldLiveBy) := goodIn_app (goodIn_sub (fun w h => ptX4_workProve_woX4_workProve w ((by decide +kernel : ∀ w ∈ ([Cond.methodLink RX4 134 yX4_isHeldLiveBy, Cond.instanceMethod yX4_isHeldLiveBy, Cond.selects RX4 yX4_isHeldLiveBy yX4_isHeldLiveBy, Cond.initialized RX4] : List Cond), w ∈ woX4_workProve) w h)) (by decide +kernel)) (goodIn_sub (fun w h => ptX4_workProve_wsX4_isHeldLiveBy w h) (List.all_eq_true.mpr ok_X4_isHeldLiveBy))
theorem gX4_workProve_X2_valueOf_n121 : GoodIn wsX4_workProve wsX2_valueOf := goodIn_sub (fun w h => ptX4_workProve_wsX2_valueOf w h) (List.all_eq_true.mpr ok_X2_valueOf)
theorem gX4_workProve_X4_lookAtLiving : GoodIn wsX4_workProve (wsV RX4 145 RX4 yX4_lookAtLiving wsX4_lookAtLiving) := goodIn_app (goodIn_sub (fun w h => ptX4_workProve_woX4_workProve w ((by decide +kernel : ∀ w ∈ ([Cond.methodLink RX4 145 yX4_lookAtLiving, Cond.instanceMethod yX4_lookAtLiving, Cond.selects RX4 yX4_lookAtLiving yX4_lookAtLiving, Cond.initialized RX4] : List Cond), w ∈ woX4_workProve) w h)) (by decide +kernel)) (goodIn_sub (fun w h => ptX4_workProve_wsX4_lookAtLiving w h) (List.all_eq_true.mpr ok_X4_lookAtLiving))
theorem gX4_workProve_X4_acres : GoodIn wsX4_workProve (wsV RX4 155 RX4 yX4_acres wsX4_acres) := goodIn_app (goodIn_sub (fun w h => ptX4_workProve_woX4_workProve w ((by decide +kernel : ∀ w ∈ ([Cond.methodLink RX4 155 yX4_acres, Cond.instanceMethod yX4_acres, Cond.selects RX4 yX4_acres yX4_acres, Cond.initialized RX4] : List Cond), w ∈ woX4_workProve) w h)) (by decide +kernel)) (goodIn_sub (fun w h => ptX4_workProve_wsX4_acres w h) (List.all_eq_true.mpr ok_X4_acres))
def woX4_holderOf : List Cond := [Cond.fieldLink RX4 37 "FreeLand$Work" "held" "[I", Cond.fieldLink RX4 22 "FreeLand$Work" "holder" "[I"]
def wsX4_holderOf : List Cond := .code yX4_holderOf cX4_holderOf 2 (some .int) :: (woX4_holderOf ++ (wsX40))
set_option maxRecDepth 100000 in
set_option maxHeartbeats 4000000 in
theorem lwo_X4_holderOf : ∀ w ∈ Cond.code yX4_holderOf cX4_holderOf 2 (some .int) :: woX4_holderOf, w ∈ lw_tbl := lwi_mem [(3, 15), (1, 142), (1, 137)] (by decide +kernel)
theorem oko_X4_holderOf : ∀ w ∈ woX4_holderOf, goodWord w = true := by decide +kernel
theorem lw_X4_holderOf : ∀ w ∈ wsX4_holderOf, w ∈ lw_tbl := List.forall_mem_cons.mpr ⟨lwo_X4_holderOf _ List.mem_cons_self, List.forall_mem_append.mpr ⟨(fun w h => lwo_X4_holderOf w (List.mem_cons_of_mem _ h)), lwi_X4⟩⟩
theorem ok_X4_holderOf : ∀ w ∈ wsX4_holderOf, goodWord w = true := List.forall_mem_cons.mpr ⟨rfl, List.forall_mem_append.mpr ⟨oko_X4_holderOf, ok_X4⟩⟩
theorem ptX4_holderOf_woX4_holderOf : ∀ w ∈ woX4_holderOf, w ∈ wsX4_holderOf := fun _ h => List.mem_cons_of_mem _ (List.mem_append_left _ h)
theorem ptX4_holderOf_wsX40 : ∀ w ∈ wsX40, w ∈ wsX4_holderOf := fun _ h => List.mem_cons_of_mem _ (List.mem_append_right _ h)
def woX4_workDeath : List Cond := [Cond.fieldLink RX4 61 "FreeLand$Work" "book" "LFreeLand$Book;", Cond.fieldLink RX4 46 "FreeLand$Work" "dead" "[Z", Cond.methodLink RX4 161 yX4_holderOf, Cond.instanceMethod yX4_holderOf, Cond.selects RX4 yX4_holderOf yX4_holderOf, Cond.initialized RX4, Cond.fieldLink RX4 22 "FreeLand$Work" "holder" "[I", Cond.fieldLink RX4 37 "FreeLand$Work" "held" "[I", Cond.fieldLink RX4 25 "FreeLand$Work" "holders" "[I"]
def wsX4_workDeath : List Cond := .code yX4_workDeath cX4_workDeath 5 (some .int) :: (woX4_workDeath ++ (wsX40 ++ (wsX00 ++ (wsX4_holderOf))))
set_option maxRecDepth 100000 in
set_option maxHeartbeats 4000000 in
theorem lwo_X4_workDeath : ∀ w ∈ Cond.code yX4_workDeath cX4_workDeath 5 (some .int) :: woX4_workDeath, w ∈ lw_tbl := lwi_mem [(3, 11), (1, 131), (1, 146), (3, 12), (3, 14), (0, 33), (1, 5), (1, 137), (1, 142), (1, 138)] (by decide +kernel)
theorem oko_X4_workDeath : ∀ w ∈ woX4_workDeath, goodWord w = true := by decide +kernel
theorem lw_X4_workDeath : ∀ w ∈ wsX4_workDeath, w ∈ lw_tbl := List.forall_mem_cons.mpr ⟨lwo_X4_workDeath _ List.mem_cons_self, List.forall_mem_append.mpr ⟨(fun w h => lwo_X4_workDeath w (List.mem_cons_of_mem _ h)), List.forall_mem_append.mpr ⟨lwi_X4, List.forall_mem_append.mpr ⟨lwi_X0, lw_X4_holderOf⟩⟩⟩⟩
theorem ok_X4_workDeath : ∀ w ∈ wsX4_workDeath, goodWord w = true := List.forall_mem_cons.mpr ⟨rfl, List.forall_mem_append.mpr ⟨oko_X4_workDeath, List.forall_mem_append.mpr ⟨ok_X4, List.forall_mem_append.mpr ⟨ok_X0, ok_X4_holderOf⟩⟩⟩⟩
theorem ptX4_workDeath_woX4_workDeath : ∀ w ∈ woX4_workDeath, w ∈ wsX4_workDeath := fun _ h => List.mem_cons_of_mem _ (List.mem_append_left _ h)
theorem ptX4_workDeath_wsX40 : ∀ w ∈ wsX40, w ∈ wsX4_workDeath := fun _ h => List.mem_cons_of_mem _ (List.mem_append_right _ (List.mem_append_left _ h))
theorem ptX4_workDeath_wsX00 : ∀ w ∈ wsX00, w ∈ wsX4_workDeath := fun _ h => List.mem_cons_of_mem _ (List.mem_append_right _ (List.mem_append_right _ (List.mem_append_left _ h)))
theorem ptX4_workDeath_wsX4_holderOf : ∀ w ∈ wsX4_holderOf, w ∈ wsX4_workDeath := fun _ h => List.mem_cons_of_mem _ (List.mem_append_right _ (List.mem_append_right _ (List.mem_append_right _ h)))
theorem gX4_workDeath_X4_holderOf : GoodIn wsX4_workDeath (wsV RX4 161 RX4 yX4_holderOf wsX4_holderOf) := goodIn_app (goodIn_sub (fun w h => ptX4_workDeath_woX4_workDeath w ((by decide +kernel : ∀ w ∈ ([Cond.methodLink RX4 161 yX4_holderOf, Cond.instanceMethod yX4_holderOf, Cond.selects RX4 yX4_holderOf yX4_holderOf, Cond.initialized RX4] : List Cond), w ∈ woX4_workDeath) w h)) (by decide +kernel)) (goodIn_sub (fun w h => ptX4_workDeath_wsX4_holderOf w h) (List.all_eq_true.mpr ok_X4_holderOf))
def woX4_workLine : List Cond := [Cond.fieldLink RX4 46 "FreeLand$Work" "dead" "[Z", Cond.fieldLink RX4 61 "FreeLand$Work" "book" "LFreeLand$Book;", Cond.methodLink RX4 92 yX4_workFile, Cond.instanceMethod yX4_workFile, Cond.selects RX4 yX4_workFile yX4_workFile, Cond.initialized RX4, Cond.methodLink RX4 95 yX4_workGiveUp, Cond.instanceMethod yX4_workGiveUp, Cond.selects RX4 yX4_workGiveUp yX4_workGiveUp, Cond.methodLink RX4 99 yX4_workContest, Cond.instanceMethod yX4_workContest, Cond.selects RX4 yX4_workContest yX4_workContest, Cond.methodLink RX4 102 yX4_workProve, Cond.instanceMethod yX4_workProve, Cond.selects RX4 yX4_workProve yX4_workProve, Cond.methodLink RX4 105 yX4_workDeath, Cond.instanceMethod yX4_workDeath, Cond.selects RX4 yX4_workDeath yX4_workDeath]
def wsX4_workLine : List Cond := .code yX4_workLine cX4_workLine 3 (some .int) :: (woX4_workLine ++ (wsX40 ++ (wsX00 ++ (wsX4_workFile ++ (wsX4_workGiveUp ++ (wsX4_workContest ++ (wsX4_workProve ++ (wsX4_workDeath))))))))
set_option maxRecDepth 100000 in
set_option maxHeartbeats 4000000 in
theorem lwo_X4_workLine : ∀ w ∈ Cond.code yX4_workLine cX4_workLine 3 (some .int) :: woX4_workLine, w ∈ lw_tbl := lwi_mem [(2, 191), (1, 146), (1, 131), (2, 192), (2, 194), (0, 20), (1, 5), (2, 206), (2, 208), (0, 23), (2, 222), (2, 224), (0, 27), (3, 0), (3, 2), (0, 30), (3, 8), (3, 10), (0, 32)] (by decide +kernel)
theorem oko_X4_workLine : ∀ w ∈ woX4_workLine, goodWord w = true := by decide +kernel
theorem lw_X4_workLine : ∀ w ∈ wsX4_workLine, w ∈ lw_tbl := List.forall_mem_cons.mpr ⟨lwo_X4_workLine _ List.mem_cons_self, List.forall_mem_append.mpr ⟨(fun w h => lwo_X4_workLine w (List.mem_cons_of_mem _ h)), List.forall_mem_append.mpr ⟨lwi_X4, List.forall_mem_append.mpr ⟨lwi_X0, List.forall_mem_append.mpr ⟨lw_X4_workFile, List.forall_mem_append.mpr ⟨lw_X4_workGiveUp, List.forall_mem_append.mpr ⟨lw_X4_workContest, List.forall_mem_append.mpr ⟨lw_X4_workProve, lw_X4_workDeath⟩⟩⟩⟩⟩⟩⟩⟩
theorem ok_X4_workLine : ∀ w ∈ wsX4_workLine, goodWord w = true := List.forall_mem_cons.mpr ⟨rfl, List.forall_mem_append.mpr ⟨oko_X4_workLine, List.forall_mem_append.mpr ⟨ok_X4, List.forall_mem_append.mpr ⟨ok_X0, List.forall_mem_append.mpr ⟨ok_X4_workFile, List.forall_mem_append.mpr ⟨ok_X4_workGiveUp, List.forall_mem_append.mpr ⟨ok_X4_workContest, List.forall_mem_append.mpr ⟨ok_X4_workProve, ok_X4_workDeath⟩⟩⟩⟩⟩⟩⟩⟩
theorem ptX4_workLine_woX4_workLine : ∀ w ∈ woX4_workLine, w ∈ wsX4_workLine := fun _ h => List.mem_cons_of_mem _ (List.mem_append_left _ h)
theorem ptX4_workLine_wsX40 : ∀ w ∈ wsX40, w ∈ wsX4_workLine := fun _ h => List.mem_cons_of_mem _ (List.mem_append_right _ (List.mem_append_left _ h))
theorem ptX4_workLine_wsX00 : ∀ w ∈ wsX00, w ∈ wsX4_workLine := fun _ h => List.mem_cons_of_mem _ (List.mem_append_right _ (List.mem_append_right _ (List.mem_append_left _ h)))
theorem ptX4_workLine_wsX4_workFile : ∀ w ∈ wsX4_workFile, w ∈ wsX4_workLine := fun _ h => List.mem_cons_of_mem _ (List.mem_append_right _ (List.mem_append_right _ (List.mem_append_right _ (List.mem_append_left _ h))))
theorem ptX4_workLine_wsX4_workGiveUp : ∀ w ∈ wsX4_workGiveUp, w ∈ wsX4_workLine := fun _ h => List.mem_cons_of_mem _ (List.mem_append_right _ (List.mem_append_right _ (List.mem_append_right _ (List.mem_append_right _ (List.mem_append_left _ h)))))
theorem ptX4_workLine_wsX4_workContest : ∀ w ∈ wsX4_workContest, w ∈ wsX4_workLine := fun _ h => List.mem_cons_of_mem _ (List.mem_append_right _ (List.mem_append_right _ (List.mem_append_right _ (List.mem_append_right _ (List.mem_append_right _ (List.mem_append_left _ h))))))
theorem ptX4_workLine_wsX4_workProve : ∀ w ∈ wsX4_workProve, w ∈ wsX4_workLine := fun _ h => List.mem_cons_of_mem _ (List.mem_append_right _ (List.mem_append_right _ (List.mem_append_right _ (List.mem_append_right _ (List.mem_append_right _ (List.mem_append_right _ (List.mem_append_left _ h)))))))
theorem ptX4_workLine_wsX4_workDeath : ∀ w ∈ wsX4_workDeath, w ∈ wsX4_workLine := fun _ h => List.mem_cons_of_mem _ (List.mem_append_right _ (List.mem_append_right _ (List.mem_append_right _ (List.mem_append_right _ (List.mem_append_right _ (List.mem_append_right _ (List.mem_append_right _ h)))))))
theorem gX4_workLine_X4_workFile : GoodIn wsX4_workLine (wsV RX4 92 RX4 yX4_workFile wsX4_workFile) := goodIn_app (goodIn_sub (fun w h => ptX4_workLine_woX4_workLine w ((by decide +kernel : ∀ w ∈ ([Cond.methodLink RX4 92 yX4_workFile, Cond.instanceMethod yX4_workFile, Cond.selects RX4 yX4_workFile yX4_workFile, Cond.initialized RX4] : List Cond), w ∈ woX4_workLine) w h)) (by decide +kernel)) (goodIn_sub (fun w h => ptX4_workLine_wsX4_workFile w h) (List.all_eq_true.mpr ok_X4_workFile))
theorem gX4_workLine_X4_workGiveUp : GoodIn wsX4_workLine (wsV RX4 95 RX4 yX4_workGiveUp wsX4_workGiveUp) := goodIn_app (goodIn_sub (fun w h => ptX4_workLine_woX4_workLine w ((by decide +kernel : ∀ w ∈ ([Cond.methodLink RX4 95 yX4_workGiveUp, Cond.instanceMethod yX4_workGiveUp, Cond.selects RX4 yX4_workGiveUp yX4_workGiveUp, Cond.initialized RX4] : List Cond), w ∈ woX4_workLine) w h)) (by decide +kernel)) (goodIn_sub (fun w h => ptX4_workLine_wsX4_workGiveUp w h) (List.all_eq_true.mpr ok_X4_workGiveUp))
theorem gX4_workLine_X4_workContest : GoodIn wsX4_workLine (wsV RX4 99 RX4 yX4_workContest wsX4_workContest) := goodIn_app (goodIn_sub (fun w h => ptX4_workLine_woX4_workLine w ((by decide +kernel : ∀ w ∈ ([Cond.methodLink RX4 99 yX4_workContest, Cond.instanceMethod yX4_workContest, Cond.selects RX4 yX4_workContest yX4_workContest, Cond.initialized RX4] : List Cond), w ∈ woX4_workLine) w h)) (by decide +kernel)) (goodIn_sub (fun w h => ptX4_workLine_wsX4_workContest w h) (List.all_eq_true.mpr ok_X4_workContest))
theorem gX4_workLine_X4_workProve : GoodIn wsX4_workLine (wsV RX4 102 RX4 yX4_workProve wsX4_workProve) := goodIn_app (goodIn_sub (fun w h => ptX4_workLine_woX4_workLine w ((by decide +kernel : ∀ w ∈ ([Cond.methodLink RX4 102 yX4_workProve, Cond.instanceMethod yX4_workProve, Cond.selects RX4 yX4_workProve yX4_workProve, Cond.initialized RX4] : List Cond), w ∈ woX4_workLine) w h)) (by decide +kernel)) (goodIn_sub (fun w h => ptX4_workLine_wsX4_workProve w h) (List.all_eq_true.mpr ok_X4_workProve))
theorem gX4_workLine_X4_workDeath : GoodIn wsX4_workLine (wsV RX4 105 RX4 yX4_workDeath wsX4_workDeath) := goodIn_app (goodIn_sub (fun w h => ptX4_workLine_woX4_workLine w ((by decide +kernel : ∀ w ∈ ([Cond.methodLink RX4 105 yX4_workDeath, Cond.instanceMethod yX4_workDeath, Cond.selects RX4 yX4_workDeath yX4_workDeath, Cond.initialized RX4] : List Cond), w ∈ woX4_workLine) w h)) (by decide +kernel)) (goodIn_sub (fun w h => ptX4_workLine_wsX4_workDeath w h) (List.all_eq_true.mpr ok_X4_workDeath))
def woX4_through : List Cond := [Cond.methodLink RX4 65 yX4_clear, Cond.instanceMethod yX4_clear, Cond.selects RX4 yX4_clear yX4_clear, Cond.initialized RX4, Cond.fieldLink RX4 61 "FreeLand$Work" "book" "LFreeLand$Book;", Cond.fieldLink RX4 15 "FreeLand$Work" "result" "[I", Cond.methodLink RX4 82 yX4_workLine, Cond.instanceMethod yX4_workLine, Cond.selects RX4 yX4_workLine yX4_workLine]
def wsX4_through : List Cond := .code yX4_through cX4_through 5 none :: (woX4_through ++ (wsX40 ++ (wsX00 ++ (wsX4_clear ++ (wsX4_workLine)))))
set_option maxRecDepth 100000 in
set_option maxHeartbeats 4000000 in
theorem lwo_X4_through : ∀ w ∈ Cond.code yX4_through cX4_through 5 none :: woX4_through, w ∈ lw_tbl := lwi_mem [(2, 183), (2, 184), (2, 186), (0, 18), (1, 5), (1, 131), (1, 134), (2, 188), (2, 190), (0, 19)] (by decide +kernel)
theorem oko_X4_through : ∀ w ∈ woX4_through, goodWord w = true := by decide +kernel
theorem lw_X4_through : ∀ w ∈ wsX4_through, w ∈ lw_tbl := List.forall_mem_cons.mpr ⟨lwo_X4_through _ List.mem_cons_self, List.forall_mem_append.mpr ⟨(fun w h => lwo_X4_through w (List.mem_cons_of_mem _ h)), List.forall_mem_append.mpr ⟨lwi_X4, List.forall_mem_append.mpr ⟨lwi_X0, List.forall_mem_append.mpr ⟨lw_X4_clear, lw_X4_workLine⟩⟩⟩⟩⟩
theorem ok_X4_through : ∀ w ∈ wsX4_through, goodWord w = true := List.forall_mem_cons.mpr ⟨rfl, List.forall_mem_append.mpr ⟨oko_X4_through, List.forall_mem_append.mpr ⟨ok_X4, List.forall_mem_append.mpr ⟨ok_X0, List.forall_mem_append.mpr ⟨ok_X4_clear, ok_X4_workLine⟩⟩⟩⟩⟩
theorem ptX4_through_woX4_through : ∀ w ∈ woX4_through, w ∈ wsX4_through := fun _ h => List.mem_cons_of_mem _ (List.mem_append_left _ h)
theorem ptX4_through_wsX40 : ∀ w ∈ wsX40, w ∈ wsX4_through := fun _ h => List.mem_cons_of_mem _ (List.mem_append_right _ (List.mem_append_left _ h))
theorem ptX4_through_wsX00 : ∀ w ∈ wsX00, w ∈ wsX4_through := fun _ h => List.mem_cons_of_mem _ (List.mem_append_right _ (List.mem_append_right _ (List.mem_append_left _ h)))
theorem ptX4_through_wsX4_clear : ∀ w ∈ wsX4_clear, w ∈ wsX4_through := fun _ h => List.mem_cons_of_mem _ (List.mem_append_right _ (List.mem_append_right _ (List.mem_append_right _ (List.mem_append_left _ h))))
theorem ptX4_through_wsX4_workLine : ∀ w ∈ wsX4_workLine, w ∈ wsX4_through := fun _ h => List.mem_cons_of_mem _ (List.mem_append_right _ (List.mem_append_right _ (List.mem_append_right _ (List.mem_append_right _ h))))
theorem gX4_through_X4_clear : GoodIn wsX4_through (wsV RX4 65 RX4 yX4_clear wsX4_clear) := goodIn_app (goodIn_sub (fun w h => ptX4_through_woX4_through w ((by decide +kernel : ∀ w ∈ ([Cond.methodLink RX4 65 yX4_clear, Cond.instanceMethod yX4_clear, Cond.selects RX4 yX4_clear yX4_clear, Cond.initialized RX4] : List Cond), w ∈ woX4_through) w h)) (by decide +kernel)) (goodIn_sub (fun w h => ptX4_through_wsX4_clear w h) (List.all_eq_true.mpr ok_X4_clear))
theorem gX4_through_X4_workLine : GoodIn wsX4_through (wsV RX4 82 RX4 yX4_workLine wsX4_workLine) := goodIn_app (goodIn_sub (fun w h => ptX4_through_woX4_through w ((by decide +kernel : ∀ w ∈ ([Cond.methodLink RX4 82 yX4_workLine, Cond.instanceMethod yX4_workLine, Cond.selects RX4 yX4_workLine yX4_workLine, Cond.initialized RX4] : List Cond), w ∈ woX4_through) w h)) (by decide +kernel)) (goodIn_sub (fun w h => ptX4_through_wsX4_workLine w h) (List.all_eq_true.mpr ok_X4_workLine))
def woX4_standing : List Cond := [Cond.fieldLink RX4 37 "FreeLand$Work" "held" "[I", Cond.methodLink RX4 127 yX4_isRailroads, Cond.instanceMethod yX4_isRailroads, Cond.selects RX4 yX4_isRailroads yX4_isRailroads, Cond.initialized RX4, Cond.fieldLink RX4 19 "FreeLand$Work" "state" "[I", Cond.fieldLink RX4 31 "FreeLand$Work" "bindsFrom" "[I"]
def wsX4_standing : List Cond := .code yX4_standing cX4_standing 4 (some .int) :: (woX4_standing ++ (wsX40 ++ (wsX4_isRailroads)))
set_option maxRecDepth 100000 in
set_option maxHeartbeats 4000000 in
theorem lwo_X4_standing : ∀ w ∈ Cond.code yX4_standing cX4_standing 4 (some .int) :: woX4_standing, w ∈ lw_tbl := lwi_mem [(3, 48), (1, 142), (2, 198), (2, 200), (0, 21), (1, 5), (1, 136), (1, 140)] (by decide +kernel)
theorem oko_X4_standing : ∀ w ∈ woX4_standing, goodWord w = true := by decide +kernel
theorem lw_X4_standing : ∀ w ∈ wsX4_standing, w ∈ lw_tbl := List.forall_mem_cons.mpr ⟨lwo_X4_standing _ List.mem_cons_self, List.forall_mem_append.mpr ⟨(fun w h => lwo_X4_standing w (List.mem_cons_of_mem _ h)), List.forall_mem_append.mpr ⟨lwi_X4, lw_X4_isRailroads⟩⟩⟩
theorem ok_X4_standing : ∀ w ∈ wsX4_standing, goodWord w = true := List.forall_mem_cons.mpr ⟨rfl, List.forall_mem_append.mpr ⟨oko_X4_standing, List.forall_mem_append.mpr ⟨ok_X4, ok_X4_isRailroads⟩⟩⟩
theorem ptX4_standing_woX4_standing : ∀ w ∈ woX4_standing, w ∈ wsX4_standing := fun _ h => List.mem_cons_of_mem _ (List.mem_append_left _ h)
theorem ptX4_standing_wsX40 : ∀ w ∈ wsX40, w ∈ wsX4_standing := fun _ h => List.mem_cons_of_mem _ (List.mem_append_right _ (List.mem_append_left _ h))
theorem ptX4_standing_wsX4_isRailroads : ∀ w ∈ wsX4_isRailroads, w ∈ wsX4_standing := fun _ h => List.mem_cons_of_mem _ (List.mem_append_right _ (List.mem_append_right _ h))
theorem gX4_standing_X4_isRailroads : GoodIn wsX4_standing (wsV RX4 127 RX4 yX4_isRailroads wsX4_isRailroads) := goodIn_app (goodIn_sub (fun w h => ptX4_standing_woX4_standing w ((by decide +kernel : ∀ w ∈ ([Cond.methodLink RX4 127 yX4_isRailroads, Cond.instanceMethod yX4_isRailroads, Cond.selects RX4 yX4_isRailroads yX4_isRailroads, Cond.initialized RX4] : List Cond), w ∈ woX4_standing) w h)) (by decide +kernel)) (goodIn_sub (fun w h => ptX4_standing_wsX4_isRailroads w h) (List.all_eq_true.mpr ok_X4_isRailroads))
def woX4_daysLived : List Cond := [Cond.fieldLink RX4 37 "FreeLand$Work" "held" "[I", Cond.fieldLink RX4 61 "FreeLand$Work" "book" "LFreeLand$Book;", Cond.methodLink RX4 145 yX4_lookAtLiving, Cond.instanceMethod yX4_lookAtLiving, Cond.selects RX4 yX4_lookAtLiving yX4_lookAtLiving, Cond.initialized RX4, Cond.fieldLink RX4 149 "FreeLand$Work" "livedDays" "I"]
def wsX4_daysLived : List Cond := .code yX4_daysLived cX4_daysLived 4 (some .int) :: (woX4_daysLived ++ (wsX40 ++ (wsX00 ++ (wsX4_lookAtLiving))))
set_option maxRecDepth 100000 in
set_option maxHeartbeats 4000000 in
theorem lwo_X4_daysLived : ∀ w ∈ Cond.code yX4_daysLived cX4_daysLived 4 (some .int) :: woX4_daysLived, w ∈ lw_tbl := lwi_mem [(3, 53), (1, 142), (1, 131), (2, 226), (2, 228), (0, 28), (1, 5), (1, 148)] (by decide +kernel)
theorem oko_X4_daysLived : ∀ w ∈ woX4_daysLived, goodWord w = true := by decide +kernel
theorem lw_X4_daysLived : ∀ w ∈ wsX4_daysLived, w ∈ lw_tbl := List.forall_mem_cons.mpr ⟨lwo_X4_daysLived _ List.mem_cons_self, List.forall_mem_append.mpr ⟨(fun w h => lwo_X4_daysLived w (List.mem_cons_of_mem _ h)), List.forall_mem_append.mpr ⟨lwi_X4, List.forall_mem_append.mpr ⟨lwi_X0, lw_X4_lookAtLiving⟩⟩⟩⟩
theorem ok_X4_daysLived : ∀ w ∈ wsX4_daysLived, goodWord w = true := List.forall_mem_cons.mpr ⟨rfl, List.forall_mem_append.mpr ⟨oko_X4_daysLived, List.forall_mem_append.mpr ⟨ok_X4, List.forall_mem_append.mpr ⟨ok_X0, ok_X4_lookAtLiving⟩⟩⟩⟩
theorem ptX4_daysLived_woX4_daysLived : ∀ w ∈ woX4_daysLived, w ∈ wsX4_daysLived := fun _ h => List.mem_cons_of_mem _ (List.mem_append_left _ h)
theorem ptX4_daysLived_wsX40 : ∀ w ∈ wsX40, w ∈ wsX4_daysLived := fun _ h => List.mem_cons_of_mem _ (List.mem_append_right _ (List.mem_append_left _ h))
theorem ptX4_daysLived_wsX00 : ∀ w ∈ wsX00, w ∈ wsX4_daysLived := fun _ h => List.mem_cons_of_mem _ (List.mem_append_right _ (List.mem_append_right _ (List.mem_append_left _ h)))
theorem ptX4_daysLived_wsX4_lookAtLiving : ∀ w ∈ wsX4_lookAtLiving, w ∈ wsX4_daysLived := fun _ h => List.mem_cons_of_mem _ (List.mem_append_right _ (List.mem_append_right _ (List.mem_append_right _ h)))
theorem gX4_daysLived_X4_lookAtLiving : GoodIn wsX4_daysLived (wsV RX4 145 RX4 yX4_lookAtLiving wsX4_lookAtLiving) := goodIn_app (goodIn_sub (fun w h => ptX4_daysLived_woX4_daysLived w ((by decide +kernel : ∀ w ∈ ([Cond.methodLink RX4 145 yX4_lookAtLiving, Cond.instanceMethod yX4_lookAtLiving, Cond.selects RX4 yX4_lookAtLiving yX4_lookAtLiving, Cond.initialized RX4] : List Cond), w ∈ woX4_daysLived) w h)) (by decide +kernel)) (goodIn_sub (fun w h => ptX4_daysLived_wsX4_lookAtLiving w h) (List.all_eq_true.mpr ok_X4_lookAtLiving))
def woX4_countEntries : List Cond := [Cond.fieldLink RX4 61 "FreeLand$Work" "book" "LFreeLand$Book;", Cond.fieldLink RX4 19 "FreeLand$Work" "state" "[I"]
def wsX4_countEntries : List Cond := .code yX4_countEntries cX4_countEntries 4 (some .int) :: (woX4_countEntries ++ (wsX40 ++ (wsX00)))
set_option maxRecDepth 100000 in
set_option maxHeartbeats 4000000 in
theorem lwo_X4_countEntries : ∀ w ∈ Cond.code yX4_countEntries cX4_countEntries 4 (some .int) :: woX4_countEntries, w ∈ lw_tbl := lwi_mem [(3, 31), (1, 131), (1, 136)] (by decide +kernel)
theorem oko_X4_countEntries : ∀ w ∈ woX4_countEntries, goodWord w = true := by decide +kernel
theorem lw_X4_countEntries : ∀ w ∈ wsX4_countEntries, w ∈ lw_tbl := List.forall_mem_cons.mpr ⟨lwo_X4_countEntries _ List.mem_cons_self, List.forall_mem_append.mpr ⟨(fun w h => lwo_X4_countEntries w (List.mem_cons_of_mem _ h)), List.forall_mem_append.mpr ⟨lwi_X4, lwi_X0⟩⟩⟩
theorem ok_X4_countEntries : ∀ w ∈ wsX4_countEntries, goodWord w = true := List.forall_mem_cons.mpr ⟨rfl, List.forall_mem_append.mpr ⟨oko_X4_countEntries, List.forall_mem_append.mpr ⟨ok_X4, ok_X0⟩⟩⟩
theorem ptX4_countEntries_woX4_countEntries : ∀ w ∈ woX4_countEntries, w ∈ wsX4_countEntries := fun _ h => List.mem_cons_of_mem _ (List.mem_append_left _ h)
theorem ptX4_countEntries_wsX40 : ∀ w ∈ wsX40, w ∈ wsX4_countEntries := fun _ h => List.mem_cons_of_mem _ (List.mem_append_right _ (List.mem_append_left _ h))
theorem ptX4_countEntries_wsX00 : ∀ w ∈ wsX00, w ∈ wsX4_countEntries := fun _ h => List.mem_cons_of_mem _ (List.mem_append_right _ (List.mem_append_right _ h))
def woX4_countDead : List Cond := [Cond.fieldLink RX4 46 "FreeLand$Work" "dead" "[Z"]
def wsX4_countDead : List Cond := .code yX4_countDead cX4_countDead 3 (some .int) :: (woX4_countDead ++ (wsX40))
set_option maxRecDepth 100000 in
set_option maxHeartbeats 4000000 in
theorem lwo_X4_countDead : ∀ w ∈ Cond.code yX4_countDead cX4_countDead 3 (some .int) :: woX4_countDead, w ∈ lw_tbl := lwi_mem [(3, 35), (1, 146)] (by decide +kernel)
theorem oko_X4_countDead : ∀ w ∈ woX4_countDead, goodWord w = true := by decide +kernel
theorem lw_X4_countDead : ∀ w ∈ wsX4_countDead, w ∈ lw_tbl := List.forall_mem_cons.mpr ⟨lwo_X4_countDead _ List.mem_cons_self, List.forall_mem_append.mpr ⟨(fun w h => lwo_X4_countDead w (List.mem_cons_of_mem _ h)), lwi_X4⟩⟩
theorem ok_X4_countDead : ∀ w ∈ wsX4_countDead, goodWord w = true := List.forall_mem_cons.mpr ⟨rfl, List.forall_mem_append.mpr ⟨oko_X4_countDead, ok_X4⟩⟩
theorem ptX4_countDead_woX4_countDead : ∀ w ∈ woX4_countDead, w ∈ wsX4_countDead := fun _ h => List.mem_cons_of_mem _ (List.mem_append_left _ h)
theorem ptX4_countDead_wsX40 : ∀ w ∈ wsX40, w ∈ wsX4_countDead := fun _ h => List.mem_cons_of_mem _ (List.mem_append_right _ h)
def woX4_countNotDone : List Cond := [Cond.fieldLink RX4 61 "FreeLand$Work" "book" "LFreeLand$Book;", Cond.fieldLink RX4 15 "FreeLand$Work" "result" "[I"]
def wsX4_countNotDone : List Cond := .code yX4_countNotDone cX4_countNotDone 3 (some .int) :: (woX4_countNotDone ++ (wsX40 ++ (wsX00)))
set_option maxRecDepth 100000 in
set_option maxHeartbeats 4000000 in
theorem lwo_X4_countNotDone : ∀ w ∈ Cond.code yX4_countNotDone cX4_countNotDone 3 (some .int) :: woX4_countNotDone, w ∈ lw_tbl := lwi_mem [(3, 39), (1, 131), (1, 134)] (by decide +kernel)
theorem oko_X4_countNotDone : ∀ w ∈ woX4_countNotDone, goodWord w = true := by decide +kernel
theorem lw_X4_countNotDone : ∀ w ∈ wsX4_countNotDone, w ∈ lw_tbl := List.forall_mem_cons.mpr ⟨lwo_X4_countNotDone _ List.mem_cons_self, List.forall_mem_append.mpr ⟨(fun w h => lwo_X4_countNotDone w (List.mem_cons_of_mem _ h)), List.forall_mem_append.mpr ⟨lwi_X4, lwi_X0⟩⟩⟩
theorem ok_X4_countNotDone : ∀ w ∈ wsX4_countNotDone, goodWord w = true := List.forall_mem_cons.mpr ⟨rfl, List.forall_mem_append.mpr ⟨oko_X4_countNotDone, List.forall_mem_append.mpr ⟨ok_X4, ok_X0⟩⟩⟩
theorem ptX4_countNotDone_woX4_countNotDone : ∀ w ∈ woX4_countNotDone, w ∈ wsX4_countNotDone := fun _ h => List.mem_cons_of_mem _ (List.mem_append_left _ h)
theorem ptX4_countNotDone_wsX40 : ∀ w ∈ wsX40, w ∈ wsX4_countNotDone := fun _ h => List.mem_cons_of_mem _ (List.mem_append_right _ (List.mem_append_left _ h))
theorem ptX4_countNotDone_wsX00 : ∀ w ∈ wsX00, w ∈ wsX4_countNotDone := fun _ h => List.mem_cons_of_mem _ (List.mem_append_right _ (List.mem_append_right _ h))
def woX5_init : List Cond := [Cond.methodLink RX5 3 objectInit, Cond.instanceMethod objectInit, Cond.code objectInit ⟨#[0xb1]⟩ 1 none, Cond.classLink RX5 9 RX3, Cond.instantiable RX3 3, Cond.initialized RX3, Cond.instanceMethod yX3_init, Cond.fieldLink RX5 12 "FreeLand" "persons" "LFreeLand$Persons;", Cond.classLink RX5 16 RX2, Cond.instantiable RX2 7, Cond.initialized RX2, Cond.instanceMethod yX2_init, Cond.fieldLink RX5 19 "FreeLand" "laws" "LFreeLand$Laws;", Cond.classLink RX5 23 RX0, Cond.instantiable RX0 8, Cond.initialized RX0, Cond.instanceMethod yX0_init, Cond.fieldLink RX5 26 "FreeLand" "book" "LFreeLand$Book;", Cond.classLink RX5 30 RX4, Cond.instantiable RX4 18, Cond.initialized RX4, Cond.instanceMethod yX4_init, Cond.fieldLink RX5 35 "FreeLand" "work" "LFreeLand$Work;", Cond.classLink RX5 39 RX1, Cond.instantiable RX1 7, Cond.initialized RX1, Cond.instanceMethod yX1_init, Cond.fieldLink RX5 42 "FreeLand" "corners" "LFreeLand$Corners;"]
def wsX5_init : List Cond := .code yX5_init cX5_init 1 none :: (woX5_init ++ (wsX30 ++ (wsX50 ++ (wsX20 ++ (wsX00 ++ (wsX40 ++ (wsX10 ++ (wsX3_init ++ (wsX2_init ++ (wsX0_init ++ (wsX4_init ++ (wsX1_init))))))))))))
set_option maxRecDepth 100000 in
set_option maxHeartbeats 4000000 in
theorem lwo_X5_init : ∀ w ∈ Cond.code yX5_init cX5_init 1 none :: woX5_init, w ∈ lw_tbl := lwi_mem [(1, 17), (1, 18), (1, 19), (1, 20), (1, 21), (1, 22), (1, 2), (1, 24), (1, 218), (1, 41), (1, 42), (1, 3), (1, 44), (1, 219), (1, 76), (1, 77), (1, 4), (1, 79), (1, 220), (1, 123), (1, 124), (1, 5), (1, 126), (1, 221), (1, 187), (1, 188), (1, 6), (1, 190), (1, 222)] (by decide +kernel)
theorem oko_X5_init : ∀ w ∈ woX5_init, goodWord w = true := by decide +kernel
theorem lw_X5_init : ∀ w ∈ wsX5_init, w ∈ lw_tbl := List.forall_mem_cons.mpr ⟨lwo_X5_init _ List.mem_cons_self, List.forall_mem_append.mpr ⟨(fun w h => lwo_X5_init w (List.mem_cons_of_mem _ h)), List.forall_mem_append.mpr ⟨lwi_X3, List.forall_mem_append.mpr ⟨lwi_X5, List.forall_mem_append.mpr ⟨lwi_X2, List.forall_mem_append.mpr ⟨lwi_X0, List.forall_mem_append.mpr ⟨lwi_X4, List.forall_mem_append.mpr ⟨lwi_X1, List.forall_mem_append.mpr ⟨lw_X3_init, List.forall_mem_append.mpr ⟨lw_X2_init, List.forall_mem_append.mpr ⟨lw_X0_init, List.forall_mem_append.mpr ⟨lw_X4_init, lw_X1_init⟩⟩⟩⟩⟩⟩⟩⟩⟩⟩⟩⟩
theorem ok_X5_init : ∀ w ∈ wsX5_init, goodWord w = true := List.forall_mem_cons.mpr ⟨rfl, List.forall_mem_append.mpr ⟨oko_X5_init, List.forall_mem_append.mpr ⟨ok_X3, List.forall_mem_append.mpr ⟨ok_X5, List.forall_mem_append.mpr ⟨ok_X2, List.forall_mem_append.mpr ⟨ok_X0, List.forall_mem_append.mpr ⟨ok_X4, List.forall_mem_append.mpr ⟨ok_X1, List.forall_mem_append.mpr ⟨ok_X3_init, List.forall_mem_append.mpr ⟨ok_X2_init, List.forall_mem_append.mpr ⟨ok_X0_init, List.forall_mem_append.mpr ⟨ok_X4_init, ok_X1_init⟩⟩⟩⟩⟩⟩⟩⟩⟩⟩⟩⟩
theorem ptX5_init_woX5_init : ∀ w ∈ woX5_init, w ∈ wsX5_init := fun _ h => List.mem_cons_of_mem _ (List.mem_append_left _ h)
theorem ptX5_init_wsX30 : ∀ w ∈ wsX30, w ∈ wsX5_init := fun _ h => List.mem_cons_of_mem _ (List.mem_append_right _ (List.mem_append_left _ h))
theorem ptX5_init_wsX50 : ∀ w ∈ wsX50, w ∈ wsX5_init := fun _ h => List.mem_cons_of_mem _ (List.mem_append_right _ (List.mem_append_right _ (List.mem_append_left _ h)))
theorem ptX5_init_wsX20 : ∀ w ∈ wsX20, w ∈ wsX5_init := fun _ h => List.mem_cons_of_mem _ (List.mem_append_right _ (List.mem_append_right _ (List.mem_append_right _ (List.mem_append_left _ h))))
theorem ptX5_init_wsX00 : ∀ w ∈ wsX00, w ∈ wsX5_init := fun _ h => List.mem_cons_of_mem _ (List.mem_append_right _ (List.mem_append_right _ (List.mem_append_right _ (List.mem_append_right _ (List.mem_append_left _ h)))))
theorem ptX5_init_wsX40 : ∀ w ∈ wsX40, w ∈ wsX5_init := fun _ h => List.mem_cons_of_mem _ (List.mem_append_right _ (List.mem_append_right _ (List.mem_append_right _ (List.mem_append_right _ (List.mem_append_right _ (List.mem_append_left _ h))))))
theorem ptX5_init_wsX10 : ∀ w ∈ wsX10, w ∈ wsX5_init := fun _ h => List.mem_cons_of_mem _ (List.mem_append_right _ (List.mem_append_right _ (List.mem_append_right _ (List.mem_append_right _ (List.mem_append_right _ (List.mem_append_right _ (List.mem_append_left _ h)))))))
theorem ptX5_init_wsX3_init : ∀ w ∈ wsX3_init, w ∈ wsX5_init := fun _ h => List.mem_cons_of_mem _ (List.mem_append_right _ (List.mem_append_right _ (List.mem_append_right _ (List.mem_append_right _ (List.mem_append_right _ (List.mem_append_right _ (List.mem_append_right _ (List.mem_append_left _ h))))))))
theorem ptX5_init_wsX2_init : ∀ w ∈ wsX2_init, w ∈ wsX5_init := fun _ h => List.mem_cons_of_mem _ (List.mem_append_right _ (List.mem_append_right _ (List.mem_append_right _ (List.mem_append_right _ (List.mem_append_right _ (List.mem_append_right _ (List.mem_append_right _ (List.mem_append_right _ (List.mem_append_left _ h)))))))))
theorem ptX5_init_wsX0_init : ∀ w ∈ wsX0_init, w ∈ wsX5_init := fun _ h => List.mem_cons_of_mem _ (List.mem_append_right _ (List.mem_append_right _ (List.mem_append_right _ (List.mem_append_right _ (List.mem_append_right _ (List.mem_append_right _ (List.mem_append_right _ (List.mem_append_right _ (List.mem_append_right _ (List.mem_append_left _ h))))))))))
theorem ptX5_init_wsX4_init : ∀ w ∈ wsX4_init, w ∈ wsX5_init := fun _ h => List.mem_cons_of_mem _ (List.mem_append_right _ (List.mem_append_right _ (List.mem_append_right _ (List.mem_append_right _ (List.mem_append_right _ (List.mem_append_right _ (List.mem_append_right _ (List.mem_append_right _ (List.mem_append_right _ (List.mem_append_right _ (List.mem_append_left _ h)))))))))))
theorem ptX5_init_wsX1_init : ∀ w ∈ wsX1_init, w ∈ wsX5_init := fun _ h => List.mem_cons_of_mem _ (List.mem_append_right _ (List.mem_append_right _ (List.mem_append_right _ (List.mem_append_right _ (List.mem_append_right _ (List.mem_append_right _ (List.mem_append_right _ (List.mem_append_right _ (List.mem_append_right _ (List.mem_append_right _ (List.mem_append_right _ h)))))))))))
theorem gX5_init_X3_init_n11 : GoodIn wsX5_init wsX3_init := goodIn_sub (fun w h => ptX5_init_wsX3_init w h) (List.all_eq_true.mpr ok_X3_init)
theorem gX5_init_X2_init_n18 : GoodIn wsX5_init wsX2_init := goodIn_sub (fun w h => ptX5_init_wsX2_init w h) (List.all_eq_true.mpr ok_X2_init)
theorem gX5_init_X0_init_n25 : GoodIn wsX5_init wsX0_init := goodIn_sub (fun w h => ptX5_init_wsX0_init w h) (List.all_eq_true.mpr ok_X0_init)
theorem gX5_init_X4_init_n32 : GoodIn wsX5_init wsX4_init := goodIn_sub (fun w h => ptX5_init_wsX4_init w h) (List.all_eq_true.mpr ok_X4_init)
theorem gX5_init_X1_init_n41 : GoodIn wsX5_init wsX1_init := goodIn_sub (fun w h => ptX5_init_wsX1_init w h) (List.all_eq_true.mpr ok_X1_init)
def woX5_within : List Cond := []
def wsX5_within : List Cond := .code yX5_within cX5_within 3 (some .boolean) :: (woX5_within)
set_option maxRecDepth 100000 in
set_option maxHeartbeats 4000000 in
theorem lwo_X5_within : ∀ w ∈ Cond.code yX5_within cX5_within 3 (some .boolean) :: woX5_within, w ∈ lw_tbl := lwi_mem [(2, 0)] (by decide +kernel)
theorem oko_X5_within : ∀ w ∈ woX5_within, goodWord w = true := by decide +kernel
theorem lw_X5_within : ∀ w ∈ wsX5_within, w ∈ lw_tbl := List.forall_mem_cons.mpr ⟨lwo_X5_within _ List.mem_cons_self, (fun w h => lwo_X5_within w (List.mem_cons_of_mem _ h))⟩
theorem ok_X5_within : ∀ w ∈ wsX5_within, goodWord w = true := List.forall_mem_cons.mpr ⟨rfl, oko_X5_within⟩
theorem ptX5_within_woX5_within : ∀ w ∈ woX5_within, w ∈ wsX5_within := fun _ h => List.mem_cons_of_mem _ (h)
def woX5_person : List Cond := [Cond.methodLink RX5 46 yX5_within, Cond.static yX5_within, Cond.initialized RX5, Cond.fieldLink RX5 12 "FreeLand" "persons" "LFreeLand$Persons;", Cond.instanceMethod yX3_add, Cond.selects RX3 yX3_add yX3_add, Cond.initialized RX3]
def wsX5_person : List Cond := .code yX5_person cX5_person 3 (some .int) :: (woX5_person ++ (wsX50 ++ (wsX30 ++ (wsX5_within ++ (wsX3_add)))))
set_option maxRecDepth 100000 in
set_option maxHeartbeats 4000000 in
theorem lwo_X5_person : ∀ w ∈ Cond.code yX5_person cX5_person 3 (some .int) :: woX5_person, w ∈ lw_tbl := lwi_mem [(1, 237), (1, 238), (1, 239), (1, 1), (1, 218), (2, 3), (0, 0), (1, 2)] (by decide +kernel)
theorem oko_X5_person : ∀ w ∈ woX5_person, goodWord w = true := by decide +kernel
theorem lw_X5_person : ∀ w ∈ wsX5_person, w ∈ lw_tbl := List.forall_mem_cons.mpr ⟨lwo_X5_person _ List.mem_cons_self, List.forall_mem_append.mpr ⟨(fun w h => lwo_X5_person w (List.mem_cons_of_mem _ h)), List.forall_mem_append.mpr ⟨lwi_X5, List.forall_mem_append.mpr ⟨lwi_X3, List.forall_mem_append.mpr ⟨lw_X5_within, lw_X3_add⟩⟩⟩⟩⟩
theorem ok_X5_person : ∀ w ∈ wsX5_person, goodWord w = true := List.forall_mem_cons.mpr ⟨rfl, List.forall_mem_append.mpr ⟨oko_X5_person, List.forall_mem_append.mpr ⟨ok_X5, List.forall_mem_append.mpr ⟨ok_X3, List.forall_mem_append.mpr ⟨ok_X5_within, ok_X3_add⟩⟩⟩⟩⟩
theorem ptX5_person_woX5_person : ∀ w ∈ woX5_person, w ∈ wsX5_person := fun _ h => List.mem_cons_of_mem _ (List.mem_append_left _ h)
theorem ptX5_person_wsX50 : ∀ w ∈ wsX50, w ∈ wsX5_person := fun _ h => List.mem_cons_of_mem _ (List.mem_append_right _ (List.mem_append_left _ h))
theorem ptX5_person_wsX30 : ∀ w ∈ wsX30, w ∈ wsX5_person := fun _ h => List.mem_cons_of_mem _ (List.mem_append_right _ (List.mem_append_right _ (List.mem_append_left _ h)))
theorem ptX5_person_wsX5_within : ∀ w ∈ wsX5_within, w ∈ wsX5_person := fun _ h => List.mem_cons_of_mem _ (List.mem_append_right _ (List.mem_append_right _ (List.mem_append_right _ (List.mem_append_left _ h))))
theorem ptX5_person_wsX3_add : ∀ w ∈ wsX3_add, w ∈ wsX5_person := fun _ h => List.mem_cons_of_mem _ (List.mem_append_right _ (List.mem_append_right _ (List.mem_append_right _ (List.mem_append_right _ h))))
theorem gX5_person_X5_within : GoodIn wsX5_person (va_wsS RX5 46 yX5_within wsX5_within) := goodIn_app (goodIn_sub (fun w h => ptX5_person_woX5_person w ((by decide +kernel : ∀ w ∈ ([Cond.methodLink RX5 46 yX5_within, Cond.static yX5_within, Cond.initialized yX5_within.cls] : List Cond), w ∈ woX5_person) w h)) (by decide +kernel)) (goodIn_sub (fun w h => ptX5_person_wsX5_within w h) (List.all_eq_true.mpr ok_X5_within))
theorem gX5_person_X3_add_n54 : GoodIn wsX5_person wsX3_add := goodIn_sub (fun w h => ptX5_person_wsX3_add w h) (List.all_eq_true.mpr ok_X3_add)
def woX5_map : List Cond := [Cond.methodLink RX5 46 yX5_within, Cond.static yX5_within, Cond.initialized RX5, Cond.fieldLink RX5 35 "FreeLand" "work" "LFreeLand$Work;"]
def wsX5_map : List Cond := .code yX5_map cX5_map 3 (some .int) :: (woX5_map ++ (wsX50 ++ (wsX40 ++ (wsX5_within))))
set_option maxRecDepth 100000 in
set_option maxHeartbeats 4000000 in
theorem lwo_X5_map : ∀ w ∈ Cond.code yX5_map cX5_map 3 (some .int) :: woX5_map, w ∈ lw_tbl := lwi_mem [(2, 8), (1, 238), (1, 239), (1, 1), (1, 221)] (by decide +kernel)
theorem oko_X5_map : ∀ w ∈ woX5_map, goodWord w = true := by decide +kernel
theorem lw_X5_map : ∀ w ∈ wsX5_map, w ∈ lw_tbl := List.forall_mem_cons.mpr ⟨lwo_X5_map _ List.mem_cons_self, List.forall_mem_append.mpr ⟨(fun w h => lwo_X5_map w (List.mem_cons_of_mem _ h)), List.forall_mem_append.mpr ⟨lwi_X5, List.forall_mem_append.mpr ⟨lwi_X4, lw_X5_within⟩⟩⟩⟩
theorem ok_X5_map : ∀ w ∈ wsX5_map, goodWord w = true := List.forall_mem_cons.mpr ⟨rfl, List.forall_mem_append.mpr ⟨oko_X5_map, List.forall_mem_append.mpr ⟨ok_X5, List.forall_mem_append.mpr ⟨ok_X4, ok_X5_within⟩⟩⟩⟩
theorem ptX5_map_woX5_map : ∀ w ∈ woX5_map, w ∈ wsX5_map := fun _ h => List.mem_cons_of_mem _ (List.mem_append_left _ h)
theorem ptX5_map_wsX50 : ∀ w ∈ wsX50, w ∈ wsX5_map := fun _ h => List.mem_cons_of_mem _ (List.mem_append_right _ (List.mem_append_left _ h))
theorem ptX5_map_wsX40 : ∀ w ∈ wsX40, w ∈ wsX5_map := fun _ h => List.mem_cons_of_mem _ (List.mem_append_right _ (List.mem_append_right _ (List.mem_append_left _ h)))
theorem ptX5_map_wsX5_within : ∀ w ∈ wsX5_within, w ∈ wsX5_map := fun _ h => List.mem_cons_of_mem _ (List.mem_append_right _ (List.mem_append_right _ (List.mem_append_right _ h)))
theorem gX5_map_X5_within : GoodIn wsX5_map (va_wsS RX5 46 yX5_within wsX5_within) := goodIn_app (goodIn_sub (fun w h => ptX5_map_woX5_map w ((by decide +kernel : ∀ w ∈ ([Cond.methodLink RX5 46 yX5_within, Cond.static yX5_within, Cond.initialized yX5_within.cls] : List Cond), w ∈ woX5_map) w h)) (by decide +kernel)) (goodIn_sub (fun w h => ptX5_map_wsX5_within w h) (List.all_eq_true.mpr ok_X5_within))
def woX5_feed : List Cond := [Cond.methodLink RX5 46 yX5_within, Cond.static yX5_within, Cond.initialized RX5, Cond.fieldLink RX5 19 "FreeLand" "laws" "LFreeLand$Laws;", Cond.instanceMethod yX2_append, Cond.selects RX2 yX2_append yX2_append, Cond.initialized RX2]
def wsX5_feed : List Cond := .code yX5_feed cX5_feed 4 (some .int) :: (woX5_feed ++ (wsX50 ++ (wsX20 ++ (wsX5_within ++ (wsX2_append)))))
set_option maxRecDepth 100000 in
set_option maxHeartbeats 4000000 in
theorem lwo_X5_feed : ∀ w ∈ Cond.code yX5_feed cX5_feed 4 (some .int) :: woX5_feed, w ∈ lw_tbl := lwi_mem [(2, 12), (1, 238), (1, 239), (1, 1), (1, 219), (2, 15), (0, 1), (1, 3)] (by decide +kernel)
theorem oko_X5_feed : ∀ w ∈ woX5_feed, goodWord w = true := by decide +kernel
theorem lw_X5_feed : ∀ w ∈ wsX5_feed, w ∈ lw_tbl := List.forall_mem_cons.mpr ⟨lwo_X5_feed _ List.mem_cons_self, List.forall_mem_append.mpr ⟨(fun w h => lwo_X5_feed w (List.mem_cons_of_mem _ h)), List.forall_mem_append.mpr ⟨lwi_X5, List.forall_mem_append.mpr ⟨lwi_X2, List.forall_mem_append.mpr ⟨lw_X5_within, lw_X2_append⟩⟩⟩⟩⟩
theorem ok_X5_feed : ∀ w ∈ wsX5_feed, goodWord w = true := List.forall_mem_cons.mpr ⟨rfl, List.forall_mem_append.mpr ⟨oko_X5_feed, List.forall_mem_append.mpr ⟨ok_X5, List.forall_mem_append.mpr ⟨ok_X2, List.forall_mem_append.mpr ⟨ok_X5_within, ok_X2_append⟩⟩⟩⟩⟩
theorem ptX5_feed_woX5_feed : ∀ w ∈ woX5_feed, w ∈ wsX5_feed := fun _ h => List.mem_cons_of_mem _ (List.mem_append_left _ h)
theorem ptX5_feed_wsX50 : ∀ w ∈ wsX50, w ∈ wsX5_feed := fun _ h => List.mem_cons_of_mem _ (List.mem_append_right _ (List.mem_append_left _ h))
theorem ptX5_feed_wsX20 : ∀ w ∈ wsX20, w ∈ wsX5_feed := fun _ h => List.mem_cons_of_mem _ (List.mem_append_right _ (List.mem_append_right _ (List.mem_append_left _ h)))
theorem ptX5_feed_wsX5_within : ∀ w ∈ wsX5_within, w ∈ wsX5_feed := fun _ h => List.mem_cons_of_mem _ (List.mem_append_right _ (List.mem_append_right _ (List.mem_append_right _ (List.mem_append_left _ h))))
theorem ptX5_feed_wsX2_append : ∀ w ∈ wsX2_append, w ∈ wsX5_feed := fun _ h => List.mem_cons_of_mem _ (List.mem_append_right _ (List.mem_append_right _ (List.mem_append_right _ (List.mem_append_right _ h))))
theorem gX5_feed_X5_within : GoodIn wsX5_feed (va_wsS RX5 46 yX5_within wsX5_within) := goodIn_app (goodIn_sub (fun w h => ptX5_feed_woX5_feed w ((by decide +kernel : ∀ w ∈ ([Cond.methodLink RX5 46 yX5_within, Cond.static yX5_within, Cond.initialized yX5_within.cls] : List Cond), w ∈ woX5_feed) w h)) (by decide +kernel)) (goodIn_sub (fun w h => ptX5_feed_wsX5_within w h) (List.all_eq_true.mpr ok_X5_within))
theorem gX5_feed_X2_append_n64 : GoodIn wsX5_feed wsX2_append := goodIn_sub (fun w h => ptX5_feed_wsX2_append w h) (List.all_eq_true.mpr ok_X2_append)
def woX5_isDay : List Cond := [Cond.methodLink RX5 46 yX5_within, Cond.static yX5_within, Cond.initialized RX5]
def wsX5_isDay : List Cond := .code yX5_isDay cX5_isDay 1 (some .boolean) :: (woX5_isDay ++ (wsX5_within))
set_option maxRecDepth 100000 in
set_option maxHeartbeats 4000000 in
theorem lwo_X5_isDay : ∀ w ∈ Cond.code yX5_isDay cX5_isDay 1 (some .boolean) :: woX5_isDay, w ∈ lw_tbl := lwi_mem [(2, 23), (1, 238), (1, 239), (1, 1)] (by decide +kernel)
theorem oko_X5_isDay : ∀ w ∈ woX5_isDay, goodWord w = true := by decide +kernel
theorem lw_X5_isDay : ∀ w ∈ wsX5_isDay, w ∈ lw_tbl := List.forall_mem_cons.mpr ⟨lwo_X5_isDay _ List.mem_cons_self, List.forall_mem_append.mpr ⟨(fun w h => lwo_X5_isDay w (List.mem_cons_of_mem _ h)), lw_X5_within⟩⟩
theorem ok_X5_isDay : ∀ w ∈ wsX5_isDay, goodWord w = true := List.forall_mem_cons.mpr ⟨rfl, List.forall_mem_append.mpr ⟨oko_X5_isDay, ok_X5_within⟩⟩
theorem ptX5_isDay_woX5_isDay : ∀ w ∈ woX5_isDay, w ∈ wsX5_isDay := fun _ h => List.mem_cons_of_mem _ (List.mem_append_left _ h)
theorem ptX5_isDay_wsX5_within : ∀ w ∈ wsX5_within, w ∈ wsX5_isDay := fun _ h => List.mem_cons_of_mem _ (List.mem_append_right _ h)
theorem gX5_isDay_X5_within : GoodIn wsX5_isDay (va_wsS RX5 46 yX5_within wsX5_within) := goodIn_app (goodIn_sub (fun w h => ptX5_isDay_woX5_isDay w ((by decide +kernel : ∀ w ∈ ([Cond.methodLink RX5 46 yX5_within, Cond.static yX5_within, Cond.initialized yX5_within.cls] : List Cond), w ∈ woX5_isDay) w h)) (by decide +kernel)) (goodIn_sub (fun w h => ptX5_isDay_wsX5_within w h) (List.all_eq_true.mpr ok_X5_within))
def woX5_law : List Cond := [Cond.methodLink RX5 68 yX5_isDay, Cond.static yX5_isDay, Cond.initialized RX5, Cond.fieldLink RX5 19 "FreeLand" "laws" "LFreeLand$Laws;", Cond.instanceMethod yX2_enact, Cond.selects RX2 yX2_enact yX2_enact, Cond.initialized RX2]
def wsX5_law : List Cond := .code yX5_law cX5_law 2 (some .int) :: (woX5_law ++ (wsX50 ++ (wsX20 ++ (wsX5_isDay ++ (wsX2_enact)))))
set_option maxRecDepth 100000 in
set_option maxHeartbeats 4000000 in
theorem lwo_X5_law : ∀ w ∈ Cond.code yX5_law cX5_law 2 (some .int) :: woX5_law, w ∈ lw_tbl := lwi_mem [(2, 20), (2, 21), (2, 22), (1, 1), (1, 219), (2, 26), (0, 2), (1, 3)] (by decide +kernel)
theorem oko_X5_law : ∀ w ∈ woX5_law, goodWord w = true := by decide +kernel
theorem lw_X5_law : ∀ w ∈ wsX5_law, w ∈ lw_tbl := List.forall_mem_cons.mpr ⟨lwo_X5_law _ List.mem_cons_self, List.forall_mem_append.mpr ⟨(fun w h => lwo_X5_law w (List.mem_cons_of_mem _ h)), List.forall_mem_append.mpr ⟨lwi_X5, List.forall_mem_append.mpr ⟨lwi_X2, List.forall_mem_append.mpr ⟨lw_X5_isDay, lw_X2_enact⟩⟩⟩⟩⟩
theorem ok_X5_law : ∀ w ∈ wsX5_law, goodWord w = true := List.forall_mem_cons.mpr ⟨rfl, List.forall_mem_append.mpr ⟨oko_X5_law, List.forall_mem_append.mpr ⟨ok_X5, List.forall_mem_append.mpr ⟨ok_X2, List.forall_mem_append.mpr ⟨ok_X5_isDay, ok_X2_enact⟩⟩⟩⟩⟩
theorem ptX5_law_woX5_law : ∀ w ∈ woX5_law, w ∈ wsX5_law := fun _ h => List.mem_cons_of_mem _ (List.mem_append_left _ h)
theorem ptX5_law_wsX50 : ∀ w ∈ wsX50, w ∈ wsX5_law := fun _ h => List.mem_cons_of_mem _ (List.mem_append_right _ (List.mem_append_left _ h))
theorem ptX5_law_wsX20 : ∀ w ∈ wsX20, w ∈ wsX5_law := fun _ h => List.mem_cons_of_mem _ (List.mem_append_right _ (List.mem_append_right _ (List.mem_append_left _ h)))
theorem ptX5_law_wsX5_isDay : ∀ w ∈ wsX5_isDay, w ∈ wsX5_law := fun _ h => List.mem_cons_of_mem _ (List.mem_append_right _ (List.mem_append_right _ (List.mem_append_right _ (List.mem_append_left _ h))))
theorem ptX5_law_wsX2_enact : ∀ w ∈ wsX2_enact, w ∈ wsX5_law := fun _ h => List.mem_cons_of_mem _ (List.mem_append_right _ (List.mem_append_right _ (List.mem_append_right _ (List.mem_append_right _ h))))
theorem gX5_law_X5_isDay : GoodIn wsX5_law (va_wsS RX5 68 yX5_isDay wsX5_isDay) := goodIn_app (goodIn_sub (fun w h => ptX5_law_woX5_law w ((by decide +kernel : ∀ w ∈ ([Cond.methodLink RX5 68 yX5_isDay, Cond.static yX5_isDay, Cond.initialized yX5_isDay.cls] : List Cond), w ∈ woX5_law) w h)) (by decide +kernel)) (goodIn_sub (fun w h => ptX5_law_wsX5_isDay w h) (List.all_eq_true.mpr ok_X5_isDay))
theorem gX5_law_X2_enact_n73 : GoodIn wsX5_law wsX2_enact := goodIn_sub (fun w h => ptX5_law_wsX2_enact w h) (List.all_eq_true.mpr ok_X2_enact)
def woX5_place : List Cond := [Cond.fieldLink RX5 19 "FreeLand" "laws" "LFreeLand$Laws;"]
def wsX5_place : List Cond := .code yX5_place cX5_place 1 (some .int) :: (woX5_place ++ (wsX50 ++ (wsX20)))
set_option maxRecDepth 100000 in
set_option maxHeartbeats 4000000 in
theorem lwo_X5_place : ∀ w ∈ Cond.code yX5_place cX5_place 1 (some .int) :: woX5_place, w ∈ lw_tbl := lwi_mem [(2, 119), (1, 219)] (by decide +kernel)
theorem oko_X5_place : ∀ w ∈ woX5_place, goodWord w = true := by decide +kernel
theorem lw_X5_place : ∀ w ∈ wsX5_place, w ∈ lw_tbl := List.forall_mem_cons.mpr ⟨lwo_X5_place _ List.mem_cons_self, List.forall_mem_append.mpr ⟨(fun w h => lwo_X5_place w (List.mem_cons_of_mem _ h)), List.forall_mem_append.mpr ⟨lwi_X5, lwi_X2⟩⟩⟩
theorem ok_X5_place : ∀ w ∈ wsX5_place, goodWord w = true := List.forall_mem_cons.mpr ⟨rfl, List.forall_mem_append.mpr ⟨oko_X5_place, List.forall_mem_append.mpr ⟨ok_X5, ok_X2⟩⟩⟩
theorem ptX5_place_woX5_place : ∀ w ∈ woX5_place, w ∈ wsX5_place := fun _ h => List.mem_cons_of_mem _ (List.mem_append_left _ h)
theorem ptX5_place_wsX50 : ∀ w ∈ wsX50, w ∈ wsX5_place := fun _ h => List.mem_cons_of_mem _ (List.mem_append_right _ (List.mem_append_left _ h))
theorem ptX5_place_wsX20 : ∀ w ∈ wsX20, w ∈ wsX5_place := fun _ h => List.mem_cons_of_mem _ (List.mem_append_right _ (List.mem_append_right _ h))
def woX5_sets : List Cond := [Cond.fieldLink RX5 19 "FreeLand" "laws" "LFreeLand$Laws;", Cond.methodLink RX5 46 yX5_within, Cond.static yX5_within, Cond.initialized RX5, Cond.instanceMethod yX2_valueOf, Cond.selects RX2 yX2_valueOf yX2_valueOf, Cond.initialized RX2]
def wsX5_sets : List Cond := .code yX5_sets cX5_sets 3 (some .int) :: (woX5_sets ++ (wsX50 ++ (wsX20 ++ (wsX5_within ++ (wsX2_valueOf)))))
set_option maxRecDepth 100000 in
set_option maxHeartbeats 4000000 in
theorem lwo_X5_sets : ∀ w ∈ Cond.code yX5_sets cX5_sets 3 (some .int) :: woX5_sets, w ∈ lw_tbl := lwi_mem [(2, 123), (1, 219), (1, 238), (1, 239), (1, 1), (2, 126), (0, 10), (1, 3)] (by decide +kernel)
theorem oko_X5_sets : ∀ w ∈ woX5_sets, goodWord w = true := by decide +kernel
theorem lw_X5_sets : ∀ w ∈ wsX5_sets, w ∈ lw_tbl := List.forall_mem_cons.mpr ⟨lwo_X5_sets _ List.mem_cons_self, List.forall_mem_append.mpr ⟨(fun w h => lwo_X5_sets w (List.mem_cons_of_mem _ h)), List.forall_mem_append.mpr ⟨lwi_X5, List.forall_mem_append.mpr ⟨lwi_X2, List.forall_mem_append.mpr ⟨lw_X5_within, lw_X2_valueOf⟩⟩⟩⟩⟩
theorem ok_X5_sets : ∀ w ∈ wsX5_sets, goodWord w = true := List.forall_mem_cons.mpr ⟨rfl, List.forall_mem_append.mpr ⟨oko_X5_sets, List.forall_mem_append.mpr ⟨ok_X5, List.forall_mem_append.mpr ⟨ok_X2, List.forall_mem_append.mpr ⟨ok_X5_within, ok_X2_valueOf⟩⟩⟩⟩⟩
theorem ptX5_sets_woX5_sets : ∀ w ∈ woX5_sets, w ∈ wsX5_sets := fun _ h => List.mem_cons_of_mem _ (List.mem_append_left _ h)
theorem ptX5_sets_wsX50 : ∀ w ∈ wsX50, w ∈ wsX5_sets := fun _ h => List.mem_cons_of_mem _ (List.mem_append_right _ (List.mem_append_left _ h))
theorem ptX5_sets_wsX20 : ∀ w ∈ wsX20, w ∈ wsX5_sets := fun _ h => List.mem_cons_of_mem _ (List.mem_append_right _ (List.mem_append_right _ (List.mem_append_left _ h)))
theorem ptX5_sets_wsX5_within : ∀ w ∈ wsX5_within, w ∈ wsX5_sets := fun _ h => List.mem_cons_of_mem _ (List.mem_append_right _ (List.mem_append_right _ (List.mem_append_right _ (List.mem_append_left _ h))))
theorem ptX5_sets_wsX2_valueOf : ∀ w ∈ wsX2_valueOf, w ∈ wsX5_sets := fun _ h => List.mem_cons_of_mem _ (List.mem_append_right _ (List.mem_append_right _ (List.mem_append_right _ (List.mem_append_right _ h))))
theorem gX5_sets_X5_within : GoodIn wsX5_sets (va_wsS RX5 46 yX5_within wsX5_within) := goodIn_app (goodIn_sub (fun w h => ptX5_sets_woX5_sets w ((by decide +kernel : ∀ w ∈ ([Cond.methodLink RX5 46 yX5_within, Cond.static yX5_within, Cond.initialized yX5_within.cls] : List Cond), w ∈ woX5_sets) w h)) (by decide +kernel)) (goodIn_sub (fun w h => ptX5_sets_wsX5_within w h) (List.all_eq_true.mpr ok_X5_within))
theorem gX5_sets_X2_valueOf_n84 : GoodIn wsX5_sets wsX2_valueOf := goodIn_sub (fun w h => ptX5_sets_wsX2_valueOf w h) (List.all_eq_true.mpr ok_X2_valueOf)
def woX5_lawOf : List Cond := [Cond.methodLink RX5 68 yX5_isDay, Cond.static yX5_isDay, Cond.initialized RX5, Cond.fieldLink RX5 19 "FreeLand" "laws" "LFreeLand$Laws;", Cond.instanceMethod yX2_inForce, Cond.selects RX2 yX2_inForce yX2_inForce, Cond.initialized RX2]
def wsX5_lawOf : List Cond := .code yX5_lawOf cX5_lawOf 2 (some .int) :: (woX5_lawOf ++ (wsX50 ++ (wsX5_isDay ++ (wsX2_inForce))))
set_option maxRecDepth 100000 in
set_option maxHeartbeats 4000000 in
theorem lwo_X5_lawOf : ∀ w ∈ Cond.code yX5_lawOf cX5_lawOf 2 (some .int) :: woX5_lawOf, w ∈ lw_tbl := lwi_mem [(2, 133), (2, 21), (2, 22), (1, 1), (1, 219), (2, 136), (0, 11), (1, 3)] (by decide +kernel)
theorem oko_X5_lawOf : ∀ w ∈ woX5_lawOf, goodWord w = true := by decide +kernel
theorem lw_X5_lawOf : ∀ w ∈ wsX5_lawOf, w ∈ lw_tbl := List.forall_mem_cons.mpr ⟨lwo_X5_lawOf _ List.mem_cons_self, List.forall_mem_append.mpr ⟨(fun w h => lwo_X5_lawOf w (List.mem_cons_of_mem _ h)), List.forall_mem_append.mpr ⟨lwi_X5, List.forall_mem_append.mpr ⟨lw_X5_isDay, lw_X2_inForce⟩⟩⟩⟩
theorem ok_X5_lawOf : ∀ w ∈ wsX5_lawOf, goodWord w = true := List.forall_mem_cons.mpr ⟨rfl, List.forall_mem_append.mpr ⟨oko_X5_lawOf, List.forall_mem_append.mpr ⟨ok_X5, List.forall_mem_append.mpr ⟨ok_X5_isDay, ok_X2_inForce⟩⟩⟩⟩
theorem ptX5_lawOf_woX5_lawOf : ∀ w ∈ woX5_lawOf, w ∈ wsX5_lawOf := fun _ h => List.mem_cons_of_mem _ (List.mem_append_left _ h)
theorem ptX5_lawOf_wsX50 : ∀ w ∈ wsX50, w ∈ wsX5_lawOf := fun _ h => List.mem_cons_of_mem _ (List.mem_append_right _ (List.mem_append_left _ h))
theorem ptX5_lawOf_wsX5_isDay : ∀ w ∈ wsX5_isDay, w ∈ wsX5_lawOf := fun _ h => List.mem_cons_of_mem _ (List.mem_append_right _ (List.mem_append_right _ (List.mem_append_left _ h)))
theorem ptX5_lawOf_wsX2_inForce : ∀ w ∈ wsX2_inForce, w ∈ wsX5_lawOf := fun _ h => List.mem_cons_of_mem _ (List.mem_append_right _ (List.mem_append_right _ (List.mem_append_right _ h)))
theorem gX5_lawOf_X5_isDay : GoodIn wsX5_lawOf (va_wsS RX5 68 yX5_isDay wsX5_isDay) := goodIn_app (goodIn_sub (fun w h => ptX5_lawOf_woX5_lawOf w ((by decide +kernel : ∀ w ∈ ([Cond.methodLink RX5 68 yX5_isDay, Cond.static yX5_isDay, Cond.initialized yX5_isDay.cls] : List Cond), w ∈ woX5_lawOf) w h)) (by decide +kernel)) (goodIn_sub (fun w h => ptX5_lawOf_wsX5_isDay w h) (List.all_eq_true.mpr ok_X5_isDay))
theorem gX5_lawOf_X2_inForce_n87 : GoodIn wsX5_lawOf wsX2_inForce := goodIn_sub (fun w h => ptX5_lawOf_wsX2_inForce w h) (List.all_eq_true.mpr ok_X2_inForce)
def woX5_isPerson : List Cond := [Cond.fieldLink RX5 12 "FreeLand" "persons" "LFreeLand$Persons;", Cond.methodLink RX5 46 yX5_within, Cond.static yX5_within, Cond.initialized RX5]
def wsX5_isPerson : List Cond := .code yX5_isPerson cX5_isPerson 2 (some .boolean) :: (woX5_isPerson ++ (wsX50 ++ (wsX30 ++ (wsX5_within))))
set_option maxRecDepth 100000 in
set_option maxHeartbeats 4000000 in
theorem lwo_X5_isPerson : ∀ w ∈ Cond.code yX5_isPerson cX5_isPerson 2 (some .boolean) :: woX5_isPerson, w ∈ lw_tbl := lwi_mem [(2, 145), (1, 218), (1, 238), (1, 239), (1, 1)] (by decide +kernel)
theorem oko_X5_isPerson : ∀ w ∈ woX5_isPerson, goodWord w = true := by decide +kernel
theorem lw_X5_isPerson : ∀ w ∈ wsX5_isPerson, w ∈ lw_tbl := List.forall_mem_cons.mpr ⟨lwo_X5_isPerson _ List.mem_cons_self, List.forall_mem_append.mpr ⟨(fun w h => lwo_X5_isPerson w (List.mem_cons_of_mem _ h)), List.forall_mem_append.mpr ⟨lwi_X5, List.forall_mem_append.mpr ⟨lwi_X3, lw_X5_within⟩⟩⟩⟩
theorem ok_X5_isPerson : ∀ w ∈ wsX5_isPerson, goodWord w = true := List.forall_mem_cons.mpr ⟨rfl, List.forall_mem_append.mpr ⟨oko_X5_isPerson, List.forall_mem_append.mpr ⟨ok_X5, List.forall_mem_append.mpr ⟨ok_X3, ok_X5_within⟩⟩⟩⟩
theorem ptX5_isPerson_woX5_isPerson : ∀ w ∈ woX5_isPerson, w ∈ wsX5_isPerson := fun _ h => List.mem_cons_of_mem _ (List.mem_append_left _ h)
theorem ptX5_isPerson_wsX50 : ∀ w ∈ wsX50, w ∈ wsX5_isPerson := fun _ h => List.mem_cons_of_mem _ (List.mem_append_right _ (List.mem_append_left _ h))
theorem ptX5_isPerson_wsX30 : ∀ w ∈ wsX30, w ∈ wsX5_isPerson := fun _ h => List.mem_cons_of_mem _ (List.mem_append_right _ (List.mem_append_right _ (List.mem_append_left _ h)))
theorem ptX5_isPerson_wsX5_within : ∀ w ∈ wsX5_within, w ∈ wsX5_isPerson := fun _ h => List.mem_cons_of_mem _ (List.mem_append_right _ (List.mem_append_right _ (List.mem_append_right _ h)))
theorem gX5_isPerson_X5_within : GoodIn wsX5_isPerson (va_wsS RX5 46 yX5_within wsX5_within) := goodIn_app (goodIn_sub (fun w h => ptX5_isPerson_woX5_isPerson w ((by decide +kernel : ∀ w ∈ ([Cond.methodLink RX5 46 yX5_within, Cond.static yX5_within, Cond.initialized yX5_within.cls] : List Cond), w ∈ woX5_isPerson) w h)) (by decide +kernel)) (goodIn_sub (fun w h => ptX5_isPerson_wsX5_within w h) (List.all_eq_true.mpr ok_X5_within))
def woX5_isQuarter : List Cond := [Cond.methodLink RX5 46 yX5_within, Cond.static yX5_within, Cond.initialized RX5]
def wsX5_isQuarter : List Cond := .code yX5_isQuarter cX5_isQuarter 1 (some .boolean) :: (woX5_isQuarter ++ (wsX5_within))
set_option maxRecDepth 100000 in
set_option maxHeartbeats 4000000 in
theorem lwo_X5_isQuarter : ∀ w ∈ Cond.code yX5_isQuarter cX5_isQuarter 1 (some .boolean) :: woX5_isQuarter, w ∈ lw_tbl := lwi_mem [(2, 148), (1, 238), (1, 239), (1, 1)] (by decide +kernel)
theorem oko_X5_isQuarter : ∀ w ∈ woX5_isQuarter, goodWord w = true := by decide +kernel
theorem lw_X5_isQuarter : ∀ w ∈ wsX5_isQuarter, w ∈ lw_tbl := List.forall_mem_cons.mpr ⟨lwo_X5_isQuarter _ List.mem_cons_self, List.forall_mem_append.mpr ⟨(fun w h => lwo_X5_isQuarter w (List.mem_cons_of_mem _ h)), lw_X5_within⟩⟩
theorem ok_X5_isQuarter : ∀ w ∈ wsX5_isQuarter, goodWord w = true := List.forall_mem_cons.mpr ⟨rfl, List.forall_mem_append.mpr ⟨oko_X5_isQuarter, ok_X5_within⟩⟩
theorem ptX5_isQuarter_woX5_isQuarter : ∀ w ∈ woX5_isQuarter, w ∈ wsX5_isQuarter := fun _ h => List.mem_cons_of_mem _ (List.mem_append_left _ h)
theorem ptX5_isQuarter_wsX5_within : ∀ w ∈ wsX5_within, w ∈ wsX5_isQuarter := fun _ h => List.mem_cons_of_mem _ (List.mem_append_right _ h)
theorem gX5_isQuarter_X5_within : GoodIn wsX5_isQuarter (va_wsS RX5 46 yX5_within wsX5_within) := goodIn_app (goodIn_sub (fun w h => ptX5_isQuarter_woX5_isQuarter w ((by decide +kernel : ∀ w ∈ ([Cond.methodLink RX5 46 yX5_within, Cond.static yX5_within, Cond.initialized yX5_within.cls] : List Cond), w ∈ woX5_isQuarter) w h)) (by decide +kernel)) (goodIn_sub (fun w h => ptX5_isQuarter_wsX5_within w h) (List.all_eq_true.mpr ok_X5_within))
def woX5_fitsSort : List Cond := [Cond.methodLink RX5 46 yX5_within, Cond.static yX5_within, Cond.initialized RX5]
def wsX5_fitsSort : List Cond := .code yX5_fitsSort cX5_fitsSort 2 (some .boolean) :: (woX5_fitsSort ++ (wsX5_within))
set_option maxRecDepth 100000 in
set_option maxHeartbeats 4000000 in
theorem lwo_X5_fitsSort : ∀ w ∈ Cond.code yX5_fitsSort cX5_fitsSort 2 (some .boolean) :: woX5_fitsSort, w ∈ lw_tbl := lwi_mem [(2, 151), (1, 238), (1, 239), (1, 1)] (by decide +kernel)
theorem oko_X5_fitsSort : ∀ w ∈ woX5_fitsSort, goodWord w = true := by decide +kernel
theorem lw_X5_fitsSort : ∀ w ∈ wsX5_fitsSort, w ∈ lw_tbl := List.forall_mem_cons.mpr ⟨lwo_X5_fitsSort _ List.mem_cons_self, List.forall_mem_append.mpr ⟨(fun w h => lwo_X5_fitsSort w (List.mem_cons_of_mem _ h)), lw_X5_within⟩⟩
theorem ok_X5_fitsSort : ∀ w ∈ wsX5_fitsSort, goodWord w = true := List.forall_mem_cons.mpr ⟨rfl, List.forall_mem_append.mpr ⟨oko_X5_fitsSort, ok_X5_within⟩⟩
theorem ptX5_fitsSort_woX5_fitsSort : ∀ w ∈ woX5_fitsSort, w ∈ wsX5_fitsSort := fun _ h => List.mem_cons_of_mem _ (List.mem_append_left _ h)
theorem ptX5_fitsSort_wsX5_within : ∀ w ∈ wsX5_within, w ∈ wsX5_fitsSort := fun _ h => List.mem_cons_of_mem _ (List.mem_append_right _ h)
theorem gX5_fitsSort_X5_within : GoodIn wsX5_fitsSort (va_wsS RX5 46 yX5_within wsX5_within) := goodIn_app (goodIn_sub (fun w h => ptX5_fitsSort_woX5_fitsSort w ((by decide +kernel : ∀ w ∈ ([Cond.methodLink RX5 46 yX5_within, Cond.static yX5_within, Cond.initialized yX5_within.cls] : List Cond), w ∈ woX5_fitsSort) w h)) (by decide +kernel)) (goodIn_sub (fun w h => ptX5_fitsSort_wsX5_within w h) (List.all_eq_true.mpr ok_X5_within))
def woX5_line : List Cond := [Cond.methodLink RX5 46 yX5_within, Cond.static yX5_within, Cond.initialized RX5, Cond.methodLink RX5 90 yX5_isPerson, Cond.instanceMethod yX5_isPerson, Cond.selects RX5 yX5_isPerson yX5_isPerson, Cond.methodLink RX5 93 yX5_isQuarter, Cond.static yX5_isQuarter, Cond.methodLink RX5 68 yX5_isDay, Cond.static yX5_isDay, Cond.methodLink RX5 96 yX5_fitsSort, Cond.static yX5_fitsSort, Cond.fieldLink RX5 26 "FreeLand" "book" "LFreeLand$Book;", Cond.instanceMethod yX0_add, Cond.selects RX0 yX0_add yX0_add, Cond.initialized RX0]
def wsX5_line : List Cond := .code yX5_line cX5_line 7 (some .int) :: (woX5_line ++ (wsX50 ++ (wsX00 ++ (wsX5_within ++ (wsX5_isPerson ++ (wsX5_isQuarter ++ (wsX5_isDay ++ (wsX5_fitsSort ++ (wsX0_add)))))))))
set_option maxRecDepth 100000 in
set_option maxHeartbeats 4000000 in
theorem lwo_X5_line : ∀ w ∈ Cond.code yX5_line cX5_line 7 (some .int) :: woX5_line, w ∈ lw_tbl := lwi_mem [(2, 141), (1, 238), (1, 239), (1, 1), (2, 142), (2, 144), (0, 12), (2, 146), (2, 147), (2, 21), (2, 22), (2, 149), (2, 150), (1, 220), (2, 154), (0, 13), (1, 4)] (by decide +kernel)
theorem oko_X5_line : ∀ w ∈ woX5_line, goodWord w = true := by decide +kernel
theorem lw_X5_line : ∀ w ∈ wsX5_line, w ∈ lw_tbl := List.forall_mem_cons.mpr ⟨lwo_X5_line _ List.mem_cons_self, List.forall_mem_append.mpr ⟨(fun w h => lwo_X5_line w (List.mem_cons_of_mem _ h)), List.forall_mem_append.mpr ⟨lwi_X5, List.forall_mem_append.mpr ⟨lwi_X0, List.forall_mem_append.mpr ⟨lw_X5_within, List.forall_mem_append.mpr ⟨lw_X5_isPerson, List.forall_mem_append.mpr ⟨lw_X5_isQuarter, List.forall_mem_append.mpr ⟨lw_X5_isDay, List.forall_mem_append.mpr ⟨lw_X5_fitsSort, lw_X0_add⟩⟩⟩⟩⟩⟩⟩⟩⟩
theorem ok_X5_line : ∀ w ∈ wsX5_line, goodWord w = true := List.forall_mem_cons.mpr ⟨rfl, List.forall_mem_append.mpr ⟨oko_X5_line, List.forall_mem_append.mpr ⟨ok_X5, List.forall_mem_append.mpr ⟨ok_X0, List.forall_mem_append.mpr ⟨ok_X5_within, List.forall_mem_append.mpr ⟨ok_X5_isPerson, List.forall_mem_append.mpr ⟨ok_X5_isQuarter, List.forall_mem_append.mpr ⟨ok_X5_isDay, List.forall_mem_append.mpr ⟨ok_X5_fitsSort, ok_X0_add⟩⟩⟩⟩⟩⟩⟩⟩⟩
theorem ptX5_line_woX5_line : ∀ w ∈ woX5_line, w ∈ wsX5_line := fun _ h => List.mem_cons_of_mem _ (List.mem_append_left _ h)
theorem ptX5_line_wsX50 : ∀ w ∈ wsX50, w ∈ wsX5_line := fun _ h => List.mem_cons_of_mem _ (List.mem_append_right _ (List.mem_append_left _ h))
theorem ptX5_line_wsX00 : ∀ w ∈ wsX00, w ∈ wsX5_line := fun _ h => List.mem_cons_of_mem _ (List.mem_append_right _ (List.mem_append_right _ (List.mem_append_left _ h)))
theorem ptX5_line_wsX5_within : ∀ w ∈ wsX5_within, w ∈ wsX5_line := fun _ h => List.mem_cons_of_mem _ (List.mem_append_right _ (List.mem_append_right _ (List.mem_append_right _ (List.mem_append_left _ h))))
theorem ptX5_line_wsX5_isPerson : ∀ w ∈ wsX5_isPerson, w ∈ wsX5_line := fun _ h => List.mem_cons_of_mem _ (List.mem_append_right _ (List.mem_append_right _ (List.mem_append_right _ (List.mem_append_right _ (List.mem_append_left _ h)))))
theorem ptX5_line_wsX5_isQuarter : ∀ w ∈ wsX5_isQuarter, w ∈ wsX5_line := fun _ h => List.mem_cons_of_mem _ (List.mem_append_right _ (List.mem_append_right _ (List.mem_append_right _ (List.mem_append_right _ (List.mem_append_right _ (List.mem_append_left _ h))))))
theorem ptX5_line_wsX5_isDay : ∀ w ∈ wsX5_isDay, w ∈ wsX5_line := fun _ h => List.mem_cons_of_mem _ (List.mem_append_right _ (List.mem_append_right _ (List.mem_append_right _ (List.mem_append_right _ (List.mem_append_right _ (List.mem_append_right _ (List.mem_append_left _ h)))))))
theorem ptX5_line_wsX5_fitsSort : ∀ w ∈ wsX5_fitsSort, w ∈ wsX5_line := fun _ h => List.mem_cons_of_mem _ (List.mem_append_right _ (List.mem_append_right _ (List.mem_append_right _ (List.mem_append_right _ (List.mem_append_right _ (List.mem_append_right _ (List.mem_append_right _ (List.mem_append_left _ h))))))))
theorem ptX5_line_wsX0_add : ∀ w ∈ wsX0_add, w ∈ wsX5_line := fun _ h => List.mem_cons_of_mem _ (List.mem_append_right _ (List.mem_append_right _ (List.mem_append_right _ (List.mem_append_right _ (List.mem_append_right _ (List.mem_append_right _ (List.mem_append_right _ (List.mem_append_right _ h))))))))
theorem gX5_line_X5_within : GoodIn wsX5_line (va_wsS RX5 46 yX5_within wsX5_within) := goodIn_app (goodIn_sub (fun w h => ptX5_line_woX5_line w ((by decide +kernel : ∀ w ∈ ([Cond.methodLink RX5 46 yX5_within, Cond.static yX5_within, Cond.initialized yX5_within.cls] : List Cond), w ∈ woX5_line) w h)) (by decide +kernel)) (goodIn_sub (fun w h => ptX5_line_wsX5_within w h) (List.all_eq_true.mpr ok_X5_within))
theorem gX5_line_X5_isPerson : GoodIn wsX5_line (wsV RX5 90 RX5 yX5_isPerson wsX5_isPerson) := goodIn_app (goodIn_sub (fun w h => ptX5_line_woX5_line w ((by decide +kernel : ∀ w ∈ ([Cond.methodLink RX5 90 yX5_isPerson, Cond.instanceMethod yX5_isPerson, Cond.selects RX5 yX5_isPerson yX5_isPerson, Cond.initialized RX5] : List Cond), w ∈ woX5_line) w h)) (by decide +kernel)) (goodIn_sub (fun w h => ptX5_line_wsX5_isPerson w h) (List.all_eq_true.mpr ok_X5_isPerson))
theorem gX5_line_X5_isQuarter : GoodIn wsX5_line (va_wsS RX5 93 yX5_isQuarter wsX5_isQuarter) := goodIn_app (goodIn_sub (fun w h => ptX5_line_woX5_line w ((by decide +kernel : ∀ w ∈ ([Cond.methodLink RX5 93 yX5_isQuarter, Cond.static yX5_isQuarter, Cond.initialized yX5_isQuarter.cls] : List Cond), w ∈ woX5_line) w h)) (by decide +kernel)) (goodIn_sub (fun w h => ptX5_line_wsX5_isQuarter w h) (List.all_eq_true.mpr ok_X5_isQuarter))
theorem gX5_line_X5_isDay : GoodIn wsX5_line (va_wsS RX5 68 yX5_isDay wsX5_isDay) := goodIn_app (goodIn_sub (fun w h => ptX5_line_woX5_line w ((by decide +kernel : ∀ w ∈ ([Cond.methodLink RX5 68 yX5_isDay, Cond.static yX5_isDay, Cond.initialized yX5_isDay.cls] : List Cond), w ∈ woX5_line) w h)) (by decide +kernel)) (goodIn_sub (fun w h => ptX5_line_wsX5_isDay w h) (List.all_eq_true.mpr ok_X5_isDay))
theorem gX5_line_X5_fitsSort : GoodIn wsX5_line (va_wsS RX5 96 yX5_fitsSort wsX5_fitsSort) := goodIn_app (goodIn_sub (fun w h => ptX5_line_woX5_line w ((by decide +kernel : ∀ w ∈ ([Cond.methodLink RX5 96 yX5_fitsSort, Cond.static yX5_fitsSort, Cond.initialized yX5_fitsSort.cls] : List Cond), w ∈ woX5_line) w h)) (by decide +kernel)) (goodIn_sub (fun w h => ptX5_line_wsX5_fitsSort w h) (List.all_eq_true.mpr ok_X5_fitsSort))
theorem gX5_line_X0_add_n101 : GoodIn wsX5_line wsX0_add := goodIn_sub (fun w h => ptX5_line_wsX0_add w h) (List.all_eq_true.mpr ok_X0_add)
def woX5_isLine : List Cond := [Cond.fieldLink RX5 26 "FreeLand" "book" "LFreeLand$Book;", Cond.methodLink RX5 46 yX5_within, Cond.static yX5_within, Cond.initialized RX5]
def wsX5_isLine : List Cond := .code yX5_isLine cX5_isLine 2 (some .boolean) :: (woX5_isLine ++ (wsX50 ++ (wsX00 ++ (wsX5_within))))
set_option maxRecDepth 100000 in
set_option maxHeartbeats 4000000 in
theorem lwo_X5_isLine : ∀ w ∈ Cond.code yX5_isLine cX5_isLine 2 (some .boolean) :: woX5_isLine, w ∈ lw_tbl := lwi_mem [(2, 163), (1, 220), (1, 238), (1, 239), (1, 1)] (by decide +kernel)
theorem oko_X5_isLine : ∀ w ∈ woX5_isLine, goodWord w = true := by decide +kernel
theorem lw_X5_isLine : ∀ w ∈ wsX5_isLine, w ∈ lw_tbl := List.forall_mem_cons.mpr ⟨lwo_X5_isLine _ List.mem_cons_self, List.forall_mem_append.mpr ⟨(fun w h => lwo_X5_isLine w (List.mem_cons_of_mem _ h)), List.forall_mem_append.mpr ⟨lwi_X5, List.forall_mem_append.mpr ⟨lwi_X0, lw_X5_within⟩⟩⟩⟩
theorem ok_X5_isLine : ∀ w ∈ wsX5_isLine, goodWord w = true := List.forall_mem_cons.mpr ⟨rfl, List.forall_mem_append.mpr ⟨oko_X5_isLine, List.forall_mem_append.mpr ⟨ok_X5, List.forall_mem_append.mpr ⟨ok_X0, ok_X5_within⟩⟩⟩⟩
theorem ptX5_isLine_woX5_isLine : ∀ w ∈ woX5_isLine, w ∈ wsX5_isLine := fun _ h => List.mem_cons_of_mem _ (List.mem_append_left _ h)
theorem ptX5_isLine_wsX50 : ∀ w ∈ wsX50, w ∈ wsX5_isLine := fun _ h => List.mem_cons_of_mem _ (List.mem_append_right _ (List.mem_append_left _ h))
theorem ptX5_isLine_wsX00 : ∀ w ∈ wsX00, w ∈ wsX5_isLine := fun _ h => List.mem_cons_of_mem _ (List.mem_append_right _ (List.mem_append_right _ (List.mem_append_left _ h)))
theorem ptX5_isLine_wsX5_within : ∀ w ∈ wsX5_within, w ∈ wsX5_isLine := fun _ h => List.mem_cons_of_mem _ (List.mem_append_right _ (List.mem_append_right _ (List.mem_append_right _ h)))
theorem gX5_isLine_X5_within : GoodIn wsX5_isLine (va_wsS RX5 46 yX5_within wsX5_within) := goodIn_app (goodIn_sub (fun w h => ptX5_isLine_woX5_isLine w ((by decide +kernel : ∀ w ∈ ([Cond.methodLink RX5 46 yX5_within, Cond.static yX5_within, Cond.initialized yX5_within.cls] : List Cond), w ∈ woX5_isLine) w h)) (by decide +kernel)) (goodIn_sub (fun w h => ptX5_isLine_wsX5_within w h) (List.all_eq_true.mpr ok_X5_within))
def woX5_strike : List Cond := [Cond.methodLink RX5 111 yX5_isLine, Cond.instanceMethod yX5_isLine, Cond.selects RX5 yX5_isLine yX5_isLine, Cond.initialized RX5, Cond.fieldLink RX5 26 "FreeLand" "book" "LFreeLand$Book;"]
def wsX5_strike : List Cond := .code yX5_strike cX5_strike 4 (some .int) :: (woX5_strike ++ (wsX50 ++ (wsX00 ++ (wsX5_isLine))))
set_option maxRecDepth 100000 in
set_option maxHeartbeats 4000000 in
theorem lwo_X5_strike : ∀ w ∈ Cond.code yX5_strike cX5_strike 4 (some .int) :: woX5_strike, w ∈ lw_tbl := lwi_mem [(2, 159), (2, 160), (2, 162), (0, 14), (1, 1), (1, 220)] (by decide +kernel)
theorem oko_X5_strike : ∀ w ∈ woX5_strike, goodWord w = true := by decide +kernel
theorem lw_X5_strike : ∀ w ∈ wsX5_strike, w ∈ lw_tbl := List.forall_mem_cons.mpr ⟨lwo_X5_strike _ List.mem_cons_self, List.forall_mem_append.mpr ⟨(fun w h => lwo_X5_strike w (List.mem_cons_of_mem _ h)), List.forall_mem_append.mpr ⟨lwi_X5, List.forall_mem_append.mpr ⟨lwi_X0, lw_X5_isLine⟩⟩⟩⟩
theorem ok_X5_strike : ∀ w ∈ wsX5_strike, goodWord w = true := List.forall_mem_cons.mpr ⟨rfl, List.forall_mem_append.mpr ⟨oko_X5_strike, List.forall_mem_append.mpr ⟨ok_X5, List.forall_mem_append.mpr ⟨ok_X0, ok_X5_isLine⟩⟩⟩⟩
theorem ptX5_strike_woX5_strike : ∀ w ∈ woX5_strike, w ∈ wsX5_strike := fun _ h => List.mem_cons_of_mem _ (List.mem_append_left _ h)
theorem ptX5_strike_wsX50 : ∀ w ∈ wsX50, w ∈ wsX5_strike := fun _ h => List.mem_cons_of_mem _ (List.mem_append_right _ (List.mem_append_left _ h))
theorem ptX5_strike_wsX00 : ∀ w ∈ wsX00, w ∈ wsX5_strike := fun _ h => List.mem_cons_of_mem _ (List.mem_append_right _ (List.mem_append_right _ (List.mem_append_left _ h)))
theorem ptX5_strike_wsX5_isLine : ∀ w ∈ wsX5_isLine, w ∈ wsX5_strike := fun _ h => List.mem_cons_of_mem _ (List.mem_append_right _ (List.mem_append_right _ (List.mem_append_right _ h)))
theorem gX5_strike_X5_isLine : GoodIn wsX5_strike (wsV RX5 111 RX5 yX5_isLine wsX5_isLine) := goodIn_app (goodIn_sub (fun w h => ptX5_strike_woX5_strike w ((by decide +kernel : ∀ w ∈ ([Cond.methodLink RX5 111 yX5_isLine, Cond.instanceMethod yX5_isLine, Cond.selects RX5 yX5_isLine yX5_isLine, Cond.initialized RX5] : List Cond), w ∈ woX5_strike) w h)) (by decide +kernel)) (goodIn_sub (fun w h => ptX5_strike_wsX5_isLine w h) (List.all_eq_true.mpr ok_X5_isLine))
def woX5_told : List Cond := [Cond.methodLink RX5 111 yX5_isLine, Cond.instanceMethod yX5_isLine, Cond.selects RX5 yX5_isLine yX5_isLine, Cond.initialized RX5, Cond.fieldLink RX5 26 "FreeLand" "book" "LFreeLand$Book;"]
def wsX5_told : List Cond := .code yX5_told cX5_told 3 (some .int) :: (woX5_told ++ (wsX50 ++ (wsX00 ++ (wsX5_isLine))))
set_option maxRecDepth 100000 in
set_option maxHeartbeats 4000000 in
theorem lwo_X5_told : ∀ w ∈ Cond.code yX5_told cX5_told 3 (some .int) :: woX5_told, w ∈ lw_tbl := lwi_mem [(2, 167), (2, 160), (2, 162), (0, 14), (1, 1), (1, 220)] (by decide +kernel)
theorem oko_X5_told : ∀ w ∈ woX5_told, goodWord w = true := by decide +kernel
theorem lw_X5_told : ∀ w ∈ wsX5_told, w ∈ lw_tbl := List.forall_mem_cons.mpr ⟨lwo_X5_told _ List.mem_cons_self, List.forall_mem_append.mpr ⟨(fun w h => lwo_X5_told w (List.mem_cons_of_mem _ h)), List.forall_mem_append.mpr ⟨lwi_X5, List.forall_mem_append.mpr ⟨lwi_X0, lw_X5_isLine⟩⟩⟩⟩
theorem ok_X5_told : ∀ w ∈ wsX5_told, goodWord w = true := List.forall_mem_cons.mpr ⟨rfl, List.forall_mem_append.mpr ⟨oko_X5_told, List.forall_mem_append.mpr ⟨ok_X5, List.forall_mem_append.mpr ⟨ok_X0, ok_X5_isLine⟩⟩⟩⟩
theorem ptX5_told_woX5_told : ∀ w ∈ woX5_told, w ∈ wsX5_told := fun _ h => List.mem_cons_of_mem _ (List.mem_append_left _ h)
theorem ptX5_told_wsX50 : ∀ w ∈ wsX50, w ∈ wsX5_told := fun _ h => List.mem_cons_of_mem _ (List.mem_append_right _ (List.mem_append_left _ h))
theorem ptX5_told_wsX00 : ∀ w ∈ wsX00, w ∈ wsX5_told := fun _ h => List.mem_cons_of_mem _ (List.mem_append_right _ (List.mem_append_right _ (List.mem_append_left _ h)))
theorem ptX5_told_wsX5_isLine : ∀ w ∈ wsX5_isLine, w ∈ wsX5_told := fun _ h => List.mem_cons_of_mem _ (List.mem_append_right _ (List.mem_append_right _ (List.mem_append_right _ h)))
theorem gX5_told_X5_isLine : GoodIn wsX5_told (wsV RX5 111 RX5 yX5_isLine wsX5_isLine) := goodIn_app (goodIn_sub (fun w h => ptX5_told_woX5_told w ((by decide +kernel : ∀ w ∈ ([Cond.methodLink RX5 111 yX5_isLine, Cond.instanceMethod yX5_isLine, Cond.selects RX5 yX5_isLine yX5_isLine, Cond.initialized RX5] : List Cond), w ∈ woX5_told) w h)) (by decide +kernel)) (goodIn_sub (fun w h => ptX5_told_wsX5_isLine w h) (List.all_eq_true.mpr ok_X5_isLine))
def woX5_isKnownBy : List Cond := [Cond.fieldLink RX5 26 "FreeLand" "book" "LFreeLand$Book;", Cond.methodLink RX5 46 yX5_within, Cond.static yX5_within, Cond.initialized RX5]
def wsX5_isKnownBy : List Cond := .code yX5_isKnownBy cX5_isKnownBy 2 (some .boolean) :: (woX5_isKnownBy ++ (wsX50 ++ (wsX00 ++ (wsX5_within))))
set_option maxRecDepth 100000 in
set_option maxHeartbeats 4000000 in
theorem lwo_X5_isKnownBy : ∀ w ∈ Cond.code yX5_isKnownBy cX5_isKnownBy 2 (some .boolean) :: woX5_isKnownBy, w ∈ lw_tbl := lwi_mem [(2, 175), (1, 220), (1, 238), (1, 239), (1, 1)] (by decide +kernel)
theorem oko_X5_isKnownBy : ∀ w ∈ woX5_isKnownBy, goodWord w = true := by decide +kernel
theorem lw_X5_isKnownBy : ∀ w ∈ wsX5_isKnownBy, w ∈ lw_tbl := List.forall_mem_cons.mpr ⟨lwo_X5_isKnownBy _ List.mem_cons_self, List.forall_mem_append.mpr ⟨(fun w h => lwo_X5_isKnownBy w (List.mem_cons_of_mem _ h)), List.forall_mem_append.mpr ⟨lwi_X5, List.forall_mem_append.mpr ⟨lwi_X0, lw_X5_within⟩⟩⟩⟩
theorem ok_X5_isKnownBy : ∀ w ∈ wsX5_isKnownBy, goodWord w = true := List.forall_mem_cons.mpr ⟨rfl, List.forall_mem_append.mpr ⟨oko_X5_isKnownBy, List.forall_mem_append.mpr ⟨ok_X5, List.forall_mem_append.mpr ⟨ok_X0, ok_X5_within⟩⟩⟩⟩
theorem ptX5_isKnownBy_woX5_isKnownBy : ∀ w ∈ woX5_isKnownBy, w ∈ wsX5_isKnownBy := fun _ h => List.mem_cons_of_mem _ (List.mem_append_left _ h)
theorem ptX5_isKnownBy_wsX50 : ∀ w ∈ wsX50, w ∈ wsX5_isKnownBy := fun _ h => List.mem_cons_of_mem _ (List.mem_append_right _ (List.mem_append_left _ h))
theorem ptX5_isKnownBy_wsX00 : ∀ w ∈ wsX00, w ∈ wsX5_isKnownBy := fun _ h => List.mem_cons_of_mem _ (List.mem_append_right _ (List.mem_append_right _ (List.mem_append_left _ h)))
theorem ptX5_isKnownBy_wsX5_within : ∀ w ∈ wsX5_within, w ∈ wsX5_isKnownBy := fun _ h => List.mem_cons_of_mem _ (List.mem_append_right _ (List.mem_append_right _ (List.mem_append_right _ h)))
theorem gX5_isKnownBy_X5_within : GoodIn wsX5_isKnownBy (va_wsS RX5 46 yX5_within wsX5_within) := goodIn_app (goodIn_sub (fun w h => ptX5_isKnownBy_woX5_isKnownBy w ((by decide +kernel : ∀ w ∈ ([Cond.methodLink RX5 46 yX5_within, Cond.static yX5_within, Cond.initialized yX5_within.cls] : List Cond), w ∈ woX5_isKnownBy) w h)) (by decide +kernel)) (goodIn_sub (fun w h => ptX5_isKnownBy_wsX5_within w h) (List.all_eq_true.mpr ok_X5_within))
def woX5_linesOf : List Cond := [Cond.fieldLink RX5 26 "FreeLand" "book" "LFreeLand$Book;"]
def wsX5_linesOf : List Cond := .code yX5_linesOf cX5_linesOf 2 (some .int) :: (woX5_linesOf ++ (wsX50 ++ (wsX00)))
set_option maxRecDepth 100000 in
set_option maxHeartbeats 4000000 in
theorem lwo_X5_linesOf : ∀ w ∈ Cond.code yX5_linesOf cX5_linesOf 2 (some .int) :: woX5_linesOf, w ∈ lw_tbl := lwi_mem [(2, 179), (1, 220)] (by decide +kernel)
theorem oko_X5_linesOf : ∀ w ∈ woX5_linesOf, goodWord w = true := by decide +kernel
theorem lw_X5_linesOf : ∀ w ∈ wsX5_linesOf, w ∈ lw_tbl := List.forall_mem_cons.mpr ⟨lwo_X5_linesOf _ List.mem_cons_self, List.forall_mem_append.mpr ⟨(fun w h => lwo_X5_linesOf w (List.mem_cons_of_mem _ h)), List.forall_mem_append.mpr ⟨lwi_X5, lwi_X0⟩⟩⟩
theorem ok_X5_linesOf : ∀ w ∈ wsX5_linesOf, goodWord w = true := List.forall_mem_cons.mpr ⟨rfl, List.forall_mem_append.mpr ⟨oko_X5_linesOf, List.forall_mem_append.mpr ⟨ok_X5, ok_X0⟩⟩⟩
theorem ptX5_linesOf_woX5_linesOf : ∀ w ∈ woX5_linesOf, w ∈ wsX5_linesOf := fun _ h => List.mem_cons_of_mem _ (List.mem_append_left _ h)
theorem ptX5_linesOf_wsX50 : ∀ w ∈ wsX50, w ∈ wsX5_linesOf := fun _ h => List.mem_cons_of_mem _ (List.mem_append_right _ (List.mem_append_left _ h))
theorem ptX5_linesOf_wsX00 : ∀ w ∈ wsX00, w ∈ wsX5_linesOf := fun _ h => List.mem_cons_of_mem _ (List.mem_append_right _ (List.mem_append_right _ h))
def woX5_outcome : List Cond := [Cond.methodLink RX5 111 yX5_isLine, Cond.instanceMethod yX5_isLine, Cond.selects RX5 yX5_isLine yX5_isLine, Cond.initialized RX5, Cond.methodLink RX5 124 yX5_isKnownBy, Cond.instanceMethod yX5_isKnownBy, Cond.selects RX5 yX5_isKnownBy yX5_isKnownBy, Cond.fieldLink RX5 35 "FreeLand" "work" "LFreeLand$Work;", Cond.methodLink RX5 127 yX5_linesOf, Cond.instanceMethod yX5_linesOf, Cond.selects RX5 yX5_linesOf yX5_linesOf, Cond.instanceMethod yX4_through, Cond.selects RX4 yX4_through yX4_through, Cond.initialized RX4]
def wsX5_outcome : List Cond := .code yX5_outcome cX5_outcome 3 (some .int) :: (woX5_outcome ++ (wsX50 ++ (wsX40 ++ (wsX5_isLine ++ (wsX5_isKnownBy ++ (wsX5_linesOf ++ (wsX4_through)))))))
set_option maxRecDepth 100000 in
set_option maxHeartbeats 4000000 in
theorem lwo_X5_outcome : ∀ w ∈ Cond.code yX5_outcome cX5_outcome 3 (some .int) :: woX5_outcome, w ∈ lw_tbl := lwi_mem [(2, 171), (2, 160), (2, 162), (0, 14), (1, 1), (2, 172), (2, 174), (0, 15), (1, 221), (2, 176), (2, 178), (0, 16), (2, 182), (0, 17), (1, 5)] (by decide +kernel)
theorem oko_X5_outcome : ∀ w ∈ woX5_outcome, goodWord w = true := by decide +kernel
theorem lw_X5_outcome : ∀ w ∈ wsX5_outcome, w ∈ lw_tbl := List.forall_mem_cons.mpr ⟨lwo_X5_outcome _ List.mem_cons_self, List.forall_mem_append.mpr ⟨(fun w h => lwo_X5_outcome w (List.mem_cons_of_mem _ h)), List.forall_mem_append.mpr ⟨lwi_X5, List.forall_mem_append.mpr ⟨lwi_X4, List.forall_mem_append.mpr ⟨lw_X5_isLine, List.forall_mem_append.mpr ⟨lw_X5_isKnownBy, List.forall_mem_append.mpr ⟨lw_X5_linesOf, lw_X4_through⟩⟩⟩⟩⟩⟩⟩
theorem ok_X5_outcome : ∀ w ∈ wsX5_outcome, goodWord w = true := List.forall_mem_cons.mpr ⟨rfl, List.forall_mem_append.mpr ⟨oko_X5_outcome, List.forall_mem_append.mpr ⟨ok_X5, List.forall_mem_append.mpr ⟨ok_X4, List.forall_mem_append.mpr ⟨ok_X5_isLine, List.forall_mem_append.mpr ⟨ok_X5_isKnownBy, List.forall_mem_append.mpr ⟨ok_X5_linesOf, ok_X4_through⟩⟩⟩⟩⟩⟩⟩
theorem ptX5_outcome_woX5_outcome : ∀ w ∈ woX5_outcome, w ∈ wsX5_outcome := fun _ h => List.mem_cons_of_mem _ (List.mem_append_left _ h)
theorem ptX5_outcome_wsX50 : ∀ w ∈ wsX50, w ∈ wsX5_outcome := fun _ h => List.mem_cons_of_mem _ (List.mem_append_right _ (List.mem_append_left _ h))
theorem ptX5_outcome_wsX40 : ∀ w ∈ wsX40, w ∈ wsX5_outcome := fun _ h => List.mem_cons_of_mem _ (List.mem_append_right _ (List.mem_append_right _ (List.mem_append_left _ h)))
theorem ptX5_outcome_wsX5_isLine : ∀ w ∈ wsX5_isLine, w ∈ wsX5_outcome := fun _ h => List.mem_cons_of_mem _ (List.mem_append_right _ (List.mem_append_right _ (List.mem_append_right _ (List.mem_append_left _ h))))
theorem ptX5_outcome_wsX5_isKnownBy : ∀ w ∈ wsX5_isKnownBy, w ∈ wsX5_outcome := fun _ h => List.mem_cons_of_mem _ (List.mem_append_right _ (List.mem_append_right _ (List.mem_append_right _ (List.mem_append_right _ (List.mem_append_left _ h)))))
theorem ptX5_outcome_wsX5_linesOf : ∀ w ∈ wsX5_linesOf, w ∈ wsX5_outcome := fun _ h => List.mem_cons_of_mem _ (List.mem_append_right _ (List.mem_append_right _ (List.mem_append_right _ (List.mem_append_right _ (List.mem_append_right _ (List.mem_append_left _ h))))))
theorem ptX5_outcome_wsX4_through : ∀ w ∈ wsX4_through, w ∈ wsX5_outcome := fun _ h => List.mem_cons_of_mem _ (List.mem_append_right _ (List.mem_append_right _ (List.mem_append_right _ (List.mem_append_right _ (List.mem_append_right _ (List.mem_append_right _ h))))))
theorem gX5_outcome_X5_isLine : GoodIn wsX5_outcome (wsV RX5 111 RX5 yX5_isLine wsX5_isLine) := goodIn_app (goodIn_sub (fun w h => ptX5_outcome_woX5_outcome w ((by decide +kernel : ∀ w ∈ ([Cond.methodLink RX5 111 yX5_isLine, Cond.instanceMethod yX5_isLine, Cond.selects RX5 yX5_isLine yX5_isLine, Cond.initialized RX5] : List Cond), w ∈ woX5_outcome) w h)) (by decide +kernel)) (goodIn_sub (fun w h => ptX5_outcome_wsX5_isLine w h) (List.all_eq_true.mpr ok_X5_isLine))
theorem gX5_outcome_X5_isKnownBy : GoodIn wsX5_outcome (wsV RX5 124 RX5 yX5_isKnownBy wsX5_isKnownBy) := goodIn_app (goodIn_sub (fun w h => ptX5_outcome_woX5_outcome w ((by decide +kernel : ∀ w ∈ ([Cond.methodLink RX5 124 yX5_isKnownBy, Cond.instanceMethod yX5_isKnownBy, Cond.selects RX5 yX5_isKnownBy yX5_isKnownBy, Cond.initialized RX5] : List Cond), w ∈ woX5_outcome) w h)) (by decide +kernel)) (goodIn_sub (fun w h => ptX5_outcome_wsX5_isKnownBy w h) (List.all_eq_true.mpr ok_X5_isKnownBy))
theorem gX5_outcome_X5_linesOf : GoodIn wsX5_outcome (wsV RX5 127 RX5 yX5_linesOf wsX5_linesOf) := goodIn_app (goodIn_sub (fun w h => ptX5_outcome_woX5_outcome w ((by decide +kernel : ∀ w ∈ ([Cond.methodLink RX5 127 yX5_linesOf, Cond.instanceMethod yX5_linesOf, Cond.selects RX5 yX5_linesOf yX5_linesOf, Cond.initialized RX5] : List Cond), w ∈ woX5_outcome) w h)) (by decide +kernel)) (goodIn_sub (fun w h => ptX5_outcome_wsX5_linesOf w h) (List.all_eq_true.mpr ok_X5_linesOf))
theorem gX5_outcome_X4_through_n130 : GoodIn wsX5_outcome wsX4_through := goodIn_sub (fun w h => ptX5_outcome_wsX4_through w h) (List.all_eq_true.mpr ok_X4_through)
def woX5_countOfWork : List Cond := [Cond.methodLink RX5 46 yX5_within, Cond.static yX5_within, Cond.initialized RX5, Cond.fieldLink RX5 35 "FreeLand" "work" "LFreeLand$Work;", Cond.fieldLink RX5 26 "FreeLand" "book" "LFreeLand$Book;", Cond.instanceMethod yX4_through, Cond.selects RX4 yX4_through yX4_through, Cond.initialized RX4, Cond.instanceMethod yX4_countEntries, Cond.selects RX4 yX4_countEntries yX4_countEntries, Cond.instanceMethod yX4_countDead, Cond.selects RX4 yX4_countDead yX4_countDead, Cond.instanceMethod yX4_countNotDone, Cond.selects RX4 yX4_countNotDone yX4_countNotDone]
def wsX5_countOfWork : List Cond := .code yX5_countOfWork cX5_countOfWork 2 (some .int) :: (woX5_countOfWork ++ (wsX50 ++ (wsX00 ++ (wsX5_within ++ (wsX4_through ++ (wsX4_countEntries ++ (wsX4_countDead ++ (wsX4_countNotDone))))))))
set_option maxRecDepth 100000 in
set_option maxHeartbeats 4000000 in
theorem lwo_X5_countOfWork : ∀ w ∈ Cond.code yX5_countOfWork cX5_countOfWork 2 (some .int) :: woX5_countOfWork, w ∈ lw_tbl := lwi_mem [(3, 27), (1, 238), (1, 239), (1, 1), (1, 221), (1, 220), (2, 182), (0, 17), (1, 5), (3, 30), (0, 36), (3, 34), (0, 37), (3, 38), (0, 38)] (by decide +kernel)
theorem oko_X5_countOfWork : ∀ w ∈ woX5_countOfWork, goodWord w = true := by decide +kernel
theorem lw_X5_countOfWork : ∀ w ∈ wsX5_countOfWork, w ∈ lw_tbl := List.forall_mem_cons.mpr ⟨lwo_X5_countOfWork _ List.mem_cons_self, List.forall_mem_append.mpr ⟨(fun w h => lwo_X5_countOfWork w (List.mem_cons_of_mem _ h)), List.forall_mem_append.mpr ⟨lwi_X5, List.forall_mem_append.mpr ⟨lwi_X0, List.forall_mem_append.mpr ⟨lw_X5_within, List.forall_mem_append.mpr ⟨lw_X4_through, List.forall_mem_append.mpr ⟨lw_X4_countEntries, List.forall_mem_append.mpr ⟨lw_X4_countDead, lw_X4_countNotDone⟩⟩⟩⟩⟩⟩⟩⟩
theorem ok_X5_countOfWork : ∀ w ∈ wsX5_countOfWork, goodWord w = true := List.forall_mem_cons.mpr ⟨rfl, List.forall_mem_append.mpr ⟨oko_X5_countOfWork, List.forall_mem_append.mpr ⟨ok_X5, List.forall_mem_append.mpr ⟨ok_X0, List.forall_mem_append.mpr ⟨ok_X5_within, List.forall_mem_append.mpr ⟨ok_X4_through, List.forall_mem_append.mpr ⟨ok_X4_countEntries, List.forall_mem_append.mpr ⟨ok_X4_countDead, ok_X4_countNotDone⟩⟩⟩⟩⟩⟩⟩⟩
theorem ptX5_countOfWork_woX5_countOfWork : ∀ w ∈ woX5_countOfWork, w ∈ wsX5_countOfWork := fun _ h => List.mem_cons_of_mem _ (List.mem_append_left _ h)
theorem ptX5_countOfWork_wsX50 : ∀ w ∈ wsX50, w ∈ wsX5_countOfWork := fun _ h => List.mem_cons_of_mem _ (List.mem_append_right _ (List.mem_append_left _ h))
theorem ptX5_countOfWork_wsX00 : ∀ w ∈ wsX00, w ∈ wsX5_countOfWork := fun _ h => List.mem_cons_of_mem _ (List.mem_append_right _ (List.mem_append_right _ (List.mem_append_left _ h)))
theorem ptX5_countOfWork_wsX5_within : ∀ w ∈ wsX5_within, w ∈ wsX5_countOfWork := fun _ h => List.mem_cons_of_mem _ (List.mem_append_right _ (List.mem_append_right _ (List.mem_append_right _ (List.mem_append_left _ h))))
theorem ptX5_countOfWork_wsX4_through : ∀ w ∈ wsX4_through, w ∈ wsX5_countOfWork := fun _ h => List.mem_cons_of_mem _ (List.mem_append_right _ (List.mem_append_right _ (List.mem_append_right _ (List.mem_append_right _ (List.mem_append_left _ h)))))
theorem ptX5_countOfWork_wsX4_countEntries : ∀ w ∈ wsX4_countEntries, w ∈ wsX5_countOfWork := fun _ h => List.mem_cons_of_mem _ (List.mem_append_right _ (List.mem_append_right _ (List.mem_append_right _ (List.mem_append_right _ (List.mem_append_right _ (List.mem_append_left _ h))))))
theorem ptX5_countOfWork_wsX4_countDead : ∀ w ∈ wsX4_countDead, w ∈ wsX5_countOfWork := fun _ h => List.mem_cons_of_mem _ (List.mem_append_right _ (List.mem_append_right _ (List.mem_append_right _ (List.mem_append_right _ (List.mem_append_right _ (List.mem_append_right _ (List.mem_append_left _ h)))))))
theorem ptX5_countOfWork_wsX4_countNotDone : ∀ w ∈ wsX4_countNotDone, w ∈ wsX5_countOfWork := fun _ h => List.mem_cons_of_mem _ (List.mem_append_right _ (List.mem_append_right _ (List.mem_append_right _ (List.mem_append_right _ (List.mem_append_right _ (List.mem_append_right _ (List.mem_append_right _ h)))))))
theorem gX5_countOfWork_X5_within : GoodIn wsX5_countOfWork (va_wsS RX5 46 yX5_within wsX5_within) := goodIn_app (goodIn_sub (fun w h => ptX5_countOfWork_woX5_countOfWork w ((by decide +kernel : ∀ w ∈ ([Cond.methodLink RX5 46 yX5_within, Cond.static yX5_within, Cond.initialized yX5_within.cls] : List Cond), w ∈ woX5_countOfWork) w h)) (by decide +kernel)) (goodIn_sub (fun w h => ptX5_countOfWork_wsX5_within w h) (List.all_eq_true.mpr ok_X5_within))
theorem gX5_countOfWork_X4_through_n130 : GoodIn wsX5_countOfWork wsX4_through := goodIn_sub (fun w h => ptX5_countOfWork_wsX4_through w h) (List.all_eq_true.mpr ok_X4_through)
theorem gX5_countOfWork_X4_countEntries_n144 : GoodIn wsX5_countOfWork wsX4_countEntries := goodIn_sub (fun w h => ptX5_countOfWork_wsX4_countEntries w h) (List.all_eq_true.mpr ok_X4_countEntries)
theorem gX5_countOfWork_X4_countDead_n147 : GoodIn wsX5_countOfWork wsX4_countDead := goodIn_sub (fun w h => ptX5_countOfWork_wsX4_countDead w h) (List.all_eq_true.mpr ok_X4_countDead)
theorem gX5_countOfWork_X4_countNotDone_n150 : GoodIn wsX5_countOfWork wsX4_countNotDone := goodIn_sub (fun w h => ptX5_countOfWork_wsX4_countNotDone w h) (List.all_eq_true.mpr ok_X4_countNotDone)
def woX5_count : List Cond := [Cond.fieldLink RX5 12 "FreeLand" "persons" "LFreeLand$Persons;", Cond.fieldLink RX5 19 "FreeLand" "laws" "LFreeLand$Laws;", Cond.fieldLink RX5 26 "FreeLand" "book" "LFreeLand$Book;", Cond.instanceMethod yX0_countStruck, Cond.selects RX0 yX0_countStruck yX0_countStruck, Cond.initialized RX0, Cond.methodLink RX5 141 yX5_countOfWork, Cond.instanceMethod yX5_countOfWork, Cond.selects RX5 yX5_countOfWork yX5_countOfWork, Cond.initialized RX5]
def wsX5_count : List Cond := .code yX5_count cX5_count 2 (some .int) :: (woX5_count ++ (wsX50 ++ (wsX30 ++ (wsX20 ++ (wsX00 ++ (wsX0_countStruck ++ (wsX5_countOfWork)))))))
set_option maxRecDepth 100000 in
set_option maxHeartbeats 4000000 in
theorem lwo_X5_count : ∀ w ∈ Cond.code yX5_count cX5_count 2 (some .int) :: woX5_count, w ∈ lw_tbl := lwi_mem [(3, 19), (1, 218), (1, 219), (1, 220), (3, 22), (0, 34), (1, 4), (3, 24), (3, 26), (0, 35), (1, 1)] (by decide +kernel)
theorem oko_X5_count : ∀ w ∈ woX5_count, goodWord w = true := by decide +kernel
theorem lw_X5_count : ∀ w ∈ wsX5_count, w ∈ lw_tbl := List.forall_mem_cons.mpr ⟨lwo_X5_count _ List.mem_cons_self, List.forall_mem_append.mpr ⟨(fun w h => lwo_X5_count w (List.mem_cons_of_mem _ h)), List.forall_mem_append.mpr ⟨lwi_X5, List.forall_mem_append.mpr ⟨lwi_X3, List.forall_mem_append.mpr ⟨lwi_X2, List.forall_mem_append.mpr ⟨lwi_X0, List.forall_mem_append.mpr ⟨lw_X0_countStruck, lw_X5_countOfWork⟩⟩⟩⟩⟩⟩⟩
theorem ok_X5_count : ∀ w ∈ wsX5_count, goodWord w = true := List.forall_mem_cons.mpr ⟨rfl, List.forall_mem_append.mpr ⟨oko_X5_count, List.forall_mem_append.mpr ⟨ok_X5, List.forall_mem_append.mpr ⟨ok_X3, List.forall_mem_append.mpr ⟨ok_X2, List.forall_mem_append.mpr ⟨ok_X0, List.forall_mem_append.mpr ⟨ok_X0_countStruck, ok_X5_countOfWork⟩⟩⟩⟩⟩⟩⟩
theorem ptX5_count_woX5_count : ∀ w ∈ woX5_count, w ∈ wsX5_count := fun _ h => List.mem_cons_of_mem _ (List.mem_append_left _ h)
theorem ptX5_count_wsX50 : ∀ w ∈ wsX50, w ∈ wsX5_count := fun _ h => List.mem_cons_of_mem _ (List.mem_append_right _ (List.mem_append_left _ h))
theorem ptX5_count_wsX30 : ∀ w ∈ wsX30, w ∈ wsX5_count := fun _ h => List.mem_cons_of_mem _ (List.mem_append_right _ (List.mem_append_right _ (List.mem_append_left _ h)))
theorem ptX5_count_wsX20 : ∀ w ∈ wsX20, w ∈ wsX5_count := fun _ h => List.mem_cons_of_mem _ (List.mem_append_right _ (List.mem_append_right _ (List.mem_append_right _ (List.mem_append_left _ h))))
theorem ptX5_count_wsX00 : ∀ w ∈ wsX00, w ∈ wsX5_count := fun _ h => List.mem_cons_of_mem _ (List.mem_append_right _ (List.mem_append_right _ (List.mem_append_right _ (List.mem_append_right _ (List.mem_append_left _ h)))))
theorem ptX5_count_wsX0_countStruck : ∀ w ∈ wsX0_countStruck, w ∈ wsX5_count := fun _ h => List.mem_cons_of_mem _ (List.mem_append_right _ (List.mem_append_right _ (List.mem_append_right _ (List.mem_append_right _ (List.mem_append_right _ (List.mem_append_left _ h))))))
theorem ptX5_count_wsX5_countOfWork : ∀ w ∈ wsX5_countOfWork, w ∈ wsX5_count := fun _ h => List.mem_cons_of_mem _ (List.mem_append_right _ (List.mem_append_right _ (List.mem_append_right _ (List.mem_append_right _ (List.mem_append_right _ (List.mem_append_right _ h))))))
theorem gX5_count_X0_countStruck_n137 : GoodIn wsX5_count wsX0_countStruck := goodIn_sub (fun w h => ptX5_count_wsX0_countStruck w h) (List.all_eq_true.mpr ok_X0_countStruck)
theorem gX5_count_X5_countOfWork : GoodIn wsX5_count (wsV RX5 141 RX5 yX5_countOfWork wsX5_countOfWork) := goodIn_app (goodIn_sub (fun w h => ptX5_count_woX5_count w ((by decide +kernel : ∀ w ∈ ([Cond.methodLink RX5 141 yX5_countOfWork, Cond.instanceMethod yX5_countOfWork, Cond.selects RX5 yX5_countOfWork yX5_countOfWork, Cond.initialized RX5] : List Cond), w ∈ woX5_count) w h)) (by decide +kernel)) (goodIn_sub (fun w h => ptX5_count_wsX5_countOfWork w h) (List.all_eq_true.mpr ok_X5_countOfWork))
def woX5_holds : List Cond := [Cond.methodLink RX5 93 yX5_isQuarter, Cond.static yX5_isQuarter, Cond.initialized RX5, Cond.methodLink RX5 68 yX5_isDay, Cond.static yX5_isDay, Cond.methodLink RX5 124 yX5_isKnownBy, Cond.instanceMethod yX5_isKnownBy, Cond.selects RX5 yX5_isKnownBy yX5_isKnownBy, Cond.methodLink RX5 46 yX5_within, Cond.static yX5_within, Cond.fieldLink RX5 35 "FreeLand" "work" "LFreeLand$Work;", Cond.methodLink RX5 127 yX5_linesOf, Cond.instanceMethod yX5_linesOf, Cond.selects RX5 yX5_linesOf yX5_linesOf, Cond.instanceMethod yX4_through, Cond.selects RX4 yX4_through yX4_through, Cond.initialized RX4, Cond.instanceMethod yX4_holderOf, Cond.selects RX4 yX4_holderOf yX4_holderOf, Cond.instanceMethod yX4_standing, Cond.selects RX4 yX4_standing yX4_standing, Cond.instanceMethod yX4_preferredOn, Cond.selects RX4 yX4_preferredOn yX4_preferredOn, Cond.instanceMethod yX4_daysLived, Cond.selects RX4 yX4_daysLived yX4_daysLived, Cond.instanceMethod yX4_acres, Cond.selects RX4 yX4_acres yX4_acres]
def wsX5_holds : List Cond := .code yX5_holds cX5_holds 5 (some .int) :: (woX5_holds ++ (wsX50 ++ (wsX40 ++ (wsX5_isQuarter ++ (wsX5_isDay ++ (wsX5_isKnownBy ++ (wsX5_within ++ (wsX5_linesOf ++ (wsX4_through ++ (wsX4_holderOf ++ (wsX4_standing ++ (wsX4_preferredOn ++ (wsX4_daysLived ++ (wsX4_acres))))))))))))))
set_option maxRecDepth 100000 in
set_option maxHeartbeats 4000000 in
theorem lwo_X5_holds : ∀ w ∈ Cond.code yX5_holds cX5_holds 5 (some .int) :: woX5_holds, w ∈ lw_tbl := lwi_mem [(3, 43), (2, 146), (2, 147), (1, 1), (2, 21), (2, 22), (2, 172), (2, 174), (0, 15), (1, 238), (1, 239), (1, 221), (2, 176), (2, 178), (0, 16), (2, 182), (0, 17), (1, 5), (3, 14), (0, 33), (3, 47), (0, 39), (2, 204), (0, 22), (3, 52), (0, 40), (3, 6), (0, 31)] (by decide +kernel)
theorem oko_X5_holds : ∀ w ∈ woX5_holds, goodWord w = true := by decide +kernel
theorem lw_X5_holds : ∀ w ∈ wsX5_holds, w ∈ lw_tbl := List.forall_mem_cons.mpr ⟨lwo_X5_holds _ List.mem_cons_self, List.forall_mem_append.mpr ⟨(fun w h => lwo_X5_holds w (List.mem_cons_of_mem _ h)), List.forall_mem_append.mpr ⟨lwi_X5, List.forall_mem_append.mpr ⟨lwi_X4, List.forall_mem_append.mpr ⟨lw_X5_isQuarter, List.forall_mem_append.mpr ⟨lw_X5_isDay, List.forall_mem_append.mpr ⟨lw_X5_isKnownBy, List.forall_mem_append.mpr ⟨lw_X5_within, List.forall_mem_append.mpr ⟨lw_X5_linesOf, List.forall_mem_append.mpr ⟨lw_X4_through, List.forall_mem_append.mpr ⟨lw_X4_holderOf, List.forall_mem_append.mpr ⟨lw_X4_standing, List.forall_mem_append.mpr ⟨lw_X4_preferredOn, List.forall_mem_append.mpr ⟨lw_X4_daysLived, lw_X4_acres⟩⟩⟩⟩⟩⟩⟩⟩⟩⟩⟩⟩⟩⟩
theorem ok_X5_holds : ∀ w ∈ wsX5_holds, goodWord w = true := List.forall_mem_cons.mpr ⟨rfl, List.forall_mem_append.mpr ⟨oko_X5_holds, List.forall_mem_append.mpr ⟨ok_X5, List.forall_mem_append.mpr ⟨ok_X4, List.forall_mem_append.mpr ⟨ok_X5_isQuarter, List.forall_mem_append.mpr ⟨ok_X5_isDay, List.forall_mem_append.mpr ⟨ok_X5_isKnownBy, List.forall_mem_append.mpr ⟨ok_X5_within, List.forall_mem_append.mpr ⟨ok_X5_linesOf, List.forall_mem_append.mpr ⟨ok_X4_through, List.forall_mem_append.mpr ⟨ok_X4_holderOf, List.forall_mem_append.mpr ⟨ok_X4_standing, List.forall_mem_append.mpr ⟨ok_X4_preferredOn, List.forall_mem_append.mpr ⟨ok_X4_daysLived, ok_X4_acres⟩⟩⟩⟩⟩⟩⟩⟩⟩⟩⟩⟩⟩⟩
theorem ptX5_holds_woX5_holds : ∀ w ∈ woX5_holds, w ∈ wsX5_holds := fun _ h => List.mem_cons_of_mem _ (List.mem_append_left _ h)
theorem ptX5_holds_wsX50 : ∀ w ∈ wsX50, w ∈ wsX5_holds := fun _ h => List.mem_cons_of_mem _ (List.mem_append_right _ (List.mem_append_left _ h))
theorem ptX5_holds_wsX40 : ∀ w ∈ wsX40, w ∈ wsX5_holds := fun _ h => List.mem_cons_of_mem _ (List.mem_append_right _ (List.mem_append_right _ (List.mem_append_left _ h)))
theorem ptX5_holds_wsX5_isQuarter : ∀ w ∈ wsX5_isQuarter, w ∈ wsX5_holds := fun _ h => List.mem_cons_of_mem _ (List.mem_append_right _ (List.mem_append_right _ (List.mem_append_right _ (List.mem_append_left _ h))))
theorem ptX5_holds_wsX5_isDay : ∀ w ∈ wsX5_isDay, w ∈ wsX5_holds := fun _ h => List.mem_cons_of_mem _ (List.mem_append_right _ (List.mem_append_right _ (List.mem_append_right _ (List.mem_append_right _ (List.mem_append_left _ h)))))
theorem ptX5_holds_wsX5_isKnownBy : ∀ w ∈ wsX5_isKnownBy, w ∈ wsX5_holds := fun _ h => List.mem_cons_of_mem _ (List.mem_append_right _ (List.mem_append_right _ (List.mem_append_right _ (List.mem_append_right _ (List.mem_append_right _ (List.mem_append_left _ h))))))
theorem ptX5_holds_wsX5_within : ∀ w ∈ wsX5_within, w ∈ wsX5_holds := fun _ h => List.mem_cons_of_mem _ (List.mem_append_right _ (List.mem_append_right _ (List.mem_append_right _ (List.mem_append_right _ (List.mem_append_right _ (List.mem_append_right _ (List.mem_append_left _ h)))))))
theorem ptX5_holds_wsX5_linesOf : ∀ w ∈ wsX5_linesOf, w ∈ wsX5_holds := fun _ h => List.mem_cons_of_mem _ (List.mem_append_right _ (List.mem_append_right _ (List.mem_append_right _ (List.mem_append_right _ (List.mem_append_right _ (List.mem_append_right _ (List.mem_append_right _ (List.mem_append_left _ h))))))))
theorem ptX5_holds_wsX4_through : ∀ w ∈ wsX4_through, w ∈ wsX5_holds := fun _ h => List.mem_cons_of_mem _ (List.mem_append_right _ (List.mem_append_right _ (List.mem_append_right _ (List.mem_append_right _ (List.mem_append_right _ (List.mem_append_right _ (List.mem_append_right _ (List.mem_append_right _ (List.mem_append_left _ h)))))))))
theorem ptX5_holds_wsX4_holderOf : ∀ w ∈ wsX4_holderOf, w ∈ wsX5_holds := fun _ h => List.mem_cons_of_mem _ (List.mem_append_right _ (List.mem_append_right _ (List.mem_append_right _ (List.mem_append_right _ (List.mem_append_right _ (List.mem_append_right _ (List.mem_append_right _ (List.mem_append_right _ (List.mem_append_right _ (List.mem_append_left _ h))))))))))
theorem ptX5_holds_wsX4_standing : ∀ w ∈ wsX4_standing, w ∈ wsX5_holds := fun _ h => List.mem_cons_of_mem _ (List.mem_append_right _ (List.mem_append_right _ (List.mem_append_right _ (List.mem_append_right _ (List.mem_append_right _ (List.mem_append_right _ (List.mem_append_right _ (List.mem_append_right _ (List.mem_append_right _ (List.mem_append_right _ (List.mem_append_left _ h)))))))))))
theorem ptX5_holds_wsX4_preferredOn : ∀ w ∈ wsX4_preferredOn, w ∈ wsX5_holds := fun _ h => List.mem_cons_of_mem _ (List.mem_append_right _ (List.mem_append_right _ (List.mem_append_right _ (List.mem_append_right _ (List.mem_append_right _ (List.mem_append_right _ (List.mem_append_right _ (List.mem_append_right _ (List.mem_append_right _ (List.mem_append_right _ (List.mem_append_right _ (List.mem_append_left _ h))))))))))))
theorem ptX5_holds_wsX4_daysLived : ∀ w ∈ wsX4_daysLived, w ∈ wsX5_holds := fun _ h => List.mem_cons_of_mem _ (List.mem_append_right _ (List.mem_append_right _ (List.mem_append_right _ (List.mem_append_right _ (List.mem_append_right _ (List.mem_append_right _ (List.mem_append_right _ (List.mem_append_right _ (List.mem_append_right _ (List.mem_append_right _ (List.mem_append_right _ (List.mem_append_right _ (List.mem_append_left _ h)))))))))))))
theorem ptX5_holds_wsX4_acres : ∀ w ∈ wsX4_acres, w ∈ wsX5_holds := fun _ h => List.mem_cons_of_mem _ (List.mem_append_right _ (List.mem_append_right _ (List.mem_append_right _ (List.mem_append_right _ (List.mem_append_right _ (List.mem_append_right _ (List.mem_append_right _ (List.mem_append_right _ (List.mem_append_right _ (List.mem_append_right _ (List.mem_append_right _ (List.mem_append_right _ (List.mem_append_right _ h)))))))))))))
theorem gX5_holds_X5_isQuarter : GoodIn wsX5_holds (va_wsS RX5 93 yX5_isQuarter wsX5_isQuarter) := goodIn_app (goodIn_sub (fun w h => ptX5_holds_woX5_holds w ((by decide +kernel : ∀ w ∈ ([Cond.methodLink RX5 93 yX5_isQuarter, Cond.static yX5_isQuarter, Cond.initialized yX5_isQuarter.cls] : List Cond), w ∈ woX5_holds) w h)) (by decide +kernel)) (goodIn_sub (fun w h => ptX5_holds_wsX5_isQuarter w h) (List.all_eq_true.mpr ok_X5_isQuarter))
theorem gX5_holds_X5_isDay : GoodIn wsX5_holds (va_wsS RX5 68 yX5_isDay wsX5_isDay) := goodIn_app (goodIn_sub (fun w h => ptX5_holds_woX5_holds w ((by decide +kernel : ∀ w ∈ ([Cond.methodLink RX5 68 yX5_isDay, Cond.static yX5_isDay, Cond.initialized yX5_isDay.cls] : List Cond), w ∈ woX5_holds) w h)) (by decide +kernel)) (goodIn_sub (fun w h => ptX5_holds_wsX5_isDay w h) (List.all_eq_true.mpr ok_X5_isDay))
theorem gX5_holds_X5_isKnownBy : GoodIn wsX5_holds (wsV RX5 124 RX5 yX5_isKnownBy wsX5_isKnownBy) := goodIn_app (goodIn_sub (fun w h => ptX5_holds_woX5_holds w ((by decide +kernel : ∀ w ∈ ([Cond.methodLink RX5 124 yX5_isKnownBy, Cond.instanceMethod yX5_isKnownBy, Cond.selects RX5 yX5_isKnownBy yX5_isKnownBy, Cond.initialized RX5] : List Cond), w ∈ woX5_holds) w h)) (by decide +kernel)) (goodIn_sub (fun w h => ptX5_holds_wsX5_isKnownBy w h) (List.all_eq_true.mpr ok_X5_isKnownBy))
theorem gX5_holds_X5_within : GoodIn wsX5_holds (va_wsS RX5 46 yX5_within wsX5_within) := goodIn_app (goodIn_sub (fun w h => ptX5_holds_woX5_holds w ((by decide +kernel : ∀ w ∈ ([Cond.methodLink RX5 46 yX5_within, Cond.static yX5_within, Cond.initialized yX5_within.cls] : List Cond), w ∈ woX5_holds) w h)) (by decide +kernel)) (goodIn_sub (fun w h => ptX5_holds_wsX5_within w h) (List.all_eq_true.mpr ok_X5_within))
theorem gX5_holds_X5_linesOf : GoodIn wsX5_holds (wsV RX5 127 RX5 yX5_linesOf wsX5_linesOf) := goodIn_app (goodIn_sub (fun w h => ptX5_holds_woX5_holds w ((by decide +kernel : ∀ w ∈ ([Cond.methodLink RX5 127 yX5_linesOf, Cond.instanceMethod yX5_linesOf, Cond.selects RX5 yX5_linesOf yX5_linesOf, Cond.initialized RX5] : List Cond), w ∈ woX5_holds) w h)) (by decide +kernel)) (goodIn_sub (fun w h => ptX5_holds_wsX5_linesOf w h) (List.all_eq_true.mpr ok_X5_linesOf))
theorem gX5_holds_X4_through_n130 : GoodIn wsX5_holds wsX4_through := goodIn_sub (fun w h => ptX5_holds_wsX4_through w h) (List.all_eq_true.mpr ok_X4_through)
theorem gX5_holds_X4_holderOf_n153 : GoodIn wsX5_holds wsX4_holderOf := goodIn_sub (fun w h => ptX5_holds_wsX4_holderOf w h) (List.all_eq_true.mpr ok_X4_holderOf)
theorem gX5_holds_X4_standing_n156 : GoodIn wsX5_holds wsX4_standing := goodIn_sub (fun w h => ptX5_holds_wsX4_standing w h) (List.all_eq_true.mpr ok_X4_standing)
theorem gX5_holds_X4_preferredOn_n162 : GoodIn wsX5_holds wsX4_preferredOn := goodIn_sub (fun w h => ptX5_holds_wsX4_preferredOn w h) (List.all_eq_true.mpr ok_X4_preferredOn)
theorem gX5_holds_X4_daysLived_n165 : GoodIn wsX5_holds wsX4_daysLived := goodIn_sub (fun w h => ptX5_holds_wsX4_daysLived w h) (List.all_eq_true.mpr ok_X4_daysLived)
theorem gX5_holds_X4_acres_n168 : GoodIn wsX5_holds wsX4_acres := goodIn_sub (fun w h => ptX5_holds_wsX4_acres w h) (List.all_eq_true.mpr ok_X4_acres)
def woX5_holdings : List Cond := [Cond.methodLink RX5 90 yX5_isPerson, Cond.instanceMethod yX5_isPerson, Cond.selects RX5 yX5_isPerson yX5_isPerson, Cond.initialized RX5, Cond.methodLink RX5 124 yX5_isKnownBy, Cond.instanceMethod yX5_isKnownBy, Cond.selects RX5 yX5_isKnownBy yX5_isKnownBy, Cond.fieldLink RX5 35 "FreeLand" "work" "LFreeLand$Work;", Cond.methodLink RX5 127 yX5_linesOf, Cond.instanceMethod yX5_linesOf, Cond.selects RX5 yX5_linesOf yX5_linesOf, Cond.instanceMethod yX4_through, Cond.selects RX4 yX4_through yX4_through, Cond.initialized RX4, Cond.instanceMethod yX4_holderOf, Cond.selects RX4 yX4_holderOf yX4_holderOf]
def wsX5_holdings : List Cond := .code yX5_holdings cX5_holdings 5 (some .int) :: (woX5_holdings ++ (wsX50 ++ (wsX5_isPerson ++ (wsX5_isKnownBy ++ (wsX5_linesOf ++ (wsX4_through ++ (wsX4_holderOf)))))))
set_option maxRecDepth 100000 in
set_option maxHeartbeats 4000000 in
theorem lwo_X5_holdings : ∀ w ∈ Cond.code yX5_holdings cX5_holdings 5 (some .int) :: woX5_holdings, w ∈ lw_tbl := lwi_mem [(3, 58), (2, 142), (2, 144), (0, 12), (1, 1), (2, 172), (2, 174), (0, 15), (1, 221), (2, 176), (2, 178), (0, 16), (2, 182), (0, 17), (1, 5), (3, 14), (0, 33)] (by decide +kernel)
theorem oko_X5_holdings : ∀ w ∈ woX5_holdings, goodWord w = true := by decide +kernel
theorem lw_X5_holdings : ∀ w ∈ wsX5_holdings, w ∈ lw_tbl := List.forall_mem_cons.mpr ⟨lwo_X5_holdings _ List.mem_cons_self, List.forall_mem_append.mpr ⟨(fun w h => lwo_X5_holdings w (List.mem_cons_of_mem _ h)), List.forall_mem_append.mpr ⟨lwi_X5, List.forall_mem_append.mpr ⟨lw_X5_isPerson, List.forall_mem_append.mpr ⟨lw_X5_isKnownBy, List.forall_mem_append.mpr ⟨lw_X5_linesOf, List.forall_mem_append.mpr ⟨lw_X4_through, lw_X4_holderOf⟩⟩⟩⟩⟩⟩⟩
theorem ok_X5_holdings : ∀ w ∈ wsX5_holdings, goodWord w = true := List.forall_mem_cons.mpr ⟨rfl, List.forall_mem_append.mpr ⟨oko_X5_holdings, List.forall_mem_append.mpr ⟨ok_X5, List.forall_mem_append.mpr ⟨ok_X5_isPerson, List.forall_mem_append.mpr ⟨ok_X5_isKnownBy, List.forall_mem_append.mpr ⟨ok_X5_linesOf, List.forall_mem_append.mpr ⟨ok_X4_through, ok_X4_holderOf⟩⟩⟩⟩⟩⟩⟩
theorem ptX5_holdings_woX5_holdings : ∀ w ∈ woX5_holdings, w ∈ wsX5_holdings := fun _ h => List.mem_cons_of_mem _ (List.mem_append_left _ h)
theorem ptX5_holdings_wsX50 : ∀ w ∈ wsX50, w ∈ wsX5_holdings := fun _ h => List.mem_cons_of_mem _ (List.mem_append_right _ (List.mem_append_left _ h))
theorem ptX5_holdings_wsX5_isPerson : ∀ w ∈ wsX5_isPerson, w ∈ wsX5_holdings := fun _ h => List.mem_cons_of_mem _ (List.mem_append_right _ (List.mem_append_right _ (List.mem_append_left _ h)))
theorem ptX5_holdings_wsX5_isKnownBy : ∀ w ∈ wsX5_isKnownBy, w ∈ wsX5_holdings := fun _ h => List.mem_cons_of_mem _ (List.mem_append_right _ (List.mem_append_right _ (List.mem_append_right _ (List.mem_append_left _ h))))
theorem ptX5_holdings_wsX5_linesOf : ∀ w ∈ wsX5_linesOf, w ∈ wsX5_holdings := fun _ h => List.mem_cons_of_mem _ (List.mem_append_right _ (List.mem_append_right _ (List.mem_append_right _ (List.mem_append_right _ (List.mem_append_left _ h)))))
theorem ptX5_holdings_wsX4_through : ∀ w ∈ wsX4_through, w ∈ wsX5_holdings := fun _ h => List.mem_cons_of_mem _ (List.mem_append_right _ (List.mem_append_right _ (List.mem_append_right _ (List.mem_append_right _ (List.mem_append_right _ (List.mem_append_left _ h))))))
theorem ptX5_holdings_wsX4_holderOf : ∀ w ∈ wsX4_holderOf, w ∈ wsX5_holdings := fun _ h => List.mem_cons_of_mem _ (List.mem_append_right _ (List.mem_append_right _ (List.mem_append_right _ (List.mem_append_right _ (List.mem_append_right _ (List.mem_append_right _ h))))))
theorem gX5_holdings_X5_isPerson : GoodIn wsX5_holdings (wsV RX5 90 RX5 yX5_isPerson wsX5_isPerson) := goodIn_app (goodIn_sub (fun w h => ptX5_holdings_woX5_holdings w ((by decide +kernel : ∀ w ∈ ([Cond.methodLink RX5 90 yX5_isPerson, Cond.instanceMethod yX5_isPerson, Cond.selects RX5 yX5_isPerson yX5_isPerson, Cond.initialized RX5] : List Cond), w ∈ woX5_holdings) w h)) (by decide +kernel)) (goodIn_sub (fun w h => ptX5_holdings_wsX5_isPerson w h) (List.all_eq_true.mpr ok_X5_isPerson))
theorem gX5_holdings_X5_isKnownBy : GoodIn wsX5_holdings (wsV RX5 124 RX5 yX5_isKnownBy wsX5_isKnownBy) := goodIn_app (goodIn_sub (fun w h => ptX5_holdings_woX5_holdings w ((by decide +kernel : ∀ w ∈ ([Cond.methodLink RX5 124 yX5_isKnownBy, Cond.instanceMethod yX5_isKnownBy, Cond.selects RX5 yX5_isKnownBy yX5_isKnownBy, Cond.initialized RX5] : List Cond), w ∈ woX5_holdings) w h)) (by decide +kernel)) (goodIn_sub (fun w h => ptX5_holdings_wsX5_isKnownBy w h) (List.all_eq_true.mpr ok_X5_isKnownBy))
theorem gX5_holdings_X5_linesOf : GoodIn wsX5_holdings (wsV RX5 127 RX5 yX5_linesOf wsX5_linesOf) := goodIn_app (goodIn_sub (fun w h => ptX5_holdings_woX5_holdings w ((by decide +kernel : ∀ w ∈ ([Cond.methodLink RX5 127 yX5_linesOf, Cond.instanceMethod yX5_linesOf, Cond.selects RX5 yX5_linesOf yX5_linesOf, Cond.initialized RX5] : List Cond), w ∈ woX5_holdings) w h)) (by decide +kernel)) (goodIn_sub (fun w h => ptX5_holdings_wsX5_linesOf w h) (List.all_eq_true.mpr ok_X5_linesOf))
theorem gX5_holdings_X4_through_n130 : GoodIn wsX5_holdings wsX4_through := goodIn_sub (fun w h => ptX5_holdings_wsX4_through w h) (List.all_eq_true.mpr ok_X4_through)
theorem gX5_holdings_X4_holderOf_n153 : GoodIn wsX5_holdings wsX4_holderOf := goodIn_sub (fun w h => ptX5_holdings_wsX4_holderOf w h) (List.all_eq_true.mpr ok_X4_holderOf)
def woX5_digest : List Cond := [Cond.methodLink RX5 124 yX5_isKnownBy, Cond.instanceMethod yX5_isKnownBy, Cond.selects RX5 yX5_isKnownBy yX5_isKnownBy, Cond.initialized RX5, Cond.methodLink RX5 127 yX5_linesOf, Cond.instanceMethod yX5_linesOf, Cond.selects RX5 yX5_linesOf yX5_linesOf, Cond.fieldLink RX5 35 "FreeLand" "work" "LFreeLand$Work;", Cond.instanceMethod yX4_through, Cond.selects RX4 yX4_through yX4_through, Cond.initialized RX4, Cond.instanceMethod yX4_holderOf, Cond.selects RX4 yX4_holderOf yX4_holderOf]
def wsX5_digest : List Cond := .code yX5_digest cX5_digest 5 (some .int) :: (woX5_digest ++ (wsX50 ++ (wsX40 ++ (wsX5_isKnownBy ++ (wsX5_linesOf ++ (wsX4_through ++ (wsX4_holderOf)))))))
set_option maxRecDepth 100000 in
set_option maxHeartbeats 4000000 in
theorem lwo_X5_digest : ∀ w ∈ Cond.code yX5_digest cX5_digest 5 (some .int) :: woX5_digest, w ∈ lw_tbl := lwi_mem [(3, 62), (2, 172), (2, 174), (0, 15), (1, 1), (2, 176), (2, 178), (0, 16), (1, 221), (2, 182), (0, 17), (1, 5), (3, 14), (0, 33)] (by decide +kernel)
theorem oko_X5_digest : ∀ w ∈ woX5_digest, goodWord w = true := by decide +kernel
theorem lw_X5_digest : ∀ w ∈ wsX5_digest, w ∈ lw_tbl := List.forall_mem_cons.mpr ⟨lwo_X5_digest _ List.mem_cons_self, List.forall_mem_append.mpr ⟨(fun w h => lwo_X5_digest w (List.mem_cons_of_mem _ h)), List.forall_mem_append.mpr ⟨lwi_X5, List.forall_mem_append.mpr ⟨lwi_X4, List.forall_mem_append.mpr ⟨lw_X5_isKnownBy, List.forall_mem_append.mpr ⟨lw_X5_linesOf, List.forall_mem_append.mpr ⟨lw_X4_through, lw_X4_holderOf⟩⟩⟩⟩⟩⟩⟩
theorem ok_X5_digest : ∀ w ∈ wsX5_digest, goodWord w = true := List.forall_mem_cons.mpr ⟨rfl, List.forall_mem_append.mpr ⟨oko_X5_digest, List.forall_mem_append.mpr ⟨ok_X5, List.forall_mem_append.mpr ⟨ok_X4, List.forall_mem_append.mpr ⟨ok_X5_isKnownBy, List.forall_mem_append.mpr ⟨ok_X5_linesOf, List.forall_mem_append.mpr ⟨ok_X4_through, ok_X4_holderOf⟩⟩⟩⟩⟩⟩⟩
theorem ptX5_digest_woX5_digest : ∀ w ∈ woX5_digest, w ∈ wsX5_digest := fun _ h => List.mem_cons_of_mem _ (List.mem_append_left _ h)
theorem ptX5_digest_wsX50 : ∀ w ∈ wsX50, w ∈ wsX5_digest := fun _ h => List.mem_cons_of_mem _ (List.mem_append_right _ (List.mem_append_left _ h))
theorem ptX5_digest_wsX40 : ∀ w ∈ wsX40, w ∈ wsX5_digest := fun _ h => List.mem_cons_of_mem _ (List.mem_append_right _ (List.mem_append_right _ (List.mem_append_left _ h)))
theorem ptX5_digest_wsX5_isKnownBy : ∀ w ∈ wsX5_isKnownBy, w ∈ wsX5_digest := fun _ h => List.mem_cons_of_mem _ (List.mem_append_right _ (List.mem_append_right _ (List.mem_append_right _ (List.mem_append_left _ h))))
theorem ptX5_digest_wsX5_linesOf : ∀ w ∈ wsX5_linesOf, w ∈ wsX5_digest := fun _ h => List.mem_cons_of_mem _ (List.mem_append_right _ (List.mem_append_right _ (List.mem_append_right _ (List.mem_append_right _ (List.mem_append_left _ h)))))
theorem ptX5_digest_wsX4_through : ∀ w ∈ wsX4_through, w ∈ wsX5_digest := fun _ h => List.mem_cons_of_mem _ (List.mem_append_right _ (List.mem_append_right _ (List.mem_append_right _ (List.mem_append_right _ (List.mem_append_right _ (List.mem_append_left _ h))))))
theorem ptX5_digest_wsX4_holderOf : ∀ w ∈ wsX4_holderOf, w ∈ wsX5_digest := fun _ h => List.mem_cons_of_mem _ (List.mem_append_right _ (List.mem_append_right _ (List.mem_append_right _ (List.mem_append_right _ (List.mem_append_right _ (List.mem_append_right _ h))))))
theorem gX5_digest_X5_isKnownBy : GoodIn wsX5_digest (wsV RX5 124 RX5 yX5_isKnownBy wsX5_isKnownBy) := goodIn_app (goodIn_sub (fun w h => ptX5_digest_woX5_digest w ((by decide +kernel : ∀ w ∈ ([Cond.methodLink RX5 124 yX5_isKnownBy, Cond.instanceMethod yX5_isKnownBy, Cond.selects RX5 yX5_isKnownBy yX5_isKnownBy, Cond.initialized RX5] : List Cond), w ∈ woX5_digest) w h)) (by decide +kernel)) (goodIn_sub (fun w h => ptX5_digest_wsX5_isKnownBy w h) (List.all_eq_true.mpr ok_X5_isKnownBy))
theorem gX5_digest_X5_linesOf : GoodIn wsX5_digest (wsV RX5 127 RX5 yX5_linesOf wsX5_linesOf) := goodIn_app (goodIn_sub (fun w h => ptX5_digest_woX5_digest w ((by decide +kernel : ∀ w ∈ ([Cond.methodLink RX5 127 yX5_linesOf, Cond.instanceMethod yX5_linesOf, Cond.selects RX5 yX5_linesOf yX5_linesOf, Cond.initialized RX5] : List Cond), w ∈ woX5_digest) w h)) (by decide +kernel)) (goodIn_sub (fun w h => ptX5_digest_wsX5_linesOf w h) (List.all_eq_true.mpr ok_X5_linesOf))
theorem gX5_digest_X4_through_n130 : GoodIn wsX5_digest wsX4_through := goodIn_sub (fun w h => ptX5_digest_wsX4_through w h) (List.all_eq_true.mpr ok_X4_through)
theorem gX5_digest_X4_holderOf_n153 : GoodIn wsX5_digest wsX4_holderOf := goodIn_sub (fun w h => ptX5_digest_wsX4_holderOf w h) (List.all_eq_true.mpr ok_X4_holderOf)
def woX5_isCorner : List Cond := [Cond.methodLink RX5 46 yX5_within, Cond.static yX5_within, Cond.initialized RX5]
def wsX5_isCorner : List Cond := .code yX5_isCorner cX5_isCorner 2 (some .boolean) :: (woX5_isCorner ++ (wsX5_within))
set_option maxRecDepth 100000 in
set_option maxHeartbeats 4000000 in
theorem lwo_X5_isCorner : ∀ w ∈ Cond.code yX5_isCorner cX5_isCorner 2 (some .boolean) :: woX5_isCorner, w ∈ lw_tbl := lwi_mem [(3, 69), (1, 238), (1, 239), (1, 1)] (by decide +kernel)
theorem oko_X5_isCorner : ∀ w ∈ woX5_isCorner, goodWord w = true := by decide +kernel
theorem lw_X5_isCorner : ∀ w ∈ wsX5_isCorner, w ∈ lw_tbl := List.forall_mem_cons.mpr ⟨lwo_X5_isCorner _ List.mem_cons_self, List.forall_mem_append.mpr ⟨(fun w h => lwo_X5_isCorner w (List.mem_cons_of_mem _ h)), lw_X5_within⟩⟩
theorem ok_X5_isCorner : ∀ w ∈ wsX5_isCorner, goodWord w = true := List.forall_mem_cons.mpr ⟨rfl, List.forall_mem_append.mpr ⟨oko_X5_isCorner, ok_X5_within⟩⟩
theorem ptX5_isCorner_woX5_isCorner : ∀ w ∈ woX5_isCorner, w ∈ wsX5_isCorner := fun _ h => List.mem_cons_of_mem _ (List.mem_append_left _ h)
theorem ptX5_isCorner_wsX5_within : ∀ w ∈ wsX5_within, w ∈ wsX5_isCorner := fun _ h => List.mem_cons_of_mem _ (List.mem_append_right _ h)
theorem gX5_isCorner_X5_within : GoodIn wsX5_isCorner (va_wsS RX5 46 yX5_within wsX5_within) := goodIn_app (goodIn_sub (fun w h => ptX5_isCorner_woX5_isCorner w ((by decide +kernel : ∀ w ∈ ([Cond.methodLink RX5 46 yX5_within, Cond.static yX5_within, Cond.initialized yX5_within.cls] : List Cond), w ∈ woX5_isCorner) w h)) (by decide +kernel)) (goodIn_sub (fun w h => ptX5_isCorner_wsX5_within w h) (List.all_eq_true.mpr ok_X5_within))
def woX5_corner : List Cond := [Cond.methodLink RX5 171 yX5_isCorner, Cond.static yX5_isCorner, Cond.initialized RX5, Cond.methodLink RX5 46 yX5_within, Cond.static yX5_within, Cond.fieldLink RX5 42 "FreeLand" "corners" "LFreeLand$Corners;", Cond.instanceMethod yX1_set, Cond.selects RX1 yX1_set yX1_set, Cond.initialized RX1]
def wsX5_corner : List Cond := .code yX5_corner cX5_corner 5 (some .int) :: (woX5_corner ++ (wsX50 ++ (wsX5_isCorner ++ (wsX5_within ++ (wsX1_set)))))
set_option maxRecDepth 100000 in
set_option maxHeartbeats 4000000 in
theorem lwo_X5_corner : ∀ w ∈ Cond.code yX5_corner cX5_corner 5 (some .int) :: woX5_corner, w ∈ lw_tbl := lwi_mem [(3, 66), (3, 67), (3, 68), (1, 1), (1, 238), (1, 239), (1, 222), (3, 72), (0, 41), (1, 6)] (by decide +kernel)
theorem oko_X5_corner : ∀ w ∈ woX5_corner, goodWord w = true := by decide +kernel
theorem lw_X5_corner : ∀ w ∈ wsX5_corner, w ∈ lw_tbl := List.forall_mem_cons.mpr ⟨lwo_X5_corner _ List.mem_cons_self, List.forall_mem_append.mpr ⟨(fun w h => lwo_X5_corner w (List.mem_cons_of_mem _ h)), List.forall_mem_append.mpr ⟨lwi_X5, List.forall_mem_append.mpr ⟨lw_X5_isCorner, List.forall_mem_append.mpr ⟨lw_X5_within, lw_X1_set⟩⟩⟩⟩⟩
theorem ok_X5_corner : ∀ w ∈ wsX5_corner, goodWord w = true := List.forall_mem_cons.mpr ⟨rfl, List.forall_mem_append.mpr ⟨oko_X5_corner, List.forall_mem_append.mpr ⟨ok_X5, List.forall_mem_append.mpr ⟨ok_X5_isCorner, List.forall_mem_append.mpr ⟨ok_X5_within, ok_X1_set⟩⟩⟩⟩⟩
theorem ptX5_corner_woX5_corner : ∀ w ∈ woX5_corner, w ∈ wsX5_corner := fun _ h => List.mem_cons_of_mem _ (List.mem_append_left _ h)
theorem ptX5_corner_wsX50 : ∀ w ∈ wsX50, w ∈ wsX5_corner := fun _ h => List.mem_cons_of_mem _ (List.mem_append_right _ (List.mem_append_left _ h))
theorem ptX5_corner_wsX5_isCorner : ∀ w ∈ wsX5_isCorner, w ∈ wsX5_corner := fun _ h => List.mem_cons_of_mem _ (List.mem_append_right _ (List.mem_append_right _ (List.mem_append_left _ h)))
theorem ptX5_corner_wsX5_within : ∀ w ∈ wsX5_within, w ∈ wsX5_corner := fun _ h => List.mem_cons_of_mem _ (List.mem_append_right _ (List.mem_append_right _ (List.mem_append_right _ (List.mem_append_left _ h))))
theorem ptX5_corner_wsX1_set : ∀ w ∈ wsX1_set, w ∈ wsX5_corner := fun _ h => List.mem_cons_of_mem _ (List.mem_append_right _ (List.mem_append_right _ (List.mem_append_right _ (List.mem_append_right _ h))))
theorem gX5_corner_X5_isCorner : GoodIn wsX5_corner (va_wsS RX5 171 yX5_isCorner wsX5_isCorner) := goodIn_app (goodIn_sub (fun w h => ptX5_corner_woX5_corner w ((by decide +kernel : ∀ w ∈ ([Cond.methodLink RX5 171 yX5_isCorner, Cond.static yX5_isCorner, Cond.initialized yX5_isCorner.cls] : List Cond), w ∈ woX5_corner) w h)) (by decide +kernel)) (goodIn_sub (fun w h => ptX5_corner_wsX5_isCorner w h) (List.all_eq_true.mpr ok_X5_isCorner))
theorem gX5_corner_X5_within : GoodIn wsX5_corner (va_wsS RX5 46 yX5_within wsX5_within) := goodIn_app (goodIn_sub (fun w h => ptX5_corner_woX5_corner w ((by decide +kernel : ∀ w ∈ ([Cond.methodLink RX5 46 yX5_within, Cond.static yX5_within, Cond.initialized yX5_within.cls] : List Cond), w ∈ woX5_corner) w h)) (by decide +kernel)) (goodIn_sub (fun w h => ptX5_corner_wsX5_within w h) (List.all_eq_true.mpr ok_X5_within))
theorem gX5_corner_X1_set_n174 : GoodIn wsX5_corner wsX1_set := goodIn_sub (fun w h => ptX5_corner_wsX1_set w h) (List.all_eq_true.mpr ok_X1_set)
def woX5_lose : List Cond := [Cond.methodLink RX5 171 yX5_isCorner, Cond.static yX5_isCorner, Cond.initialized RX5, Cond.fieldLink RX5 42 "FreeLand" "corners" "LFreeLand$Corners;", Cond.instanceMethod yX1_forget, Cond.selects RX1 yX1_forget yX1_forget, Cond.initialized RX1]
def wsX5_lose : List Cond := .code yX5_lose cX5_lose 3 (some .int) :: (woX5_lose ++ (wsX50 ++ (wsX5_isCorner ++ (wsX1_forget))))
set_option maxRecDepth 100000 in
set_option maxHeartbeats 4000000 in
theorem lwo_X5_lose : ∀ w ∈ Cond.code yX5_lose cX5_lose 3 (some .int) :: woX5_lose, w ∈ lw_tbl := lwi_mem [(3, 77), (3, 67), (3, 68), (1, 1), (1, 222), (3, 80), (0, 42), (1, 6)] (by decide +kernel)
theorem oko_X5_lose : ∀ w ∈ woX5_lose, goodWord w = true := by decide +kernel
theorem lw_X5_lose : ∀ w ∈ wsX5_lose, w ∈ lw_tbl := List.forall_mem_cons.mpr ⟨lwo_X5_lose _ List.mem_cons_self, List.forall_mem_append.mpr ⟨(fun w h => lwo_X5_lose w (List.mem_cons_of_mem _ h)), List.forall_mem_append.mpr ⟨lwi_X5, List.forall_mem_append.mpr ⟨lw_X5_isCorner, lw_X1_forget⟩⟩⟩⟩
theorem ok_X5_lose : ∀ w ∈ wsX5_lose, goodWord w = true := List.forall_mem_cons.mpr ⟨rfl, List.forall_mem_append.mpr ⟨oko_X5_lose, List.forall_mem_append.mpr ⟨ok_X5, List.forall_mem_append.mpr ⟨ok_X5_isCorner, ok_X1_forget⟩⟩⟩⟩
theorem ptX5_lose_woX5_lose : ∀ w ∈ woX5_lose, w ∈ wsX5_lose := fun _ h => List.mem_cons_of_mem _ (List.mem_append_left _ h)
theorem ptX5_lose_wsX50 : ∀ w ∈ wsX50, w ∈ wsX5_lose := fun _ h => List.mem_cons_of_mem _ (List.mem_append_right _ (List.mem_append_left _ h))
theorem ptX5_lose_wsX5_isCorner : ∀ w ∈ wsX5_isCorner, w ∈ wsX5_lose := fun _ h => List.mem_cons_of_mem _ (List.mem_append_right _ (List.mem_append_right _ (List.mem_append_left _ h)))
theorem ptX5_lose_wsX1_forget : ∀ w ∈ wsX1_forget, w ∈ wsX5_lose := fun _ h => List.mem_cons_of_mem _ (List.mem_append_right _ (List.mem_append_right _ (List.mem_append_right _ h)))
theorem gX5_lose_X5_isCorner : GoodIn wsX5_lose (va_wsS RX5 171 yX5_isCorner wsX5_isCorner) := goodIn_app (goodIn_sub (fun w h => ptX5_lose_woX5_lose w ((by decide +kernel : ∀ w ∈ ([Cond.methodLink RX5 171 yX5_isCorner, Cond.static yX5_isCorner, Cond.initialized yX5_isCorner.cls] : List Cond), w ∈ woX5_lose) w h)) (by decide +kernel)) (goodIn_sub (fun w h => ptX5_lose_wsX5_isCorner w h) (List.all_eq_true.mpr ok_X5_isCorner))
theorem gX5_lose_X1_forget_n178 : GoodIn wsX5_lose wsX1_forget := goodIn_sub (fun w h => ptX5_lose_wsX1_forget w h) (List.all_eq_true.mpr ok_X1_forget)
def woX5_lies : List Cond := [Cond.methodLink RX5 171 yX5_isCorner, Cond.static yX5_isCorner, Cond.initialized RX5, Cond.methodLink RX5 46 yX5_within, Cond.static yX5_within, Cond.fieldLink RX5 42 "FreeLand" "corners" "LFreeLand$Corners;", Cond.instanceMethod yX1_find, Cond.selects RX1 yX1_find yX1_find, Cond.initialized RX1, Cond.instanceMethod yX1_isKnown, Cond.selects RX1 yX1_isKnown yX1_isKnown]
def wsX5_lies : List Cond := .code yX5_lies cX5_lies 4 (some .int) :: (woX5_lies ++ (wsX50 ++ (wsX10 ++ (wsX5_isCorner ++ (wsX5_within ++ (wsX1_find ++ (wsX1_isKnown)))))))
set_option maxRecDepth 100000 in
set_option maxHeartbeats 4000000 in
theorem lwo_X5_lies : ∀ w ∈ Cond.code yX5_lies cX5_lies 4 (some .int) :: woX5_lies, w ∈ lw_tbl := lwi_mem [(3, 89), (3, 67), (3, 68), (1, 1), (1, 238), (1, 239), (1, 222), (3, 92), (0, 44), (1, 6), (3, 84), (0, 43)] (by decide +kernel)
theorem oko_X5_lies : ∀ w ∈ woX5_lies, goodWord w = true := by decide +kernel
theorem lw_X5_lies : ∀ w ∈ wsX5_lies, w ∈ lw_tbl := List.forall_mem_cons.mpr ⟨lwo_X5_lies _ List.mem_cons_self, List.forall_mem_append.mpr ⟨(fun w h => lwo_X5_lies w (List.mem_cons_of_mem _ h)), List.forall_mem_append.mpr ⟨lwi_X5, List.forall_mem_append.mpr ⟨lwi_X1, List.forall_mem_append.mpr ⟨lw_X5_isCorner, List.forall_mem_append.mpr ⟨lw_X5_within, List.forall_mem_append.mpr ⟨lw_X1_find, lw_X1_isKnown⟩⟩⟩⟩⟩⟩⟩
theorem ok_X5_lies : ∀ w ∈ wsX5_lies, goodWord w = true := List.forall_mem_cons.mpr ⟨rfl, List.forall_mem_append.mpr ⟨oko_X5_lies, List.forall_mem_append.mpr ⟨ok_X5, List.forall_mem_append.mpr ⟨ok_X1, List.forall_mem_append.mpr ⟨ok_X5_isCorner, List.forall_mem_append.mpr ⟨ok_X5_within, List.forall_mem_append.mpr ⟨ok_X1_find, ok_X1_isKnown⟩⟩⟩⟩⟩⟩⟩
theorem ptX5_lies_woX5_lies : ∀ w ∈ woX5_lies, w ∈ wsX5_lies := fun _ h => List.mem_cons_of_mem _ (List.mem_append_left _ h)
theorem ptX5_lies_wsX50 : ∀ w ∈ wsX50, w ∈ wsX5_lies := fun _ h => List.mem_cons_of_mem _ (List.mem_append_right _ (List.mem_append_left _ h))
theorem ptX5_lies_wsX10 : ∀ w ∈ wsX10, w ∈ wsX5_lies := fun _ h => List.mem_cons_of_mem _ (List.mem_append_right _ (List.mem_append_right _ (List.mem_append_left _ h)))
theorem ptX5_lies_wsX5_isCorner : ∀ w ∈ wsX5_isCorner, w ∈ wsX5_lies := fun _ h => List.mem_cons_of_mem _ (List.mem_append_right _ (List.mem_append_right _ (List.mem_append_right _ (List.mem_append_left _ h))))
theorem ptX5_lies_wsX5_within : ∀ w ∈ wsX5_within, w ∈ wsX5_lies := fun _ h => List.mem_cons_of_mem _ (List.mem_append_right _ (List.mem_append_right _ (List.mem_append_right _ (List.mem_append_right _ (List.mem_append_left _ h)))))
theorem ptX5_lies_wsX1_find : ∀ w ∈ wsX1_find, w ∈ wsX5_lies := fun _ h => List.mem_cons_of_mem _ (List.mem_append_right _ (List.mem_append_right _ (List.mem_append_right _ (List.mem_append_right _ (List.mem_append_right _ (List.mem_append_left _ h))))))
theorem ptX5_lies_wsX1_isKnown : ∀ w ∈ wsX1_isKnown, w ∈ wsX5_lies := fun _ h => List.mem_cons_of_mem _ (List.mem_append_right _ (List.mem_append_right _ (List.mem_append_right _ (List.mem_append_right _ (List.mem_append_right _ (List.mem_append_right _ h))))))
theorem gX5_lies_X5_isCorner : GoodIn wsX5_lies (va_wsS RX5 171 yX5_isCorner wsX5_isCorner) := goodIn_app (goodIn_sub (fun w h => ptX5_lies_woX5_lies w ((by decide +kernel : ∀ w ∈ ([Cond.methodLink RX5 171 yX5_isCorner, Cond.static yX5_isCorner, Cond.initialized yX5_isCorner.cls] : List Cond), w ∈ woX5_lies) w h)) (by decide +kernel)) (goodIn_sub (fun w h => ptX5_lies_wsX5_isCorner w h) (List.all_eq_true.mpr ok_X5_isCorner))
theorem gX5_lies_X5_within : GoodIn wsX5_lies (va_wsS RX5 46 yX5_within wsX5_within) := goodIn_app (goodIn_sub (fun w h => ptX5_lies_woX5_lies w ((by decide +kernel : ∀ w ∈ ([Cond.methodLink RX5 46 yX5_within, Cond.static yX5_within, Cond.initialized yX5_within.cls] : List Cond), w ∈ woX5_lies) w h)) (by decide +kernel)) (goodIn_sub (fun w h => ptX5_lies_wsX5_within w h) (List.all_eq_true.mpr ok_X5_within))
theorem gX5_lies_X1_find_n181 : GoodIn wsX5_lies wsX1_find := goodIn_sub (fun w h => ptX5_lies_wsX1_find w h) (List.all_eq_true.mpr ok_X1_find)
theorem gX5_lies_X1_isKnown_n190 : GoodIn wsX5_lies wsX1_isKnown := goodIn_sub (fun w h => ptX5_lies_wsX1_isKnown w h) (List.all_eq_true.mpr ok_X1_isKnown)
def woX5_area : List Cond := [Cond.methodLink RX5 93 yX5_isQuarter, Cond.static yX5_isQuarter, Cond.initialized RX5, Cond.constantLong RX5 193 (-1001), Cond.fieldLink RX5 42 "FreeLand" "corners" "LFreeLand$Corners;", Cond.instanceMethod yX1_findAround, Cond.selects RX1 yX1_findAround yX1_findAround, Cond.initialized RX1, Cond.constantLong RX5 198 (-1003), Cond.instanceMethod yX1_crossSum, Cond.selects RX1 yX1_crossSum yX1_crossSum]
def wsX5_area : List Cond := .code yX5_area cX5_area 2 (some .long) :: (woX5_area ++ (wsX50 ++ (wsX5_isQuarter ++ (wsX1_findAround ++ (wsX1_crossSum)))))
set_option maxRecDepth 100000 in
set_option maxHeartbeats 4000000 in
theorem lwo_X5_area : ∀ w ∈ Cond.code yX5_area cX5_area 2 (some .long) :: woX5_area, w ∈ lw_tbl := lwi_mem [(3, 102), (2, 146), (2, 147), (1, 1), (3, 103), (1, 222), (3, 106), (0, 46), (1, 6), (3, 109), (3, 112), (0, 47)] (by decide +kernel)
theorem oko_X5_area : ∀ w ∈ woX5_area, goodWord w = true := by decide +kernel
theorem lw_X5_area : ∀ w ∈ wsX5_area, w ∈ lw_tbl := List.forall_mem_cons.mpr ⟨lwo_X5_area _ List.mem_cons_self, List.forall_mem_append.mpr ⟨(fun w h => lwo_X5_area w (List.mem_cons_of_mem _ h)), List.forall_mem_append.mpr ⟨lwi_X5, List.forall_mem_append.mpr ⟨lw_X5_isQuarter, List.forall_mem_append.mpr ⟨lw_X1_findAround, lw_X1_crossSum⟩⟩⟩⟩⟩
theorem ok_X5_area : ∀ w ∈ wsX5_area, goodWord w = true := List.forall_mem_cons.mpr ⟨rfl, List.forall_mem_append.mpr ⟨oko_X5_area, List.forall_mem_append.mpr ⟨ok_X5, List.forall_mem_append.mpr ⟨ok_X5_isQuarter, List.forall_mem_append.mpr ⟨ok_X1_findAround, ok_X1_crossSum⟩⟩⟩⟩⟩
theorem ptX5_area_woX5_area : ∀ w ∈ woX5_area, w ∈ wsX5_area := fun _ h => List.mem_cons_of_mem _ (List.mem_append_left _ h)
theorem ptX5_area_wsX50 : ∀ w ∈ wsX50, w ∈ wsX5_area := fun _ h => List.mem_cons_of_mem _ (List.mem_append_right _ (List.mem_append_left _ h))
theorem ptX5_area_wsX5_isQuarter : ∀ w ∈ wsX5_isQuarter, w ∈ wsX5_area := fun _ h => List.mem_cons_of_mem _ (List.mem_append_right _ (List.mem_append_right _ (List.mem_append_left _ h)))
theorem ptX5_area_wsX1_findAround : ∀ w ∈ wsX1_findAround, w ∈ wsX5_area := fun _ h => List.mem_cons_of_mem _ (List.mem_append_right _ (List.mem_append_right _ (List.mem_append_right _ (List.mem_append_left _ h))))
theorem ptX5_area_wsX1_crossSum : ∀ w ∈ wsX1_crossSum, w ∈ wsX5_area := fun _ h => List.mem_cons_of_mem _ (List.mem_append_right _ (List.mem_append_right _ (List.mem_append_right _ (List.mem_append_right _ h))))
theorem gX5_area_X5_isQuarter : GoodIn wsX5_area (va_wsS RX5 93 yX5_isQuarter wsX5_isQuarter) := goodIn_app (goodIn_sub (fun w h => ptX5_area_woX5_area w ((by decide +kernel : ∀ w ∈ ([Cond.methodLink RX5 93 yX5_isQuarter, Cond.static yX5_isQuarter, Cond.initialized yX5_isQuarter.cls] : List Cond), w ∈ woX5_area) w h)) (by decide +kernel)) (goodIn_sub (fun w h => ptX5_area_wsX5_isQuarter w h) (List.all_eq_true.mpr ok_X5_isQuarter))
theorem gX5_area_X1_findAround_n195 : GoodIn wsX5_area wsX1_findAround := goodIn_sub (fun w h => ptX5_area_wsX1_findAround w h) (List.all_eq_true.mpr ok_X1_findAround)
theorem gX5_area_X1_crossSum_n200 : GoodIn wsX5_area wsX1_crossSum := goodIn_sub (fun w h => ptX5_area_wsX1_crossSum w h) (List.all_eq_true.mpr ok_X1_crossSum)
def woX6_setDefault : List Cond := [Cond.fieldLink RX6 35 "FreeLandModel" "words" "[J", Cond.fieldLink RX6 32 "FreeLandModel" "defaults" "[I"]
def wsX6_setDefault : List Cond := .code yX6_setDefault cX6_setDefault 5 none :: (woX6_setDefault ++ (wsX60))
set_option maxRecDepth 100000 in
set_option maxHeartbeats 4000000 in
theorem lwo_X6_setDefault : ∀ w ∈ Cond.code yX6_setDefault cX6_setDefault 5 none :: woX6_setDefault, w ∈ lw_tbl := lwi_mem [(3, 124), (3, 144), (3, 143)] (by decide +kernel)
theorem oko_X6_setDefault : ∀ w ∈ woX6_setDefault, goodWord w = true := by decide +kernel
theorem lw_X6_setDefault : ∀ w ∈ wsX6_setDefault, w ∈ lw_tbl := List.forall_mem_cons.mpr ⟨lwo_X6_setDefault _ List.mem_cons_self, List.forall_mem_append.mpr ⟨(fun w h => lwo_X6_setDefault w (List.mem_cons_of_mem _ h)), lwi_X6⟩⟩
theorem ok_X6_setDefault : ∀ w ∈ wsX6_setDefault, goodWord w = true := List.forall_mem_cons.mpr ⟨rfl, List.forall_mem_append.mpr ⟨oko_X6_setDefault, ok_X6⟩⟩
theorem ptX6_setDefault_woX6_setDefault : ∀ w ∈ woX6_setDefault, w ∈ wsX6_setDefault := fun _ h => List.mem_cons_of_mem _ (List.mem_append_left _ h)
theorem ptX6_setDefault_wsX60 : ∀ w ∈ wsX60, w ∈ wsX6_setDefault := fun _ h => List.mem_cons_of_mem _ (List.mem_append_right _ h)
def woX6_init : List Cond := [Cond.methodLink RX6 1 objectInit, Cond.instanceMethod objectInit, Cond.code objectInit ⟨#[0xb1]⟩ 1 none, Cond.arrayClass .int, Cond.fieldLink RX6 7 "FreeLandModel" "births" "[I", Cond.fieldLink RX6 13 "FreeLandModel" "citizens" "[I", Cond.fieldLink RX6 16 "FreeLandModel" "mapDay" "I", Cond.fieldLink RX6 20 "FreeLandModel" "text" "[I", Cond.fieldLink RX6 23 "FreeLandModel" "faultPlace" "I", Cond.fieldLink RX6 26 "FreeLandModel" "lawDays" "[I", Cond.fieldLink RX6 29 "FreeLandModel" "lawSets" "[I", Cond.fieldLink RX6 32 "FreeLandModel" "defaults" "[I", Cond.arrayClass .long, Cond.fieldLink RX6 35 "FreeLandModel" "words" "[J", Cond.fieldLink RX6 39 "FreeLandModel" "days" "[I", Cond.fieldLink RX6 42 "FreeLandModel" "sorts" "[I", Cond.fieldLink RX6 45 "FreeLandModel" "people" "[I", Cond.fieldLink RX6 48 "FreeLandModel" "quarters" "[I", Cond.fieldLink RX6 51 "FreeLandModel" "numbers" "[I", Cond.arrayClass .boolean, Cond.fieldLink RX6 54 "FreeLandModel" "struck" "[Z", Cond.fieldLink RX6 58 "FreeLandModel" "known" "[Z", Cond.fieldLink RX6 61 "FreeLandModel" "cornerX" "[I", Cond.fieldLink RX6 64 "FreeLandModel" "cornerY" "[I", Cond.fieldLink RX6 67 "FreeLandModel" "order" "[I", Cond.fieldLink RX6 70 "FreeLandModel" "outcomes" "[I", Cond.fieldLink RX6 73 "FreeLandModel" "isDead" "[Z", Cond.fieldLink RX6 76 "FreeLandModel" "entryLine" "[I", Cond.fieldLink RX6 79 "FreeLandModel" "entryAt" "[I", Cond.fieldLink RX6 82 "FreeLandModel" "holders" "[I", Cond.fieldLink RX6 85 "FreeLandModel" "heldBy" "[I", Cond.fieldLink RX6 88 "FreeLandModel" "entryLaw" "[I", Cond.fieldLink RX6 91 "FreeLandModel" "entryState" "[I", Cond.fieldLink RX6 94 "FreeLandModel" "bindDay" "[I", Cond.fieldLink RX6 97 "FreeLandModel" "preferred" "[I", Cond.fieldLink RX6 100 "FreeLandModel" "preferDay" "[I", Cond.fieldLink RX6 103 "FreeLandModel" "lived" "[Z", Cond.constantLong RX6 106 (6383461), Cond.methodLink RX6 108 yX6_setDefault, Cond.instanceMethod yX6_setDefault, Cond.selects RX6 yX6_setDefault yX6_setDefault, Cond.initialized RX6, Cond.constantLong RX6 112 (1818850917), Cond.constantLong RX6 114 (6775152), Cond.constantLong RX6 116 (123611028744040), Cond.constantLong RX6 118 (1952805485), Cond.constantLong RX6 120 (1768189029), Cond.constantLong RX6 122 (123636629792114), Cond.constantLong RX6 124 (1836020596), Cond.constantLong RX6 126 (1651076708)]
def wsX6_init : List Cond := .code yX6_init cX6_init 2 none :: (woX6_init ++ (wsX60 ++ (wsX6_setDefault)))
set_option maxRecDepth 100000 in
set_option maxHeartbeats 4000000 in
theorem lwo_X6_init : ∀ w ∈ Cond.code yX6_init cX6_init 2 none :: woX6_init, w ∈ lw_tbl := lwi_mem [(3, 118), (3, 119), (1, 19), (1, 20), (1, 40), (3, 134), (3, 135), (3, 136), (3, 137), (3, 139), (3, 141), (3, 142), (3, 143), (1, 217), (3, 144), (3, 146), (3, 147), (3, 148), (3, 149), (3, 150), (1, 122), (3, 151), (3, 152), (3, 153), (3, 154), (3, 155), (3, 157), (3, 158), (3, 160), (3, 161), (3, 162), (3, 163), (3, 164), (3, 165), (3, 166), (3, 167), (3, 168), (3, 170), (3, 120), (3, 121), (3, 123), (0, 48), (1, 7), (3, 125), (3, 126), (3, 127), (3, 128), (3, 129), (3, 130), (3, 131), (3, 132)] (by decide +kernel)
theorem oko_X6_init : ∀ w ∈ woX6_init, goodWord w = true := by decide +kernel
theorem lw_X6_init : ∀ w ∈ wsX6_init, w ∈ lw_tbl := List.forall_mem_cons.mpr ⟨lwo_X6_init _ List.mem_cons_self, List.forall_mem_append.mpr ⟨(fun w h => lwo_X6_init w (List.mem_cons_of_mem _ h)), List.forall_mem_append.mpr ⟨lwi_X6, lw_X6_setDefault⟩⟩⟩
theorem ok_X6_init : ∀ w ∈ wsX6_init, goodWord w = true := List.forall_mem_cons.mpr ⟨rfl, List.forall_mem_append.mpr ⟨oko_X6_init, List.forall_mem_append.mpr ⟨ok_X6, ok_X6_setDefault⟩⟩⟩
theorem ptX6_init_woX6_init : ∀ w ∈ woX6_init, w ∈ wsX6_init := fun _ h => List.mem_cons_of_mem _ (List.mem_append_left _ h)
theorem ptX6_init_wsX60 : ∀ w ∈ wsX60, w ∈ wsX6_init := fun _ h => List.mem_cons_of_mem _ (List.mem_append_right _ (List.mem_append_left _ h))
theorem ptX6_init_wsX6_setDefault : ∀ w ∈ wsX6_setDefault, w ∈ wsX6_init := fun _ h => List.mem_cons_of_mem _ (List.mem_append_right _ (List.mem_append_right _ h))
theorem gX6_init_X6_setDefault : GoodIn wsX6_init (wsV RX6 108 RX6 yX6_setDefault wsX6_setDefault) := goodIn_app (goodIn_sub (fun w h => ptX6_init_woX6_init w ((by decide +kernel : ∀ w ∈ ([Cond.methodLink RX6 108 yX6_setDefault, Cond.instanceMethod yX6_setDefault, Cond.selects RX6 yX6_setDefault yX6_setDefault, Cond.initialized RX6] : List Cond), w ∈ woX6_init) w h)) (by decide +kernel)) (goodIn_sub (fun w h => ptX6_init_wsX6_setDefault w h) (List.all_eq_true.mpr ok_X6_setDefault))
def woX6_in : List Cond := []
def wsX6_in : List Cond := .code yX6_in cX6_in 6 (some .boolean) :: (woX6_in)
set_option maxRecDepth 100000 in
set_option maxHeartbeats 4000000 in
theorem lwo_X6_in : ∀ w ∈ Cond.code yX6_in cX6_in 6 (some .boolean) :: woX6_in, w ∈ lw_tbl := lwi_mem [(4, 34)] (by decide +kernel)
theorem oko_X6_in : ∀ w ∈ woX6_in, goodWord w = true := by decide +kernel
theorem lw_X6_in : ∀ w ∈ wsX6_in, w ∈ lw_tbl := List.forall_mem_cons.mpr ⟨lwo_X6_in _ List.mem_cons_self, (fun w h => lwo_X6_in w (List.mem_cons_of_mem _ h))⟩
theorem ok_X6_in : ∀ w ∈ wsX6_in, goodWord w = true := List.forall_mem_cons.mpr ⟨rfl, oko_X6_in⟩
theorem ptX6_in_woX6_in : ∀ w ∈ woX6_in, w ∈ wsX6_in := fun _ h => List.mem_cons_of_mem _ (h)
def woX6_isDay : List Cond := [Cond.constantLong RX6 128 (20000), Cond.methodLink RX6 130 yX6_in, Cond.static yX6_in, Cond.initialized RX6]
def wsX6_isDay : List Cond := .code yX6_isDay cX6_isDay 1 (some .boolean) :: (woX6_isDay ++ (wsX6_in))
set_option maxRecDepth 100000 in
set_option maxHeartbeats 4000000 in
theorem lwo_X6_isDay : ∀ w ∈ Cond.code yX6_isDay cX6_isDay 1 (some .boolean) :: woX6_isDay, w ∈ lw_tbl := lwi_mem [(4, 52), (4, 31), (4, 32), (4, 33), (1, 7)] (by decide +kernel)
theorem oko_X6_isDay : ∀ w ∈ woX6_isDay, goodWord w = true := by decide +kernel
theorem lw_X6_isDay : ∀ w ∈ wsX6_isDay, w ∈ lw_tbl := List.forall_mem_cons.mpr ⟨lwo_X6_isDay _ List.mem_cons_self, List.forall_mem_append.mpr ⟨(fun w h => lwo_X6_isDay w (List.mem_cons_of_mem _ h)), lw_X6_in⟩⟩
theorem ok_X6_isDay : ∀ w ∈ wsX6_isDay, goodWord w = true := List.forall_mem_cons.mpr ⟨rfl, List.forall_mem_append.mpr ⟨oko_X6_isDay, ok_X6_in⟩⟩
theorem ptX6_isDay_woX6_isDay : ∀ w ∈ woX6_isDay, w ∈ wsX6_isDay := fun _ h => List.mem_cons_of_mem _ (List.mem_append_left _ h)
theorem ptX6_isDay_wsX6_in : ∀ w ∈ wsX6_in, w ∈ wsX6_isDay := fun _ h => List.mem_cons_of_mem _ (List.mem_append_right _ h)
theorem gX6_isDay_X6_in : GoodIn wsX6_isDay (va_wsS RX6 130 yX6_in wsX6_in) := goodIn_app (goodIn_sub (fun w h => ptX6_isDay_woX6_isDay w ((by decide +kernel : ∀ w ∈ ([Cond.methodLink RX6 130 yX6_in, Cond.static yX6_in, Cond.initialized yX6_in.cls] : List Cond), w ∈ woX6_isDay) w h)) (by decide +kernel)) (goodIn_sub (fun w h => ptX6_isDay_wsX6_in w h) (List.all_eq_true.mpr ok_X6_in))
def woX6_isPerson : List Cond := [Cond.fieldLink RX6 134 "FreeLandModel" "persons" "I", Cond.methodLink RX6 130 yX6_in, Cond.static yX6_in, Cond.initialized RX6]
def wsX6_isPerson : List Cond := .code yX6_isPerson cX6_isPerson 2 (some .boolean) :: (woX6_isPerson ++ (wsX60 ++ (wsX6_in)))
set_option maxRecDepth 100000 in
set_option maxHeartbeats 4000000 in
theorem lwo_X6_isPerson : ∀ w ∈ Cond.code yX6_isPerson cX6_isPerson 2 (some .boolean) :: woX6_isPerson, w ∈ lw_tbl := lwi_mem [(4, 98), (3, 133), (4, 32), (4, 33), (1, 7)] (by decide +kernel)
theorem oko_X6_isPerson : ∀ w ∈ woX6_isPerson, goodWord w = true := by decide +kernel
theorem lw_X6_isPerson : ∀ w ∈ wsX6_isPerson, w ∈ lw_tbl := List.forall_mem_cons.mpr ⟨lwo_X6_isPerson _ List.mem_cons_self, List.forall_mem_append.mpr ⟨(fun w h => lwo_X6_isPerson w (List.mem_cons_of_mem _ h)), List.forall_mem_append.mpr ⟨lwi_X6, lw_X6_in⟩⟩⟩
theorem ok_X6_isPerson : ∀ w ∈ wsX6_isPerson, goodWord w = true := List.forall_mem_cons.mpr ⟨rfl, List.forall_mem_append.mpr ⟨oko_X6_isPerson, List.forall_mem_append.mpr ⟨ok_X6, ok_X6_in⟩⟩⟩
theorem ptX6_isPerson_woX6_isPerson : ∀ w ∈ woX6_isPerson, w ∈ wsX6_isPerson := fun _ h => List.mem_cons_of_mem _ (List.mem_append_left _ h)
theorem ptX6_isPerson_wsX60 : ∀ w ∈ wsX60, w ∈ wsX6_isPerson := fun _ h => List.mem_cons_of_mem _ (List.mem_append_right _ (List.mem_append_left _ h))
theorem ptX6_isPerson_wsX6_in : ∀ w ∈ wsX6_in, w ∈ wsX6_isPerson := fun _ h => List.mem_cons_of_mem _ (List.mem_append_right _ (List.mem_append_right _ h))
theorem gX6_isPerson_X6_in : GoodIn wsX6_isPerson (va_wsS RX6 130 yX6_in wsX6_in) := goodIn_app (goodIn_sub (fun w h => ptX6_isPerson_woX6_isPerson w ((by decide +kernel : ∀ w ∈ ([Cond.methodLink RX6 130 yX6_in, Cond.static yX6_in, Cond.initialized yX6_in.cls] : List Cond), w ∈ woX6_isPerson) w h)) (by decide +kernel)) (goodIn_sub (fun w h => ptX6_isPerson_wsX6_in w h) (List.all_eq_true.mpr ok_X6_in))
def woX6_isQuarter : List Cond := [Cond.constantLong RX6 137 (63), Cond.methodLink RX6 130 yX6_in, Cond.static yX6_in, Cond.initialized RX6]
def wsX6_isQuarter : List Cond := .code yX6_isQuarter cX6_isQuarter 1 (some .boolean) :: (woX6_isQuarter ++ (wsX6_in))
set_option maxRecDepth 100000 in
set_option maxHeartbeats 4000000 in
theorem lwo_X6_isQuarter : ∀ w ∈ Cond.code yX6_isQuarter cX6_isQuarter 1 (some .boolean) :: woX6_isQuarter, w ∈ lw_tbl := lwi_mem [(4, 101), (4, 102), (4, 32), (4, 33), (1, 7)] (by decide +kernel)
theorem oko_X6_isQuarter : ∀ w ∈ woX6_isQuarter, goodWord w = true := by decide +kernel
theorem lw_X6_isQuarter : ∀ w ∈ wsX6_isQuarter, w ∈ lw_tbl := List.forall_mem_cons.mpr ⟨lwo_X6_isQuarter _ List.mem_cons_self, List.forall_mem_append.mpr ⟨(fun w h => lwo_X6_isQuarter w (List.mem_cons_of_mem _ h)), lw_X6_in⟩⟩
theorem ok_X6_isQuarter : ∀ w ∈ wsX6_isQuarter, goodWord w = true := List.forall_mem_cons.mpr ⟨rfl, List.forall_mem_append.mpr ⟨oko_X6_isQuarter, ok_X6_in⟩⟩
theorem ptX6_isQuarter_woX6_isQuarter : ∀ w ∈ woX6_isQuarter, w ∈ wsX6_isQuarter := fun _ h => List.mem_cons_of_mem _ (List.mem_append_left _ h)
theorem ptX6_isQuarter_wsX6_in : ∀ w ∈ wsX6_in, w ∈ wsX6_isQuarter := fun _ h => List.mem_cons_of_mem _ (List.mem_append_right _ h)
theorem gX6_isQuarter_X6_in : GoodIn wsX6_isQuarter (va_wsS RX6 130 yX6_in wsX6_in) := goodIn_app (goodIn_sub (fun w h => ptX6_isQuarter_woX6_isQuarter w ((by decide +kernel : ∀ w ∈ ([Cond.methodLink RX6 130 yX6_in, Cond.static yX6_in, Cond.initialized yX6_in.cls] : List Cond), w ∈ woX6_isQuarter) w h)) (by decide +kernel)) (goodIn_sub (fun w h => ptX6_isQuarter_wsX6_in w h) (List.all_eq_true.mpr ok_X6_in))
def woX6_person : List Cond := [Cond.constantLong RX6 139 (-20000), Cond.constantLong RX6 128 (20000), Cond.methodLink RX6 130 yX6_in, Cond.static yX6_in, Cond.initialized RX6, Cond.constantLong RX6 141 (20001), Cond.fieldLink RX6 134 "FreeLandModel" "persons" "I", Cond.fieldLink RX6 7 "FreeLandModel" "births" "[I", Cond.fieldLink RX6 13 "FreeLandModel" "citizens" "[I"]
def wsX6_person : List Cond := .code yX6_person cX6_person 3 (some .int) :: (woX6_person ++ (wsX60 ++ (wsX6_in)))
set_option maxRecDepth 100000 in
set_option maxHeartbeats 4000000 in
theorem lwo_X6_person : ∀ w ∈ Cond.code yX6_person cX6_person 3 (some .int) :: woX6_person, w ∈ lw_tbl := lwi_mem [(4, 29), (4, 30), (4, 31), (4, 32), (4, 33), (1, 7), (4, 35), (3, 133), (3, 134), (3, 135)] (by decide +kernel)
theorem oko_X6_person : ∀ w ∈ woX6_person, goodWord w = true := by decide +kernel
theorem lw_X6_person : ∀ w ∈ wsX6_person, w ∈ lw_tbl := List.forall_mem_cons.mpr ⟨lwo_X6_person _ List.mem_cons_self, List.forall_mem_append.mpr ⟨(fun w h => lwo_X6_person w (List.mem_cons_of_mem _ h)), List.forall_mem_append.mpr ⟨lwi_X6, lw_X6_in⟩⟩⟩
theorem ok_X6_person : ∀ w ∈ wsX6_person, goodWord w = true := List.forall_mem_cons.mpr ⟨rfl, List.forall_mem_append.mpr ⟨oko_X6_person, List.forall_mem_append.mpr ⟨ok_X6, ok_X6_in⟩⟩⟩
theorem ptX6_person_woX6_person : ∀ w ∈ woX6_person, w ∈ wsX6_person := fun _ h => List.mem_cons_of_mem _ (List.mem_append_left _ h)
theorem ptX6_person_wsX60 : ∀ w ∈ wsX60, w ∈ wsX6_person := fun _ h => List.mem_cons_of_mem _ (List.mem_append_right _ (List.mem_append_left _ h))
theorem ptX6_person_wsX6_in : ∀ w ∈ wsX6_in, w ∈ wsX6_person := fun _ h => List.mem_cons_of_mem _ (List.mem_append_right _ (List.mem_append_right _ h))
theorem gX6_person_X6_in : GoodIn wsX6_person (va_wsS RX6 130 yX6_in wsX6_in) := goodIn_app (goodIn_sub (fun w h => ptX6_person_woX6_person w ((by decide +kernel : ∀ w ∈ ([Cond.methodLink RX6 130 yX6_in, Cond.static yX6_in, Cond.initialized yX6_in.cls] : List Cond), w ∈ woX6_person) w h)) (by decide +kernel)) (goodIn_sub (fun w h => ptX6_person_wsX6_in w h) (List.all_eq_true.mpr ok_X6_in))
def woX6_map : List Cond := [Cond.constantLong RX6 141 (20001), Cond.methodLink RX6 130 yX6_in, Cond.static yX6_in, Cond.initialized RX6, Cond.fieldLink RX6 16 "FreeLandModel" "mapDay" "I"]
def wsX6_map : List Cond := .code yX6_map cX6_map 3 (some .int) :: (woX6_map ++ (wsX60 ++ (wsX6_in)))
set_option maxRecDepth 100000 in
set_option maxHeartbeats 4000000 in
theorem lwo_X6_map : ∀ w ∈ Cond.code yX6_map cX6_map 3 (some .int) :: woX6_map, w ∈ lw_tbl := lwi_mem [(4, 39), (4, 35), (4, 32), (4, 33), (1, 7), (3, 136)] (by decide +kernel)
theorem oko_X6_map : ∀ w ∈ woX6_map, goodWord w = true := by decide +kernel
theorem lw_X6_map : ∀ w ∈ wsX6_map, w ∈ lw_tbl := List.forall_mem_cons.mpr ⟨lwo_X6_map _ List.mem_cons_self, List.forall_mem_append.mpr ⟨(fun w h => lwo_X6_map w (List.mem_cons_of_mem _ h)), List.forall_mem_append.mpr ⟨lwi_X6, lw_X6_in⟩⟩⟩
theorem ok_X6_map : ∀ w ∈ wsX6_map, goodWord w = true := List.forall_mem_cons.mpr ⟨rfl, List.forall_mem_append.mpr ⟨oko_X6_map, List.forall_mem_append.mpr ⟨ok_X6, ok_X6_in⟩⟩⟩
theorem ptX6_map_woX6_map : ∀ w ∈ woX6_map, w ∈ wsX6_map := fun _ h => List.mem_cons_of_mem _ (List.mem_append_left _ h)
theorem ptX6_map_wsX60 : ∀ w ∈ wsX60, w ∈ wsX6_map := fun _ h => List.mem_cons_of_mem _ (List.mem_append_right _ (List.mem_append_left _ h))
theorem ptX6_map_wsX6_in : ∀ w ∈ wsX6_in, w ∈ wsX6_map := fun _ h => List.mem_cons_of_mem _ (List.mem_append_right _ (List.mem_append_right _ h))
theorem gX6_map_X6_in : GoodIn wsX6_map (va_wsS RX6 130 yX6_in wsX6_in) := goodIn_app (goodIn_sub (fun w h => ptX6_map_woX6_map w ((by decide +kernel : ∀ w ∈ ([Cond.methodLink RX6 130 yX6_in, Cond.static yX6_in, Cond.initialized yX6_in.cls] : List Cond), w ∈ woX6_map) w h)) (by decide +kernel)) (goodIn_sub (fun w h => ptX6_map_wsX6_in w h) (List.all_eq_true.mpr ok_X6_in))
def woX6_feed : List Cond := [Cond.constantLong RX6 143 (8), Cond.methodLink RX6 130 yX6_in, Cond.static yX6_in, Cond.initialized RX6, Cond.fieldLink RX6 145 "FreeLandModel" "texted" "I", Cond.fieldLink RX6 20 "FreeLandModel" "text" "[I", Cond.constantLong RX6 148 (255)]
def wsX6_feed : List Cond := .code yX6_feed cX6_feed 5 (some .int) :: (woX6_feed ++ (wsX60 ++ (wsX6_in)))
set_option maxRecDepth 100000 in
set_option maxHeartbeats 4000000 in
theorem lwo_X6_feed : ∀ w ∈ Cond.code yX6_feed cX6_feed 5 (some .int) :: woX6_feed, w ∈ lw_tbl := lwi_mem [(4, 43), (4, 44), (4, 32), (4, 33), (1, 7), (3, 138), (3, 137), (4, 45)] (by decide +kernel)
theorem oko_X6_feed : ∀ w ∈ woX6_feed, goodWord w = true := by decide +kernel
theorem lw_X6_feed : ∀ w ∈ wsX6_feed, w ∈ lw_tbl := List.forall_mem_cons.mpr ⟨lwo_X6_feed _ List.mem_cons_self, List.forall_mem_append.mpr ⟨(fun w h => lwo_X6_feed w (List.mem_cons_of_mem _ h)), List.forall_mem_append.mpr ⟨lwi_X6, lw_X6_in⟩⟩⟩
theorem ok_X6_feed : ∀ w ∈ wsX6_feed, goodWord w = true := List.forall_mem_cons.mpr ⟨rfl, List.forall_mem_append.mpr ⟨oko_X6_feed, List.forall_mem_append.mpr ⟨ok_X6, ok_X6_in⟩⟩⟩
theorem ptX6_feed_woX6_feed : ∀ w ∈ woX6_feed, w ∈ wsX6_feed := fun _ h => List.mem_cons_of_mem _ (List.mem_append_left _ h)
theorem ptX6_feed_wsX60 : ∀ w ∈ wsX60, w ∈ wsX6_feed := fun _ h => List.mem_cons_of_mem _ (List.mem_append_right _ (List.mem_append_left _ h))
theorem ptX6_feed_wsX6_in : ∀ w ∈ wsX6_in, w ∈ wsX6_feed := fun _ h => List.mem_cons_of_mem _ (List.mem_append_right _ (List.mem_append_right _ h))
theorem gX6_feed_X6_in : GoodIn wsX6_feed (va_wsS RX6 130 yX6_in wsX6_in) := goodIn_app (goodIn_sub (fun w h => ptX6_feed_woX6_feed w ((by decide +kernel : ∀ w ∈ ([Cond.methodLink RX6 130 yX6_in, Cond.static yX6_in, Cond.initialized yX6_in.cls] : List Cond), w ∈ woX6_feed) w h)) (by decide +kernel)) (goodIn_sub (fun w h => ptX6_feed_wsX6_in w h) (List.all_eq_true.mpr ok_X6_in))
def woX6_fails : List Cond := [Cond.fieldLink RX6 23 "FreeLandModel" "faultPlace" "I"]
def wsX6_fails : List Cond := .code yX6_fails cX6_fails 3 (some .int) :: (woX6_fails ++ (wsX60))
set_option maxRecDepth 100000 in
set_option maxHeartbeats 4000000 in
theorem lwo_X6_fails : ∀ w ∈ Cond.code yX6_fails cX6_fails 3 (some .int) :: woX6_fails, w ∈ lw_tbl := lwi_mem [(4, 64), (3, 139)] (by decide +kernel)
theorem oko_X6_fails : ∀ w ∈ woX6_fails, goodWord w = true := by decide +kernel
theorem lw_X6_fails : ∀ w ∈ wsX6_fails, w ∈ lw_tbl := List.forall_mem_cons.mpr ⟨lwo_X6_fails _ List.mem_cons_self, List.forall_mem_append.mpr ⟨(fun w h => lwo_X6_fails w (List.mem_cons_of_mem _ h)), lwi_X6⟩⟩
theorem ok_X6_fails : ∀ w ∈ wsX6_fails, goodWord w = true := List.forall_mem_cons.mpr ⟨rfl, List.forall_mem_append.mpr ⟨oko_X6_fails, ok_X6⟩⟩
theorem ptX6_fails_woX6_fails : ∀ w ∈ woX6_fails, w ∈ wsX6_fails := fun _ h => List.mem_cons_of_mem _ (List.mem_append_left _ h)
theorem ptX6_fails_wsX60 : ∀ w ∈ wsX60, w ∈ wsX6_fails := fun _ h => List.mem_cons_of_mem _ (List.mem_append_right _ h)
def woX6_wordAt : List Cond := [Cond.fieldLink RX6 20 "FreeLandModel" "text" "[I", Cond.constantLong RX6 150 (97), Cond.constantLong RX6 152 (122), Cond.methodLink RX6 130 yX6_in, Cond.static yX6_in, Cond.initialized RX6, Cond.fieldLink RX6 35 "FreeLandModel" "words" "[J"]
def wsX6_wordAt : List Cond := .code yX6_wordAt cX6_wordAt 8 (some .int) :: (woX6_wordAt ++ (wsX60 ++ (wsX6_in)))
set_option maxRecDepth 100000 in
set_option maxHeartbeats 4000000 in
theorem lwo_X6_wordAt : ∀ w ∈ Cond.code yX6_wordAt cX6_wordAt 8 (some .int) :: woX6_wordAt, w ∈ lw_tbl := lwi_mem [(4, 58), (3, 137), (4, 59), (4, 60), (4, 32), (4, 33), (1, 7), (3, 144)] (by decide +kernel)
theorem oko_X6_wordAt : ∀ w ∈ woX6_wordAt, goodWord w = true := by decide +kernel
theorem lw_X6_wordAt : ∀ w ∈ wsX6_wordAt, w ∈ lw_tbl := List.forall_mem_cons.mpr ⟨lwo_X6_wordAt _ List.mem_cons_self, List.forall_mem_append.mpr ⟨(fun w h => lwo_X6_wordAt w (List.mem_cons_of_mem _ h)), List.forall_mem_append.mpr ⟨lwi_X6, lw_X6_in⟩⟩⟩
theorem ok_X6_wordAt : ∀ w ∈ wsX6_wordAt, goodWord w = true := List.forall_mem_cons.mpr ⟨rfl, List.forall_mem_append.mpr ⟨oko_X6_wordAt, List.forall_mem_append.mpr ⟨ok_X6, ok_X6_in⟩⟩⟩
theorem ptX6_wordAt_woX6_wordAt : ∀ w ∈ woX6_wordAt, w ∈ wsX6_wordAt := fun _ h => List.mem_cons_of_mem _ (List.mem_append_left _ h)
theorem ptX6_wordAt_wsX60 : ∀ w ∈ wsX60, w ∈ wsX6_wordAt := fun _ h => List.mem_cons_of_mem _ (List.mem_append_right _ (List.mem_append_left _ h))
theorem ptX6_wordAt_wsX6_in : ∀ w ∈ wsX6_in, w ∈ wsX6_wordAt := fun _ h => List.mem_cons_of_mem _ (List.mem_append_right _ (List.mem_append_right _ h))
theorem gX6_wordAt_X6_in : GoodIn wsX6_wordAt (va_wsS RX6 130 yX6_in wsX6_in) := goodIn_app (goodIn_sub (fun w h => ptX6_wordAt_woX6_wordAt w ((by decide +kernel : ∀ w ∈ ([Cond.methodLink RX6 130 yX6_in, Cond.static yX6_in, Cond.initialized yX6_in.cls] : List Cond), w ∈ woX6_wordAt) w h)) (by decide +kernel)) (goodIn_sub (fun w h => ptX6_wordAt_wsX6_in w h) (List.all_eq_true.mpr ok_X6_in))
def woX6_law : List Cond := [Cond.methodLink RX6 154 yX6_isDay, Cond.static yX6_isDay, Cond.initialized RX6, Cond.fieldLink RX6 158 "FreeLandModel" "laws" "I", Cond.fieldLink RX6 145 "FreeLandModel" "texted" "I", Cond.fieldLink RX6 23 "FreeLandModel" "faultPlace" "I", Cond.fieldLink RX6 29 "FreeLandModel" "lawSets" "[I", Cond.fieldLink RX6 20 "FreeLandModel" "text" "[I", Cond.constantLong RX6 161 (48), Cond.constantLong RX6 163 (57), Cond.methodLink RX6 130 yX6_in, Cond.static yX6_in, Cond.methodLink RX6 165 yX6_wordAt, Cond.instanceMethod yX6_wordAt, Cond.selects RX6 yX6_wordAt yX6_wordAt, Cond.methodLink RX6 169 yX6_fails, Cond.instanceMethod yX6_fails, Cond.selects RX6 yX6_fails yX6_fails, Cond.fieldLink RX6 26 "FreeLandModel" "lawDays" "[I"]
def wsX6_law : List Cond := .code yX6_law cX6_law 9 (some .int) :: (woX6_law ++ (wsX60 ++ (wsX6_isDay ++ (wsX6_in ++ (wsX6_wordAt ++ (wsX6_fails))))))
set_option maxRecDepth 100000 in
set_option maxHeartbeats 4000000 in
theorem lwo_X6_law : ∀ w ∈ Cond.code yX6_law cX6_law 9 (some .int) :: woX6_law, w ∈ lw_tbl := lwi_mem [(4, 49), (4, 50), (4, 51), (1, 7), (3, 140), (3, 138), (3, 139), (3, 142), (3, 137), (4, 53), (4, 54), (4, 32), (4, 33), (4, 55), (4, 57), (0, 49), (4, 61), (4, 63), (0, 50), (3, 141)] (by decide +kernel)
theorem oko_X6_law : ∀ w ∈ woX6_law, goodWord w = true := by decide +kernel
theorem lw_X6_law : ∀ w ∈ wsX6_law, w ∈ lw_tbl := List.forall_mem_cons.mpr ⟨lwo_X6_law _ List.mem_cons_self, List.forall_mem_append.mpr ⟨(fun w h => lwo_X6_law w (List.mem_cons_of_mem _ h)), List.forall_mem_append.mpr ⟨lwi_X6, List.forall_mem_append.mpr ⟨lw_X6_isDay, List.forall_mem_append.mpr ⟨lw_X6_in, List.forall_mem_append.mpr ⟨lw_X6_wordAt, lw_X6_fails⟩⟩⟩⟩⟩⟩
theorem ok_X6_law : ∀ w ∈ wsX6_law, goodWord w = true := List.forall_mem_cons.mpr ⟨rfl, List.forall_mem_append.mpr ⟨oko_X6_law, List.forall_mem_append.mpr ⟨ok_X6, List.forall_mem_append.mpr ⟨ok_X6_isDay, List.forall_mem_append.mpr ⟨ok_X6_in, List.forall_mem_append.mpr ⟨ok_X6_wordAt, ok_X6_fails⟩⟩⟩⟩⟩⟩
theorem ptX6_law_woX6_law : ∀ w ∈ woX6_law, w ∈ wsX6_law := fun _ h => List.mem_cons_of_mem _ (List.mem_append_left _ h)
theorem ptX6_law_wsX60 : ∀ w ∈ wsX60, w ∈ wsX6_law := fun _ h => List.mem_cons_of_mem _ (List.mem_append_right _ (List.mem_append_left _ h))
theorem ptX6_law_wsX6_isDay : ∀ w ∈ wsX6_isDay, w ∈ wsX6_law := fun _ h => List.mem_cons_of_mem _ (List.mem_append_right _ (List.mem_append_right _ (List.mem_append_left _ h)))
theorem ptX6_law_wsX6_in : ∀ w ∈ wsX6_in, w ∈ wsX6_law := fun _ h => List.mem_cons_of_mem _ (List.mem_append_right _ (List.mem_append_right _ (List.mem_append_right _ (List.mem_append_left _ h))))
theorem ptX6_law_wsX6_wordAt : ∀ w ∈ wsX6_wordAt, w ∈ wsX6_law := fun _ h => List.mem_cons_of_mem _ (List.mem_append_right _ (List.mem_append_right _ (List.mem_append_right _ (List.mem_append_right _ (List.mem_append_left _ h)))))
theorem ptX6_law_wsX6_fails : ∀ w ∈ wsX6_fails, w ∈ wsX6_law := fun _ h => List.mem_cons_of_mem _ (List.mem_append_right _ (List.mem_append_right _ (List.mem_append_right _ (List.mem_append_right _ (List.mem_append_right _ h)))))
theorem gX6_law_X6_isDay : GoodIn wsX6_law (va_wsS RX6 154 yX6_isDay wsX6_isDay) := goodIn_app (goodIn_sub (fun w h => ptX6_law_woX6_law w ((by decide +kernel : ∀ w ∈ ([Cond.methodLink RX6 154 yX6_isDay, Cond.static yX6_isDay, Cond.initialized yX6_isDay.cls] : List Cond), w ∈ woX6_law) w h)) (by decide +kernel)) (goodIn_sub (fun w h => ptX6_law_wsX6_isDay w h) (List.all_eq_true.mpr ok_X6_isDay))
theorem gX6_law_X6_in : GoodIn wsX6_law (va_wsS RX6 130 yX6_in wsX6_in) := goodIn_app (goodIn_sub (fun w h => ptX6_law_woX6_law w ((by decide +kernel : ∀ w ∈ ([Cond.methodLink RX6 130 yX6_in, Cond.static yX6_in, Cond.initialized yX6_in.cls] : List Cond), w ∈ woX6_law) w h)) (by decide +kernel)) (goodIn_sub (fun w h => ptX6_law_wsX6_in w h) (List.all_eq_true.mpr ok_X6_in))
theorem gX6_law_X6_wordAt : GoodIn wsX6_law (wsV RX6 165 RX6 yX6_wordAt wsX6_wordAt) := goodIn_app (goodIn_sub (fun w h => ptX6_law_woX6_law w ((by decide +kernel : ∀ w ∈ ([Cond.methodLink RX6 165 yX6_wordAt, Cond.instanceMethod yX6_wordAt, Cond.selects RX6 yX6_wordAt yX6_wordAt, Cond.initialized RX6] : List Cond), w ∈ woX6_law) w h)) (by decide +kernel)) (goodIn_sub (fun w h => ptX6_law_wsX6_wordAt w h) (List.all_eq_true.mpr ok_X6_wordAt))
theorem gX6_law_X6_fails : GoodIn wsX6_law (wsV RX6 169 RX6 yX6_fails wsX6_fails) := goodIn_app (goodIn_sub (fun w h => ptX6_law_woX6_law w ((by decide +kernel : ∀ w ∈ ([Cond.methodLink RX6 169 yX6_fails, Cond.instanceMethod yX6_fails, Cond.selects RX6 yX6_fails yX6_fails, Cond.initialized RX6] : List Cond), w ∈ woX6_law) w h)) (by decide +kernel)) (goodIn_sub (fun w h => ptX6_law_wsX6_fails w h) (List.all_eq_true.mpr ok_X6_fails))
def woX6_place : List Cond := [Cond.fieldLink RX6 23 "FreeLandModel" "faultPlace" "I"]
def wsX6_place : List Cond := .code yX6_place cX6_place 1 (some .int) :: (woX6_place ++ (wsX60))
set_option maxRecDepth 100000 in
set_option maxHeartbeats 4000000 in
theorem lwo_X6_place : ∀ w ∈ Cond.code yX6_place cX6_place 1 (some .int) :: woX6_place, w ∈ lw_tbl := lwi_mem [(4, 68), (3, 139)] (by decide +kernel)
theorem oko_X6_place : ∀ w ∈ woX6_place, goodWord w = true := by decide +kernel
theorem lw_X6_place : ∀ w ∈ wsX6_place, w ∈ lw_tbl := List.forall_mem_cons.mpr ⟨lwo_X6_place _ List.mem_cons_self, List.forall_mem_append.mpr ⟨(fun w h => lwo_X6_place w (List.mem_cons_of_mem _ h)), lwi_X6⟩⟩
theorem ok_X6_place : ∀ w ∈ wsX6_place, goodWord w = true := List.forall_mem_cons.mpr ⟨rfl, List.forall_mem_append.mpr ⟨oko_X6_place, ok_X6⟩⟩
theorem ptX6_place_woX6_place : ∀ w ∈ woX6_place, w ∈ wsX6_place := fun _ h => List.mem_cons_of_mem _ (List.mem_append_left _ h)
theorem ptX6_place_wsX60 : ∀ w ∈ wsX60, w ∈ wsX6_place := fun _ h => List.mem_cons_of_mem _ (List.mem_append_right _ h)
def woX6_isBefore : List Cond := [Cond.fieldLink RX6 26 "FreeLandModel" "lawDays" "[I"]
def wsX6_isBefore : List Cond := .code yX6_isBefore cX6_isBefore 3 (some .boolean) :: (woX6_isBefore ++ (wsX60))
set_option maxRecDepth 100000 in
set_option maxHeartbeats 4000000 in
theorem lwo_X6_isBefore : ∀ w ∈ Cond.code yX6_isBefore cX6_isBefore 3 (some .boolean) :: woX6_isBefore, w ∈ lw_tbl := lwi_mem [(4, 81), (3, 141)] (by decide +kernel)
theorem oko_X6_isBefore : ∀ w ∈ woX6_isBefore, goodWord w = true := by decide +kernel
theorem lw_X6_isBefore : ∀ w ∈ wsX6_isBefore, w ∈ lw_tbl := List.forall_mem_cons.mpr ⟨lwo_X6_isBefore _ List.mem_cons_self, List.forall_mem_append.mpr ⟨(fun w h => lwo_X6_isBefore w (List.mem_cons_of_mem _ h)), lwi_X6⟩⟩
theorem ok_X6_isBefore : ∀ w ∈ wsX6_isBefore, goodWord w = true := List.forall_mem_cons.mpr ⟨rfl, List.forall_mem_append.mpr ⟨oko_X6_isBefore, ok_X6⟩⟩
theorem ptX6_isBefore_woX6_isBefore : ∀ w ∈ woX6_isBefore, w ∈ wsX6_isBefore := fun _ h => List.mem_cons_of_mem _ (List.mem_append_left _ h)
theorem ptX6_isBefore_wsX60 : ∀ w ∈ wsX60, w ∈ wsX6_isBefore := fun _ h => List.mem_cons_of_mem _ (List.mem_append_right _ h)
def woX6_setBy : List Cond := [Cond.fieldLink RX6 32 "FreeLandModel" "defaults" "[I", Cond.fieldLink RX6 29 "FreeLandModel" "lawSets" "[I", Cond.fieldLink RX6 158 "FreeLandModel" "laws" "I", Cond.methodLink RX6 172 yX6_isBefore, Cond.instanceMethod yX6_isBefore, Cond.selects RX6 yX6_isBefore yX6_isBefore, Cond.initialized RX6]
def wsX6_setBy : List Cond := .code yX6_setBy cX6_setBy 5 (some .int) :: (woX6_setBy ++ (wsX60 ++ (wsX6_isBefore)))
set_option maxRecDepth 100000 in
set_option maxHeartbeats 4000000 in
theorem lwo_X6_setBy : ∀ w ∈ Cond.code yX6_setBy cX6_setBy 5 (some .int) :: woX6_setBy, w ∈ lw_tbl := lwi_mem [(4, 77), (3, 143), (3, 142), (3, 140), (4, 78), (4, 80), (0, 52), (1, 7)] (by decide +kernel)
theorem oko_X6_setBy : ∀ w ∈ woX6_setBy, goodWord w = true := by decide +kernel
theorem lw_X6_setBy : ∀ w ∈ wsX6_setBy, w ∈ lw_tbl := List.forall_mem_cons.mpr ⟨lwo_X6_setBy _ List.mem_cons_self, List.forall_mem_append.mpr ⟨(fun w h => lwo_X6_setBy w (List.mem_cons_of_mem _ h)), List.forall_mem_append.mpr ⟨lwi_X6, lw_X6_isBefore⟩⟩⟩
theorem ok_X6_setBy : ∀ w ∈ wsX6_setBy, goodWord w = true := List.forall_mem_cons.mpr ⟨rfl, List.forall_mem_append.mpr ⟨oko_X6_setBy, List.forall_mem_append.mpr ⟨ok_X6, ok_X6_isBefore⟩⟩⟩
theorem ptX6_setBy_woX6_setBy : ∀ w ∈ woX6_setBy, w ∈ wsX6_setBy := fun _ h => List.mem_cons_of_mem _ (List.mem_append_left _ h)
theorem ptX6_setBy_wsX60 : ∀ w ∈ wsX60, w ∈ wsX6_setBy := fun _ h => List.mem_cons_of_mem _ (List.mem_append_right _ (List.mem_append_left _ h))
theorem ptX6_setBy_wsX6_isBefore : ∀ w ∈ wsX6_isBefore, w ∈ wsX6_setBy := fun _ h => List.mem_cons_of_mem _ (List.mem_append_right _ (List.mem_append_right _ h))
theorem gX6_setBy_X6_isBefore : GoodIn wsX6_setBy (wsV RX6 172 RX6 yX6_isBefore wsX6_isBefore) := goodIn_app (goodIn_sub (fun w h => ptX6_setBy_woX6_setBy w ((by decide +kernel : ∀ w ∈ ([Cond.methodLink RX6 172 yX6_isBefore, Cond.instanceMethod yX6_isBefore, Cond.selects RX6 yX6_isBefore yX6_isBefore, Cond.initialized RX6] : List Cond), w ∈ woX6_setBy) w h)) (by decide +kernel)) (goodIn_sub (fun w h => ptX6_setBy_wsX6_isBefore w h) (List.all_eq_true.mpr ok_X6_isBefore))
def woX6_sets : List Cond := [Cond.fieldLink RX6 158 "FreeLandModel" "laws" "I", Cond.methodLink RX6 130 yX6_in, Cond.static yX6_in, Cond.initialized RX6, Cond.constantLong RX6 176 (9), Cond.methodLink RX6 178 yX6_setBy, Cond.instanceMethod yX6_setBy, Cond.selects RX6 yX6_setBy yX6_setBy, Cond.fieldLink RX6 26 "FreeLandModel" "lawDays" "[I"]
def wsX6_sets : List Cond := .code yX6_sets cX6_sets 3 (some .int) :: (woX6_sets ++ (wsX60 ++ (wsX6_in ++ (wsX6_setBy))))
set_option maxRecDepth 100000 in
set_option maxHeartbeats 4000000 in
theorem lwo_X6_sets : ∀ w ∈ Cond.code yX6_sets cX6_sets 3 (some .int) :: woX6_sets, w ∈ lw_tbl := lwi_mem [(4, 72), (3, 140), (4, 32), (4, 33), (1, 7), (4, 73), (4, 74), (4, 76), (0, 51), (3, 141)] (by decide +kernel)
theorem oko_X6_sets : ∀ w ∈ woX6_sets, goodWord w = true := by decide +kernel
theorem lw_X6_sets : ∀ w ∈ wsX6_sets, w ∈ lw_tbl := List.forall_mem_cons.mpr ⟨lwo_X6_sets _ List.mem_cons_self, List.forall_mem_append.mpr ⟨(fun w h => lwo_X6_sets w (List.mem_cons_of_mem _ h)), List.forall_mem_append.mpr ⟨lwi_X6, List.forall_mem_append.mpr ⟨lw_X6_in, lw_X6_setBy⟩⟩⟩⟩
theorem ok_X6_sets : ∀ w ∈ wsX6_sets, goodWord w = true := List.forall_mem_cons.mpr ⟨rfl, List.forall_mem_append.mpr ⟨oko_X6_sets, List.forall_mem_append.mpr ⟨ok_X6, List.forall_mem_append.mpr ⟨ok_X6_in, ok_X6_setBy⟩⟩⟩⟩
theorem ptX6_sets_woX6_sets : ∀ w ∈ woX6_sets, w ∈ wsX6_sets := fun _ h => List.mem_cons_of_mem _ (List.mem_append_left _ h)
theorem ptX6_sets_wsX60 : ∀ w ∈ wsX60, w ∈ wsX6_sets := fun _ h => List.mem_cons_of_mem _ (List.mem_append_right _ (List.mem_append_left _ h))
theorem ptX6_sets_wsX6_in : ∀ w ∈ wsX6_in, w ∈ wsX6_sets := fun _ h => List.mem_cons_of_mem _ (List.mem_append_right _ (List.mem_append_right _ (List.mem_append_left _ h)))
theorem ptX6_sets_wsX6_setBy : ∀ w ∈ wsX6_setBy, w ∈ wsX6_sets := fun _ h => List.mem_cons_of_mem _ (List.mem_append_right _ (List.mem_append_right _ (List.mem_append_right _ h)))
theorem gX6_sets_X6_in : GoodIn wsX6_sets (va_wsS RX6 130 yX6_in wsX6_in) := goodIn_app (goodIn_sub (fun w h => ptX6_sets_woX6_sets w ((by decide +kernel : ∀ w ∈ ([Cond.methodLink RX6 130 yX6_in, Cond.static yX6_in, Cond.initialized yX6_in.cls] : List Cond), w ∈ woX6_sets) w h)) (by decide +kernel)) (goodIn_sub (fun w h => ptX6_sets_wsX6_in w h) (List.all_eq_true.mpr ok_X6_in))
theorem gX6_sets_X6_setBy : GoodIn wsX6_sets (wsV RX6 178 RX6 yX6_setBy wsX6_setBy) := goodIn_app (goodIn_sub (fun w h => ptX6_sets_woX6_sets w ((by decide +kernel : ∀ w ∈ ([Cond.methodLink RX6 178 yX6_setBy, Cond.instanceMethod yX6_setBy, Cond.selects RX6 yX6_setBy yX6_setBy, Cond.initialized RX6] : List Cond), w ∈ woX6_sets) w h)) (by decide +kernel)) (goodIn_sub (fun w h => ptX6_sets_wsX6_setBy w h) (List.all_eq_true.mpr ok_X6_setBy))
def woX6_lawFor : List Cond := [Cond.fieldLink RX6 158 "FreeLandModel" "laws" "I", Cond.fieldLink RX6 26 "FreeLandModel" "lawDays" "[I", Cond.methodLink RX6 172 yX6_isBefore, Cond.instanceMethod yX6_isBefore, Cond.selects RX6 yX6_isBefore yX6_isBefore, Cond.initialized RX6]
def wsX6_lawFor : List Cond := .code yX6_lawFor cX6_lawFor 4 (some .int) :: (woX6_lawFor ++ (wsX60 ++ (wsX6_isBefore)))
set_option maxRecDepth 100000 in
set_option maxHeartbeats 4000000 in
theorem lwo_X6_lawFor : ∀ w ∈ Cond.code yX6_lawFor cX6_lawFor 4 (some .int) :: woX6_lawFor, w ∈ lw_tbl := lwi_mem [(4, 89), (3, 140), (3, 141), (4, 78), (4, 80), (0, 52), (1, 7)] (by decide +kernel)
theorem oko_X6_lawFor : ∀ w ∈ woX6_lawFor, goodWord w = true := by decide +kernel
theorem lw_X6_lawFor : ∀ w ∈ wsX6_lawFor, w ∈ lw_tbl := List.forall_mem_cons.mpr ⟨lwo_X6_lawFor _ List.mem_cons_self, List.forall_mem_append.mpr ⟨(fun w h => lwo_X6_lawFor w (List.mem_cons_of_mem _ h)), List.forall_mem_append.mpr ⟨lwi_X6, lw_X6_isBefore⟩⟩⟩
theorem ok_X6_lawFor : ∀ w ∈ wsX6_lawFor, goodWord w = true := List.forall_mem_cons.mpr ⟨rfl, List.forall_mem_append.mpr ⟨oko_X6_lawFor, List.forall_mem_append.mpr ⟨ok_X6, ok_X6_isBefore⟩⟩⟩
theorem ptX6_lawFor_woX6_lawFor : ∀ w ∈ woX6_lawFor, w ∈ wsX6_lawFor := fun _ h => List.mem_cons_of_mem _ (List.mem_append_left _ h)
theorem ptX6_lawFor_wsX60 : ∀ w ∈ wsX60, w ∈ wsX6_lawFor := fun _ h => List.mem_cons_of_mem _ (List.mem_append_right _ (List.mem_append_left _ h))
theorem ptX6_lawFor_wsX6_isBefore : ∀ w ∈ wsX6_isBefore, w ∈ wsX6_lawFor := fun _ h => List.mem_cons_of_mem _ (List.mem_append_right _ (List.mem_append_right _ h))
theorem gX6_lawFor_X6_isBefore : GoodIn wsX6_lawFor (wsV RX6 172 RX6 yX6_isBefore wsX6_isBefore) := goodIn_app (goodIn_sub (fun w h => ptX6_lawFor_woX6_lawFor w ((by decide +kernel : ∀ w ∈ ([Cond.methodLink RX6 172 yX6_isBefore, Cond.instanceMethod yX6_isBefore, Cond.selects RX6 yX6_isBefore yX6_isBefore, Cond.initialized RX6] : List Cond), w ∈ woX6_lawFor) w h)) (by decide +kernel)) (goodIn_sub (fun w h => ptX6_lawFor_wsX6_isBefore w h) (List.all_eq_true.mpr ok_X6_isBefore))
def woX6_lawOf : List Cond := [Cond.methodLink RX6 154 yX6_isDay, Cond.static yX6_isDay, Cond.initialized RX6, Cond.methodLink RX6 181 yX6_lawFor, Cond.instanceMethod yX6_lawFor, Cond.selects RX6 yX6_lawFor yX6_lawFor]
def wsX6_lawOf : List Cond := .code yX6_lawOf cX6_lawOf 2 (some .int) :: (woX6_lawOf ++ (wsX6_isDay ++ (wsX6_lawFor)))
set_option maxRecDepth 100000 in
set_option maxHeartbeats 4000000 in
theorem lwo_X6_lawOf : ∀ w ∈ Cond.code yX6_lawOf cX6_lawOf 2 (some .int) :: woX6_lawOf, w ∈ lw_tbl := lwi_mem [(4, 85), (4, 50), (4, 51), (1, 7), (4, 86), (4, 88), (0, 53)] (by decide +kernel)
theorem oko_X6_lawOf : ∀ w ∈ woX6_lawOf, goodWord w = true := by decide +kernel
theorem lw_X6_lawOf : ∀ w ∈ wsX6_lawOf, w ∈ lw_tbl := List.forall_mem_cons.mpr ⟨lwo_X6_lawOf _ List.mem_cons_self, List.forall_mem_append.mpr ⟨(fun w h => lwo_X6_lawOf w (List.mem_cons_of_mem _ h)), List.forall_mem_append.mpr ⟨lw_X6_isDay, lw_X6_lawFor⟩⟩⟩
theorem ok_X6_lawOf : ∀ w ∈ wsX6_lawOf, goodWord w = true := List.forall_mem_cons.mpr ⟨rfl, List.forall_mem_append.mpr ⟨oko_X6_lawOf, List.forall_mem_append.mpr ⟨ok_X6_isDay, ok_X6_lawFor⟩⟩⟩
theorem ptX6_lawOf_woX6_lawOf : ∀ w ∈ woX6_lawOf, w ∈ wsX6_lawOf := fun _ h => List.mem_cons_of_mem _ (List.mem_append_left _ h)
theorem ptX6_lawOf_wsX6_isDay : ∀ w ∈ wsX6_isDay, w ∈ wsX6_lawOf := fun _ h => List.mem_cons_of_mem _ (List.mem_append_right _ (List.mem_append_left _ h))
theorem ptX6_lawOf_wsX6_lawFor : ∀ w ∈ wsX6_lawFor, w ∈ wsX6_lawOf := fun _ h => List.mem_cons_of_mem _ (List.mem_append_right _ (List.mem_append_right _ h))
theorem gX6_lawOf_X6_isDay : GoodIn wsX6_lawOf (va_wsS RX6 154 yX6_isDay wsX6_isDay) := goodIn_app (goodIn_sub (fun w h => ptX6_lawOf_woX6_lawOf w ((by decide +kernel : ∀ w ∈ ([Cond.methodLink RX6 154 yX6_isDay, Cond.static yX6_isDay, Cond.initialized yX6_isDay.cls] : List Cond), w ∈ woX6_lawOf) w h)) (by decide +kernel)) (goodIn_sub (fun w h => ptX6_lawOf_wsX6_isDay w h) (List.all_eq_true.mpr ok_X6_isDay))
theorem gX6_lawOf_X6_lawFor : GoodIn wsX6_lawOf (wsV RX6 181 RX6 yX6_lawFor wsX6_lawFor) := goodIn_app (goodIn_sub (fun w h => ptX6_lawOf_woX6_lawOf w ((by decide +kernel : ∀ w ∈ ([Cond.methodLink RX6 181 yX6_lawFor, Cond.instanceMethod yX6_lawFor, Cond.selects RX6 yX6_lawFor yX6_lawFor, Cond.initialized RX6] : List Cond), w ∈ woX6_lawOf) w h)) (by decide +kernel)) (goodIn_sub (fun w h => ptX6_lawOf_wsX6_lawFor w h) (List.all_eq_true.mpr ok_X6_lawFor))
def woX6_line : List Cond := [Cond.constantLong RX6 185 (6), Cond.methodLink RX6 130 yX6_in, Cond.static yX6_in, Cond.initialized RX6, Cond.methodLink RX6 187 yX6_isPerson, Cond.instanceMethod yX6_isPerson, Cond.selects RX6 yX6_isPerson yX6_isPerson, Cond.methodLink RX6 190 yX6_isQuarter, Cond.static yX6_isQuarter, Cond.methodLink RX6 154 yX6_isDay, Cond.static yX6_isDay, Cond.constantLong RX6 193 (5000), Cond.constantLong RX6 195 (160), Cond.fieldLink RX6 197 "FreeLandModel" "lines" "I", Cond.fieldLink RX6 39 "FreeLandModel" "days" "[I", Cond.fieldLink RX6 42 "FreeLandModel" "sorts" "[I", Cond.fieldLink RX6 45 "FreeLandModel" "people" "[I", Cond.fieldLink RX6 48 "FreeLandModel" "quarters" "[I", Cond.fieldLink RX6 51 "FreeLandModel" "numbers" "[I", Cond.fieldLink RX6 54 "FreeLandModel" "struck" "[Z"]
def wsX6_line : List Cond := .code yX6_line cX6_line 6 (some .int) :: (woX6_line ++ (wsX60 ++ (wsX6_in ++ (wsX6_isPerson ++ (wsX6_isQuarter ++ (wsX6_isDay))))))
set_option maxRecDepth 100000 in
set_option maxHeartbeats 4000000 in
theorem lwo_X6_line : ∀ w ∈ Cond.code yX6_line cX6_line 6 (some .int) :: woX6_line, w ∈ lw_tbl := lwi_mem [(4, 93), (4, 94), (4, 32), (4, 33), (1, 7), (4, 95), (4, 97), (0, 54), (4, 99), (4, 100), (4, 50), (4, 51), (4, 103), (4, 104), (3, 145), (3, 146), (3, 147), (3, 148), (3, 149), (3, 150), (3, 151)] (by decide +kernel)
theorem oko_X6_line : ∀ w ∈ woX6_line, goodWord w = true := by decide +kernel
theorem lw_X6_line : ∀ w ∈ wsX6_line, w ∈ lw_tbl := List.forall_mem_cons.mpr ⟨lwo_X6_line _ List.mem_cons_self, List.forall_mem_append.mpr ⟨(fun w h => lwo_X6_line w (List.mem_cons_of_mem _ h)), List.forall_mem_append.mpr ⟨lwi_X6, List.forall_mem_append.mpr ⟨lw_X6_in, List.forall_mem_append.mpr ⟨lw_X6_isPerson, List.forall_mem_append.mpr ⟨lw_X6_isQuarter, lw_X6_isDay⟩⟩⟩⟩⟩⟩
theorem ok_X6_line : ∀ w ∈ wsX6_line, goodWord w = true := List.forall_mem_cons.mpr ⟨rfl, List.forall_mem_append.mpr ⟨oko_X6_line, List.forall_mem_append.mpr ⟨ok_X6, List.forall_mem_append.mpr ⟨ok_X6_in, List.forall_mem_append.mpr ⟨ok_X6_isPerson, List.forall_mem_append.mpr ⟨ok_X6_isQuarter, ok_X6_isDay⟩⟩⟩⟩⟩⟩
theorem ptX6_line_woX6_line : ∀ w ∈ woX6_line, w ∈ wsX6_line := fun _ h => List.mem_cons_of_mem _ (List.mem_append_left _ h)
theorem ptX6_line_wsX60 : ∀ w ∈ wsX60, w ∈ wsX6_line := fun _ h => List.mem_cons_of_mem _ (List.mem_append_right _ (List.mem_append_left _ h))
theorem ptX6_line_wsX6_in : ∀ w ∈ wsX6_in, w ∈ wsX6_line := fun _ h => List.mem_cons_of_mem _ (List.mem_append_right _ (List.mem_append_right _ (List.mem_append_left _ h)))
theorem ptX6_line_wsX6_isPerson : ∀ w ∈ wsX6_isPerson, w ∈ wsX6_line := fun _ h => List.mem_cons_of_mem _ (List.mem_append_right _ (List.mem_append_right _ (List.mem_append_right _ (List.mem_append_left _ h))))
theorem ptX6_line_wsX6_isQuarter : ∀ w ∈ wsX6_isQuarter, w ∈ wsX6_line := fun _ h => List.mem_cons_of_mem _ (List.mem_append_right _ (List.mem_append_right _ (List.mem_append_right _ (List.mem_append_right _ (List.mem_append_left _ h)))))
theorem ptX6_line_wsX6_isDay : ∀ w ∈ wsX6_isDay, w ∈ wsX6_line := fun _ h => List.mem_cons_of_mem _ (List.mem_append_right _ (List.mem_append_right _ (List.mem_append_right _ (List.mem_append_right _ (List.mem_append_right _ h)))))
theorem gX6_line_X6_in : GoodIn wsX6_line (va_wsS RX6 130 yX6_in wsX6_in) := goodIn_app (goodIn_sub (fun w h => ptX6_line_woX6_line w ((by decide +kernel : ∀ w ∈ ([Cond.methodLink RX6 130 yX6_in, Cond.static yX6_in, Cond.initialized yX6_in.cls] : List Cond), w ∈ woX6_line) w h)) (by decide +kernel)) (goodIn_sub (fun w h => ptX6_line_wsX6_in w h) (List.all_eq_true.mpr ok_X6_in))
theorem gX6_line_X6_isPerson : GoodIn wsX6_line (wsV RX6 187 RX6 yX6_isPerson wsX6_isPerson) := goodIn_app (goodIn_sub (fun w h => ptX6_line_woX6_line w ((by decide +kernel : ∀ w ∈ ([Cond.methodLink RX6 187 yX6_isPerson, Cond.instanceMethod yX6_isPerson, Cond.selects RX6 yX6_isPerson yX6_isPerson, Cond.initialized RX6] : List Cond), w ∈ woX6_line) w h)) (by decide +kernel)) (goodIn_sub (fun w h => ptX6_line_wsX6_isPerson w h) (List.all_eq_true.mpr ok_X6_isPerson))
theorem gX6_line_X6_isQuarter : GoodIn wsX6_line (va_wsS RX6 190 yX6_isQuarter wsX6_isQuarter) := goodIn_app (goodIn_sub (fun w h => ptX6_line_woX6_line w ((by decide +kernel : ∀ w ∈ ([Cond.methodLink RX6 190 yX6_isQuarter, Cond.static yX6_isQuarter, Cond.initialized yX6_isQuarter.cls] : List Cond), w ∈ woX6_line) w h)) (by decide +kernel)) (goodIn_sub (fun w h => ptX6_line_wsX6_isQuarter w h) (List.all_eq_true.mpr ok_X6_isQuarter))
theorem gX6_line_X6_isDay : GoodIn wsX6_line (va_wsS RX6 154 yX6_isDay wsX6_isDay) := goodIn_app (goodIn_sub (fun w h => ptX6_line_woX6_line w ((by decide +kernel : ∀ w ∈ ([Cond.methodLink RX6 154 yX6_isDay, Cond.static yX6_isDay, Cond.initialized yX6_isDay.cls] : List Cond), w ∈ woX6_line) w h)) (by decide +kernel)) (goodIn_sub (fun w h => ptX6_line_wsX6_isDay w h) (List.all_eq_true.mpr ok_X6_isDay))
def woX6_isLine : List Cond := [Cond.fieldLink RX6 197 "FreeLandModel" "lines" "I", Cond.methodLink RX6 130 yX6_in, Cond.static yX6_in, Cond.initialized RX6]
def wsX6_isLine : List Cond := .code yX6_isLine cX6_isLine 2 (some .boolean) :: (woX6_isLine ++ (wsX60 ++ (wsX6_in)))
set_option maxRecDepth 100000 in
set_option maxHeartbeats 4000000 in
theorem lwo_X6_isLine : ∀ w ∈ Cond.code yX6_isLine cX6_isLine 2 (some .boolean) :: woX6_isLine, w ∈ lw_tbl := lwi_mem [(4, 112), (3, 145), (4, 32), (4, 33), (1, 7)] (by decide +kernel)
theorem oko_X6_isLine : ∀ w ∈ woX6_isLine, goodWord w = true := by decide +kernel
theorem lw_X6_isLine : ∀ w ∈ wsX6_isLine, w ∈ lw_tbl := List.forall_mem_cons.mpr ⟨lwo_X6_isLine _ List.mem_cons_self, List.forall_mem_append.mpr ⟨(fun w h => lwo_X6_isLine w (List.mem_cons_of_mem _ h)), List.forall_mem_append.mpr ⟨lwi_X6, lw_X6_in⟩⟩⟩
theorem ok_X6_isLine : ∀ w ∈ wsX6_isLine, goodWord w = true := List.forall_mem_cons.mpr ⟨rfl, List.forall_mem_append.mpr ⟨oko_X6_isLine, List.forall_mem_append.mpr ⟨ok_X6, ok_X6_in⟩⟩⟩
theorem ptX6_isLine_woX6_isLine : ∀ w ∈ woX6_isLine, w ∈ wsX6_isLine := fun _ h => List.mem_cons_of_mem _ (List.mem_append_left _ h)
theorem ptX6_isLine_wsX60 : ∀ w ∈ wsX60, w ∈ wsX6_isLine := fun _ h => List.mem_cons_of_mem _ (List.mem_append_right _ (List.mem_append_left _ h))
theorem ptX6_isLine_wsX6_in : ∀ w ∈ wsX6_in, w ∈ wsX6_isLine := fun _ h => List.mem_cons_of_mem _ (List.mem_append_right _ (List.mem_append_right _ h))
theorem gX6_isLine_X6_in : GoodIn wsX6_isLine (va_wsS RX6 130 yX6_in wsX6_in) := goodIn_app (goodIn_sub (fun w h => ptX6_isLine_woX6_isLine w ((by decide +kernel : ∀ w ∈ ([Cond.methodLink RX6 130 yX6_in, Cond.static yX6_in, Cond.initialized yX6_in.cls] : List Cond), w ∈ woX6_isLine) w h)) (by decide +kernel)) (goodIn_sub (fun w h => ptX6_isLine_wsX6_in w h) (List.all_eq_true.mpr ok_X6_in))
def woX6_strike : List Cond := [Cond.methodLink RX6 200 yX6_isLine, Cond.instanceMethod yX6_isLine, Cond.selects RX6 yX6_isLine yX6_isLine, Cond.initialized RX6, Cond.fieldLink RX6 54 "FreeLandModel" "struck" "[Z"]
def wsX6_strike : List Cond := .code yX6_strike cX6_strike 4 (some .int) :: (woX6_strike ++ (wsX60 ++ (wsX6_isLine)))
set_option maxRecDepth 100000 in
set_option maxHeartbeats 4000000 in
theorem lwo_X6_strike : ∀ w ∈ Cond.code yX6_strike cX6_strike 4 (some .int) :: woX6_strike, w ∈ lw_tbl := lwi_mem [(4, 108), (4, 109), (4, 111), (0, 55), (1, 7), (3, 151)] (by decide +kernel)
theorem oko_X6_strike : ∀ w ∈ woX6_strike, goodWord w = true := by decide +kernel
theorem lw_X6_strike : ∀ w ∈ wsX6_strike, w ∈ lw_tbl := List.forall_mem_cons.mpr ⟨lwo_X6_strike _ List.mem_cons_self, List.forall_mem_append.mpr ⟨(fun w h => lwo_X6_strike w (List.mem_cons_of_mem _ h)), List.forall_mem_append.mpr ⟨lwi_X6, lw_X6_isLine⟩⟩⟩
theorem ok_X6_strike : ∀ w ∈ wsX6_strike, goodWord w = true := List.forall_mem_cons.mpr ⟨rfl, List.forall_mem_append.mpr ⟨oko_X6_strike, List.forall_mem_append.mpr ⟨ok_X6, ok_X6_isLine⟩⟩⟩
theorem ptX6_strike_woX6_strike : ∀ w ∈ woX6_strike, w ∈ wsX6_strike := fun _ h => List.mem_cons_of_mem _ (List.mem_append_left _ h)
theorem ptX6_strike_wsX60 : ∀ w ∈ wsX60, w ∈ wsX6_strike := fun _ h => List.mem_cons_of_mem _ (List.mem_append_right _ (List.mem_append_left _ h))
theorem ptX6_strike_wsX6_isLine : ∀ w ∈ wsX6_isLine, w ∈ wsX6_strike := fun _ h => List.mem_cons_of_mem _ (List.mem_append_right _ (List.mem_append_right _ h))
theorem gX6_strike_X6_isLine : GoodIn wsX6_strike (wsV RX6 200 RX6 yX6_isLine wsX6_isLine) := goodIn_app (goodIn_sub (fun w h => ptX6_strike_woX6_strike w ((by decide +kernel : ∀ w ∈ ([Cond.methodLink RX6 200 yX6_isLine, Cond.instanceMethod yX6_isLine, Cond.selects RX6 yX6_isLine yX6_isLine, Cond.initialized RX6] : List Cond), w ∈ woX6_strike) w h)) (by decide +kernel)) (goodIn_sub (fun w h => ptX6_strike_wsX6_isLine w h) (List.all_eq_true.mpr ok_X6_isLine))
def woX6_told : List Cond := [Cond.methodLink RX6 200 yX6_isLine, Cond.instanceMethod yX6_isLine, Cond.selects RX6 yX6_isLine yX6_isLine, Cond.initialized RX6, Cond.fieldLink RX6 39 "FreeLandModel" "days" "[I", Cond.fieldLink RX6 42 "FreeLandModel" "sorts" "[I", Cond.fieldLink RX6 45 "FreeLandModel" "people" "[I", Cond.fieldLink RX6 48 "FreeLandModel" "quarters" "[I", Cond.fieldLink RX6 51 "FreeLandModel" "numbers" "[I", Cond.fieldLink RX6 54 "FreeLandModel" "struck" "[Z"]
def wsX6_told : List Cond := .code yX6_told cX6_told 3 (some .int) :: (woX6_told ++ (wsX60 ++ (wsX6_isLine)))
set_option maxRecDepth 100000 in
set_option maxHeartbeats 4000000 in
theorem lwo_X6_told : ∀ w ∈ Cond.code yX6_told cX6_told 3 (some .int) :: woX6_told, w ∈ lw_tbl := lwi_mem [(4, 116), (4, 109), (4, 111), (0, 55), (1, 7), (3, 146), (3, 147), (3, 148), (3, 149), (3, 150), (3, 151)] (by decide +kernel)
theorem oko_X6_told : ∀ w ∈ woX6_told, goodWord w = true := by decide +kernel
theorem lw_X6_told : ∀ w ∈ wsX6_told, w ∈ lw_tbl := List.forall_mem_cons.mpr ⟨lwo_X6_told _ List.mem_cons_self, List.forall_mem_append.mpr ⟨(fun w h => lwo_X6_told w (List.mem_cons_of_mem _ h)), List.forall_mem_append.mpr ⟨lwi_X6, lw_X6_isLine⟩⟩⟩
theorem ok_X6_told : ∀ w ∈ wsX6_told, goodWord w = true := List.forall_mem_cons.mpr ⟨rfl, List.forall_mem_append.mpr ⟨oko_X6_told, List.forall_mem_append.mpr ⟨ok_X6, ok_X6_isLine⟩⟩⟩
theorem ptX6_told_woX6_told : ∀ w ∈ woX6_told, w ∈ wsX6_told := fun _ h => List.mem_cons_of_mem _ (List.mem_append_left _ h)
theorem ptX6_told_wsX60 : ∀ w ∈ wsX60, w ∈ wsX6_told := fun _ h => List.mem_cons_of_mem _ (List.mem_append_right _ (List.mem_append_left _ h))
theorem ptX6_told_wsX6_isLine : ∀ w ∈ wsX6_isLine, w ∈ wsX6_told := fun _ h => List.mem_cons_of_mem _ (List.mem_append_right _ (List.mem_append_right _ h))
theorem gX6_told_X6_isLine : GoodIn wsX6_told (wsV RX6 200 RX6 yX6_isLine wsX6_isLine) := goodIn_app (goodIn_sub (fun w h => ptX6_told_woX6_told w ((by decide +kernel : ∀ w ∈ ([Cond.methodLink RX6 200 yX6_isLine, Cond.instanceMethod yX6_isLine, Cond.selects RX6 yX6_isLine yX6_isLine, Cond.initialized RX6] : List Cond), w ∈ woX6_told) w h)) (by decide +kernel)) (goodIn_sub (fun w h => ptX6_told_wsX6_isLine w h) (List.all_eq_true.mpr ok_X6_isLine))
def woX6_putInOrder : List Cond := [Cond.fieldLink RX6 203 "FreeLandModel" "orderMany" "I", Cond.fieldLink RX6 54 "FreeLandModel" "struck" "[Z", Cond.fieldLink RX6 39 "FreeLandModel" "days" "[I", Cond.fieldLink RX6 67 "FreeLandModel" "order" "[I"]
def wsX6_putInOrder : List Cond := .code yX6_putInOrder cX6_putInOrder 5 none :: (woX6_putInOrder ++ (wsX60))
set_option maxRecDepth 100000 in
set_option maxHeartbeats 4000000 in
theorem lwo_X6_putInOrder : ∀ w ∈ Cond.code yX6_putInOrder cX6_putInOrder 5 none :: woX6_putInOrder, w ∈ lw_tbl := lwi_mem [(4, 137), (3, 156), (3, 151), (3, 146), (3, 155)] (by decide +kernel)
theorem oko_X6_putInOrder : ∀ w ∈ woX6_putInOrder, goodWord w = true := by decide +kernel
theorem lw_X6_putInOrder : ∀ w ∈ wsX6_putInOrder, w ∈ lw_tbl := List.forall_mem_cons.mpr ⟨lwo_X6_putInOrder _ List.mem_cons_self, List.forall_mem_append.mpr ⟨(fun w h => lwo_X6_putInOrder w (List.mem_cons_of_mem _ h)), lwi_X6⟩⟩
theorem ok_X6_putInOrder : ∀ w ∈ wsX6_putInOrder, goodWord w = true := List.forall_mem_cons.mpr ⟨rfl, List.forall_mem_append.mpr ⟨oko_X6_putInOrder, ok_X6⟩⟩
theorem ptX6_putInOrder_woX6_putInOrder : ∀ w ∈ woX6_putInOrder, w ∈ wsX6_putInOrder := fun _ h => List.mem_cons_of_mem _ (List.mem_append_left _ h)
theorem ptX6_putInOrder_wsX60 : ∀ w ∈ wsX60, w ∈ wsX6_putInOrder := fun _ h => List.mem_cons_of_mem _ (List.mem_append_right _ h)
def woX6_entryOf : List Cond := [Cond.fieldLink RX6 206 "FreeLandModel" "entries" "I", Cond.fieldLink RX6 91 "FreeLandModel" "entryState" "[I", Cond.fieldLink RX6 48 "FreeLandModel" "quarters" "[I", Cond.fieldLink RX6 76 "FreeLandModel" "entryLine" "[I"]
def wsX6_entryOf : List Cond := .code yX6_entryOf cX6_entryOf 4 (some .int) :: (woX6_entryOf ++ (wsX60))
set_option maxRecDepth 100000 in
set_option maxHeartbeats 4000000 in
theorem lwo_X6_entryOf : ∀ w ∈ Cond.code yX6_entryOf cX6_entryOf 4 (some .int) :: woX6_entryOf, w ∈ lw_tbl := lwi_mem [(4, 152), (3, 159), (3, 165), (3, 149), (3, 160)] (by decide +kernel)
theorem oko_X6_entryOf : ∀ w ∈ woX6_entryOf, goodWord w = true := by decide +kernel
theorem lw_X6_entryOf : ∀ w ∈ wsX6_entryOf, w ∈ lw_tbl := List.forall_mem_cons.mpr ⟨lwo_X6_entryOf _ List.mem_cons_self, List.forall_mem_append.mpr ⟨(fun w h => lwo_X6_entryOf w (List.mem_cons_of_mem _ h)), lwi_X6⟩⟩
theorem ok_X6_entryOf : ∀ w ∈ wsX6_entryOf, goodWord w = true := List.forall_mem_cons.mpr ⟨rfl, List.forall_mem_append.mpr ⟨oko_X6_entryOf, ok_X6⟩⟩
theorem ptX6_entryOf_woX6_entryOf : ∀ w ∈ woX6_entryOf, w ∈ wsX6_entryOf := fun _ h => List.mem_cons_of_mem _ (List.mem_append_left _ h)
theorem ptX6_entryOf_wsX60 : ∀ w ∈ wsX60, w ∈ wsX6_entryOf := fun _ h => List.mem_cons_of_mem _ (List.mem_append_right _ h)
def woX6_openOf : List Cond := [Cond.methodLink RX6 209 yX6_entryOf, Cond.instanceMethod yX6_entryOf, Cond.selects RX6 yX6_entryOf yX6_entryOf, Cond.initialized RX6, Cond.fieldLink RX6 91 "FreeLandModel" "entryState" "[I"]
def wsX6_openOf : List Cond := .code yX6_openOf cX6_openOf 3 (some .int) :: (woX6_openOf ++ (wsX60 ++ (wsX6_entryOf)))
set_option maxRecDepth 100000 in
set_option maxHeartbeats 4000000 in
theorem lwo_X6_openOf : ∀ w ∈ Cond.code yX6_openOf cX6_openOf 3 (some .int) :: woX6_openOf, w ∈ lw_tbl := lwi_mem [(4, 168), (4, 149), (4, 151), (0, 62), (1, 7), (3, 165)] (by decide +kernel)
theorem oko_X6_openOf : ∀ w ∈ woX6_openOf, goodWord w = true := by decide +kernel
theorem lw_X6_openOf : ∀ w ∈ wsX6_openOf, w ∈ lw_tbl := List.forall_mem_cons.mpr ⟨lwo_X6_openOf _ List.mem_cons_self, List.forall_mem_append.mpr ⟨(fun w h => lwo_X6_openOf w (List.mem_cons_of_mem _ h)), List.forall_mem_append.mpr ⟨lwi_X6, lw_X6_entryOf⟩⟩⟩
theorem ok_X6_openOf : ∀ w ∈ wsX6_openOf, goodWord w = true := List.forall_mem_cons.mpr ⟨rfl, List.forall_mem_append.mpr ⟨oko_X6_openOf, List.forall_mem_append.mpr ⟨ok_X6, ok_X6_entryOf⟩⟩⟩
theorem ptX6_openOf_woX6_openOf : ∀ w ∈ woX6_openOf, w ∈ wsX6_openOf := fun _ h => List.mem_cons_of_mem _ (List.mem_append_left _ h)
theorem ptX6_openOf_wsX60 : ∀ w ∈ wsX60, w ∈ wsX6_openOf := fun _ h => List.mem_cons_of_mem _ (List.mem_append_right _ (List.mem_append_left _ h))
theorem ptX6_openOf_wsX6_entryOf : ∀ w ∈ wsX6_entryOf, w ∈ wsX6_openOf := fun _ h => List.mem_cons_of_mem _ (List.mem_append_right _ (List.mem_append_right _ h))
theorem gX6_openOf_X6_entryOf : GoodIn wsX6_openOf (wsV RX6 209 RX6 yX6_entryOf wsX6_entryOf) := goodIn_app (goodIn_sub (fun w h => ptX6_openOf_woX6_openOf w ((by decide +kernel : ∀ w ∈ ([Cond.methodLink RX6 209 yX6_entryOf, Cond.instanceMethod yX6_entryOf, Cond.selects RX6 yX6_entryOf yX6_entryOf, Cond.initialized RX6] : List Cond), w ∈ woX6_openOf) w h)) (by decide +kernel)) (goodIn_sub (fun w h => ptX6_openOf_wsX6_entryOf w h) (List.all_eq_true.mpr ok_X6_entryOf))
def woX6_markLived : List Cond := [Cond.fieldLink RX6 103 "FreeLandModel" "lived" "[Z", Cond.fieldLink RX6 212 "FreeLandModel" "worked" "I", Cond.fieldLink RX6 67 "FreeLandModel" "order" "[I", Cond.fieldLink RX6 42 "FreeLandModel" "sorts" "[I", Cond.fieldLink RX6 70 "FreeLandModel" "outcomes" "[I", Cond.fieldLink RX6 48 "FreeLandModel" "quarters" "[I", Cond.fieldLink RX6 76 "FreeLandModel" "entryLine" "[I", Cond.fieldLink RX6 85 "FreeLandModel" "heldBy" "[I", Cond.fieldLink RX6 45 "FreeLandModel" "people" "[I", Cond.fieldLink RX6 39 "FreeLandModel" "days" "[I", Cond.fieldLink RX6 51 "FreeLandModel" "numbers" "[I"]
def wsX6_markLived : List Cond := .code yX6_markLived cX6_markLived 6 none :: (woX6_markLived ++ (wsX60))
set_option maxRecDepth 100000 in
set_option maxHeartbeats 4000000 in
theorem lwo_X6_markLived : ∀ w ∈ Cond.code yX6_markLived cX6_markLived 6 none :: woX6_markLived, w ∈ lw_tbl := lwi_mem [(4, 176), (3, 170), (3, 169), (3, 155), (3, 147), (3, 157), (3, 149), (3, 160), (3, 163), (3, 148), (3, 146), (3, 150)] (by decide +kernel)
theorem oko_X6_markLived : ∀ w ∈ woX6_markLived, goodWord w = true := by decide +kernel
theorem lw_X6_markLived : ∀ w ∈ wsX6_markLived, w ∈ lw_tbl := List.forall_mem_cons.mpr ⟨lwo_X6_markLived _ List.mem_cons_self, List.forall_mem_append.mpr ⟨(fun w h => lwo_X6_markLived w (List.mem_cons_of_mem _ h)), lwi_X6⟩⟩
theorem ok_X6_markLived : ∀ w ∈ wsX6_markLived, goodWord w = true := List.forall_mem_cons.mpr ⟨rfl, List.forall_mem_append.mpr ⟨oko_X6_markLived, ok_X6⟩⟩
theorem ptX6_markLived_woX6_markLived : ∀ w ∈ woX6_markLived, w ∈ wsX6_markLived := fun _ h => List.mem_cons_of_mem _ (List.mem_append_left _ h)
theorem ptX6_markLived_wsX60 : ∀ w ∈ wsX60, w ∈ wsX6_markLived := fun _ h => List.mem_cons_of_mem _ (List.mem_append_right _ h)
def woX6_livedDays : List Cond := [Cond.fieldLink RX6 103 "FreeLandModel" "lived" "[Z"]
def wsX6_livedDays : List Cond := .code yX6_livedDays cX6_livedDays 5 (some .int) :: (woX6_livedDays ++ (wsX60))
set_option maxRecDepth 100000 in
set_option maxHeartbeats 4000000 in
theorem lwo_X6_livedDays : ∀ w ∈ Cond.code yX6_livedDays cX6_livedDays 5 (some .int) :: woX6_livedDays, w ∈ lw_tbl := lwi_mem [(4, 180), (3, 170)] (by decide +kernel)
theorem oko_X6_livedDays : ∀ w ∈ woX6_livedDays, goodWord w = true := by decide +kernel
theorem lw_X6_livedDays : ∀ w ∈ wsX6_livedDays, w ∈ lw_tbl := List.forall_mem_cons.mpr ⟨lwo_X6_livedDays _ List.mem_cons_self, List.forall_mem_append.mpr ⟨(fun w h => lwo_X6_livedDays w (List.mem_cons_of_mem _ h)), lwi_X6⟩⟩
theorem ok_X6_livedDays : ∀ w ∈ wsX6_livedDays, goodWord w = true := List.forall_mem_cons.mpr ⟨rfl, List.forall_mem_append.mpr ⟨oko_X6_livedDays, ok_X6⟩⟩
theorem ptX6_livedDays_woX6_livedDays : ∀ w ∈ woX6_livedDays, w ∈ wsX6_livedDays := fun _ h => List.mem_cons_of_mem _ (List.mem_append_left _ h)
theorem ptX6_livedDays_wsX60 : ∀ w ∈ wsX60, w ∈ wsX6_livedDays := fun _ h => List.mem_cons_of_mem _ (List.mem_append_right _ h)
def woX6_longestGap : List Cond := [Cond.fieldLink RX6 103 "FreeLandModel" "lived" "[Z"]
def wsX6_longestGap : List Cond := .code yX6_longestGap cX6_longestGap 6 (some .int) :: (woX6_longestGap ++ (wsX60))
set_option maxRecDepth 100000 in
set_option maxHeartbeats 4000000 in
theorem lwo_X6_longestGap : ∀ w ∈ Cond.code yX6_longestGap cX6_longestGap 6 (some .int) :: woX6_longestGap, w ∈ lw_tbl := lwi_mem [(4, 188), (3, 170)] (by decide +kernel)
theorem oko_X6_longestGap : ∀ w ∈ woX6_longestGap, goodWord w = true := by decide +kernel
theorem lw_X6_longestGap : ∀ w ∈ wsX6_longestGap, w ∈ lw_tbl := List.forall_mem_cons.mpr ⟨lwo_X6_longestGap _ List.mem_cons_self, List.forall_mem_append.mpr ⟨(fun w h => lwo_X6_longestGap w (List.mem_cons_of_mem _ h)), lwi_X6⟩⟩
theorem ok_X6_longestGap : ∀ w ∈ wsX6_longestGap, goodWord w = true := List.forall_mem_cons.mpr ⟨rfl, List.forall_mem_append.mpr ⟨oko_X6_longestGap, ok_X6⟩⟩
theorem ptX6_longestGap_woX6_longestGap : ∀ w ∈ woX6_longestGap, w ∈ wsX6_longestGap := fun _ h => List.mem_cons_of_mem _ (List.mem_append_left _ h)
theorem ptX6_longestGap_wsX60 : ∀ w ∈ wsX60, w ∈ wsX6_longestGap := fun _ h => List.mem_cons_of_mem _ (List.mem_append_right _ h)
def woX6_acres : List Cond := [Cond.fieldLink RX6 79 "FreeLandModel" "entryAt" "[I", Cond.fieldLink RX6 212 "FreeLandModel" "worked" "I", Cond.fieldLink RX6 67 "FreeLandModel" "order" "[I", Cond.fieldLink RX6 42 "FreeLandModel" "sorts" "[I", Cond.fieldLink RX6 70 "FreeLandModel" "outcomes" "[I", Cond.fieldLink RX6 48 "FreeLandModel" "quarters" "[I", Cond.fieldLink RX6 76 "FreeLandModel" "entryLine" "[I", Cond.fieldLink RX6 85 "FreeLandModel" "heldBy" "[I", Cond.fieldLink RX6 45 "FreeLandModel" "people" "[I", Cond.fieldLink RX6 51 "FreeLandModel" "numbers" "[I"]
def wsX6_acres : List Cond := .code yX6_acres cX6_acres 6 (some .int) :: (woX6_acres ++ (wsX60))
set_option maxRecDepth 100000 in
set_option maxHeartbeats 4000000 in
theorem lwo_X6_acres : ∀ w ∈ Cond.code yX6_acres cX6_acres 6 (some .int) :: woX6_acres, w ∈ lw_tbl := lwi_mem [(4, 192), (3, 161), (3, 169), (3, 155), (3, 147), (3, 157), (3, 149), (3, 160), (3, 163), (3, 148), (3, 150)] (by decide +kernel)
theorem oko_X6_acres : ∀ w ∈ woX6_acres, goodWord w = true := by decide +kernel
theorem lw_X6_acres : ∀ w ∈ wsX6_acres, w ∈ lw_tbl := List.forall_mem_cons.mpr ⟨lwo_X6_acres _ List.mem_cons_self, List.forall_mem_append.mpr ⟨(fun w h => lwo_X6_acres w (List.mem_cons_of_mem _ h)), lwi_X6⟩⟩
theorem ok_X6_acres : ∀ w ∈ wsX6_acres, goodWord w = true := List.forall_mem_cons.mpr ⟨rfl, List.forall_mem_append.mpr ⟨oko_X6_acres, ok_X6⟩⟩
theorem ptX6_acres_woX6_acres : ∀ w ∈ woX6_acres, w ∈ wsX6_acres := fun _ h => List.mem_cons_of_mem _ (List.mem_append_left _ h)
theorem ptX6_acres_wsX60 : ∀ w ∈ wsX60, w ∈ wsX6_acres := fun _ h => List.mem_cons_of_mem _ (List.mem_append_right _ h)
def woX6_isOdd : List Cond := []
def wsX6_isOdd : List Cond := .code yX6_isOdd cX6_isOdd 1 (some .boolean) :: (woX6_isOdd)
set_option maxRecDepth 100000 in
set_option maxHeartbeats 4000000 in
theorem lwo_X6_isOdd : ∀ w ∈ Cond.code yX6_isOdd cX6_isOdd 1 (some .boolean) :: woX6_isOdd, w ∈ lw_tbl := lwi_mem [(4, 148)] (by decide +kernel)
theorem oko_X6_isOdd : ∀ w ∈ woX6_isOdd, goodWord w = true := by decide +kernel
theorem lw_X6_isOdd : ∀ w ∈ wsX6_isOdd, w ∈ lw_tbl := List.forall_mem_cons.mpr ⟨lwo_X6_isOdd _ List.mem_cons_self, (fun w h => lwo_X6_isOdd w (List.mem_cons_of_mem _ h))⟩
theorem ok_X6_isOdd : ∀ w ∈ wsX6_isOdd, goodWord w = true := List.forall_mem_cons.mpr ⟨rfl, oko_X6_isOdd⟩
theorem ptX6_isOdd_woX6_isOdd : ∀ w ∈ woX6_isOdd, w ∈ wsX6_isOdd := fun _ h => List.mem_cons_of_mem _ (h)
def woX6_preferredOn : List Cond := [Cond.fieldLink RX6 97 "FreeLandModel" "preferred" "[I", Cond.fieldLink RX6 100 "FreeLandModel" "preferDay" "[I"]
def wsX6_preferredOn : List Cond := .code yX6_preferredOn cX6_preferredOn 3 (some .int) :: (woX6_preferredOn ++ (wsX60))
set_option maxRecDepth 100000 in
set_option maxHeartbeats 4000000 in
theorem lwo_X6_preferredOn : ∀ w ∈ Cond.code yX6_preferredOn cX6_preferredOn 3 (some .int) :: woX6_preferredOn, w ∈ lw_tbl := lwi_mem [(4, 156), (3, 167), (3, 168)] (by decide +kernel)
theorem oko_X6_preferredOn : ∀ w ∈ woX6_preferredOn, goodWord w = true := by decide +kernel
theorem lw_X6_preferredOn : ∀ w ∈ wsX6_preferredOn, w ∈ lw_tbl := List.forall_mem_cons.mpr ⟨lwo_X6_preferredOn _ List.mem_cons_self, List.forall_mem_append.mpr ⟨(fun w h => lwo_X6_preferredOn w (List.mem_cons_of_mem _ h)), lwi_X6⟩⟩
theorem ok_X6_preferredOn : ∀ w ∈ wsX6_preferredOn, goodWord w = true := List.forall_mem_cons.mpr ⟨rfl, List.forall_mem_append.mpr ⟨oko_X6_preferredOn, ok_X6⟩⟩
theorem ptX6_preferredOn_woX6_preferredOn : ∀ w ∈ woX6_preferredOn, w ∈ wsX6_preferredOn := fun _ h => List.mem_cons_of_mem _ (List.mem_append_left _ h)
theorem ptX6_preferredOn_wsX60 : ∀ w ∈ wsX60, w ∈ wsX6_preferredOn := fun _ h => List.mem_cons_of_mem _ (List.mem_append_right _ h)
def woX6_filedBy : List Cond := [Cond.fieldLink RX6 206 "FreeLandModel" "entries" "I", Cond.fieldLink RX6 45 "FreeLandModel" "people" "[I", Cond.fieldLink RX6 76 "FreeLandModel" "entryLine" "[I"]
def wsX6_filedBy : List Cond := .code yX6_filedBy cX6_filedBy 4 (some .int) :: (woX6_filedBy ++ (wsX60))
set_option maxRecDepth 100000 in
set_option maxHeartbeats 4000000 in
theorem lwo_X6_filedBy : ∀ w ∈ Cond.code yX6_filedBy cX6_filedBy 4 (some .int) :: woX6_filedBy, w ∈ lw_tbl := lwi_mem [(4, 160), (3, 159), (3, 148), (3, 160)] (by decide +kernel)
theorem oko_X6_filedBy : ∀ w ∈ woX6_filedBy, goodWord w = true := by decide +kernel
theorem lw_X6_filedBy : ∀ w ∈ wsX6_filedBy, w ∈ lw_tbl := List.forall_mem_cons.mpr ⟨lwo_X6_filedBy _ List.mem_cons_self, List.forall_mem_append.mpr ⟨(fun w h => lwo_X6_filedBy w (List.mem_cons_of_mem _ h)), lwi_X6⟩⟩
theorem ok_X6_filedBy : ∀ w ∈ wsX6_filedBy, goodWord w = true := List.forall_mem_cons.mpr ⟨rfl, List.forall_mem_append.mpr ⟨oko_X6_filedBy, ok_X6⟩⟩
theorem ptX6_filedBy_woX6_filedBy : ∀ w ∈ woX6_filedBy, w ∈ wsX6_filedBy := fun _ h => List.mem_cons_of_mem _ (List.mem_append_left _ h)
theorem ptX6_filedBy_wsX60 : ∀ w ∈ wsX60, w ∈ wsX6_filedBy := fun _ h => List.mem_cons_of_mem _ (List.mem_append_right _ h)
def woX6_file : List Cond := [Cond.fieldLink RX6 45 "FreeLandModel" "people" "[I", Cond.fieldLink RX6 48 "FreeLandModel" "quarters" "[I", Cond.fieldLink RX6 39 "FreeLandModel" "days" "[I", Cond.methodLink RX6 181 yX6_lawFor, Cond.instanceMethod yX6_lawFor, Cond.selects RX6 yX6_lawFor yX6_lawFor, Cond.initialized RX6, Cond.fieldLink RX6 7 "FreeLandModel" "births" "[I", Cond.methodLink RX6 178 yX6_setBy, Cond.instanceMethod yX6_setBy, Cond.selects RX6 yX6_setBy yX6_setBy, Cond.fieldLink RX6 13 "FreeLandModel" "citizens" "[I", Cond.methodLink RX6 215 yX6_isOdd, Cond.static yX6_isOdd, Cond.fieldLink RX6 16 "FreeLandModel" "mapDay" "I", Cond.methodLink RX6 209 yX6_entryOf, Cond.instanceMethod yX6_entryOf, Cond.selects RX6 yX6_entryOf yX6_entryOf, Cond.methodLink RX6 218 yX6_preferredOn, Cond.instanceMethod yX6_preferredOn, Cond.selects RX6 yX6_preferredOn yX6_preferredOn, Cond.methodLink RX6 221 yX6_filedBy, Cond.instanceMethod yX6_filedBy, Cond.selects RX6 yX6_filedBy yX6_filedBy, Cond.fieldLink RX6 76 "FreeLandModel" "entryLine" "[I", Cond.fieldLink RX6 206 "FreeLandModel" "entries" "I", Cond.fieldLink RX6 79 "FreeLandModel" "entryAt" "[I", Cond.fieldLink RX6 212 "FreeLandModel" "worked" "I", Cond.fieldLink RX6 82 "FreeLandModel" "holders" "[I", Cond.fieldLink RX6 85 "FreeLandModel" "heldBy" "[I", Cond.fieldLink RX6 88 "FreeLandModel" "entryLaw" "[I", Cond.fieldLink RX6 91 "FreeLandModel" "entryState" "[I", Cond.fieldLink RX6 94 "FreeLandModel" "bindDay" "[I"]
def wsX6_file : List Cond := .code yX6_file cX6_file 7 (some .int) :: (woX6_file ++ (wsX60 ++ (wsX6_lawFor ++ (wsX6_setBy ++ (wsX6_isOdd ++ (wsX6_entryOf ++ (wsX6_preferredOn ++ (wsX6_filedBy))))))))
set_option maxRecDepth 100000 in
set_option maxHeartbeats 4000000 in
theorem lwo_X6_file : ∀ w ∈ Cond.code yX6_file cX6_file 7 (some .int) :: woX6_file, w ∈ lw_tbl := lwi_mem [(4, 145), (3, 148), (3, 149), (3, 146), (4, 86), (4, 88), (0, 53), (1, 7), (3, 134), (4, 74), (4, 76), (0, 51), (3, 135), (4, 146), (4, 147), (3, 136), (4, 149), (4, 151), (0, 62), (4, 153), (4, 155), (0, 63), (4, 157), (4, 159), (0, 64), (3, 160), (3, 159), (3, 161), (3, 169), (3, 162), (3, 163), (3, 164), (3, 165), (3, 166)] (by decide +kernel)
theorem oko_X6_file : ∀ w ∈ woX6_file, goodWord w = true := by decide +kernel
theorem lw_X6_file : ∀ w ∈ wsX6_file, w ∈ lw_tbl := List.forall_mem_cons.mpr ⟨lwo_X6_file _ List.mem_cons_self, List.forall_mem_append.mpr ⟨(fun w h => lwo_X6_file w (List.mem_cons_of_mem _ h)), List.forall_mem_append.mpr ⟨lwi_X6, List.forall_mem_append.mpr ⟨lw_X6_lawFor, List.forall_mem_append.mpr ⟨lw_X6_setBy, List.forall_mem_append.mpr ⟨lw_X6_isOdd, List.forall_mem_append.mpr ⟨lw_X6_entryOf, List.forall_mem_append.mpr ⟨lw_X6_preferredOn, lw_X6_filedBy⟩⟩⟩⟩⟩⟩⟩⟩
theorem ok_X6_file : ∀ w ∈ wsX6_file, goodWord w = true := List.forall_mem_cons.mpr ⟨rfl, List.forall_mem_append.mpr ⟨oko_X6_file, List.forall_mem_append.mpr ⟨ok_X6, List.forall_mem_append.mpr ⟨ok_X6_lawFor, List.forall_mem_append.mpr ⟨ok_X6_setBy, List.forall_mem_append.mpr ⟨ok_X6_isOdd, List.forall_mem_append.mpr ⟨ok_X6_entryOf, List.forall_mem_append.mpr ⟨ok_X6_preferredOn, ok_X6_filedBy⟩⟩⟩⟩⟩⟩⟩⟩
theorem ptX6_file_woX6_file : ∀ w ∈ woX6_file, w ∈ wsX6_file := fun _ h => List.mem_cons_of_mem _ (List.mem_append_left _ h)
theorem ptX6_file_wsX60 : ∀ w ∈ wsX60, w ∈ wsX6_file := fun _ h => List.mem_cons_of_mem _ (List.mem_append_right _ (List.mem_append_left _ h))
theorem ptX6_file_wsX6_lawFor : ∀ w ∈ wsX6_lawFor, w ∈ wsX6_file := fun _ h => List.mem_cons_of_mem _ (List.mem_append_right _ (List.mem_append_right _ (List.mem_append_left _ h)))
theorem ptX6_file_wsX6_setBy : ∀ w ∈ wsX6_setBy, w ∈ wsX6_file := fun _ h => List.mem_cons_of_mem _ (List.mem_append_right _ (List.mem_append_right _ (List.mem_append_right _ (List.mem_append_left _ h))))
theorem ptX6_file_wsX6_isOdd : ∀ w ∈ wsX6_isOdd, w ∈ wsX6_file := fun _ h => List.mem_cons_of_mem _ (List.mem_append_right _ (List.mem_append_right _ (List.mem_append_right _ (List.mem_append_right _ (List.mem_append_left _ h)))))
theorem ptX6_file_wsX6_entryOf : ∀ w ∈ wsX6_entryOf, w ∈ wsX6_file := fun _ h => List.mem_cons_of_mem _ (List.mem_append_right _ (List.mem_append_right _ (List.mem_append_right _ (List.mem_append_right _ (List.mem_append_right _ (List.mem_append_left _ h))))))
theorem ptX6_file_wsX6_preferredOn : ∀ w ∈ wsX6_preferredOn, w ∈ wsX6_file := fun _ h => List.mem_cons_of_mem _ (List.mem_append_right _ (List.mem_append_right _ (List.mem_append_right _ (List.mem_append_right _ (List.mem_append_right _ (List.mem_append_right _ (List.mem_append_left _ h)))))))
theorem ptX6_file_wsX6_filedBy : ∀ w ∈ wsX6_filedBy, w ∈ wsX6_file := fun _ h => List.mem_cons_of_mem _ (List.mem_append_right _ (List.mem_append_right _ (List.mem_append_right _ (List.mem_append_right _ (List.mem_append_right _ (List.mem_append_right _ (List.mem_append_right _ h)))))))
theorem gX6_file_X6_lawFor : GoodIn wsX6_file (wsV RX6 181 RX6 yX6_lawFor wsX6_lawFor) := goodIn_app (goodIn_sub (fun w h => ptX6_file_woX6_file w ((by decide +kernel : ∀ w ∈ ([Cond.methodLink RX6 181 yX6_lawFor, Cond.instanceMethod yX6_lawFor, Cond.selects RX6 yX6_lawFor yX6_lawFor, Cond.initialized RX6] : List Cond), w ∈ woX6_file) w h)) (by decide +kernel)) (goodIn_sub (fun w h => ptX6_file_wsX6_lawFor w h) (List.all_eq_true.mpr ok_X6_lawFor))
theorem gX6_file_X6_setBy : GoodIn wsX6_file (wsV RX6 178 RX6 yX6_setBy wsX6_setBy) := goodIn_app (goodIn_sub (fun w h => ptX6_file_woX6_file w ((by decide +kernel : ∀ w ∈ ([Cond.methodLink RX6 178 yX6_setBy, Cond.instanceMethod yX6_setBy, Cond.selects RX6 yX6_setBy yX6_setBy, Cond.initialized RX6] : List Cond), w ∈ woX6_file) w h)) (by decide +kernel)) (goodIn_sub (fun w h => ptX6_file_wsX6_setBy w h) (List.all_eq_true.mpr ok_X6_setBy))
theorem gX6_file_X6_isOdd : GoodIn wsX6_file (va_wsS RX6 215 yX6_isOdd wsX6_isOdd) := goodIn_app (goodIn_sub (fun w h => ptX6_file_woX6_file w ((by decide +kernel : ∀ w ∈ ([Cond.methodLink RX6 215 yX6_isOdd, Cond.static yX6_isOdd, Cond.initialized yX6_isOdd.cls] : List Cond), w ∈ woX6_file) w h)) (by decide +kernel)) (goodIn_sub (fun w h => ptX6_file_wsX6_isOdd w h) (List.all_eq_true.mpr ok_X6_isOdd))
theorem gX6_file_X6_entryOf : GoodIn wsX6_file (wsV RX6 209 RX6 yX6_entryOf wsX6_entryOf) := goodIn_app (goodIn_sub (fun w h => ptX6_file_woX6_file w ((by decide +kernel : ∀ w ∈ ([Cond.methodLink RX6 209 yX6_entryOf, Cond.instanceMethod yX6_entryOf, Cond.selects RX6 yX6_entryOf yX6_entryOf, Cond.initialized RX6] : List Cond), w ∈ woX6_file) w h)) (by decide +kernel)) (goodIn_sub (fun w h => ptX6_file_wsX6_entryOf w h) (List.all_eq_true.mpr ok_X6_entryOf))
theorem gX6_file_X6_preferredOn : GoodIn wsX6_file (wsV RX6 218 RX6 yX6_preferredOn wsX6_preferredOn) := goodIn_app (goodIn_sub (fun w h => ptX6_file_woX6_file w ((by decide +kernel : ∀ w ∈ ([Cond.methodLink RX6 218 yX6_preferredOn, Cond.instanceMethod yX6_preferredOn, Cond.selects RX6 yX6_preferredOn yX6_preferredOn, Cond.initialized RX6] : List Cond), w ∈ woX6_file) w h)) (by decide +kernel)) (goodIn_sub (fun w h => ptX6_file_wsX6_preferredOn w h) (List.all_eq_true.mpr ok_X6_preferredOn))
theorem gX6_file_X6_filedBy : GoodIn wsX6_file (wsV RX6 221 RX6 yX6_filedBy wsX6_filedBy) := goodIn_app (goodIn_sub (fun w h => ptX6_file_woX6_file w ((by decide +kernel : ∀ w ∈ ([Cond.methodLink RX6 221 yX6_filedBy, Cond.instanceMethod yX6_filedBy, Cond.selects RX6 yX6_filedBy yX6_filedBy, Cond.initialized RX6] : List Cond), w ∈ woX6_file) w h)) (by decide +kernel)) (goodIn_sub (fun w h => ptX6_file_wsX6_filedBy w h) (List.all_eq_true.mpr ok_X6_filedBy))
def woX6_contest : List Cond := [Cond.fieldLink RX6 48 "FreeLandModel" "quarters" "[I", Cond.fieldLink RX6 39 "FreeLandModel" "days" "[I", Cond.methodLink RX6 224 yX6_openOf, Cond.instanceMethod yX6_openOf, Cond.selects RX6 yX6_openOf yX6_openOf, Cond.initialized RX6, Cond.fieldLink RX6 82 "FreeLandModel" "holders" "[I", Cond.fieldLink RX6 45 "FreeLandModel" "people" "[I", Cond.fieldLink RX6 88 "FreeLandModel" "entryLaw" "[I", Cond.methodLink RX6 178 yX6_setBy, Cond.instanceMethod yX6_setBy, Cond.selects RX6 yX6_setBy yX6_setBy, Cond.methodLink RX6 227 yX6_markLived, Cond.instanceMethod yX6_markLived, Cond.selects RX6 yX6_markLived yX6_markLived, Cond.fieldLink RX6 76 "FreeLandModel" "entryLine" "[I", Cond.methodLink RX6 231 yX6_livedDays, Cond.instanceMethod yX6_livedDays, Cond.selects RX6 yX6_livedDays yX6_livedDays, Cond.fieldLink RX6 91 "FreeLandModel" "entryState" "[I", Cond.fieldLink RX6 97 "FreeLandModel" "preferred" "[I", Cond.fieldLink RX6 100 "FreeLandModel" "preferDay" "[I"]
def wsX6_contest : List Cond := .code yX6_contest cX6_contest 7 (some .int) :: (woX6_contest ++ (wsX60 ++ (wsX6_openOf ++ (wsX6_setBy ++ (wsX6_markLived ++ (wsX6_livedDays))))))
set_option maxRecDepth 100000 in
set_option maxHeartbeats 4000000 in
theorem lwo_X6_contest : ∀ w ∈ Cond.code yX6_contest cX6_contest 7 (some .int) :: woX6_contest, w ∈ lw_tbl := lwi_mem [(4, 172), (3, 149), (3, 146), (4, 165), (4, 167), (0, 66), (1, 7), (3, 162), (3, 148), (3, 164), (4, 74), (4, 76), (0, 51), (4, 173), (4, 175), (0, 68), (3, 160), (4, 177), (4, 179), (0, 69), (3, 165), (3, 167), (3, 168)] (by decide +kernel)
theorem oko_X6_contest : ∀ w ∈ woX6_contest, goodWord w = true := by decide +kernel
theorem lw_X6_contest : ∀ w ∈ wsX6_contest, w ∈ lw_tbl := List.forall_mem_cons.mpr ⟨lwo_X6_contest _ List.mem_cons_self, List.forall_mem_append.mpr ⟨(fun w h => lwo_X6_contest w (List.mem_cons_of_mem _ h)), List.forall_mem_append.mpr ⟨lwi_X6, List.forall_mem_append.mpr ⟨lw_X6_openOf, List.forall_mem_append.mpr ⟨lw_X6_setBy, List.forall_mem_append.mpr ⟨lw_X6_markLived, lw_X6_livedDays⟩⟩⟩⟩⟩⟩
theorem ok_X6_contest : ∀ w ∈ wsX6_contest, goodWord w = true := List.forall_mem_cons.mpr ⟨rfl, List.forall_mem_append.mpr ⟨oko_X6_contest, List.forall_mem_append.mpr ⟨ok_X6, List.forall_mem_append.mpr ⟨ok_X6_openOf, List.forall_mem_append.mpr ⟨ok_X6_setBy, List.forall_mem_append.mpr ⟨ok_X6_markLived, ok_X6_livedDays⟩⟩⟩⟩⟩⟩
theorem ptX6_contest_woX6_contest : ∀ w ∈ woX6_contest, w ∈ wsX6_contest := fun _ h => List.mem_cons_of_mem _ (List.mem_append_left _ h)
theorem ptX6_contest_wsX60 : ∀ w ∈ wsX60, w ∈ wsX6_contest := fun _ h => List.mem_cons_of_mem _ (List.mem_append_right _ (List.mem_append_left _ h))
theorem ptX6_contest_wsX6_openOf : ∀ w ∈ wsX6_openOf, w ∈ wsX6_contest := fun _ h => List.mem_cons_of_mem _ (List.mem_append_right _ (List.mem_append_right _ (List.mem_append_left _ h)))
theorem ptX6_contest_wsX6_setBy : ∀ w ∈ wsX6_setBy, w ∈ wsX6_contest := fun _ h => List.mem_cons_of_mem _ (List.mem_append_right _ (List.mem_append_right _ (List.mem_append_right _ (List.mem_append_left _ h))))
theorem ptX6_contest_wsX6_markLived : ∀ w ∈ wsX6_markLived, w ∈ wsX6_contest := fun _ h => List.mem_cons_of_mem _ (List.mem_append_right _ (List.mem_append_right _ (List.mem_append_right _ (List.mem_append_right _ (List.mem_append_left _ h)))))
theorem ptX6_contest_wsX6_livedDays : ∀ w ∈ wsX6_livedDays, w ∈ wsX6_contest := fun _ h => List.mem_cons_of_mem _ (List.mem_append_right _ (List.mem_append_right _ (List.mem_append_right _ (List.mem_append_right _ (List.mem_append_right _ h)))))
theorem gX6_contest_X6_openOf : GoodIn wsX6_contest (wsV RX6 224 RX6 yX6_openOf wsX6_openOf) := goodIn_app (goodIn_sub (fun w h => ptX6_contest_woX6_contest w ((by decide +kernel : ∀ w ∈ ([Cond.methodLink RX6 224 yX6_openOf, Cond.instanceMethod yX6_openOf, Cond.selects RX6 yX6_openOf yX6_openOf, Cond.initialized RX6] : List Cond), w ∈ woX6_contest) w h)) (by decide +kernel)) (goodIn_sub (fun w h => ptX6_contest_wsX6_openOf w h) (List.all_eq_true.mpr ok_X6_openOf))
theorem gX6_contest_X6_setBy : GoodIn wsX6_contest (wsV RX6 178 RX6 yX6_setBy wsX6_setBy) := goodIn_app (goodIn_sub (fun w h => ptX6_contest_woX6_contest w ((by decide +kernel : ∀ w ∈ ([Cond.methodLink RX6 178 yX6_setBy, Cond.instanceMethod yX6_setBy, Cond.selects RX6 yX6_setBy yX6_setBy, Cond.initialized RX6] : List Cond), w ∈ woX6_contest) w h)) (by decide +kernel)) (goodIn_sub (fun w h => ptX6_contest_wsX6_setBy w h) (List.all_eq_true.mpr ok_X6_setBy))
theorem gX6_contest_X6_markLived : GoodIn wsX6_contest (wsV RX6 227 RX6 yX6_markLived wsX6_markLived) := goodIn_app (goodIn_sub (fun w h => ptX6_contest_woX6_contest w ((by decide +kernel : ∀ w ∈ ([Cond.methodLink RX6 227 yX6_markLived, Cond.instanceMethod yX6_markLived, Cond.selects RX6 yX6_markLived yX6_markLived, Cond.initialized RX6] : List Cond), w ∈ woX6_contest) w h)) (by decide +kernel)) (goodIn_sub (fun w h => ptX6_contest_wsX6_markLived w h) (List.all_eq_true.mpr ok_X6_markLived))
theorem gX6_contest_X6_livedDays : GoodIn wsX6_contest (wsV RX6 231 RX6 yX6_livedDays wsX6_livedDays) := goodIn_app (goodIn_sub (fun w h => ptX6_contest_woX6_contest w ((by decide +kernel : ∀ w ∈ ([Cond.methodLink RX6 231 yX6_livedDays, Cond.instanceMethod yX6_livedDays, Cond.selects RX6 yX6_livedDays yX6_livedDays, Cond.initialized RX6] : List Cond), w ∈ woX6_contest) w h)) (by decide +kernel)) (goodIn_sub (fun w h => ptX6_contest_wsX6_livedDays w h) (List.all_eq_true.mpr ok_X6_livedDays))
def woX6_prove : List Cond := [Cond.fieldLink RX6 48 "FreeLandModel" "quarters" "[I", Cond.methodLink RX6 224 yX6_openOf, Cond.instanceMethod yX6_openOf, Cond.selects RX6 yX6_openOf yX6_openOf, Cond.initialized RX6, Cond.fieldLink RX6 82 "FreeLandModel" "holders" "[I", Cond.fieldLink RX6 45 "FreeLandModel" "people" "[I", Cond.fieldLink RX6 39 "FreeLandModel" "days" "[I", Cond.fieldLink RX6 76 "FreeLandModel" "entryLine" "[I", Cond.fieldLink RX6 88 "FreeLandModel" "entryLaw" "[I", Cond.methodLink RX6 178 yX6_setBy, Cond.instanceMethod yX6_setBy, Cond.selects RX6 yX6_setBy yX6_setBy, Cond.methodLink RX6 227 yX6_markLived, Cond.instanceMethod yX6_markLived, Cond.selects RX6 yX6_markLived yX6_markLived, Cond.methodLink RX6 231 yX6_livedDays, Cond.instanceMethod yX6_livedDays, Cond.selects RX6 yX6_livedDays yX6_livedDays, Cond.methodLink RX6 234 yX6_longestGap, Cond.instanceMethod yX6_longestGap, Cond.selects RX6 yX6_longestGap yX6_longestGap, Cond.methodLink RX6 237 yX6_acres, Cond.instanceMethod yX6_acres, Cond.selects RX6 yX6_acres yX6_acres, Cond.fieldLink RX6 91 "FreeLandModel" "entryState" "[I", Cond.fieldLink RX6 94 "FreeLandModel" "bindDay" "[I"]
def wsX6_prove : List Cond := .code yX6_prove cX6_prove 6 (some .int) :: (woX6_prove ++ (wsX60 ++ (wsX6_openOf ++ (wsX6_setBy ++ (wsX6_markLived ++ (wsX6_livedDays ++ (wsX6_longestGap ++ (wsX6_acres))))))))
set_option maxRecDepth 100000 in
set_option maxHeartbeats 4000000 in
theorem lwo_X6_prove : ∀ w ∈ Cond.code yX6_prove cX6_prove 6 (some .int) :: woX6_prove, w ∈ lw_tbl := lwi_mem [(4, 184), (3, 149), (4, 165), (4, 167), (0, 66), (1, 7), (3, 162), (3, 148), (3, 146), (3, 160), (3, 164), (4, 74), (4, 76), (0, 51), (4, 173), (4, 175), (0, 68), (4, 177), (4, 179), (0, 69), (4, 185), (4, 187), (0, 71), (4, 189), (4, 191), (0, 72), (3, 165), (3, 166)] (by decide +kernel)
theorem oko_X6_prove : ∀ w ∈ woX6_prove, goodWord w = true := by decide +kernel
theorem lw_X6_prove : ∀ w ∈ wsX6_prove, w ∈ lw_tbl := List.forall_mem_cons.mpr ⟨lwo_X6_prove _ List.mem_cons_self, List.forall_mem_append.mpr ⟨(fun w h => lwo_X6_prove w (List.mem_cons_of_mem _ h)), List.forall_mem_append.mpr ⟨lwi_X6, List.forall_mem_append.mpr ⟨lw_X6_openOf, List.forall_mem_append.mpr ⟨lw_X6_setBy, List.forall_mem_append.mpr ⟨lw_X6_markLived, List.forall_mem_append.mpr ⟨lw_X6_livedDays, List.forall_mem_append.mpr ⟨lw_X6_longestGap, lw_X6_acres⟩⟩⟩⟩⟩⟩⟩⟩
theorem ok_X6_prove : ∀ w ∈ wsX6_prove, goodWord w = true := List.forall_mem_cons.mpr ⟨rfl, List.forall_mem_append.mpr ⟨oko_X6_prove, List.forall_mem_append.mpr ⟨ok_X6, List.forall_mem_append.mpr ⟨ok_X6_openOf, List.forall_mem_append.mpr ⟨ok_X6_setBy, List.forall_mem_append.mpr ⟨ok_X6_markLived, List.forall_mem_append.mpr ⟨ok_X6_livedDays, List.forall_mem_append.mpr ⟨ok_X6_longestGap, ok_X6_acres⟩⟩⟩⟩⟩⟩⟩⟩
theorem ptX6_prove_woX6_prove : ∀ w ∈ woX6_prove, w ∈ wsX6_prove := fun _ h => List.mem_cons_of_mem _ (List.mem_append_left _ h)
theorem ptX6_prove_wsX60 : ∀ w ∈ wsX60, w ∈ wsX6_prove := fun _ h => List.mem_cons_of_mem _ (List.mem_append_right _ (List.mem_append_left _ h))
theorem ptX6_prove_wsX6_openOf : ∀ w ∈ wsX6_openOf, w ∈ wsX6_prove := fun _ h => List.mem_cons_of_mem _ (List.mem_append_right _ (List.mem_append_right _ (List.mem_append_left _ h)))
theorem ptX6_prove_wsX6_setBy : ∀ w ∈ wsX6_setBy, w ∈ wsX6_prove := fun _ h => List.mem_cons_of_mem _ (List.mem_append_right _ (List.mem_append_right _ (List.mem_append_right _ (List.mem_append_left _ h))))
theorem ptX6_prove_wsX6_markLived : ∀ w ∈ wsX6_markLived, w ∈ wsX6_prove := fun _ h => List.mem_cons_of_mem _ (List.mem_append_right _ (List.mem_append_right _ (List.mem_append_right _ (List.mem_append_right _ (List.mem_append_left _ h)))))
theorem ptX6_prove_wsX6_livedDays : ∀ w ∈ wsX6_livedDays, w ∈ wsX6_prove := fun _ h => List.mem_cons_of_mem _ (List.mem_append_right _ (List.mem_append_right _ (List.mem_append_right _ (List.mem_append_right _ (List.mem_append_right _ (List.mem_append_left _ h))))))
theorem ptX6_prove_wsX6_longestGap : ∀ w ∈ wsX6_longestGap, w ∈ wsX6_prove := fun _ h => List.mem_cons_of_mem _ (List.mem_append_right _ (List.mem_append_right _ (List.mem_append_right _ (List.mem_append_right _ (List.mem_append_right _ (List.mem_append_right _ (List.mem_append_left _ h)))))))
theorem ptX6_prove_wsX6_acres : ∀ w ∈ wsX6_acres, w ∈ wsX6_prove := fun _ h => List.mem_cons_of_mem _ (List.mem_append_right _ (List.mem_append_right _ (List.mem_append_right _ (List.mem_append_right _ (List.mem_append_right _ (List.mem_append_right _ (List.mem_append_right _ h)))))))
theorem gX6_prove_X6_openOf : GoodIn wsX6_prove (wsV RX6 224 RX6 yX6_openOf wsX6_openOf) := goodIn_app (goodIn_sub (fun w h => ptX6_prove_woX6_prove w ((by decide +kernel : ∀ w ∈ ([Cond.methodLink RX6 224 yX6_openOf, Cond.instanceMethod yX6_openOf, Cond.selects RX6 yX6_openOf yX6_openOf, Cond.initialized RX6] : List Cond), w ∈ woX6_prove) w h)) (by decide +kernel)) (goodIn_sub (fun w h => ptX6_prove_wsX6_openOf w h) (List.all_eq_true.mpr ok_X6_openOf))
theorem gX6_prove_X6_setBy : GoodIn wsX6_prove (wsV RX6 178 RX6 yX6_setBy wsX6_setBy) := goodIn_app (goodIn_sub (fun w h => ptX6_prove_woX6_prove w ((by decide +kernel : ∀ w ∈ ([Cond.methodLink RX6 178 yX6_setBy, Cond.instanceMethod yX6_setBy, Cond.selects RX6 yX6_setBy yX6_setBy, Cond.initialized RX6] : List Cond), w ∈ woX6_prove) w h)) (by decide +kernel)) (goodIn_sub (fun w h => ptX6_prove_wsX6_setBy w h) (List.all_eq_true.mpr ok_X6_setBy))
theorem gX6_prove_X6_markLived : GoodIn wsX6_prove (wsV RX6 227 RX6 yX6_markLived wsX6_markLived) := goodIn_app (goodIn_sub (fun w h => ptX6_prove_woX6_prove w ((by decide +kernel : ∀ w ∈ ([Cond.methodLink RX6 227 yX6_markLived, Cond.instanceMethod yX6_markLived, Cond.selects RX6 yX6_markLived yX6_markLived, Cond.initialized RX6] : List Cond), w ∈ woX6_prove) w h)) (by decide +kernel)) (goodIn_sub (fun w h => ptX6_prove_wsX6_markLived w h) (List.all_eq_true.mpr ok_X6_markLived))
theorem gX6_prove_X6_livedDays : GoodIn wsX6_prove (wsV RX6 231 RX6 yX6_livedDays wsX6_livedDays) := goodIn_app (goodIn_sub (fun w h => ptX6_prove_woX6_prove w ((by decide +kernel : ∀ w ∈ ([Cond.methodLink RX6 231 yX6_livedDays, Cond.instanceMethod yX6_livedDays, Cond.selects RX6 yX6_livedDays yX6_livedDays, Cond.initialized RX6] : List Cond), w ∈ woX6_prove) w h)) (by decide +kernel)) (goodIn_sub (fun w h => ptX6_prove_wsX6_livedDays w h) (List.all_eq_true.mpr ok_X6_livedDays))
theorem gX6_prove_X6_longestGap : GoodIn wsX6_prove (wsV RX6 234 RX6 yX6_longestGap wsX6_longestGap) := goodIn_app (goodIn_sub (fun w h => ptX6_prove_woX6_prove w ((by decide +kernel : ∀ w ∈ ([Cond.methodLink RX6 234 yX6_longestGap, Cond.instanceMethod yX6_longestGap, Cond.selects RX6 yX6_longestGap yX6_longestGap, Cond.initialized RX6] : List Cond), w ∈ woX6_prove) w h)) (by decide +kernel)) (goodIn_sub (fun w h => ptX6_prove_wsX6_longestGap w h) (List.all_eq_true.mpr ok_X6_longestGap))
theorem gX6_prove_X6_acres : GoodIn wsX6_prove (wsV RX6 237 RX6 yX6_acres wsX6_acres) := goodIn_app (goodIn_sub (fun w h => ptX6_prove_woX6_prove w ((by decide +kernel : ∀ w ∈ ([Cond.methodLink RX6 237 yX6_acres, Cond.instanceMethod yX6_acres, Cond.selects RX6 yX6_acres yX6_acres, Cond.initialized RX6] : List Cond), w ∈ woX6_prove) w h)) (by decide +kernel)) (goodIn_sub (fun w h => ptX6_prove_wsX6_acres w h) (List.all_eq_true.mpr ok_X6_acres))
def woX6_death : List Cond := [Cond.fieldLink RX6 45 "FreeLandModel" "people" "[I", Cond.fieldLink RX6 51 "FreeLandModel" "numbers" "[I", Cond.fieldLink RX6 73 "FreeLandModel" "isDead" "[Z", Cond.fieldLink RX6 206 "FreeLandModel" "entries" "I", Cond.fieldLink RX6 91 "FreeLandModel" "entryState" "[I", Cond.fieldLink RX6 82 "FreeLandModel" "holders" "[I", Cond.fieldLink RX6 85 "FreeLandModel" "heldBy" "[I"]
def wsX6_death : List Cond := .code yX6_death cX6_death 5 (some .int) :: (woX6_death ++ (wsX60))
set_option maxRecDepth 100000 in
set_option maxHeartbeats 4000000 in
theorem lwo_X6_death : ∀ w ∈ Cond.code yX6_death cX6_death 5 (some .int) :: woX6_death, w ∈ lw_tbl := lwi_mem [(4, 196), (3, 148), (3, 150), (3, 158), (3, 159), (3, 165), (3, 162), (3, 163)] (by decide +kernel)
theorem oko_X6_death : ∀ w ∈ woX6_death, goodWord w = true := by decide +kernel
theorem lw_X6_death : ∀ w ∈ wsX6_death, w ∈ lw_tbl := List.forall_mem_cons.mpr ⟨lwo_X6_death _ List.mem_cons_self, List.forall_mem_append.mpr ⟨(fun w h => lwo_X6_death w (List.mem_cons_of_mem _ h)), lwi_X6⟩⟩
theorem ok_X6_death : ∀ w ∈ wsX6_death, goodWord w = true := List.forall_mem_cons.mpr ⟨rfl, List.forall_mem_append.mpr ⟨oko_X6_death, ok_X6⟩⟩
theorem ptX6_death_woX6_death : ∀ w ∈ woX6_death, w ∈ wsX6_death := fun _ h => List.mem_cons_of_mem _ (List.mem_append_left _ h)
theorem ptX6_death_wsX60 : ∀ w ∈ wsX60, w ∈ wsX6_death := fun _ h => List.mem_cons_of_mem _ (List.mem_append_right _ h)
def woX6_giveUp : List Cond := [Cond.fieldLink RX6 48 "FreeLandModel" "quarters" "[I", Cond.methodLink RX6 224 yX6_openOf, Cond.instanceMethod yX6_openOf, Cond.selects RX6 yX6_openOf yX6_openOf, Cond.initialized RX6, Cond.fieldLink RX6 82 "FreeLandModel" "holders" "[I", Cond.fieldLink RX6 45 "FreeLandModel" "people" "[I", Cond.fieldLink RX6 91 "FreeLandModel" "entryState" "[I"]
def wsX6_giveUp : List Cond := .code yX6_giveUp cX6_giveUp 3 (some .int) :: (woX6_giveUp ++ (wsX60 ++ (wsX6_openOf)))
set_option maxRecDepth 100000 in
set_option maxHeartbeats 4000000 in
theorem lwo_X6_giveUp : ∀ w ∈ Cond.code yX6_giveUp cX6_giveUp 3 (some .int) :: woX6_giveUp, w ∈ lw_tbl := lwi_mem [(4, 164), (3, 149), (4, 165), (4, 167), (0, 66), (1, 7), (3, 162), (3, 148), (3, 165)] (by decide +kernel)
theorem oko_X6_giveUp : ∀ w ∈ woX6_giveUp, goodWord w = true := by decide +kernel
theorem lw_X6_giveUp : ∀ w ∈ wsX6_giveUp, w ∈ lw_tbl := List.forall_mem_cons.mpr ⟨lwo_X6_giveUp _ List.mem_cons_self, List.forall_mem_append.mpr ⟨(fun w h => lwo_X6_giveUp w (List.mem_cons_of_mem _ h)), List.forall_mem_append.mpr ⟨lwi_X6, lw_X6_openOf⟩⟩⟩
theorem ok_X6_giveUp : ∀ w ∈ wsX6_giveUp, goodWord w = true := List.forall_mem_cons.mpr ⟨rfl, List.forall_mem_append.mpr ⟨oko_X6_giveUp, List.forall_mem_append.mpr ⟨ok_X6, ok_X6_openOf⟩⟩⟩
theorem ptX6_giveUp_woX6_giveUp : ∀ w ∈ woX6_giveUp, w ∈ wsX6_giveUp := fun _ h => List.mem_cons_of_mem _ (List.mem_append_left _ h)
theorem ptX6_giveUp_wsX60 : ∀ w ∈ wsX60, w ∈ wsX6_giveUp := fun _ h => List.mem_cons_of_mem _ (List.mem_append_right _ (List.mem_append_left _ h))
theorem ptX6_giveUp_wsX6_openOf : ∀ w ∈ wsX6_openOf, w ∈ wsX6_giveUp := fun _ h => List.mem_cons_of_mem _ (List.mem_append_right _ (List.mem_append_right _ h))
theorem gX6_giveUp_X6_openOf : GoodIn wsX6_giveUp (wsV RX6 224 RX6 yX6_openOf wsX6_openOf) := goodIn_app (goodIn_sub (fun w h => ptX6_giveUp_woX6_giveUp w ((by decide +kernel : ∀ w ∈ ([Cond.methodLink RX6 224 yX6_openOf, Cond.instanceMethod yX6_openOf, Cond.selects RX6 yX6_openOf yX6_openOf, Cond.initialized RX6] : List Cond), w ∈ woX6_giveUp) w h)) (by decide +kernel)) (goodIn_sub (fun w h => ptX6_giveUp_wsX6_openOf w h) (List.all_eq_true.mpr ok_X6_openOf))
def woX6_comesTo : List Cond := [Cond.fieldLink RX6 73 "FreeLandModel" "isDead" "[Z", Cond.fieldLink RX6 45 "FreeLandModel" "people" "[I", Cond.fieldLink RX6 42 "FreeLandModel" "sorts" "[I", Cond.methodLink RX6 240 yX6_file, Cond.instanceMethod yX6_file, Cond.selects RX6 yX6_file yX6_file, Cond.initialized RX6, Cond.methodLink RX6 243 yX6_giveUp, Cond.instanceMethod yX6_giveUp, Cond.selects RX6 yX6_giveUp yX6_giveUp, Cond.methodLink RX6 246 yX6_contest, Cond.instanceMethod yX6_contest, Cond.selects RX6 yX6_contest yX6_contest, Cond.methodLink RX6 249 yX6_prove, Cond.instanceMethod yX6_prove, Cond.selects RX6 yX6_prove yX6_prove, Cond.methodLink RX6 252 yX6_death, Cond.instanceMethod yX6_death, Cond.selects RX6 yX6_death yX6_death]
def wsX6_comesTo : List Cond := .code yX6_comesTo cX6_comesTo 2 (some .int) :: (woX6_comesTo ++ (wsX60 ++ (wsX6_file ++ (wsX6_giveUp ++ (wsX6_contest ++ (wsX6_prove ++ (wsX6_death)))))))
set_option maxRecDepth 100000 in
set_option maxHeartbeats 4000000 in
theorem lwo_X6_comesTo : ∀ w ∈ Cond.code yX6_comesTo cX6_comesTo 2 (some .int) :: woX6_comesTo, w ∈ lw_tbl := lwi_mem [(4, 141), (3, 158), (3, 148), (3, 147), (4, 142), (4, 144), (0, 61), (1, 7), (4, 161), (4, 163), (0, 65), (4, 169), (4, 171), (0, 67), (4, 181), (4, 183), (0, 70), (4, 193), (4, 195), (0, 73)] (by decide +kernel)
theorem oko_X6_comesTo : ∀ w ∈ woX6_comesTo, goodWord w = true := by decide +kernel
theorem lw_X6_comesTo : ∀ w ∈ wsX6_comesTo, w ∈ lw_tbl := List.forall_mem_cons.mpr ⟨lwo_X6_comesTo _ List.mem_cons_self, List.forall_mem_append.mpr ⟨(fun w h => lwo_X6_comesTo w (List.mem_cons_of_mem _ h)), List.forall_mem_append.mpr ⟨lwi_X6, List.forall_mem_append.mpr ⟨lw_X6_file, List.forall_mem_append.mpr ⟨lw_X6_giveUp, List.forall_mem_append.mpr ⟨lw_X6_contest, List.forall_mem_append.mpr ⟨lw_X6_prove, lw_X6_death⟩⟩⟩⟩⟩⟩⟩
theorem ok_X6_comesTo : ∀ w ∈ wsX6_comesTo, goodWord w = true := List.forall_mem_cons.mpr ⟨rfl, List.forall_mem_append.mpr ⟨oko_X6_comesTo, List.forall_mem_append.mpr ⟨ok_X6, List.forall_mem_append.mpr ⟨ok_X6_file, List.forall_mem_append.mpr ⟨ok_X6_giveUp, List.forall_mem_append.mpr ⟨ok_X6_contest, List.forall_mem_append.mpr ⟨ok_X6_prove, ok_X6_death⟩⟩⟩⟩⟩⟩⟩
theorem ptX6_comesTo_woX6_comesTo : ∀ w ∈ woX6_comesTo, w ∈ wsX6_comesTo := fun _ h => List.mem_cons_of_mem _ (List.mem_append_left _ h)
theorem ptX6_comesTo_wsX60 : ∀ w ∈ wsX60, w ∈ wsX6_comesTo := fun _ h => List.mem_cons_of_mem _ (List.mem_append_right _ (List.mem_append_left _ h))
theorem ptX6_comesTo_wsX6_file : ∀ w ∈ wsX6_file, w ∈ wsX6_comesTo := fun _ h => List.mem_cons_of_mem _ (List.mem_append_right _ (List.mem_append_right _ (List.mem_append_left _ h)))
theorem ptX6_comesTo_wsX6_giveUp : ∀ w ∈ wsX6_giveUp, w ∈ wsX6_comesTo := fun _ h => List.mem_cons_of_mem _ (List.mem_append_right _ (List.mem_append_right _ (List.mem_append_right _ (List.mem_append_left _ h))))
theorem ptX6_comesTo_wsX6_contest : ∀ w ∈ wsX6_contest, w ∈ wsX6_comesTo := fun _ h => List.mem_cons_of_mem _ (List.mem_append_right _ (List.mem_append_right _ (List.mem_append_right _ (List.mem_append_right _ (List.mem_append_left _ h)))))
theorem ptX6_comesTo_wsX6_prove : ∀ w ∈ wsX6_prove, w ∈ wsX6_comesTo := fun _ h => List.mem_cons_of_mem _ (List.mem_append_right _ (List.mem_append_right _ (List.mem_append_right _ (List.mem_append_right _ (List.mem_append_right _ (List.mem_append_left _ h))))))
theorem ptX6_comesTo_wsX6_death : ∀ w ∈ wsX6_death, w ∈ wsX6_comesTo := fun _ h => List.mem_cons_of_mem _ (List.mem_append_right _ (List.mem_append_right _ (List.mem_append_right _ (List.mem_append_right _ (List.mem_append_right _ (List.mem_append_right _ h))))))
theorem gX6_comesTo_X6_file : GoodIn wsX6_comesTo (wsV RX6 240 RX6 yX6_file wsX6_file) := goodIn_app (goodIn_sub (fun w h => ptX6_comesTo_woX6_comesTo w ((by decide +kernel : ∀ w ∈ ([Cond.methodLink RX6 240 yX6_file, Cond.instanceMethod yX6_file, Cond.selects RX6 yX6_file yX6_file, Cond.initialized RX6] : List Cond), w ∈ woX6_comesTo) w h)) (by decide +kernel)) (goodIn_sub (fun w h => ptX6_comesTo_wsX6_file w h) (List.all_eq_true.mpr ok_X6_file))
theorem gX6_comesTo_X6_giveUp : GoodIn wsX6_comesTo (wsV RX6 243 RX6 yX6_giveUp wsX6_giveUp) := goodIn_app (goodIn_sub (fun w h => ptX6_comesTo_woX6_comesTo w ((by decide +kernel : ∀ w ∈ ([Cond.methodLink RX6 243 yX6_giveUp, Cond.instanceMethod yX6_giveUp, Cond.selects RX6 yX6_giveUp yX6_giveUp, Cond.initialized RX6] : List Cond), w ∈ woX6_comesTo) w h)) (by decide +kernel)) (goodIn_sub (fun w h => ptX6_comesTo_wsX6_giveUp w h) (List.all_eq_true.mpr ok_X6_giveUp))
theorem gX6_comesTo_X6_contest : GoodIn wsX6_comesTo (wsV RX6 246 RX6 yX6_contest wsX6_contest) := goodIn_app (goodIn_sub (fun w h => ptX6_comesTo_woX6_comesTo w ((by decide +kernel : ∀ w ∈ ([Cond.methodLink RX6 246 yX6_contest, Cond.instanceMethod yX6_contest, Cond.selects RX6 yX6_contest yX6_contest, Cond.initialized RX6] : List Cond), w ∈ woX6_comesTo) w h)) (by decide +kernel)) (goodIn_sub (fun w h => ptX6_comesTo_wsX6_contest w h) (List.all_eq_true.mpr ok_X6_contest))
theorem gX6_comesTo_X6_prove : GoodIn wsX6_comesTo (wsV RX6 249 RX6 yX6_prove wsX6_prove) := goodIn_app (goodIn_sub (fun w h => ptX6_comesTo_woX6_comesTo w ((by decide +kernel : ∀ w ∈ ([Cond.methodLink RX6 249 yX6_prove, Cond.instanceMethod yX6_prove, Cond.selects RX6 yX6_prove yX6_prove, Cond.initialized RX6] : List Cond), w ∈ woX6_comesTo) w h)) (by decide +kernel)) (goodIn_sub (fun w h => ptX6_comesTo_wsX6_prove w h) (List.all_eq_true.mpr ok_X6_prove))
theorem gX6_comesTo_X6_death : GoodIn wsX6_comesTo (wsV RX6 252 RX6 yX6_death wsX6_death) := goodIn_app (goodIn_sub (fun w h => ptX6_comesTo_woX6_comesTo w ((by decide +kernel : ∀ w ∈ ([Cond.methodLink RX6 252 yX6_death, Cond.instanceMethod yX6_death, Cond.selects RX6 yX6_death yX6_death, Cond.initialized RX6] : List Cond), w ∈ woX6_comesTo) w h)) (by decide +kernel)) (goodIn_sub (fun w h => ptX6_comesTo_wsX6_death w h) (List.all_eq_true.mpr ok_X6_death))
def woX6_work : List Cond := [Cond.methodLink RX6 255 yX6_putInOrder, Cond.instanceMethod yX6_putInOrder, Cond.selects RX6 yX6_putInOrder yX6_putInOrder, Cond.initialized RX6, Cond.fieldLink RX6 206 "FreeLandModel" "entries" "I", Cond.fieldLink RX6 70 "FreeLandModel" "outcomes" "[I", Cond.fieldLink RX6 73 "FreeLandModel" "isDead" "[Z", Cond.fieldLink RX6 97 "FreeLandModel" "preferred" "[I", Cond.fieldLink RX6 212 "FreeLandModel" "worked" "I", Cond.fieldLink RX6 203 "FreeLandModel" "orderMany" "I", Cond.fieldLink RX6 67 "FreeLandModel" "order" "[I", Cond.methodLink RX6 259 yX6_comesTo, Cond.instanceMethod yX6_comesTo, Cond.selects RX6 yX6_comesTo yX6_comesTo]
def wsX6_work : List Cond := .code yX6_work cX6_work 4 none :: (woX6_work ++ (wsX60 ++ (wsX6_putInOrder ++ (wsX6_comesTo))))
set_option maxRecDepth 100000 in
set_option maxHeartbeats 4000000 in
theorem lwo_X6_work : ∀ w ∈ Cond.code yX6_work cX6_work 4 none :: woX6_work, w ∈ lw_tbl := lwi_mem [(4, 133), (4, 134), (4, 136), (0, 59), (1, 7), (3, 159), (3, 157), (3, 158), (3, 167), (3, 169), (3, 156), (3, 155), (4, 138), (4, 140), (0, 60)] (by decide +kernel)
theorem oko_X6_work : ∀ w ∈ woX6_work, goodWord w = true := by decide +kernel
theorem lw_X6_work : ∀ w ∈ wsX6_work, w ∈ lw_tbl := List.forall_mem_cons.mpr ⟨lwo_X6_work _ List.mem_cons_self, List.forall_mem_append.mpr ⟨(fun w h => lwo_X6_work w (List.mem_cons_of_mem _ h)), List.forall_mem_append.mpr ⟨lwi_X6, List.forall_mem_append.mpr ⟨lw_X6_putInOrder, lw_X6_comesTo⟩⟩⟩⟩
theorem ok_X6_work : ∀ w ∈ wsX6_work, goodWord w = true := List.forall_mem_cons.mpr ⟨rfl, List.forall_mem_append.mpr ⟨oko_X6_work, List.forall_mem_append.mpr ⟨ok_X6, List.forall_mem_append.mpr ⟨ok_X6_putInOrder, ok_X6_comesTo⟩⟩⟩⟩
theorem ptX6_work_woX6_work : ∀ w ∈ woX6_work, w ∈ wsX6_work := fun _ h => List.mem_cons_of_mem _ (List.mem_append_left _ h)
theorem ptX6_work_wsX60 : ∀ w ∈ wsX60, w ∈ wsX6_work := fun _ h => List.mem_cons_of_mem _ (List.mem_append_right _ (List.mem_append_left _ h))
theorem ptX6_work_wsX6_putInOrder : ∀ w ∈ wsX6_putInOrder, w ∈ wsX6_work := fun _ h => List.mem_cons_of_mem _ (List.mem_append_right _ (List.mem_append_right _ (List.mem_append_left _ h)))
theorem ptX6_work_wsX6_comesTo : ∀ w ∈ wsX6_comesTo, w ∈ wsX6_work := fun _ h => List.mem_cons_of_mem _ (List.mem_append_right _ (List.mem_append_right _ (List.mem_append_right _ h)))
theorem gX6_work_X6_putInOrder : GoodIn wsX6_work (wsV RX6 255 RX6 yX6_putInOrder wsX6_putInOrder) := goodIn_app (goodIn_sub (fun w h => ptX6_work_woX6_work w ((by decide +kernel : ∀ w ∈ ([Cond.methodLink RX6 255 yX6_putInOrder, Cond.instanceMethod yX6_putInOrder, Cond.selects RX6 yX6_putInOrder yX6_putInOrder, Cond.initialized RX6] : List Cond), w ∈ woX6_work) w h)) (by decide +kernel)) (goodIn_sub (fun w h => ptX6_work_wsX6_putInOrder w h) (List.all_eq_true.mpr ok_X6_putInOrder))
theorem gX6_work_X6_comesTo : GoodIn wsX6_work (wsV RX6 259 RX6 yX6_comesTo wsX6_comesTo) := goodIn_app (goodIn_sub (fun w h => ptX6_work_woX6_work w ((by decide +kernel : ∀ w ∈ ([Cond.methodLink RX6 259 yX6_comesTo, Cond.instanceMethod yX6_comesTo, Cond.selects RX6 yX6_comesTo yX6_comesTo, Cond.initialized RX6] : List Cond), w ∈ woX6_work) w h)) (by decide +kernel)) (goodIn_sub (fun w h => ptX6_work_wsX6_comesTo w h) (List.all_eq_true.mpr ok_X6_comesTo))
def woX6_isKnown : List Cond := [Cond.constantLong RX6 262 (-1), Cond.fieldLink RX6 197 "FreeLandModel" "lines" "I", Cond.methodLink RX6 130 yX6_in, Cond.static yX6_in, Cond.initialized RX6]
def wsX6_isKnown : List Cond := .code yX6_isKnown cX6_isKnown 2 (some .boolean) :: (woX6_isKnown ++ (wsX60 ++ (wsX6_in)))
set_option maxRecDepth 100000 in
set_option maxHeartbeats 4000000 in
theorem lwo_X6_isKnown : ∀ w ∈ Cond.code yX6_isKnown cX6_isKnown 2 (some .boolean) :: woX6_isKnown, w ∈ lw_tbl := lwi_mem [(4, 124), (4, 125), (3, 145), (4, 32), (4, 33), (1, 7)] (by decide +kernel)
theorem oko_X6_isKnown : ∀ w ∈ woX6_isKnown, goodWord w = true := by decide +kernel
theorem lw_X6_isKnown : ∀ w ∈ wsX6_isKnown, w ∈ lw_tbl := List.forall_mem_cons.mpr ⟨lwo_X6_isKnown _ List.mem_cons_self, List.forall_mem_append.mpr ⟨(fun w h => lwo_X6_isKnown w (List.mem_cons_of_mem _ h)), List.forall_mem_append.mpr ⟨lwi_X6, lw_X6_in⟩⟩⟩
theorem ok_X6_isKnown : ∀ w ∈ wsX6_isKnown, goodWord w = true := List.forall_mem_cons.mpr ⟨rfl, List.forall_mem_append.mpr ⟨oko_X6_isKnown, List.forall_mem_append.mpr ⟨ok_X6, ok_X6_in⟩⟩⟩
theorem ptX6_isKnown_woX6_isKnown : ∀ w ∈ woX6_isKnown, w ∈ wsX6_isKnown := fun _ h => List.mem_cons_of_mem _ (List.mem_append_left _ h)
theorem ptX6_isKnown_wsX60 : ∀ w ∈ wsX60, w ∈ wsX6_isKnown := fun _ h => List.mem_cons_of_mem _ (List.mem_append_right _ (List.mem_append_left _ h))
theorem ptX6_isKnown_wsX6_in : ∀ w ∈ wsX6_in, w ∈ wsX6_isKnown := fun _ h => List.mem_cons_of_mem _ (List.mem_append_right _ (List.mem_append_right _ h))
theorem gX6_isKnown_X6_in : GoodIn wsX6_isKnown (va_wsS RX6 130 yX6_in wsX6_in) := goodIn_app (goodIn_sub (fun w h => ptX6_isKnown_woX6_isKnown w ((by decide +kernel : ∀ w ∈ ([Cond.methodLink RX6 130 yX6_in, Cond.static yX6_in, Cond.initialized yX6_in.cls] : List Cond), w ∈ woX6_isKnown) w h)) (by decide +kernel)) (goodIn_sub (fun w h => ptX6_isKnown_wsX6_in w h) (List.all_eq_true.mpr ok_X6_in))
def woX6_first : List Cond := [Cond.fieldLink RX6 197 "FreeLandModel" "lines" "I"]
def wsX6_first : List Cond := .code yX6_first cX6_first 2 (some .int) :: (woX6_first ++ (wsX60))
set_option maxRecDepth 100000 in
set_option maxHeartbeats 4000000 in
theorem lwo_X6_first : ∀ w ∈ Cond.code yX6_first cX6_first 2 (some .int) :: woX6_first, w ∈ lw_tbl := lwi_mem [(4, 129), (3, 145)] (by decide +kernel)
theorem oko_X6_first : ∀ w ∈ woX6_first, goodWord w = true := by decide +kernel
theorem lw_X6_first : ∀ w ∈ wsX6_first, w ∈ lw_tbl := List.forall_mem_cons.mpr ⟨lwo_X6_first _ List.mem_cons_self, List.forall_mem_append.mpr ⟨(fun w h => lwo_X6_first w (List.mem_cons_of_mem _ h)), lwi_X6⟩⟩
theorem ok_X6_first : ∀ w ∈ wsX6_first, goodWord w = true := List.forall_mem_cons.mpr ⟨rfl, List.forall_mem_append.mpr ⟨oko_X6_first, ok_X6⟩⟩
theorem ptX6_first_woX6_first : ∀ w ∈ woX6_first, w ∈ wsX6_first := fun _ h => List.mem_cons_of_mem _ (List.mem_append_left _ h)
theorem ptX6_first_wsX60 : ∀ w ∈ wsX60, w ∈ wsX6_first := fun _ h => List.mem_cons_of_mem _ (List.mem_append_right _ h)
def woX6_outcome : List Cond := [Cond.methodLink RX6 200 yX6_isLine, Cond.instanceMethod yX6_isLine, Cond.selects RX6 yX6_isLine yX6_isLine, Cond.initialized RX6, Cond.methodLink RX6 264 yX6_isKnown, Cond.instanceMethod yX6_isKnown, Cond.selects RX6 yX6_isKnown yX6_isKnown, Cond.methodLink RX6 267 yX6_first, Cond.instanceMethod yX6_first, Cond.selects RX6 yX6_first yX6_first, Cond.methodLink RX6 270 yX6_work, Cond.instanceMethod yX6_work, Cond.selects RX6 yX6_work yX6_work, Cond.fieldLink RX6 70 "FreeLandModel" "outcomes" "[I"]
def wsX6_outcome : List Cond := .code yX6_outcome cX6_outcome 3 (some .int) :: (woX6_outcome ++ (wsX60 ++ (wsX6_isLine ++ (wsX6_isKnown ++ (wsX6_first ++ (wsX6_work))))))
set_option maxRecDepth 100000 in
set_option maxHeartbeats 4000000 in
theorem lwo_X6_outcome : ∀ w ∈ Cond.code yX6_outcome cX6_outcome 3 (some .int) :: woX6_outcome, w ∈ lw_tbl := lwi_mem [(4, 120), (4, 109), (4, 111), (0, 55), (1, 7), (4, 121), (4, 123), (0, 56), (4, 126), (4, 128), (0, 57), (4, 130), (4, 132), (0, 58), (3, 157)] (by decide +kernel)
theorem oko_X6_outcome : ∀ w ∈ woX6_outcome, goodWord w = true := by decide +kernel
theorem lw_X6_outcome : ∀ w ∈ wsX6_outcome, w ∈ lw_tbl := List.forall_mem_cons.mpr ⟨lwo_X6_outcome _ List.mem_cons_self, List.forall_mem_append.mpr ⟨(fun w h => lwo_X6_outcome w (List.mem_cons_of_mem _ h)), List.forall_mem_append.mpr ⟨lwi_X6, List.forall_mem_append.mpr ⟨lw_X6_isLine, List.forall_mem_append.mpr ⟨lw_X6_isKnown, List.forall_mem_append.mpr ⟨lw_X6_first, lw_X6_work⟩⟩⟩⟩⟩⟩
theorem ok_X6_outcome : ∀ w ∈ wsX6_outcome, goodWord w = true := List.forall_mem_cons.mpr ⟨rfl, List.forall_mem_append.mpr ⟨oko_X6_outcome, List.forall_mem_append.mpr ⟨ok_X6, List.forall_mem_append.mpr ⟨ok_X6_isLine, List.forall_mem_append.mpr ⟨ok_X6_isKnown, List.forall_mem_append.mpr ⟨ok_X6_first, ok_X6_work⟩⟩⟩⟩⟩⟩
theorem ptX6_outcome_woX6_outcome : ∀ w ∈ woX6_outcome, w ∈ wsX6_outcome := fun _ h => List.mem_cons_of_mem _ (List.mem_append_left _ h)
theorem ptX6_outcome_wsX60 : ∀ w ∈ wsX60, w ∈ wsX6_outcome := fun _ h => List.mem_cons_of_mem _ (List.mem_append_right _ (List.mem_append_left _ h))
theorem ptX6_outcome_wsX6_isLine : ∀ w ∈ wsX6_isLine, w ∈ wsX6_outcome := fun _ h => List.mem_cons_of_mem _ (List.mem_append_right _ (List.mem_append_right _ (List.mem_append_left _ h)))
theorem ptX6_outcome_wsX6_isKnown : ∀ w ∈ wsX6_isKnown, w ∈ wsX6_outcome := fun _ h => List.mem_cons_of_mem _ (List.mem_append_right _ (List.mem_append_right _ (List.mem_append_right _ (List.mem_append_left _ h))))
theorem ptX6_outcome_wsX6_first : ∀ w ∈ wsX6_first, w ∈ wsX6_outcome := fun _ h => List.mem_cons_of_mem _ (List.mem_append_right _ (List.mem_append_right _ (List.mem_append_right _ (List.mem_append_right _ (List.mem_append_left _ h)))))
theorem ptX6_outcome_wsX6_work : ∀ w ∈ wsX6_work, w ∈ wsX6_outcome := fun _ h => List.mem_cons_of_mem _ (List.mem_append_right _ (List.mem_append_right _ (List.mem_append_right _ (List.mem_append_right _ (List.mem_append_right _ h)))))
theorem gX6_outcome_X6_isLine : GoodIn wsX6_outcome (wsV RX6 200 RX6 yX6_isLine wsX6_isLine) := goodIn_app (goodIn_sub (fun w h => ptX6_outcome_woX6_outcome w ((by decide +kernel : ∀ w ∈ ([Cond.methodLink RX6 200 yX6_isLine, Cond.instanceMethod yX6_isLine, Cond.selects RX6 yX6_isLine yX6_isLine, Cond.initialized RX6] : List Cond), w ∈ woX6_outcome) w h)) (by decide +kernel)) (goodIn_sub (fun w h => ptX6_outcome_wsX6_isLine w h) (List.all_eq_true.mpr ok_X6_isLine))
theorem gX6_outcome_X6_isKnown : GoodIn wsX6_outcome (wsV RX6 264 RX6 yX6_isKnown wsX6_isKnown) := goodIn_app (goodIn_sub (fun w h => ptX6_outcome_woX6_outcome w ((by decide +kernel : ∀ w ∈ ([Cond.methodLink RX6 264 yX6_isKnown, Cond.instanceMethod yX6_isKnown, Cond.selects RX6 yX6_isKnown yX6_isKnown, Cond.initialized RX6] : List Cond), w ∈ woX6_outcome) w h)) (by decide +kernel)) (goodIn_sub (fun w h => ptX6_outcome_wsX6_isKnown w h) (List.all_eq_true.mpr ok_X6_isKnown))
theorem gX6_outcome_X6_first : GoodIn wsX6_outcome (wsV RX6 267 RX6 yX6_first wsX6_first) := goodIn_app (goodIn_sub (fun w h => ptX6_outcome_woX6_outcome w ((by decide +kernel : ∀ w ∈ ([Cond.methodLink RX6 267 yX6_first, Cond.instanceMethod yX6_first, Cond.selects RX6 yX6_first yX6_first, Cond.initialized RX6] : List Cond), w ∈ woX6_outcome) w h)) (by decide +kernel)) (goodIn_sub (fun w h => ptX6_outcome_wsX6_first w h) (List.all_eq_true.mpr ok_X6_first))
theorem gX6_outcome_X6_work : GoodIn wsX6_outcome (wsV RX6 270 RX6 yX6_work wsX6_work) := goodIn_app (goodIn_sub (fun w h => ptX6_outcome_woX6_outcome w ((by decide +kernel : ∀ w ∈ ([Cond.methodLink RX6 270 yX6_work, Cond.instanceMethod yX6_work, Cond.selects RX6 yX6_work yX6_work, Cond.initialized RX6] : List Cond), w ∈ woX6_outcome) w h)) (by decide +kernel)) (goodIn_sub (fun w h => ptX6_outcome_wsX6_work w h) (List.all_eq_true.mpr ok_X6_work))
def woX6_entryMany : List Cond := [Cond.fieldLink RX6 206 "FreeLandModel" "entries" "I", Cond.fieldLink RX6 91 "FreeLandModel" "entryState" "[I"]
def wsX6_entryMany : List Cond := .code yX6_entryMany cX6_entryMany 4 (some .int) :: (woX6_entryMany ++ (wsX60))
set_option maxRecDepth 100000 in
set_option maxHeartbeats 4000000 in
theorem lwo_X6_entryMany : ∀ w ∈ Cond.code yX6_entryMany cX6_entryMany 4 (some .int) :: woX6_entryMany, w ∈ lw_tbl := lwi_mem [(4, 204), (3, 159), (3, 165)] (by decide +kernel)
theorem oko_X6_entryMany : ∀ w ∈ woX6_entryMany, goodWord w = true := by decide +kernel
theorem lw_X6_entryMany : ∀ w ∈ wsX6_entryMany, w ∈ lw_tbl := List.forall_mem_cons.mpr ⟨lwo_X6_entryMany _ List.mem_cons_self, List.forall_mem_append.mpr ⟨(fun w h => lwo_X6_entryMany w (List.mem_cons_of_mem _ h)), lwi_X6⟩⟩
theorem ok_X6_entryMany : ∀ w ∈ wsX6_entryMany, goodWord w = true := List.forall_mem_cons.mpr ⟨rfl, List.forall_mem_append.mpr ⟨oko_X6_entryMany, ok_X6⟩⟩
theorem ptX6_entryMany_woX6_entryMany : ∀ w ∈ woX6_entryMany, w ∈ wsX6_entryMany := fun _ h => List.mem_cons_of_mem _ (List.mem_append_left _ h)
theorem ptX6_entryMany_wsX60 : ∀ w ∈ wsX60, w ∈ wsX6_entryMany := fun _ h => List.mem_cons_of_mem _ (List.mem_append_right _ h)
def woX6_count : List Cond := [Cond.fieldLink RX6 197 "FreeLandModel" "lines" "I", Cond.methodLink RX6 270 yX6_work, Cond.instanceMethod yX6_work, Cond.selects RX6 yX6_work yX6_work, Cond.initialized RX6, Cond.fieldLink RX6 54 "FreeLandModel" "struck" "[Z", Cond.fieldLink RX6 70 "FreeLandModel" "outcomes" "[I", Cond.fieldLink RX6 134 "FreeLandModel" "persons" "I", Cond.fieldLink RX6 73 "FreeLandModel" "isDead" "[Z", Cond.fieldLink RX6 158 "FreeLandModel" "laws" "I", Cond.fieldLink RX6 145 "FreeLandModel" "texted" "I", Cond.fieldLink RX6 206 "FreeLandModel" "entries" "I", Cond.methodLink RX6 273 yX6_entryMany, Cond.instanceMethod yX6_entryMany, Cond.selects RX6 yX6_entryMany yX6_entryMany]
def wsX6_count : List Cond := .code yX6_count cX6_count 6 (some .int) :: (woX6_count ++ (wsX60 ++ (wsX6_work ++ (wsX6_entryMany))))
set_option maxRecDepth 100000 in
set_option maxHeartbeats 4000000 in
theorem lwo_X6_count : ∀ w ∈ Cond.code yX6_count cX6_count 6 (some .int) :: woX6_count, w ∈ lw_tbl := lwi_mem [(4, 200), (3, 145), (4, 130), (4, 132), (0, 58), (1, 7), (3, 151), (3, 157), (3, 133), (3, 158), (3, 140), (3, 138), (3, 159), (4, 201), (4, 203), (0, 74)] (by decide +kernel)
theorem oko_X6_count : ∀ w ∈ woX6_count, goodWord w = true := by decide +kernel
theorem lw_X6_count : ∀ w ∈ wsX6_count, w ∈ lw_tbl := List.forall_mem_cons.mpr ⟨lwo_X6_count _ List.mem_cons_self, List.forall_mem_append.mpr ⟨(fun w h => lwo_X6_count w (List.mem_cons_of_mem _ h)), List.forall_mem_append.mpr ⟨lwi_X6, List.forall_mem_append.mpr ⟨lw_X6_work, lw_X6_entryMany⟩⟩⟩⟩
theorem ok_X6_count : ∀ w ∈ wsX6_count, goodWord w = true := List.forall_mem_cons.mpr ⟨rfl, List.forall_mem_append.mpr ⟨oko_X6_count, List.forall_mem_append.mpr ⟨ok_X6, List.forall_mem_append.mpr ⟨ok_X6_work, ok_X6_entryMany⟩⟩⟩⟩
theorem ptX6_count_woX6_count : ∀ w ∈ woX6_count, w ∈ wsX6_count := fun _ h => List.mem_cons_of_mem _ (List.mem_append_left _ h)
theorem ptX6_count_wsX60 : ∀ w ∈ wsX60, w ∈ wsX6_count := fun _ h => List.mem_cons_of_mem _ (List.mem_append_right _ (List.mem_append_left _ h))
theorem ptX6_count_wsX6_work : ∀ w ∈ wsX6_work, w ∈ wsX6_count := fun _ h => List.mem_cons_of_mem _ (List.mem_append_right _ (List.mem_append_right _ (List.mem_append_left _ h)))
theorem ptX6_count_wsX6_entryMany : ∀ w ∈ wsX6_entryMany, w ∈ wsX6_count := fun _ h => List.mem_cons_of_mem _ (List.mem_append_right _ (List.mem_append_right _ (List.mem_append_right _ h)))
theorem gX6_count_X6_work : GoodIn wsX6_count (wsV RX6 270 RX6 yX6_work wsX6_work) := goodIn_app (goodIn_sub (fun w h => ptX6_count_woX6_count w ((by decide +kernel : ∀ w ∈ ([Cond.methodLink RX6 270 yX6_work, Cond.instanceMethod yX6_work, Cond.selects RX6 yX6_work yX6_work, Cond.initialized RX6] : List Cond), w ∈ woX6_count) w h)) (by decide +kernel)) (goodIn_sub (fun w h => ptX6_count_wsX6_work w h) (List.all_eq_true.mpr ok_X6_work))
theorem gX6_count_X6_entryMany : GoodIn wsX6_count (wsV RX6 273 RX6 yX6_entryMany wsX6_entryMany) := goodIn_app (goodIn_sub (fun w h => ptX6_count_woX6_count w ((by decide +kernel : ∀ w ∈ ([Cond.methodLink RX6 273 yX6_entryMany, Cond.instanceMethod yX6_entryMany, Cond.selects RX6 yX6_entryMany yX6_entryMany, Cond.initialized RX6] : List Cond), w ∈ woX6_count) w h)) (by decide +kernel)) (goodIn_sub (fun w h => ptX6_count_wsX6_entryMany w h) (List.all_eq_true.mpr ok_X6_entryMany))
def woX6_stateOf : List Cond := [Cond.methodLink RX6 215 yX6_isOdd, Cond.static yX6_isOdd, Cond.initialized RX6, Cond.fieldLink RX6 16 "FreeLandModel" "mapDay" "I", Cond.fieldLink RX6 91 "FreeLandModel" "entryState" "[I", Cond.fieldLink RX6 94 "FreeLandModel" "bindDay" "[I"]
def wsX6_stateOf : List Cond := .code yX6_stateOf cX6_stateOf 4 (some .int) :: (woX6_stateOf ++ (wsX60 ++ (wsX6_isOdd)))
set_option maxRecDepth 100000 in
set_option maxHeartbeats 4000000 in
theorem lwo_X6_stateOf : ∀ w ∈ Cond.code yX6_stateOf cX6_stateOf 4 (some .int) :: woX6_stateOf, w ∈ lw_tbl := lwi_mem [(4, 213), (4, 146), (4, 147), (1, 7), (3, 136), (3, 165), (3, 166)] (by decide +kernel)
theorem oko_X6_stateOf : ∀ w ∈ woX6_stateOf, goodWord w = true := by decide +kernel
theorem lw_X6_stateOf : ∀ w ∈ wsX6_stateOf, w ∈ lw_tbl := List.forall_mem_cons.mpr ⟨lwo_X6_stateOf _ List.mem_cons_self, List.forall_mem_append.mpr ⟨(fun w h => lwo_X6_stateOf w (List.mem_cons_of_mem _ h)), List.forall_mem_append.mpr ⟨lwi_X6, lw_X6_isOdd⟩⟩⟩
theorem ok_X6_stateOf : ∀ w ∈ wsX6_stateOf, goodWord w = true := List.forall_mem_cons.mpr ⟨rfl, List.forall_mem_append.mpr ⟨oko_X6_stateOf, List.forall_mem_append.mpr ⟨ok_X6, ok_X6_isOdd⟩⟩⟩
theorem ptX6_stateOf_woX6_stateOf : ∀ w ∈ woX6_stateOf, w ∈ wsX6_stateOf := fun _ h => List.mem_cons_of_mem _ (List.mem_append_left _ h)
theorem ptX6_stateOf_wsX60 : ∀ w ∈ wsX60, w ∈ wsX6_stateOf := fun _ h => List.mem_cons_of_mem _ (List.mem_append_right _ (List.mem_append_left _ h))
theorem ptX6_stateOf_wsX6_isOdd : ∀ w ∈ wsX6_isOdd, w ∈ wsX6_stateOf := fun _ h => List.mem_cons_of_mem _ (List.mem_append_right _ (List.mem_append_right _ h))
theorem gX6_stateOf_X6_isOdd : GoodIn wsX6_stateOf (va_wsS RX6 215 yX6_isOdd wsX6_isOdd) := goodIn_app (goodIn_sub (fun w h => ptX6_stateOf_woX6_stateOf w ((by decide +kernel : ∀ w ∈ ([Cond.methodLink RX6 215 yX6_isOdd, Cond.static yX6_isOdd, Cond.initialized yX6_isOdd.cls] : List Cond), w ∈ woX6_stateOf) w h)) (by decide +kernel)) (goodIn_sub (fun w h => ptX6_stateOf_wsX6_isOdd w h) (List.all_eq_true.mpr ok_X6_isOdd))
def woX6_holds : List Cond := [Cond.methodLink RX6 190 yX6_isQuarter, Cond.static yX6_isQuarter, Cond.initialized RX6, Cond.methodLink RX6 154 yX6_isDay, Cond.static yX6_isDay, Cond.methodLink RX6 264 yX6_isKnown, Cond.instanceMethod yX6_isKnown, Cond.selects RX6 yX6_isKnown yX6_isKnown, Cond.constantLong RX6 276 (5), Cond.methodLink RX6 130 yX6_in, Cond.static yX6_in, Cond.methodLink RX6 267 yX6_first, Cond.instanceMethod yX6_first, Cond.selects RX6 yX6_first yX6_first, Cond.methodLink RX6 270 yX6_work, Cond.instanceMethod yX6_work, Cond.selects RX6 yX6_work yX6_work, Cond.methodLink RX6 209 yX6_entryOf, Cond.instanceMethod yX6_entryOf, Cond.selects RX6 yX6_entryOf yX6_entryOf, Cond.fieldLink RX6 82 "FreeLandModel" "holders" "[I", Cond.methodLink RX6 278 yX6_stateOf, Cond.instanceMethod yX6_stateOf, Cond.selects RX6 yX6_stateOf yX6_stateOf, Cond.fieldLink RX6 76 "FreeLandModel" "entryLine" "[I", Cond.methodLink RX6 218 yX6_preferredOn, Cond.instanceMethod yX6_preferredOn, Cond.selects RX6 yX6_preferredOn yX6_preferredOn, Cond.methodLink RX6 237 yX6_acres, Cond.instanceMethod yX6_acres, Cond.selects RX6 yX6_acres yX6_acres, Cond.methodLink RX6 227 yX6_markLived, Cond.instanceMethod yX6_markLived, Cond.selects RX6 yX6_markLived yX6_markLived, Cond.fieldLink RX6 39 "FreeLandModel" "days" "[I", Cond.methodLink RX6 231 yX6_livedDays, Cond.instanceMethod yX6_livedDays, Cond.selects RX6 yX6_livedDays yX6_livedDays]
def wsX6_holds : List Cond := .code yX6_holds cX6_holds 6 (some .int) :: (woX6_holds ++ (wsX60 ++ (wsX6_isQuarter ++ (wsX6_isDay ++ (wsX6_isKnown ++ (wsX6_in ++ (wsX6_first ++ (wsX6_work ++ (wsX6_entryOf ++ (wsX6_stateOf ++ (wsX6_preferredOn ++ (wsX6_acres ++ (wsX6_markLived ++ (wsX6_livedDays))))))))))))))
set_option maxRecDepth 100000 in
set_option maxHeartbeats 4000000 in
theorem lwo_X6_holds : ∀ w ∈ Cond.code yX6_holds cX6_holds 6 (some .int) :: woX6_holds, w ∈ lw_tbl := lwi_mem [(4, 208), (4, 99), (4, 100), (1, 7), (4, 50), (4, 51), (4, 121), (4, 123), (0, 56), (4, 209), (4, 32), (4, 33), (4, 126), (4, 128), (0, 57), (4, 130), (4, 132), (0, 58), (4, 149), (4, 151), (0, 62), (3, 162), (4, 210), (4, 212), (0, 75), (3, 160), (4, 153), (4, 155), (0, 63), (4, 189), (4, 191), (0, 72), (4, 173), (4, 175), (0, 68), (3, 146), (4, 177), (4, 179), (0, 69)] (by decide +kernel)
theorem oko_X6_holds : ∀ w ∈ woX6_holds, goodWord w = true := by decide +kernel
theorem lw_X6_holds : ∀ w ∈ wsX6_holds, w ∈ lw_tbl := List.forall_mem_cons.mpr ⟨lwo_X6_holds _ List.mem_cons_self, List.forall_mem_append.mpr ⟨(fun w h => lwo_X6_holds w (List.mem_cons_of_mem _ h)), List.forall_mem_append.mpr ⟨lwi_X6, List.forall_mem_append.mpr ⟨lw_X6_isQuarter, List.forall_mem_append.mpr ⟨lw_X6_isDay, List.forall_mem_append.mpr ⟨lw_X6_isKnown, List.forall_mem_append.mpr ⟨lw_X6_in, List.forall_mem_append.mpr ⟨lw_X6_first, List.forall_mem_append.mpr ⟨lw_X6_work, List.forall_mem_append.mpr ⟨lw_X6_entryOf, List.forall_mem_append.mpr ⟨lw_X6_stateOf, List.forall_mem_append.mpr ⟨lw_X6_preferredOn, List.forall_mem_append.mpr ⟨lw_X6_acres, List.forall_mem_append.mpr ⟨lw_X6_markLived, lw_X6_livedDays⟩⟩⟩⟩⟩⟩⟩⟩⟩⟩⟩⟩⟩⟩
theorem ok_X6_holds : ∀ w ∈ wsX6_holds, goodWord w = true := List.forall_mem_cons.mpr ⟨rfl, List.forall_mem_append.mpr ⟨oko_X6_holds, List.forall_mem_append.mpr ⟨ok_X6, List.forall_mem_append.mpr ⟨ok_X6_isQuarter, List.forall_mem_append.mpr ⟨ok_X6_isDay, List.forall_mem_append.mpr ⟨ok_X6_isKnown, List.forall_mem_append.mpr ⟨ok_X6_in, List.forall_mem_append.mpr ⟨ok_X6_first, List.forall_mem_append.mpr ⟨ok_X6_work, List.forall_mem_append.mpr ⟨ok_X6_entryOf, List.forall_mem_append.mpr ⟨ok_X6_stateOf, List.forall_mem_append.mpr ⟨ok_X6_preferredOn, List.forall_mem_append.mpr ⟨ok_X6_acres, List.forall_mem_append.mpr ⟨ok_X6_markLived, ok_X6_livedDays⟩⟩⟩⟩⟩⟩⟩⟩⟩⟩⟩⟩⟩⟩
theorem ptX6_holds_woX6_holds : ∀ w ∈ woX6_holds, w ∈ wsX6_holds := fun _ h => List.mem_cons_of_mem _ (List.mem_append_left _ h)
theorem ptX6_holds_wsX60 : ∀ w ∈ wsX60, w ∈ wsX6_holds := fun _ h => List.mem_cons_of_mem _ (List.mem_append_right _ (List.mem_append_left _ h))
theorem ptX6_holds_wsX6_isQuarter : ∀ w ∈ wsX6_isQuarter, w ∈ wsX6_holds := fun _ h => List.mem_cons_of_mem _ (List.mem_append_right _ (List.mem_append_right _ (List.mem_append_left _ h)))
theorem ptX6_holds_wsX6_isDay : ∀ w ∈ wsX6_isDay, w ∈ wsX6_holds := fun _ h => List.mem_cons_of_mem _ (List.mem_append_right _ (List.mem_append_right _ (List.mem_append_right _ (List.mem_append_left _ h))))
theorem ptX6_holds_wsX6_isKnown : ∀ w ∈ wsX6_isKnown, w ∈ wsX6_holds := fun _ h => List.mem_cons_of_mem _ (List.mem_append_right _ (List.mem_append_right _ (List.mem_append_right _ (List.mem_append_right _ (List.mem_append_left _ h)))))
theorem ptX6_holds_wsX6_in : ∀ w ∈ wsX6_in, w ∈ wsX6_holds := fun _ h => List.mem_cons_of_mem _ (List.mem_append_right _ (List.mem_append_right _ (List.mem_append_right _ (List.mem_append_right _ (List.mem_append_right _ (List.mem_append_left _ h))))))
theorem ptX6_holds_wsX6_first : ∀ w ∈ wsX6_first, w ∈ wsX6_holds := fun _ h => List.mem_cons_of_mem _ (List.mem_append_right _ (List.mem_append_right _ (List.mem_append_right _ (List.mem_append_right _ (List.mem_append_right _ (List.mem_append_right _ (List.mem_append_left _ h)))))))
theorem ptX6_holds_wsX6_work : ∀ w ∈ wsX6_work, w ∈ wsX6_holds := fun _ h => List.mem_cons_of_mem _ (List.mem_append_right _ (List.mem_append_right _ (List.mem_append_right _ (List.mem_append_right _ (List.mem_append_right _ (List.mem_append_right _ (List.mem_append_right _ (List.mem_append_left _ h))))))))
theorem ptX6_holds_wsX6_entryOf : ∀ w ∈ wsX6_entryOf, w ∈ wsX6_holds := fun _ h => List.mem_cons_of_mem _ (List.mem_append_right _ (List.mem_append_right _ (List.mem_append_right _ (List.mem_append_right _ (List.mem_append_right _ (List.mem_append_right _ (List.mem_append_right _ (List.mem_append_right _ (List.mem_append_left _ h)))))))))
theorem ptX6_holds_wsX6_stateOf : ∀ w ∈ wsX6_stateOf, w ∈ wsX6_holds := fun _ h => List.mem_cons_of_mem _ (List.mem_append_right _ (List.mem_append_right _ (List.mem_append_right _ (List.mem_append_right _ (List.mem_append_right _ (List.mem_append_right _ (List.mem_append_right _ (List.mem_append_right _ (List.mem_append_right _ (List.mem_append_left _ h))))))))))
theorem ptX6_holds_wsX6_preferredOn : ∀ w ∈ wsX6_preferredOn, w ∈ wsX6_holds := fun _ h => List.mem_cons_of_mem _ (List.mem_append_right _ (List.mem_append_right _ (List.mem_append_right _ (List.mem_append_right _ (List.mem_append_right _ (List.mem_append_right _ (List.mem_append_right _ (List.mem_append_right _ (List.mem_append_right _ (List.mem_append_right _ (List.mem_append_left _ h)))))))))))
theorem ptX6_holds_wsX6_acres : ∀ w ∈ wsX6_acres, w ∈ wsX6_holds := fun _ h => List.mem_cons_of_mem _ (List.mem_append_right _ (List.mem_append_right _ (List.mem_append_right _ (List.mem_append_right _ (List.mem_append_right _ (List.mem_append_right _ (List.mem_append_right _ (List.mem_append_right _ (List.mem_append_right _ (List.mem_append_right _ (List.mem_append_right _ (List.mem_append_left _ h))))))))))))
theorem ptX6_holds_wsX6_markLived : ∀ w ∈ wsX6_markLived, w ∈ wsX6_holds := fun _ h => List.mem_cons_of_mem _ (List.mem_append_right _ (List.mem_append_right _ (List.mem_append_right _ (List.mem_append_right _ (List.mem_append_right _ (List.mem_append_right _ (List.mem_append_right _ (List.mem_append_right _ (List.mem_append_right _ (List.mem_append_right _ (List.mem_append_right _ (List.mem_append_right _ (List.mem_append_left _ h)))))))))))))
theorem ptX6_holds_wsX6_livedDays : ∀ w ∈ wsX6_livedDays, w ∈ wsX6_holds := fun _ h => List.mem_cons_of_mem _ (List.mem_append_right _ (List.mem_append_right _ (List.mem_append_right _ (List.mem_append_right _ (List.mem_append_right _ (List.mem_append_right _ (List.mem_append_right _ (List.mem_append_right _ (List.mem_append_right _ (List.mem_append_right _ (List.mem_append_right _ (List.mem_append_right _ (List.mem_append_right _ h)))))))))))))
theorem gX6_holds_X6_isQuarter : GoodIn wsX6_holds (va_wsS RX6 190 yX6_isQuarter wsX6_isQuarter) := goodIn_app (goodIn_sub (fun w h => ptX6_holds_woX6_holds w ((by decide +kernel : ∀ w ∈ ([Cond.methodLink RX6 190 yX6_isQuarter, Cond.static yX6_isQuarter, Cond.initialized yX6_isQuarter.cls] : List Cond), w ∈ woX6_holds) w h)) (by decide +kernel)) (goodIn_sub (fun w h => ptX6_holds_wsX6_isQuarter w h) (List.all_eq_true.mpr ok_X6_isQuarter))
theorem gX6_holds_X6_isDay : GoodIn wsX6_holds (va_wsS RX6 154 yX6_isDay wsX6_isDay) := goodIn_app (goodIn_sub (fun w h => ptX6_holds_woX6_holds w ((by decide +kernel : ∀ w ∈ ([Cond.methodLink RX6 154 yX6_isDay, Cond.static yX6_isDay, Cond.initialized yX6_isDay.cls] : List Cond), w ∈ woX6_holds) w h)) (by decide +kernel)) (goodIn_sub (fun w h => ptX6_holds_wsX6_isDay w h) (List.all_eq_true.mpr ok_X6_isDay))
theorem gX6_holds_X6_isKnown : GoodIn wsX6_holds (wsV RX6 264 RX6 yX6_isKnown wsX6_isKnown) := goodIn_app (goodIn_sub (fun w h => ptX6_holds_woX6_holds w ((by decide +kernel : ∀ w ∈ ([Cond.methodLink RX6 264 yX6_isKnown, Cond.instanceMethod yX6_isKnown, Cond.selects RX6 yX6_isKnown yX6_isKnown, Cond.initialized RX6] : List Cond), w ∈ woX6_holds) w h)) (by decide +kernel)) (goodIn_sub (fun w h => ptX6_holds_wsX6_isKnown w h) (List.all_eq_true.mpr ok_X6_isKnown))
theorem gX6_holds_X6_in : GoodIn wsX6_holds (va_wsS RX6 130 yX6_in wsX6_in) := goodIn_app (goodIn_sub (fun w h => ptX6_holds_woX6_holds w ((by decide +kernel : ∀ w ∈ ([Cond.methodLink RX6 130 yX6_in, Cond.static yX6_in, Cond.initialized yX6_in.cls] : List Cond), w ∈ woX6_holds) w h)) (by decide +kernel)) (goodIn_sub (fun w h => ptX6_holds_wsX6_in w h) (List.all_eq_true.mpr ok_X6_in))
theorem gX6_holds_X6_first : GoodIn wsX6_holds (wsV RX6 267 RX6 yX6_first wsX6_first) := goodIn_app (goodIn_sub (fun w h => ptX6_holds_woX6_holds w ((by decide +kernel : ∀ w ∈ ([Cond.methodLink RX6 267 yX6_first, Cond.instanceMethod yX6_first, Cond.selects RX6 yX6_first yX6_first, Cond.initialized RX6] : List Cond), w ∈ woX6_holds) w h)) (by decide +kernel)) (goodIn_sub (fun w h => ptX6_holds_wsX6_first w h) (List.all_eq_true.mpr ok_X6_first))
theorem gX6_holds_X6_work : GoodIn wsX6_holds (wsV RX6 270 RX6 yX6_work wsX6_work) := goodIn_app (goodIn_sub (fun w h => ptX6_holds_woX6_holds w ((by decide +kernel : ∀ w ∈ ([Cond.methodLink RX6 270 yX6_work, Cond.instanceMethod yX6_work, Cond.selects RX6 yX6_work yX6_work, Cond.initialized RX6] : List Cond), w ∈ woX6_holds) w h)) (by decide +kernel)) (goodIn_sub (fun w h => ptX6_holds_wsX6_work w h) (List.all_eq_true.mpr ok_X6_work))
theorem gX6_holds_X6_entryOf : GoodIn wsX6_holds (wsV RX6 209 RX6 yX6_entryOf wsX6_entryOf) := goodIn_app (goodIn_sub (fun w h => ptX6_holds_woX6_holds w ((by decide +kernel : ∀ w ∈ ([Cond.methodLink RX6 209 yX6_entryOf, Cond.instanceMethod yX6_entryOf, Cond.selects RX6 yX6_entryOf yX6_entryOf, Cond.initialized RX6] : List Cond), w ∈ woX6_holds) w h)) (by decide +kernel)) (goodIn_sub (fun w h => ptX6_holds_wsX6_entryOf w h) (List.all_eq_true.mpr ok_X6_entryOf))
theorem gX6_holds_X6_stateOf : GoodIn wsX6_holds (wsV RX6 278 RX6 yX6_stateOf wsX6_stateOf) := goodIn_app (goodIn_sub (fun w h => ptX6_holds_woX6_holds w ((by decide +kernel : ∀ w ∈ ([Cond.methodLink RX6 278 yX6_stateOf, Cond.instanceMethod yX6_stateOf, Cond.selects RX6 yX6_stateOf yX6_stateOf, Cond.initialized RX6] : List Cond), w ∈ woX6_holds) w h)) (by decide +kernel)) (goodIn_sub (fun w h => ptX6_holds_wsX6_stateOf w h) (List.all_eq_true.mpr ok_X6_stateOf))
theorem gX6_holds_X6_preferredOn : GoodIn wsX6_holds (wsV RX6 218 RX6 yX6_preferredOn wsX6_preferredOn) := goodIn_app (goodIn_sub (fun w h => ptX6_holds_woX6_holds w ((by decide +kernel : ∀ w ∈ ([Cond.methodLink RX6 218 yX6_preferredOn, Cond.instanceMethod yX6_preferredOn, Cond.selects RX6 yX6_preferredOn yX6_preferredOn, Cond.initialized RX6] : List Cond), w ∈ woX6_holds) w h)) (by decide +kernel)) (goodIn_sub (fun w h => ptX6_holds_wsX6_preferredOn w h) (List.all_eq_true.mpr ok_X6_preferredOn))
theorem gX6_holds_X6_acres : GoodIn wsX6_holds (wsV RX6 237 RX6 yX6_acres wsX6_acres) := goodIn_app (goodIn_sub (fun w h => ptX6_holds_woX6_holds w ((by decide +kernel : ∀ w ∈ ([Cond.methodLink RX6 237 yX6_acres, Cond.instanceMethod yX6_acres, Cond.selects RX6 yX6_acres yX6_acres, Cond.initialized RX6] : List Cond), w ∈ woX6_holds) w h)) (by decide +kernel)) (goodIn_sub (fun w h => ptX6_holds_wsX6_acres w h) (List.all_eq_true.mpr ok_X6_acres))
theorem gX6_holds_X6_markLived : GoodIn wsX6_holds (wsV RX6 227 RX6 yX6_markLived wsX6_markLived) := goodIn_app (goodIn_sub (fun w h => ptX6_holds_woX6_holds w ((by decide +kernel : ∀ w ∈ ([Cond.methodLink RX6 227 yX6_markLived, Cond.instanceMethod yX6_markLived, Cond.selects RX6 yX6_markLived yX6_markLived, Cond.initialized RX6] : List Cond), w ∈ woX6_holds) w h)) (by decide +kernel)) (goodIn_sub (fun w h => ptX6_holds_wsX6_markLived w h) (List.all_eq_true.mpr ok_X6_markLived))
theorem gX6_holds_X6_livedDays : GoodIn wsX6_holds (wsV RX6 231 RX6 yX6_livedDays wsX6_livedDays) := goodIn_app (goodIn_sub (fun w h => ptX6_holds_woX6_holds w ((by decide +kernel : ∀ w ∈ ([Cond.methodLink RX6 231 yX6_livedDays, Cond.instanceMethod yX6_livedDays, Cond.selects RX6 yX6_livedDays yX6_livedDays, Cond.initialized RX6] : List Cond), w ∈ woX6_holds) w h)) (by decide +kernel)) (goodIn_sub (fun w h => ptX6_holds_wsX6_livedDays w h) (List.all_eq_true.mpr ok_X6_livedDays))
def woX6_holderOf : List Cond := [Cond.methodLink RX6 209 yX6_entryOf, Cond.instanceMethod yX6_entryOf, Cond.selects RX6 yX6_entryOf yX6_entryOf, Cond.initialized RX6, Cond.fieldLink RX6 82 "FreeLandModel" "holders" "[I"]
def wsX6_holderOf : List Cond := .code yX6_holderOf cX6_holderOf 3 (some .int) :: (woX6_holderOf ++ (wsX60 ++ (wsX6_entryOf)))
set_option maxRecDepth 100000 in
set_option maxHeartbeats 4000000 in
theorem lwo_X6_holderOf : ∀ w ∈ Cond.code yX6_holderOf cX6_holderOf 3 (some .int) :: woX6_holderOf, w ∈ lw_tbl := lwi_mem [(4, 221), (4, 149), (4, 151), (0, 62), (1, 7), (3, 162)] (by decide +kernel)
theorem oko_X6_holderOf : ∀ w ∈ woX6_holderOf, goodWord w = true := by decide +kernel
theorem lw_X6_holderOf : ∀ w ∈ wsX6_holderOf, w ∈ lw_tbl := List.forall_mem_cons.mpr ⟨lwo_X6_holderOf _ List.mem_cons_self, List.forall_mem_append.mpr ⟨(fun w h => lwo_X6_holderOf w (List.mem_cons_of_mem _ h)), List.forall_mem_append.mpr ⟨lwi_X6, lw_X6_entryOf⟩⟩⟩
theorem ok_X6_holderOf : ∀ w ∈ wsX6_holderOf, goodWord w = true := List.forall_mem_cons.mpr ⟨rfl, List.forall_mem_append.mpr ⟨oko_X6_holderOf, List.forall_mem_append.mpr ⟨ok_X6, ok_X6_entryOf⟩⟩⟩
theorem ptX6_holderOf_woX6_holderOf : ∀ w ∈ woX6_holderOf, w ∈ wsX6_holderOf := fun _ h => List.mem_cons_of_mem _ (List.mem_append_left _ h)
theorem ptX6_holderOf_wsX60 : ∀ w ∈ wsX60, w ∈ wsX6_holderOf := fun _ h => List.mem_cons_of_mem _ (List.mem_append_right _ (List.mem_append_left _ h))
theorem ptX6_holderOf_wsX6_entryOf : ∀ w ∈ wsX6_entryOf, w ∈ wsX6_holderOf := fun _ h => List.mem_cons_of_mem _ (List.mem_append_right _ (List.mem_append_right _ h))
theorem gX6_holderOf_X6_entryOf : GoodIn wsX6_holderOf (wsV RX6 209 RX6 yX6_entryOf wsX6_entryOf) := goodIn_app (goodIn_sub (fun w h => ptX6_holderOf_woX6_holderOf w ((by decide +kernel : ∀ w ∈ ([Cond.methodLink RX6 209 yX6_entryOf, Cond.instanceMethod yX6_entryOf, Cond.selects RX6 yX6_entryOf yX6_entryOf, Cond.initialized RX6] : List Cond), w ∈ woX6_holderOf) w h)) (by decide +kernel)) (goodIn_sub (fun w h => ptX6_holderOf_wsX6_entryOf w h) (List.all_eq_true.mpr ok_X6_entryOf))
def woX6_holdings : List Cond := [Cond.methodLink RX6 187 yX6_isPerson, Cond.instanceMethod yX6_isPerson, Cond.selects RX6 yX6_isPerson yX6_isPerson, Cond.initialized RX6, Cond.methodLink RX6 264 yX6_isKnown, Cond.instanceMethod yX6_isKnown, Cond.selects RX6 yX6_isKnown yX6_isKnown, Cond.methodLink RX6 267 yX6_first, Cond.instanceMethod yX6_first, Cond.selects RX6 yX6_first yX6_first, Cond.methodLink RX6 270 yX6_work, Cond.instanceMethod yX6_work, Cond.selects RX6 yX6_work yX6_work, Cond.methodLink RX6 282 yX6_holderOf, Cond.instanceMethod yX6_holderOf, Cond.selects RX6 yX6_holderOf yX6_holderOf]
def wsX6_holdings : List Cond := .code yX6_holdings cX6_holdings 5 (some .int) :: (woX6_holdings ++ (wsX6_isPerson ++ (wsX6_isKnown ++ (wsX6_first ++ (wsX6_work ++ (wsX6_holderOf))))))
set_option maxRecDepth 100000 in
set_option maxHeartbeats 4000000 in
theorem lwo_X6_holdings : ∀ w ∈ Cond.code yX6_holdings cX6_holdings 5 (some .int) :: woX6_holdings, w ∈ lw_tbl := lwi_mem [(4, 217), (4, 95), (4, 97), (0, 54), (1, 7), (4, 121), (4, 123), (0, 56), (4, 126), (4, 128), (0, 57), (4, 130), (4, 132), (0, 58), (4, 218), (4, 220), (0, 76)] (by decide +kernel)
theorem oko_X6_holdings : ∀ w ∈ woX6_holdings, goodWord w = true := by decide +kernel
theorem lw_X6_holdings : ∀ w ∈ wsX6_holdings, w ∈ lw_tbl := List.forall_mem_cons.mpr ⟨lwo_X6_holdings _ List.mem_cons_self, List.forall_mem_append.mpr ⟨(fun w h => lwo_X6_holdings w (List.mem_cons_of_mem _ h)), List.forall_mem_append.mpr ⟨lw_X6_isPerson, List.forall_mem_append.mpr ⟨lw_X6_isKnown, List.forall_mem_append.mpr ⟨lw_X6_first, List.forall_mem_append.mpr ⟨lw_X6_work, lw_X6_holderOf⟩⟩⟩⟩⟩⟩
theorem ok_X6_holdings : ∀ w ∈ wsX6_holdings, goodWord w = true := List.forall_mem_cons.mpr ⟨rfl, List.forall_mem_append.mpr ⟨oko_X6_holdings, List.forall_mem_append.mpr ⟨ok_X6_isPerson, List.forall_mem_append.mpr ⟨ok_X6_isKnown, List.forall_mem_append.mpr ⟨ok_X6_first, List.forall_mem_append.mpr ⟨ok_X6_work, ok_X6_holderOf⟩⟩⟩⟩⟩⟩
theorem ptX6_holdings_woX6_holdings : ∀ w ∈ woX6_holdings, w ∈ wsX6_holdings := fun _ h => List.mem_cons_of_mem _ (List.mem_append_left _ h)
theorem ptX6_holdings_wsX6_isPerson : ∀ w ∈ wsX6_isPerson, w ∈ wsX6_holdings := fun _ h => List.mem_cons_of_mem _ (List.mem_append_right _ (List.mem_append_left _ h))
theorem ptX6_holdings_wsX6_isKnown : ∀ w ∈ wsX6_isKnown, w ∈ wsX6_holdings := fun _ h => List.mem_cons_of_mem _ (List.mem_append_right _ (List.mem_append_right _ (List.mem_append_left _ h)))
theorem ptX6_holdings_wsX6_first : ∀ w ∈ wsX6_first, w ∈ wsX6_holdings := fun _ h => List.mem_cons_of_mem _ (List.mem_append_right _ (List.mem_append_right _ (List.mem_append_right _ (List.mem_append_left _ h))))
theorem ptX6_holdings_wsX6_work : ∀ w ∈ wsX6_work, w ∈ wsX6_holdings := fun _ h => List.mem_cons_of_mem _ (List.mem_append_right _ (List.mem_append_right _ (List.mem_append_right _ (List.mem_append_right _ (List.mem_append_left _ h)))))
theorem ptX6_holdings_wsX6_holderOf : ∀ w ∈ wsX6_holderOf, w ∈ wsX6_holdings := fun _ h => List.mem_cons_of_mem _ (List.mem_append_right _ (List.mem_append_right _ (List.mem_append_right _ (List.mem_append_right _ (List.mem_append_right _ h)))))
theorem gX6_holdings_X6_isPerson : GoodIn wsX6_holdings (wsV RX6 187 RX6 yX6_isPerson wsX6_isPerson) := goodIn_app (goodIn_sub (fun w h => ptX6_holdings_woX6_holdings w ((by decide +kernel : ∀ w ∈ ([Cond.methodLink RX6 187 yX6_isPerson, Cond.instanceMethod yX6_isPerson, Cond.selects RX6 yX6_isPerson yX6_isPerson, Cond.initialized RX6] : List Cond), w ∈ woX6_holdings) w h)) (by decide +kernel)) (goodIn_sub (fun w h => ptX6_holdings_wsX6_isPerson w h) (List.all_eq_true.mpr ok_X6_isPerson))
theorem gX6_holdings_X6_isKnown : GoodIn wsX6_holdings (wsV RX6 264 RX6 yX6_isKnown wsX6_isKnown) := goodIn_app (goodIn_sub (fun w h => ptX6_holdings_woX6_holdings w ((by decide +kernel : ∀ w ∈ ([Cond.methodLink RX6 264 yX6_isKnown, Cond.instanceMethod yX6_isKnown, Cond.selects RX6 yX6_isKnown yX6_isKnown, Cond.initialized RX6] : List Cond), w ∈ woX6_holdings) w h)) (by decide +kernel)) (goodIn_sub (fun w h => ptX6_holdings_wsX6_isKnown w h) (List.all_eq_true.mpr ok_X6_isKnown))
theorem gX6_holdings_X6_first : GoodIn wsX6_holdings (wsV RX6 267 RX6 yX6_first wsX6_first) := goodIn_app (goodIn_sub (fun w h => ptX6_holdings_woX6_holdings w ((by decide +kernel : ∀ w ∈ ([Cond.methodLink RX6 267 yX6_first, Cond.instanceMethod yX6_first, Cond.selects RX6 yX6_first yX6_first, Cond.initialized RX6] : List Cond), w ∈ woX6_holdings) w h)) (by decide +kernel)) (goodIn_sub (fun w h => ptX6_holdings_wsX6_first w h) (List.all_eq_true.mpr ok_X6_first))
theorem gX6_holdings_X6_work : GoodIn wsX6_holdings (wsV RX6 270 RX6 yX6_work wsX6_work) := goodIn_app (goodIn_sub (fun w h => ptX6_holdings_woX6_holdings w ((by decide +kernel : ∀ w ∈ ([Cond.methodLink RX6 270 yX6_work, Cond.instanceMethod yX6_work, Cond.selects RX6 yX6_work yX6_work, Cond.initialized RX6] : List Cond), w ∈ woX6_holdings) w h)) (by decide +kernel)) (goodIn_sub (fun w h => ptX6_holdings_wsX6_work w h) (List.all_eq_true.mpr ok_X6_work))
theorem gX6_holdings_X6_holderOf : GoodIn wsX6_holdings (wsV RX6 282 RX6 yX6_holderOf wsX6_holderOf) := goodIn_app (goodIn_sub (fun w h => ptX6_holdings_woX6_holdings w ((by decide +kernel : ∀ w ∈ ([Cond.methodLink RX6 282 yX6_holderOf, Cond.instanceMethod yX6_holderOf, Cond.selects RX6 yX6_holderOf yX6_holderOf, Cond.initialized RX6] : List Cond), w ∈ woX6_holdings) w h)) (by decide +kernel)) (goodIn_sub (fun w h => ptX6_holdings_wsX6_holderOf w h) (List.all_eq_true.mpr ok_X6_holderOf))
def woX6_digest : List Cond := [Cond.methodLink RX6 264 yX6_isKnown, Cond.instanceMethod yX6_isKnown, Cond.selects RX6 yX6_isKnown yX6_isKnown, Cond.initialized RX6, Cond.methodLink RX6 267 yX6_first, Cond.instanceMethod yX6_first, Cond.selects RX6 yX6_first yX6_first, Cond.methodLink RX6 270 yX6_work, Cond.instanceMethod yX6_work, Cond.selects RX6 yX6_work yX6_work, Cond.fieldLink RX6 70 "FreeLandModel" "outcomes" "[I", Cond.methodLink RX6 282 yX6_holderOf, Cond.instanceMethod yX6_holderOf, Cond.selects RX6 yX6_holderOf yX6_holderOf]
def wsX6_digest : List Cond := .code yX6_digest cX6_digest 5 (some .int) :: (woX6_digest ++ (wsX60 ++ (wsX6_isKnown ++ (wsX6_first ++ (wsX6_work ++ (wsX6_holderOf))))))
set_option maxRecDepth 100000 in
set_option maxHeartbeats 4000000 in
theorem lwo_X6_digest : ∀ w ∈ Cond.code yX6_digest cX6_digest 5 (some .int) :: woX6_digest, w ∈ lw_tbl := lwi_mem [(4, 225), (4, 121), (4, 123), (0, 56), (1, 7), (4, 126), (4, 128), (0, 57), (4, 130), (4, 132), (0, 58), (3, 157), (4, 218), (4, 220), (0, 76)] (by decide +kernel)
theorem oko_X6_digest : ∀ w ∈ woX6_digest, goodWord w = true := by decide +kernel
theorem lw_X6_digest : ∀ w ∈ wsX6_digest, w ∈ lw_tbl := List.forall_mem_cons.mpr ⟨lwo_X6_digest _ List.mem_cons_self, List.forall_mem_append.mpr ⟨(fun w h => lwo_X6_digest w (List.mem_cons_of_mem _ h)), List.forall_mem_append.mpr ⟨lwi_X6, List.forall_mem_append.mpr ⟨lw_X6_isKnown, List.forall_mem_append.mpr ⟨lw_X6_first, List.forall_mem_append.mpr ⟨lw_X6_work, lw_X6_holderOf⟩⟩⟩⟩⟩⟩
theorem ok_X6_digest : ∀ w ∈ wsX6_digest, goodWord w = true := List.forall_mem_cons.mpr ⟨rfl, List.forall_mem_append.mpr ⟨oko_X6_digest, List.forall_mem_append.mpr ⟨ok_X6, List.forall_mem_append.mpr ⟨ok_X6_isKnown, List.forall_mem_append.mpr ⟨ok_X6_first, List.forall_mem_append.mpr ⟨ok_X6_work, ok_X6_holderOf⟩⟩⟩⟩⟩⟩
theorem ptX6_digest_woX6_digest : ∀ w ∈ woX6_digest, w ∈ wsX6_digest := fun _ h => List.mem_cons_of_mem _ (List.mem_append_left _ h)
theorem ptX6_digest_wsX60 : ∀ w ∈ wsX60, w ∈ wsX6_digest := fun _ h => List.mem_cons_of_mem _ (List.mem_append_right _ (List.mem_append_left _ h))
theorem ptX6_digest_wsX6_isKnown : ∀ w ∈ wsX6_isKnown, w ∈ wsX6_digest := fun _ h => List.mem_cons_of_mem _ (List.mem_append_right _ (List.mem_append_right _ (List.mem_append_left _ h)))
theorem ptX6_digest_wsX6_first : ∀ w ∈ wsX6_first, w ∈ wsX6_digest := fun _ h => List.mem_cons_of_mem _ (List.mem_append_right _ (List.mem_append_right _ (List.mem_append_right _ (List.mem_append_left _ h))))
theorem ptX6_digest_wsX6_work : ∀ w ∈ wsX6_work, w ∈ wsX6_digest := fun _ h => List.mem_cons_of_mem _ (List.mem_append_right _ (List.mem_append_right _ (List.mem_append_right _ (List.mem_append_right _ (List.mem_append_left _ h)))))
theorem ptX6_digest_wsX6_holderOf : ∀ w ∈ wsX6_holderOf, w ∈ wsX6_digest := fun _ h => List.mem_cons_of_mem _ (List.mem_append_right _ (List.mem_append_right _ (List.mem_append_right _ (List.mem_append_right _ (List.mem_append_right _ h)))))
theorem gX6_digest_X6_isKnown : GoodIn wsX6_digest (wsV RX6 264 RX6 yX6_isKnown wsX6_isKnown) := goodIn_app (goodIn_sub (fun w h => ptX6_digest_woX6_digest w ((by decide +kernel : ∀ w ∈ ([Cond.methodLink RX6 264 yX6_isKnown, Cond.instanceMethod yX6_isKnown, Cond.selects RX6 yX6_isKnown yX6_isKnown, Cond.initialized RX6] : List Cond), w ∈ woX6_digest) w h)) (by decide +kernel)) (goodIn_sub (fun w h => ptX6_digest_wsX6_isKnown w h) (List.all_eq_true.mpr ok_X6_isKnown))
theorem gX6_digest_X6_first : GoodIn wsX6_digest (wsV RX6 267 RX6 yX6_first wsX6_first) := goodIn_app (goodIn_sub (fun w h => ptX6_digest_woX6_digest w ((by decide +kernel : ∀ w ∈ ([Cond.methodLink RX6 267 yX6_first, Cond.instanceMethod yX6_first, Cond.selects RX6 yX6_first yX6_first, Cond.initialized RX6] : List Cond), w ∈ woX6_digest) w h)) (by decide +kernel)) (goodIn_sub (fun w h => ptX6_digest_wsX6_first w h) (List.all_eq_true.mpr ok_X6_first))
theorem gX6_digest_X6_work : GoodIn wsX6_digest (wsV RX6 270 RX6 yX6_work wsX6_work) := goodIn_app (goodIn_sub (fun w h => ptX6_digest_woX6_digest w ((by decide +kernel : ∀ w ∈ ([Cond.methodLink RX6 270 yX6_work, Cond.instanceMethod yX6_work, Cond.selects RX6 yX6_work yX6_work, Cond.initialized RX6] : List Cond), w ∈ woX6_digest) w h)) (by decide +kernel)) (goodIn_sub (fun w h => ptX6_digest_wsX6_work w h) (List.all_eq_true.mpr ok_X6_work))
theorem gX6_digest_X6_holderOf : GoodIn wsX6_digest (wsV RX6 282 RX6 yX6_holderOf wsX6_holderOf) := goodIn_app (goodIn_sub (fun w h => ptX6_digest_woX6_digest w ((by decide +kernel : ∀ w ∈ ([Cond.methodLink RX6 282 yX6_holderOf, Cond.instanceMethod yX6_holderOf, Cond.selects RX6 yX6_holderOf yX6_holderOf, Cond.initialized RX6] : List Cond), w ∈ woX6_digest) w h)) (by decide +kernel)) (goodIn_sub (fun w h => ptX6_digest_wsX6_holderOf w h) (List.all_eq_true.mpr ok_X6_holderOf))
def woX6_isCorner : List Cond := [Cond.constantLong RX6 143 (8), Cond.methodLink RX6 130 yX6_in, Cond.static yX6_in, Cond.initialized RX6]
def wsX6_isCorner : List Cond := .code yX6_isCorner cX6_isCorner 2 (some .boolean) :: (woX6_isCorner ++ (wsX6_in))
set_option maxRecDepth 100000 in
set_option maxHeartbeats 4000000 in
theorem lwo_X6_isCorner : ∀ w ∈ Cond.code yX6_isCorner cX6_isCorner 2 (some .boolean) :: woX6_isCorner, w ∈ lw_tbl := lwi_mem [(4, 232), (4, 44), (4, 32), (4, 33), (1, 7)] (by decide +kernel)
theorem oko_X6_isCorner : ∀ w ∈ woX6_isCorner, goodWord w = true := by decide +kernel
theorem lw_X6_isCorner : ∀ w ∈ wsX6_isCorner, w ∈ lw_tbl := List.forall_mem_cons.mpr ⟨lwo_X6_isCorner _ List.mem_cons_self, List.forall_mem_append.mpr ⟨(fun w h => lwo_X6_isCorner w (List.mem_cons_of_mem _ h)), lw_X6_in⟩⟩
theorem ok_X6_isCorner : ∀ w ∈ wsX6_isCorner, goodWord w = true := List.forall_mem_cons.mpr ⟨rfl, List.forall_mem_append.mpr ⟨oko_X6_isCorner, ok_X6_in⟩⟩
theorem ptX6_isCorner_woX6_isCorner : ∀ w ∈ woX6_isCorner, w ∈ wsX6_isCorner := fun _ h => List.mem_cons_of_mem _ (List.mem_append_left _ h)
theorem ptX6_isCorner_wsX6_in : ∀ w ∈ wsX6_in, w ∈ wsX6_isCorner := fun _ h => List.mem_cons_of_mem _ (List.mem_append_right _ h)
theorem gX6_isCorner_X6_in : GoodIn wsX6_isCorner (va_wsS RX6 130 yX6_in wsX6_in) := goodIn_app (goodIn_sub (fun w h => ptX6_isCorner_woX6_isCorner w ((by decide +kernel : ∀ w ∈ ([Cond.methodLink RX6 130 yX6_in, Cond.static yX6_in, Cond.initialized yX6_in.cls] : List Cond), w ∈ woX6_isCorner) w h)) (by decide +kernel)) (goodIn_sub (fun w h => ptX6_isCorner_wsX6_in w h) (List.all_eq_true.mpr ok_X6_in))
def woX6_corner : List Cond := [Cond.methodLink RX6 285 yX6_isCorner, Cond.static yX6_isCorner, Cond.initialized RX6, Cond.constantLong RX6 288 (-10000), Cond.constantLong RX6 290 (10000), Cond.methodLink RX6 130 yX6_in, Cond.static yX6_in, Cond.fieldLink RX6 58 "FreeLandModel" "known" "[Z", Cond.fieldLink RX6 61 "FreeLandModel" "cornerX" "[I", Cond.fieldLink RX6 64 "FreeLandModel" "cornerY" "[I"]
def wsX6_corner : List Cond := .code yX6_corner cX6_corner 6 (some .int) :: (woX6_corner ++ (wsX60 ++ (wsX6_isCorner ++ (wsX6_in))))
set_option maxRecDepth 100000 in
set_option maxHeartbeats 4000000 in
theorem lwo_X6_corner : ∀ w ∈ Cond.code yX6_corner cX6_corner 6 (some .int) :: woX6_corner, w ∈ lw_tbl := lwi_mem [(4, 229), (4, 230), (4, 231), (1, 7), (4, 233), (4, 234), (4, 32), (4, 33), (3, 152), (3, 153), (3, 154)] (by decide +kernel)
theorem oko_X6_corner : ∀ w ∈ woX6_corner, goodWord w = true := by decide +kernel
theorem lw_X6_corner : ∀ w ∈ wsX6_corner, w ∈ lw_tbl := List.forall_mem_cons.mpr ⟨lwo_X6_corner _ List.mem_cons_self, List.forall_mem_append.mpr ⟨(fun w h => lwo_X6_corner w (List.mem_cons_of_mem _ h)), List.forall_mem_append.mpr ⟨lwi_X6, List.forall_mem_append.mpr ⟨lw_X6_isCorner, lw_X6_in⟩⟩⟩⟩
theorem ok_X6_corner : ∀ w ∈ wsX6_corner, goodWord w = true := List.forall_mem_cons.mpr ⟨rfl, List.forall_mem_append.mpr ⟨oko_X6_corner, List.forall_mem_append.mpr ⟨ok_X6, List.forall_mem_append.mpr ⟨ok_X6_isCorner, ok_X6_in⟩⟩⟩⟩
theorem ptX6_corner_woX6_corner : ∀ w ∈ woX6_corner, w ∈ wsX6_corner := fun _ h => List.mem_cons_of_mem _ (List.mem_append_left _ h)
theorem ptX6_corner_wsX60 : ∀ w ∈ wsX60, w ∈ wsX6_corner := fun _ h => List.mem_cons_of_mem _ (List.mem_append_right _ (List.mem_append_left _ h))
theorem ptX6_corner_wsX6_isCorner : ∀ w ∈ wsX6_isCorner, w ∈ wsX6_corner := fun _ h => List.mem_cons_of_mem _ (List.mem_append_right _ (List.mem_append_right _ (List.mem_append_left _ h)))
theorem ptX6_corner_wsX6_in : ∀ w ∈ wsX6_in, w ∈ wsX6_corner := fun _ h => List.mem_cons_of_mem _ (List.mem_append_right _ (List.mem_append_right _ (List.mem_append_right _ h)))
theorem gX6_corner_X6_isCorner : GoodIn wsX6_corner (va_wsS RX6 285 yX6_isCorner wsX6_isCorner) := goodIn_app (goodIn_sub (fun w h => ptX6_corner_woX6_corner w ((by decide +kernel : ∀ w ∈ ([Cond.methodLink RX6 285 yX6_isCorner, Cond.static yX6_isCorner, Cond.initialized yX6_isCorner.cls] : List Cond), w ∈ woX6_corner) w h)) (by decide +kernel)) (goodIn_sub (fun w h => ptX6_corner_wsX6_isCorner w h) (List.all_eq_true.mpr ok_X6_isCorner))
theorem gX6_corner_X6_in : GoodIn wsX6_corner (va_wsS RX6 130 yX6_in wsX6_in) := goodIn_app (goodIn_sub (fun w h => ptX6_corner_woX6_corner w ((by decide +kernel : ∀ w ∈ ([Cond.methodLink RX6 130 yX6_in, Cond.static yX6_in, Cond.initialized yX6_in.cls] : List Cond), w ∈ woX6_corner) w h)) (by decide +kernel)) (goodIn_sub (fun w h => ptX6_corner_wsX6_in w h) (List.all_eq_true.mpr ok_X6_in))
def woX6_lose : List Cond := [Cond.methodLink RX6 285 yX6_isCorner, Cond.static yX6_isCorner, Cond.initialized RX6, Cond.fieldLink RX6 58 "FreeLandModel" "known" "[Z"]
def wsX6_lose : List Cond := .code yX6_lose cX6_lose 4 (some .int) :: (woX6_lose ++ (wsX60 ++ (wsX6_isCorner)))
set_option maxRecDepth 100000 in
set_option maxHeartbeats 4000000 in
theorem lwo_X6_lose : ∀ w ∈ Cond.code yX6_lose cX6_lose 4 (some .int) :: woX6_lose, w ∈ lw_tbl := lwi_mem [(4, 238), (4, 230), (4, 231), (1, 7), (3, 152)] (by decide +kernel)
theorem oko_X6_lose : ∀ w ∈ woX6_lose, goodWord w = true := by decide +kernel
theorem lw_X6_lose : ∀ w ∈ wsX6_lose, w ∈ lw_tbl := List.forall_mem_cons.mpr ⟨lwo_X6_lose _ List.mem_cons_self, List.forall_mem_append.mpr ⟨(fun w h => lwo_X6_lose w (List.mem_cons_of_mem _ h)), List.forall_mem_append.mpr ⟨lwi_X6, lw_X6_isCorner⟩⟩⟩
theorem ok_X6_lose : ∀ w ∈ wsX6_lose, goodWord w = true := List.forall_mem_cons.mpr ⟨rfl, List.forall_mem_append.mpr ⟨oko_X6_lose, List.forall_mem_append.mpr ⟨ok_X6, ok_X6_isCorner⟩⟩⟩
theorem ptX6_lose_woX6_lose : ∀ w ∈ woX6_lose, w ∈ wsX6_lose := fun _ h => List.mem_cons_of_mem _ (List.mem_append_left _ h)
theorem ptX6_lose_wsX60 : ∀ w ∈ wsX60, w ∈ wsX6_lose := fun _ h => List.mem_cons_of_mem _ (List.mem_append_right _ (List.mem_append_left _ h))
theorem ptX6_lose_wsX6_isCorner : ∀ w ∈ wsX6_isCorner, w ∈ wsX6_lose := fun _ h => List.mem_cons_of_mem _ (List.mem_append_right _ (List.mem_append_right _ h))
theorem gX6_lose_X6_isCorner : GoodIn wsX6_lose (va_wsS RX6 285 yX6_isCorner wsX6_isCorner) := goodIn_app (goodIn_sub (fun w h => ptX6_lose_woX6_lose w ((by decide +kernel : ∀ w ∈ ([Cond.methodLink RX6 285 yX6_isCorner, Cond.static yX6_isCorner, Cond.initialized yX6_isCorner.cls] : List Cond), w ∈ woX6_lose) w h)) (by decide +kernel)) (goodIn_sub (fun w h => ptX6_lose_wsX6_isCorner w h) (List.all_eq_true.mpr ok_X6_isCorner))
def woX6_findSides : List Cond := [Cond.fieldLink RX6 292 "FreeLandModel" "one" "I", Cond.fieldLink RX6 295 "FreeLandModel" "two" "I", Cond.fieldLink RX6 58 "FreeLandModel" "known" "[Z", Cond.fieldLink RX6 298 "FreeLandModel" "share" "I", Cond.fieldLink RX6 301 "FreeLandModel" "whole" "I"]
def wsX6_findSides : List Cond := .code yX6_findSides cX6_findSides 5 (some .boolean) :: (woX6_findSides ++ (wsX60))
set_option maxRecDepth 100000 in
set_option maxHeartbeats 4000000 in
theorem lwo_X6_findSides : ∀ w ∈ Cond.code yX6_findSides cX6_findSides 5 (some .boolean) :: woX6_findSides, w ∈ lw_tbl := lwi_mem [(5, 11), (3, 171), (3, 172), (3, 152), (3, 173), (3, 174)] (by decide +kernel)
theorem oko_X6_findSides : ∀ w ∈ woX6_findSides, goodWord w = true := by decide +kernel
theorem lw_X6_findSides : ∀ w ∈ wsX6_findSides, w ∈ lw_tbl := List.forall_mem_cons.mpr ⟨lwo_X6_findSides _ List.mem_cons_self, List.forall_mem_append.mpr ⟨(fun w h => lwo_X6_findSides w (List.mem_cons_of_mem _ h)), lwi_X6⟩⟩
theorem ok_X6_findSides : ∀ w ∈ wsX6_findSides, goodWord w = true := List.forall_mem_cons.mpr ⟨rfl, List.forall_mem_append.mpr ⟨oko_X6_findSides, ok_X6⟩⟩
theorem ptX6_findSides_woX6_findSides : ∀ w ∈ woX6_findSides, w ∈ wsX6_findSides := fun _ h => List.mem_cons_of_mem _ (List.mem_append_left _ h)
theorem ptX6_findSides_wsX60 : ∀ w ∈ wsX60, w ∈ wsX6_findSides := fun _ h => List.mem_cons_of_mem _ (List.mem_append_right _ h)
def woX6_findPlace : List Cond := [Cond.fieldLink RX6 58 "FreeLandModel" "known" "[Z", Cond.fieldLink RX6 61 "FreeLandModel" "cornerX" "[I", Cond.fieldLink RX6 304 "FreeLandModel" "lieX" "I", Cond.fieldLink RX6 64 "FreeLandModel" "cornerY" "[I", Cond.fieldLink RX6 307 "FreeLandModel" "lieY" "I", Cond.methodLink RX6 310 yX6_findSides, Cond.instanceMethod yX6_findSides, Cond.selects RX6 yX6_findSides yX6_findSides, Cond.initialized RX6, Cond.fieldLink RX6 292 "FreeLandModel" "one" "I", Cond.fieldLink RX6 301 "FreeLandModel" "whole" "I", Cond.fieldLink RX6 295 "FreeLandModel" "two" "I", Cond.fieldLink RX6 298 "FreeLandModel" "share" "I"]
def wsX6_findPlace : List Cond := .code yX6_findPlace cX6_findPlace 4 (some .boolean) :: (woX6_findPlace ++ (wsX60 ++ (wsX6_findSides)))
set_option maxRecDepth 100000 in
set_option maxHeartbeats 4000000 in
theorem lwo_X6_findPlace : ∀ w ∈ Cond.code yX6_findPlace cX6_findPlace 4 (some .boolean) :: woX6_findPlace, w ∈ lw_tbl := lwi_mem [(5, 7), (3, 152), (3, 153), (3, 175), (3, 154), (3, 176), (5, 8), (5, 10), (0, 78), (1, 7), (3, 171), (3, 174), (3, 172), (3, 173)] (by decide +kernel)
theorem oko_X6_findPlace : ∀ w ∈ woX6_findPlace, goodWord w = true := by decide +kernel
theorem lw_X6_findPlace : ∀ w ∈ wsX6_findPlace, w ∈ lw_tbl := List.forall_mem_cons.mpr ⟨lwo_X6_findPlace _ List.mem_cons_self, List.forall_mem_append.mpr ⟨(fun w h => lwo_X6_findPlace w (List.mem_cons_of_mem _ h)), List.forall_mem_append.mpr ⟨lwi_X6, lw_X6_findSides⟩⟩⟩
theorem ok_X6_findPlace : ∀ w ∈ wsX6_findPlace, goodWord w = true := List.forall_mem_cons.mpr ⟨rfl, List.forall_mem_append.mpr ⟨oko_X6_findPlace, List.forall_mem_append.mpr ⟨ok_X6, ok_X6_findSides⟩⟩⟩
theorem ptX6_findPlace_woX6_findPlace : ∀ w ∈ woX6_findPlace, w ∈ wsX6_findPlace := fun _ h => List.mem_cons_of_mem _ (List.mem_append_left _ h)
theorem ptX6_findPlace_wsX60 : ∀ w ∈ wsX60, w ∈ wsX6_findPlace := fun _ h => List.mem_cons_of_mem _ (List.mem_append_right _ (List.mem_append_left _ h))
theorem ptX6_findPlace_wsX6_findSides : ∀ w ∈ wsX6_findSides, w ∈ wsX6_findPlace := fun _ h => List.mem_cons_of_mem _ (List.mem_append_right _ (List.mem_append_right _ h))
theorem gX6_findPlace_X6_findSides : GoodIn wsX6_findPlace (wsV RX6 310 RX6 yX6_findSides wsX6_findSides) := goodIn_app (goodIn_sub (fun w h => ptX6_findPlace_woX6_findPlace w ((by decide +kernel : ∀ w ∈ ([Cond.methodLink RX6 310 yX6_findSides, Cond.instanceMethod yX6_findSides, Cond.selects RX6 yX6_findSides yX6_findSides, Cond.initialized RX6] : List Cond), w ∈ woX6_findPlace) w h)) (by decide +kernel)) (goodIn_sub (fun w h => ptX6_findPlace_wsX6_findSides w h) (List.all_eq_true.mpr ok_X6_findSides))
def woX6_lies : List Cond := [Cond.methodLink RX6 285 yX6_isCorner, Cond.static yX6_isCorner, Cond.initialized RX6, Cond.constantLong RX6 314 (2), Cond.methodLink RX6 130 yX6_in, Cond.static yX6_in, Cond.fieldLink RX6 58 "FreeLandModel" "known" "[Z", Cond.methodLink RX6 316 yX6_findPlace, Cond.instanceMethod yX6_findPlace, Cond.selects RX6 yX6_findPlace yX6_findPlace, Cond.fieldLink RX6 304 "FreeLandModel" "lieX" "I", Cond.fieldLink RX6 307 "FreeLandModel" "lieY" "I"]
def wsX6_lies : List Cond := .code yX6_lies cX6_lies 4 (some .int) :: (woX6_lies ++ (wsX60 ++ (wsX6_isCorner ++ (wsX6_in ++ (wsX6_findPlace)))))
set_option maxRecDepth 100000 in
set_option maxHeartbeats 4000000 in
theorem lwo_X6_lies : ∀ w ∈ Cond.code yX6_lies cX6_lies 4 (some .int) :: woX6_lies, w ∈ lw_tbl := lwi_mem [(5, 2), (4, 230), (4, 231), (1, 7), (5, 3), (4, 32), (4, 33), (3, 152), (5, 4), (5, 6), (0, 77), (3, 175), (3, 176)] (by decide +kernel)
theorem oko_X6_lies : ∀ w ∈ woX6_lies, goodWord w = true := by decide +kernel
theorem lw_X6_lies : ∀ w ∈ wsX6_lies, w ∈ lw_tbl := List.forall_mem_cons.mpr ⟨lwo_X6_lies _ List.mem_cons_self, List.forall_mem_append.mpr ⟨(fun w h => lwo_X6_lies w (List.mem_cons_of_mem _ h)), List.forall_mem_append.mpr ⟨lwi_X6, List.forall_mem_append.mpr ⟨lw_X6_isCorner, List.forall_mem_append.mpr ⟨lw_X6_in, lw_X6_findPlace⟩⟩⟩⟩⟩
theorem ok_X6_lies : ∀ w ∈ wsX6_lies, goodWord w = true := List.forall_mem_cons.mpr ⟨rfl, List.forall_mem_append.mpr ⟨oko_X6_lies, List.forall_mem_append.mpr ⟨ok_X6, List.forall_mem_append.mpr ⟨ok_X6_isCorner, List.forall_mem_append.mpr ⟨ok_X6_in, ok_X6_findPlace⟩⟩⟩⟩⟩
theorem ptX6_lies_woX6_lies : ∀ w ∈ woX6_lies, w ∈ wsX6_lies := fun _ h => List.mem_cons_of_mem _ (List.mem_append_left _ h)
theorem ptX6_lies_wsX60 : ∀ w ∈ wsX60, w ∈ wsX6_lies := fun _ h => List.mem_cons_of_mem _ (List.mem_append_right _ (List.mem_append_left _ h))
theorem ptX6_lies_wsX6_isCorner : ∀ w ∈ wsX6_isCorner, w ∈ wsX6_lies := fun _ h => List.mem_cons_of_mem _ (List.mem_append_right _ (List.mem_append_right _ (List.mem_append_left _ h)))
theorem ptX6_lies_wsX6_in : ∀ w ∈ wsX6_in, w ∈ wsX6_lies := fun _ h => List.mem_cons_of_mem _ (List.mem_append_right _ (List.mem_append_right _ (List.mem_append_right _ (List.mem_append_left _ h))))
theorem ptX6_lies_wsX6_findPlace : ∀ w ∈ wsX6_findPlace, w ∈ wsX6_lies := fun _ h => List.mem_cons_of_mem _ (List.mem_append_right _ (List.mem_append_right _ (List.mem_append_right _ (List.mem_append_right _ h))))
theorem gX6_lies_X6_isCorner : GoodIn wsX6_lies (va_wsS RX6 285 yX6_isCorner wsX6_isCorner) := goodIn_app (goodIn_sub (fun w h => ptX6_lies_woX6_lies w ((by decide +kernel : ∀ w ∈ ([Cond.methodLink RX6 285 yX6_isCorner, Cond.static yX6_isCorner, Cond.initialized yX6_isCorner.cls] : List Cond), w ∈ woX6_lies) w h)) (by decide +kernel)) (goodIn_sub (fun w h => ptX6_lies_wsX6_isCorner w h) (List.all_eq_true.mpr ok_X6_isCorner))
theorem gX6_lies_X6_in : GoodIn wsX6_lies (va_wsS RX6 130 yX6_in wsX6_in) := goodIn_app (goodIn_sub (fun w h => ptX6_lies_woX6_lies w ((by decide +kernel : ∀ w ∈ ([Cond.methodLink RX6 130 yX6_in, Cond.static yX6_in, Cond.initialized yX6_in.cls] : List Cond), w ∈ woX6_lies) w h)) (by decide +kernel)) (goodIn_sub (fun w h => ptX6_lies_wsX6_in w h) (List.all_eq_true.mpr ok_X6_in))
theorem gX6_lies_X6_findPlace : GoodIn wsX6_lies (wsV RX6 316 RX6 yX6_findPlace wsX6_findPlace) := goodIn_app (goodIn_sub (fun w h => ptX6_lies_woX6_lies w ((by decide +kernel : ∀ w ∈ ([Cond.methodLink RX6 316 yX6_findPlace, Cond.instanceMethod yX6_findPlace, Cond.selects RX6 yX6_findPlace yX6_findPlace, Cond.initialized RX6] : List Cond), w ∈ woX6_lies) w h)) (by decide +kernel)) (goodIn_sub (fun w h => ptX6_lies_wsX6_findPlace w h) (List.all_eq_true.mpr ok_X6_findPlace))
def woX6_area : List Cond := [Cond.methodLink RX6 190 yX6_isQuarter, Cond.static yX6_isQuarter, Cond.initialized RX6, Cond.constantLong RX6 319 (-1001), Cond.methodLink RX6 316 yX6_findPlace, Cond.instanceMethod yX6_findPlace, Cond.selects RX6 yX6_findPlace yX6_findPlace, Cond.fieldLink RX6 304 "FreeLandModel" "lieX" "I", Cond.fieldLink RX6 307 "FreeLandModel" "lieY" "I", Cond.constantLong RX6 321 (-1003)]
def wsX6_area : List Cond := .code yX6_area cX6_area 12 (some .long) :: (woX6_area ++ (wsX60 ++ (wsX6_isQuarter ++ (wsX6_findPlace))))
set_option maxRecDepth 100000 in
set_option maxHeartbeats 4000000 in
theorem lwo_X6_area : ∀ w ∈ Cond.code yX6_area cX6_area 12 (some .long) :: woX6_area, w ∈ lw_tbl := lwi_mem [(5, 15), (4, 99), (4, 100), (1, 7), (5, 16), (5, 4), (5, 6), (0, 77), (3, 175), (3, 176), (5, 17)] (by decide +kernel)
theorem oko_X6_area : ∀ w ∈ woX6_area, goodWord w = true := by decide +kernel
theorem lw_X6_area : ∀ w ∈ wsX6_area, w ∈ lw_tbl := List.forall_mem_cons.mpr ⟨lwo_X6_area _ List.mem_cons_self, List.forall_mem_append.mpr ⟨(fun w h => lwo_X6_area w (List.mem_cons_of_mem _ h)), List.forall_mem_append.mpr ⟨lwi_X6, List.forall_mem_append.mpr ⟨lw_X6_isQuarter, lw_X6_findPlace⟩⟩⟩⟩
theorem ok_X6_area : ∀ w ∈ wsX6_area, goodWord w = true := List.forall_mem_cons.mpr ⟨rfl, List.forall_mem_append.mpr ⟨oko_X6_area, List.forall_mem_append.mpr ⟨ok_X6, List.forall_mem_append.mpr ⟨ok_X6_isQuarter, ok_X6_findPlace⟩⟩⟩⟩
theorem ptX6_area_woX6_area : ∀ w ∈ woX6_area, w ∈ wsX6_area := fun _ h => List.mem_cons_of_mem _ (List.mem_append_left _ h)
theorem ptX6_area_wsX60 : ∀ w ∈ wsX60, w ∈ wsX6_area := fun _ h => List.mem_cons_of_mem _ (List.mem_append_right _ (List.mem_append_left _ h))
theorem ptX6_area_wsX6_isQuarter : ∀ w ∈ wsX6_isQuarter, w ∈ wsX6_area := fun _ h => List.mem_cons_of_mem _ (List.mem_append_right _ (List.mem_append_right _ (List.mem_append_left _ h)))
theorem ptX6_area_wsX6_findPlace : ∀ w ∈ wsX6_findPlace, w ∈ wsX6_area := fun _ h => List.mem_cons_of_mem _ (List.mem_append_right _ (List.mem_append_right _ (List.mem_append_right _ h)))
theorem gX6_area_X6_isQuarter : GoodIn wsX6_area (va_wsS RX6 190 yX6_isQuarter wsX6_isQuarter) := goodIn_app (goodIn_sub (fun w h => ptX6_area_woX6_area w ((by decide +kernel : ∀ w ∈ ([Cond.methodLink RX6 190 yX6_isQuarter, Cond.static yX6_isQuarter, Cond.initialized yX6_isQuarter.cls] : List Cond), w ∈ woX6_area) w h)) (by decide +kernel)) (goodIn_sub (fun w h => ptX6_area_wsX6_isQuarter w h) (List.all_eq_true.mpr ok_X6_isQuarter))
theorem gX6_area_X6_findPlace : GoodIn wsX6_area (wsV RX6 316 RX6 yX6_findPlace wsX6_findPlace) := goodIn_app (goodIn_sub (fun w h => ptX6_area_woX6_area w ((by decide +kernel : ∀ w ∈ ([Cond.methodLink RX6 316 yX6_findPlace, Cond.instanceMethod yX6_findPlace, Cond.selects RX6 yX6_findPlace yX6_findPlace, Cond.initialized RX6] : List Cond), w ∈ woX6_area) w h)) (by decide +kernel)) (goodIn_sub (fun w h => ptX6_area_wsX6_findPlace w h) (List.all_eq_true.mpr ok_X6_findPlace))
