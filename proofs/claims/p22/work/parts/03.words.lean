theorem lwi_mem {ws : List Cond} (ps : List Nat) (hp : ws = ps.filterMap (fun i => lw_tbl[i]?)) : ∀ w ∈ ws, w ∈ lw_tbl := by
  intro w hw
  rw [hp] at hw
  obtain ⟨i, -, hi⟩ := List.mem_filterMap.mp hw
  exact List.mem_of_getElem? hi
set_option maxRecDepth 100000 in
set_option maxHeartbeats 4000000 in
theorem lwi_X0 : ∀ w ∈ wsX00, w ∈ lw_tbl := lwi_mem [127, 129, 131, 133, 135, 137, 139, 141] (by decide +kernel)
theorem ok_X0 : ∀ w ∈ wsX00, goodWord w = true := by decide +kernel
theorem inX0 : ∀ w ∈ wsX00, w ∈ lw_tbl := lwi_X0
set_option maxRecDepth 100000 in
set_option maxHeartbeats 4000000 in
theorem lwi_X1 : ∀ w ∈ wsX10, w ∈ lw_tbl := lwi_mem [219, 221, 223, 225, 227, 229, 231] (by decide +kernel)
theorem ok_X1 : ∀ w ∈ wsX10, goodWord w = true := by decide +kernel
theorem inX1 : ∀ w ∈ wsX10, w ∈ lw_tbl := lwi_X1
set_option maxRecDepth 100000 in
set_option maxHeartbeats 4000000 in
theorem lwi_X2 : ∀ w ∈ wsX20, w ∈ lw_tbl := lwi_mem [84, 86, 88, 90, 92, 94, 96] (by decide +kernel)
theorem ok_X2 : ∀ w ∈ wsX20, goodWord w = true := by decide +kernel
theorem inX2 : ∀ w ∈ wsX20, w ∈ lw_tbl := lwi_X2
set_option maxRecDepth 100000 in
set_option maxHeartbeats 4000000 in
theorem lwi_X3 : ∀ w ∈ wsX30, w ∈ lw_tbl := lwi_mem [60, 62, 64] (by decide +kernel)
theorem ok_X3 : ∀ w ∈ wsX30, goodWord w = true := by decide +kernel
theorem inX3 : ∀ w ∈ wsX30, w ∈ lw_tbl := lwi_X3
set_option maxRecDepth 100000 in
set_option maxHeartbeats 4000000 in
theorem lwi_X4 : ∀ w ∈ wsX40, w ∈ lw_tbl := lwi_mem [171, 173, 175, 177, 179, 181, 183, 185, 187, 189, 191, 193, 195, 197, 199, 201, 203, 205] (by decide +kernel)
theorem ok_X4 : ∀ w ∈ wsX40, goodWord w = true := by decide +kernel
theorem inX4 : ∀ w ∈ wsX40, w ∈ lw_tbl := lwi_X4
set_option maxRecDepth 100000 in
set_option maxHeartbeats 4000000 in
theorem lwi_X5 : ∀ w ∈ wsX50, w ∈ lw_tbl := lwi_mem [240, 242, 244, 246, 248] (by decide +kernel)
theorem ok_X5 : ∀ w ∈ wsX50, goodWord w = true := by decide +kernel
theorem inX5 : ∀ w ∈ wsX50, w ∈ lw_tbl := lwi_X5
def woX0_init : List Cond := [Cond.methodLink RX0 3 objectInit, Cond.instanceMethod objectInit, Cond.code objectInit ⟨#[0xb1]⟩ 1 none, Cond.arrayClass .int, Cond.fieldLink RX0 9 "FreeLand$Book" "day" "[I", Cond.fieldLink RX0 15 "FreeLand$Book" "sort" "[I", Cond.fieldLink RX0 18 "FreeLand$Book" "who" "[I", Cond.fieldLink RX0 21 "FreeLand$Book" "where" "[I", Cond.fieldLink RX0 24 "FreeLand$Book" "number" "[I", Cond.arrayClass .boolean, Cond.fieldLink RX0 27 "FreeLand$Book" "struck" "[Z", Cond.fieldLink RX0 31 "FreeLand$Book" "order" "[I"]
def wsX0_init : List Cond := .code yX0_init cX0_init 1 none :: (woX0_init ++ (wsX00))
set_option maxRecDepth 100000 in
set_option maxHeartbeats 4000000 in
theorem lwo_X0_init : ∀ w ∈ Cond.code yX0_init cX0_init 1 none :: woX0_init, w ∈ lw_tbl := lwi_mem [104, 105, 46, 47, 67, 106, 108, 110, 113, 116, 144, 119, 122] (by decide +kernel)
theorem oko_X0_init : ∀ w ∈ woX0_init, goodWord w = true := by decide +kernel
theorem lw_X0_init : ∀ w ∈ wsX0_init, w ∈ lw_tbl := List.forall_mem_cons.mpr ⟨lwo_X0_init _ List.mem_cons_self, List.forall_mem_append.mpr ⟨(fun w h => lwo_X0_init w (List.mem_cons_of_mem _ h)), lwi_X0⟩⟩
theorem ok_X0_init : ∀ w ∈ wsX0_init, goodWord w = true := List.forall_mem_cons.mpr ⟨rfl, List.forall_mem_append.mpr ⟨oko_X0_init, ok_X0⟩⟩
theorem ptX0_init_woX0_init : ∀ w ∈ woX0_init, w ∈ wsX0_init := fun _ h => List.mem_cons_of_mem _ (List.mem_append_left _ h)
theorem ptX0_init_wsX00 : ∀ w ∈ wsX00, w ∈ wsX0_init := fun _ h => List.mem_cons_of_mem _ (List.mem_append_right _ h)
def woX0_add : List Cond := [Cond.fieldLink RX0 9 "FreeLand$Book" "day" "[I", Cond.fieldLink RX0 34 "FreeLand$Book" "size" "I", Cond.fieldLink RX0 15 "FreeLand$Book" "sort" "[I", Cond.fieldLink RX0 31 "FreeLand$Book" "order" "[I"]
def wsX0_add : List Cond := .code yX0_add cX0_add 4 (some .int) :: (woX0_add ++ (wsX00))
set_option maxRecDepth 100000 in
set_option maxHeartbeats 4000000 in
theorem lwo_X0_add : ∀ w ∈ Cond.code yX0_add cX0_add 4 (some .int) :: woX0_add, w ∈ lw_tbl := lwi_mem [282, 106, 124, 108, 122] (by decide +kernel)
theorem oko_X0_add : ∀ w ∈ woX0_add, goodWord w = true := by decide +kernel
theorem lw_X0_add : ∀ w ∈ wsX0_add, w ∈ lw_tbl := List.forall_mem_cons.mpr ⟨lwo_X0_add _ List.mem_cons_self, List.forall_mem_append.mpr ⟨(fun w h => lwo_X0_add w (List.mem_cons_of_mem _ h)), lwi_X0⟩⟩
theorem ok_X0_add : ∀ w ∈ wsX0_add, goodWord w = true := List.forall_mem_cons.mpr ⟨rfl, List.forall_mem_append.mpr ⟨oko_X0_add, ok_X0⟩⟩
theorem ptX0_add_woX0_add : ∀ w ∈ woX0_add, w ∈ wsX0_add := fun _ h => List.mem_cons_of_mem _ (List.mem_append_left _ h)
theorem ptX0_add_wsX00 : ∀ w ∈ wsX00, w ∈ wsX0_add := fun _ h => List.mem_cons_of_mem _ (List.mem_append_right _ h)
def woX0_countStruck : List Cond := [Cond.fieldLink RX0 34 "FreeLand$Book" "size" "I", Cond.fieldLink RX0 27 "FreeLand$Book" "struck" "[Z"]
def wsX0_countStruck : List Cond := .code yX0_countStruck cX0_countStruck 3 (some .int) :: (woX0_countStruck ++ (wsX00))
set_option maxRecDepth 100000 in
set_option maxHeartbeats 4000000 in
theorem lwo_X0_countStruck : ∀ w ∈ Cond.code yX0_countStruck cX0_countStruck 3 (some .int) :: woX0_countStruck, w ∈ lw_tbl := lwi_mem [394, 124, 119] (by decide +kernel)
theorem oko_X0_countStruck : ∀ w ∈ woX0_countStruck, goodWord w = true := by decide +kernel
theorem lw_X0_countStruck : ∀ w ∈ wsX0_countStruck, w ∈ lw_tbl := List.forall_mem_cons.mpr ⟨lwo_X0_countStruck _ List.mem_cons_self, List.forall_mem_append.mpr ⟨(fun w h => lwo_X0_countStruck w (List.mem_cons_of_mem _ h)), lwi_X0⟩⟩
theorem ok_X0_countStruck : ∀ w ∈ wsX0_countStruck, goodWord w = true := List.forall_mem_cons.mpr ⟨rfl, List.forall_mem_append.mpr ⟨oko_X0_countStruck, ok_X0⟩⟩
theorem ptX0_countStruck_woX0_countStruck : ∀ w ∈ woX0_countStruck, w ∈ wsX0_countStruck := fun _ h => List.mem_cons_of_mem _ (List.mem_append_left _ h)
theorem ptX0_countStruck_wsX00 : ∀ w ∈ wsX00, w ∈ wsX0_countStruck := fun _ h => List.mem_cons_of_mem _ (List.mem_append_right _ h)
def woX1_init : List Cond := [Cond.methodLink RX1 1 objectInit, Cond.instanceMethod objectInit, Cond.code objectInit ⟨#[0xb1]⟩ 1 none, Cond.arrayClass .boolean, Cond.fieldLink RX1 9 "FreeLand$Corners" "known" "[Z", Cond.arrayClass .int, Cond.fieldLink RX1 13 "FreeLand$Corners" "x" "[I", Cond.fieldLink RX1 17 "FreeLand$Corners" "y" "[I", Cond.arrayClass .long, Cond.fieldLink RX1 20 "FreeLand$Corners" "aroundX" "[J", Cond.fieldLink RX1 24 "FreeLand$Corners" "aroundY" "[J"]
def wsX1_init : List Cond := .code yX1_init cX1_init 2 none :: (woX1_init ++ (wsX10))
set_option maxRecDepth 100000 in
set_option maxHeartbeats 4000000 in
theorem lwo_X1_init : ∀ w ∈ Cond.code yX1_init cX1_init 2 none :: woX1_init, w ∈ lw_tbl := lwi_mem [212, 213, 46, 47, 144, 214, 67, 215, 216, 234, 217, 218] (by decide +kernel)
theorem oko_X1_init : ∀ w ∈ woX1_init, goodWord w = true := by decide +kernel
theorem lw_X1_init : ∀ w ∈ wsX1_init, w ∈ lw_tbl := List.forall_mem_cons.mpr ⟨lwo_X1_init _ List.mem_cons_self, List.forall_mem_append.mpr ⟨(fun w h => lwo_X1_init w (List.mem_cons_of_mem _ h)), lwi_X1⟩⟩
theorem ok_X1_init : ∀ w ∈ wsX1_init, goodWord w = true := List.forall_mem_cons.mpr ⟨rfl, List.forall_mem_append.mpr ⟨oko_X1_init, ok_X1⟩⟩
theorem ptX1_init_woX1_init : ∀ w ∈ woX1_init, w ∈ wsX1_init := fun _ h => List.mem_cons_of_mem _ (List.mem_append_left _ h)
theorem ptX1_init_wsX10 : ∀ w ∈ wsX10, w ∈ wsX1_init := fun _ h => List.mem_cons_of_mem _ (List.mem_append_right _ h)
def woX2_init : List Cond := [Cond.methodLink RX2 3 objectInit, Cond.instanceMethod objectInit, Cond.code objectInit ⟨#[0xb1]⟩ 1 none, Cond.arrayClass .byte, Cond.fieldLink RX2 9 "FreeLand$Laws" "text" "[B", Cond.fieldLink RX2 15 "FreeLand$Laws" "faultAt" "I", Cond.arrayClass .int, Cond.fieldLink RX2 19 "FreeLand$Laws" "from" "[I", Cond.classLink RX2 23 "[[I", Cond.fieldLink RX2 25 "FreeLand$Laws" "value" "[[I", Cond.fieldLink RX2 28 "FreeLand$Laws" "order" "[I"]
def wsX2_init : List Cond := .code yX2_init cX2_init 1 none :: (woX2_init ++ (wsX20))
set_option maxRecDepth 100000 in
set_option maxHeartbeats 4000000 in
theorem lwo_X2_init : ∀ w ∈ Cond.code yX2_init cX2_init 1 none :: woX2_init, w ∈ lw_tbl := lwi_mem [72, 73, 46, 47, 99, 76, 78, 67, 79, 74, 80, 81] (by decide +kernel)
theorem oko_X2_init : ∀ w ∈ woX2_init, goodWord w = true := by decide +kernel
theorem lw_X2_init : ∀ w ∈ wsX2_init, w ∈ lw_tbl := List.forall_mem_cons.mpr ⟨lwo_X2_init _ List.mem_cons_self, List.forall_mem_append.mpr ⟨(fun w h => lwo_X2_init w (List.mem_cons_of_mem _ h)), lwi_X2⟩⟩
theorem ok_X2_init : ∀ w ∈ wsX2_init, goodWord w = true := List.forall_mem_cons.mpr ⟨rfl, List.forall_mem_append.mpr ⟨oko_X2_init, ok_X2⟩⟩
theorem ptX2_init_woX2_init : ∀ w ∈ woX2_init, w ∈ wsX2_init := fun _ h => List.mem_cons_of_mem _ (List.mem_append_left _ h)
theorem ptX2_init_wsX20 : ∀ w ∈ wsX20, w ∈ wsX2_init := fun _ h => List.mem_cons_of_mem _ (List.mem_append_right _ h)
def woX2_valueOf : List Cond := [Cond.fieldLink RX2 34 "FreeLand$Laws" "size" "I", Cond.fieldLink RX2 28 "FreeLand$Laws" "order" "[I", Cond.fieldLink RX2 25 "FreeLand$Laws" "value" "[[I", Cond.fieldLink RX2 94 "FreeLand$Laws" "AT_FIRST" "[I"]
def wsX2_valueOf : List Cond := .code yX2_valueOf cX2_valueOf 6 (some .int) :: (woX2_valueOf ++ (wsX20))
set_option maxRecDepth 100000 in
set_option maxHeartbeats 4000000 in
theorem lwo_X2_valueOf : ∀ w ∈ Cond.code yX2_valueOf cX2_valueOf 6 (some .int) :: woX2_valueOf, w ∈ lw_tbl := lwi_mem [326, 82, 81, 80, 327] (by decide +kernel)
theorem oko_X2_valueOf : ∀ w ∈ woX2_valueOf, goodWord w = true := by decide +kernel
theorem lw_X2_valueOf : ∀ w ∈ wsX2_valueOf, w ∈ lw_tbl := List.forall_mem_cons.mpr ⟨lwo_X2_valueOf _ List.mem_cons_self, List.forall_mem_append.mpr ⟨(fun w h => lwo_X2_valueOf w (List.mem_cons_of_mem _ h)), lwi_X2⟩⟩
theorem ok_X2_valueOf : ∀ w ∈ wsX2_valueOf, goodWord w = true := List.forall_mem_cons.mpr ⟨rfl, List.forall_mem_append.mpr ⟨oko_X2_valueOf, ok_X2⟩⟩
theorem ptX2_valueOf_woX2_valueOf : ∀ w ∈ woX2_valueOf, w ∈ wsX2_valueOf := fun _ h => List.mem_cons_of_mem _ (List.mem_append_left _ h)
theorem ptX2_valueOf_wsX20 : ∀ w ∈ wsX20, w ∈ wsX2_valueOf := fun _ h => List.mem_cons_of_mem _ (List.mem_append_right _ h)
def woX2_inForce : List Cond := [Cond.fieldLink RX2 34 "FreeLand$Laws" "size" "I", Cond.fieldLink RX2 19 "FreeLand$Laws" "from" "[I", Cond.fieldLink RX2 28 "FreeLand$Laws" "order" "[I"]
def wsX2_inForce : List Cond := .code yX2_inForce cX2_inForce 3 (some .int) :: (woX2_inForce ++ (wsX20))
set_option maxRecDepth 100000 in
set_option maxHeartbeats 4000000 in
theorem lwo_X2_inForce : ∀ w ∈ Cond.code yX2_inForce cX2_inForce 3 (some .int) :: woX2_inForce, w ∈ lw_tbl := lwi_mem [322, 82, 79, 81] (by decide +kernel)
theorem oko_X2_inForce : ∀ w ∈ woX2_inForce, goodWord w = true := by decide +kernel
theorem lw_X2_inForce : ∀ w ∈ wsX2_inForce, w ∈ lw_tbl := List.forall_mem_cons.mpr ⟨lwo_X2_inForce _ List.mem_cons_self, List.forall_mem_append.mpr ⟨(fun w h => lwo_X2_inForce w (List.mem_cons_of_mem _ h)), lwi_X2⟩⟩
theorem ok_X2_inForce : ∀ w ∈ wsX2_inForce, goodWord w = true := List.forall_mem_cons.mpr ⟨rfl, List.forall_mem_append.mpr ⟨oko_X2_inForce, ok_X2⟩⟩
theorem ptX2_inForce_woX2_inForce : ∀ w ∈ woX2_inForce, w ∈ wsX2_inForce := fun _ h => List.mem_cons_of_mem _ (List.mem_append_left _ h)
theorem ptX2_inForce_wsX20 : ∀ w ∈ wsX20, w ∈ wsX2_inForce := fun _ h => List.mem_cons_of_mem _ (List.mem_append_right _ h)
def woX3_init : List Cond := [Cond.methodLink RX3 3 objectInit, Cond.instanceMethod objectInit, Cond.code objectInit ⟨#[0xb1]⟩ 1 none, Cond.arrayClass .int, Cond.fieldLink RX3 9 "FreeLand$Persons" "birth" "[I", Cond.fieldLink RX3 15 "FreeLand$Persons" "citizen" "[I"]
def wsX3_init : List Cond := .code yX3_init cX3_init 1 none :: (woX3_init ++ (wsX30))
set_option maxRecDepth 100000 in
set_option maxHeartbeats 4000000 in
theorem lwo_X3_init : ∀ w ∈ Cond.code yX3_init cX3_init 1 none :: woX3_init, w ∈ lw_tbl := lwi_mem [52, 53, 46, 47, 67, 54, 56] (by decide +kernel)
theorem oko_X3_init : ∀ w ∈ woX3_init, goodWord w = true := by decide +kernel
theorem lw_X3_init : ∀ w ∈ wsX3_init, w ∈ lw_tbl := List.forall_mem_cons.mpr ⟨lwo_X3_init _ List.mem_cons_self, List.forall_mem_append.mpr ⟨(fun w h => lwo_X3_init w (List.mem_cons_of_mem _ h)), lwi_X3⟩⟩
theorem ok_X3_init : ∀ w ∈ wsX3_init, goodWord w = true := List.forall_mem_cons.mpr ⟨rfl, List.forall_mem_append.mpr ⟨oko_X3_init, ok_X3⟩⟩
theorem ptX3_init_woX3_init : ∀ w ∈ woX3_init, w ∈ wsX3_init := fun _ h => List.mem_cons_of_mem _ (List.mem_append_left _ h)
theorem ptX3_init_wsX30 : ∀ w ∈ wsX30, w ∈ wsX3_init := fun _ h => List.mem_cons_of_mem _ (List.mem_append_right _ h)
def woX3_add : List Cond := [Cond.fieldLink RX3 9 "FreeLand$Persons" "birth" "[I", Cond.fieldLink RX3 18 "FreeLand$Persons" "size" "I", Cond.fieldLink RX3 15 "FreeLand$Persons" "citizen" "[I"]
def wsX3_add : List Cond := .code yX3_add cX3_add 3 (some .int) :: (woX3_add ++ (wsX30))
set_option maxRecDepth 100000 in
set_option maxHeartbeats 4000000 in
theorem lwo_X3_add : ∀ w ∈ Cond.code yX3_add cX3_add 3 (some .int) :: woX3_add, w ∈ lw_tbl := lwi_mem [261, 54, 58, 56] (by decide +kernel)
theorem oko_X3_add : ∀ w ∈ woX3_add, goodWord w = true := by decide +kernel
theorem lw_X3_add : ∀ w ∈ wsX3_add, w ∈ lw_tbl := List.forall_mem_cons.mpr ⟨lwo_X3_add _ List.mem_cons_self, List.forall_mem_append.mpr ⟨(fun w h => lwo_X3_add w (List.mem_cons_of_mem _ h)), lwi_X3⟩⟩
theorem ok_X3_add : ∀ w ∈ wsX3_add, goodWord w = true := List.forall_mem_cons.mpr ⟨rfl, List.forall_mem_append.mpr ⟨oko_X3_add, ok_X3⟩⟩
theorem ptX3_add_woX3_add : ∀ w ∈ woX3_add, w ∈ wsX3_add := fun _ h => List.mem_cons_of_mem _ (List.mem_append_left _ h)
theorem ptX3_add_wsX30 : ∀ w ∈ wsX30, w ∈ wsX3_add := fun _ h => List.mem_cons_of_mem _ (List.mem_append_right _ h)
def woX4_init : List Cond := [Cond.methodLink RX4 3 objectInit, Cond.instanceMethod objectInit, Cond.code objectInit ⟨#[0xb1]⟩ 1 none, Cond.fieldLink RX4 9 "FreeLand$Work" "mapDay" "I", Cond.arrayClass .int, Cond.fieldLink RX4 15 "FreeLand$Work" "result" "[I", Cond.fieldLink RX4 19 "FreeLand$Work" "state" "[I", Cond.fieldLink RX4 22 "FreeLand$Work" "holder" "[I", Cond.fieldLink RX4 25 "FreeLand$Work" "holders" "[I", Cond.fieldLink RX4 28 "FreeLand$Work" "ruling" "[I", Cond.fieldLink RX4 31 "FreeLand$Work" "bindsFrom" "[I", Cond.fieldLink RX4 34 "FreeLand$Work" "spot" "[I", Cond.fieldLink RX4 37 "FreeLand$Work" "held" "[I", Cond.fieldLink RX4 40 "FreeLand$Work" "preferred" "[I", Cond.fieldLink RX4 43 "FreeLand$Work" "preferredTo" "[I", Cond.arrayClass .boolean, Cond.fieldLink RX4 46 "FreeLand$Work" "dead" "[Z", Cond.fieldLink RX4 50 "FreeLand$Work" "filed" "[I", Cond.fieldLink RX4 53 "FreeLand$Work" "persons" "LFreeLand$Persons;", Cond.fieldLink RX4 57 "FreeLand$Work" "laws" "LFreeLand$Laws;", Cond.fieldLink RX4 61 "FreeLand$Work" "book" "LFreeLand$Book;"]
def wsX4_init : List Cond := .code yX4_init cX4_init 4 none :: (woX4_init ++ (wsX40))
set_option maxRecDepth 100000 in
set_option maxHeartbeats 4000000 in
theorem lwo_X4_init : ∀ w ∈ Cond.code yX4_init cX4_init 4 none :: woX4_init, w ∈ lw_tbl := lwi_mem [149, 150, 46, 47, 154, 67, 155, 157, 158, 159, 160, 161, 162, 163, 165, 166, 144, 167, 168, 151, 152, 153] (by decide +kernel)
theorem oko_X4_init : ∀ w ∈ woX4_init, goodWord w = true := by decide +kernel
theorem lw_X4_init : ∀ w ∈ wsX4_init, w ∈ lw_tbl := List.forall_mem_cons.mpr ⟨lwo_X4_init _ List.mem_cons_self, List.forall_mem_append.mpr ⟨(fun w h => lwo_X4_init w (List.mem_cons_of_mem _ h)), lwi_X4⟩⟩
theorem ok_X4_init : ∀ w ∈ wsX4_init, goodWord w = true := List.forall_mem_cons.mpr ⟨rfl, List.forall_mem_append.mpr ⟨oko_X4_init, ok_X4⟩⟩
theorem ptX4_init_woX4_init : ∀ w ∈ woX4_init, w ∈ wsX4_init := fun _ h => List.mem_cons_of_mem _ (List.mem_append_left _ h)
theorem ptX4_init_wsX40 : ∀ w ∈ wsX40, w ∈ wsX4_init := fun _ h => List.mem_cons_of_mem _ (List.mem_append_right _ h)
def woX4_clear : List Cond := [Cond.fieldLink RX4 15 "FreeLand$Work" "result" "[I", Cond.fieldLink RX4 19 "FreeLand$Work" "state" "[I", Cond.fieldLink RX4 37 "FreeLand$Work" "held" "[I", Cond.fieldLink RX4 40 "FreeLand$Work" "preferred" "[I", Cond.fieldLink RX4 46 "FreeLand$Work" "dead" "[Z", Cond.fieldLink RX4 50 "FreeLand$Work" "filed" "[I"]
def wsX4_clear : List Cond := .code yX4_clear cX4_clear 2 none :: (woX4_clear ++ (wsX40))
set_option maxRecDepth 100000 in
set_option maxHeartbeats 4000000 in
theorem lwo_X4_clear : ∀ w ∈ Cond.code yX4_clear cX4_clear 2 none :: woX4_clear, w ∈ lw_tbl := lwi_mem [310, 155, 157, 163, 165, 167, 168] (by decide +kernel)
theorem oko_X4_clear : ∀ w ∈ woX4_clear, goodWord w = true := by decide +kernel
theorem lw_X4_clear : ∀ w ∈ wsX4_clear, w ∈ lw_tbl := List.forall_mem_cons.mpr ⟨lwo_X4_clear _ List.mem_cons_self, List.forall_mem_append.mpr ⟨(fun w h => lwo_X4_clear w (List.mem_cons_of_mem _ h)), lwi_X4⟩⟩
theorem ok_X4_clear : ∀ w ∈ wsX4_clear, goodWord w = true := List.forall_mem_cons.mpr ⟨rfl, List.forall_mem_append.mpr ⟨oko_X4_clear, ok_X4⟩⟩
theorem ptX4_clear_woX4_clear : ∀ w ∈ woX4_clear, w ∈ wsX4_clear := fun _ h => List.mem_cons_of_mem _ (List.mem_append_left _ h)
theorem ptX4_clear_wsX40 : ∀ w ∈ wsX40, w ∈ wsX4_clear := fun _ h => List.mem_cons_of_mem _ (List.mem_append_right _ h)
def woX4_isRailroads : List Cond := [Cond.fieldLink RX4 9 "FreeLand$Work" "mapDay" "I"]
def wsX4_isRailroads : List Cond := .code yX4_isRailroads cX4_isRailroads 5 (some .boolean) :: (woX4_isRailroads ++ (wsX40))
set_option maxRecDepth 100000 in
set_option maxHeartbeats 4000000 in
theorem lwo_X4_isRailroads : ∀ w ∈ Cond.code yX4_isRailroads cX4_isRailroads 5 (some .boolean) :: woX4_isRailroads, w ∈ lw_tbl := lwi_mem [332, 154] (by decide +kernel)
theorem oko_X4_isRailroads : ∀ w ∈ woX4_isRailroads, goodWord w = true := by decide +kernel
theorem lw_X4_isRailroads : ∀ w ∈ wsX4_isRailroads, w ∈ lw_tbl := List.forall_mem_cons.mpr ⟨lwo_X4_isRailroads _ List.mem_cons_self, List.forall_mem_append.mpr ⟨(fun w h => lwo_X4_isRailroads w (List.mem_cons_of_mem _ h)), lwi_X4⟩⟩
theorem ok_X4_isRailroads : ∀ w ∈ wsX4_isRailroads, goodWord w = true := List.forall_mem_cons.mpr ⟨rfl, List.forall_mem_append.mpr ⟨oko_X4_isRailroads, ok_X4⟩⟩
theorem ptX4_isRailroads_woX4_isRailroads : ∀ w ∈ woX4_isRailroads, w ∈ wsX4_isRailroads := fun _ h => List.mem_cons_of_mem _ (List.mem_append_left _ h)
theorem ptX4_isRailroads_wsX40 : ∀ w ∈ wsX40, w ∈ wsX4_isRailroads := fun _ h => List.mem_cons_of_mem _ (List.mem_append_right _ h)
def woX4_preferredOn : List Cond := [Cond.fieldLink RX4 40 "FreeLand$Work" "preferred" "[I", Cond.fieldLink RX4 43 "FreeLand$Work" "preferredTo" "[I"]
def wsX4_preferredOn : List Cond := .code yX4_preferredOn cX4_preferredOn 3 (some .int) :: (woX4_preferredOn ++ (wsX40))
set_option maxRecDepth 100000 in
set_option maxHeartbeats 4000000 in
theorem lwo_X4_preferredOn : ∀ w ∈ Cond.code yX4_preferredOn cX4_preferredOn 3 (some .int) :: woX4_preferredOn, w ∈ lw_tbl := lwi_mem [336, 165, 166] (by decide +kernel)
theorem oko_X4_preferredOn : ∀ w ∈ woX4_preferredOn, goodWord w = true := by decide +kernel
theorem lw_X4_preferredOn : ∀ w ∈ wsX4_preferredOn, w ∈ lw_tbl := List.forall_mem_cons.mpr ⟨lwo_X4_preferredOn _ List.mem_cons_self, List.forall_mem_append.mpr ⟨(fun w h => lwo_X4_preferredOn w (List.mem_cons_of_mem _ h)), lwi_X4⟩⟩
theorem ok_X4_preferredOn : ∀ w ∈ wsX4_preferredOn, goodWord w = true := List.forall_mem_cons.mpr ⟨rfl, List.forall_mem_append.mpr ⟨oko_X4_preferredOn, ok_X4⟩⟩
theorem ptX4_preferredOn_woX4_preferredOn : ∀ w ∈ woX4_preferredOn, w ∈ wsX4_preferredOn := fun _ h => List.mem_cons_of_mem _ (List.mem_append_left _ h)
theorem ptX4_preferredOn_wsX40 : ∀ w ∈ wsX40, w ∈ wsX4_preferredOn := fun _ h => List.mem_cons_of_mem _ (List.mem_append_right _ h)
def woX4_workFile : List Cond := [Cond.fieldLink RX4 61 "FreeLand$Work" "book" "LFreeLand$Book;", Cond.fieldLink RX4 57 "FreeLand$Work" "laws" "LFreeLand$Laws;", Cond.instanceMethod yX2_inForce, Cond.selects RX2 yX2_inForce yX2_inForce, Cond.initialized RX2, Cond.fieldLink RX4 53 "FreeLand$Work" "persons" "LFreeLand$Persons;", Cond.instanceMethod yX2_valueOf, Cond.selects RX2 yX2_valueOf yX2_valueOf, Cond.methodLink RX4 127 yX4_isRailroads, Cond.instanceMethod yX4_isRailroads, Cond.selects RX4 yX4_isRailroads yX4_isRailroads, Cond.initialized RX4, Cond.fieldLink RX4 37 "FreeLand$Work" "held" "[I", Cond.methodLink RX4 131 yX4_preferredOn, Cond.instanceMethod yX4_preferredOn, Cond.selects RX4 yX4_preferredOn yX4_preferredOn, Cond.fieldLink RX4 50 "FreeLand$Work" "filed" "[I", Cond.fieldLink RX4 19 "FreeLand$Work" "state" "[I", Cond.fieldLink RX4 22 "FreeLand$Work" "holder" "[I", Cond.fieldLink RX4 25 "FreeLand$Work" "holders" "[I", Cond.fieldLink RX4 28 "FreeLand$Work" "ruling" "[I", Cond.fieldLink RX4 34 "FreeLand$Work" "spot" "[I"]
def wsX4_workFile : List Cond := .code yX4_workFile cX4_workFile 8 (some .int) :: (woX4_workFile ++ (wsX40 ++ (wsX00 ++ (wsX30 ++ (wsX2_inForce ++ (wsX2_valueOf ++ (wsX4_isRailroads ++ (wsX4_preferredOn))))))))
set_option maxRecDepth 100000 in
set_option maxHeartbeats 4000000 in
theorem lwo_X4_workFile : ∀ w ∈ Cond.code yX4_workFile cX4_workFile 8 (some .int) :: woX4_workFile, w ∈ lw_tbl := lwi_mem [318, 153, 152, 321, 10, 35, 151, 325, 11, 329, 331, 12, 37, 163, 333, 335, 13, 168, 157, 158, 159, 160, 162] (by decide +kernel)
theorem oko_X4_workFile : ∀ w ∈ woX4_workFile, goodWord w = true := by decide +kernel
theorem lw_X4_workFile : ∀ w ∈ wsX4_workFile, w ∈ lw_tbl := List.forall_mem_cons.mpr ⟨lwo_X4_workFile _ List.mem_cons_self, List.forall_mem_append.mpr ⟨(fun w h => lwo_X4_workFile w (List.mem_cons_of_mem _ h)), List.forall_mem_append.mpr ⟨lwi_X4, List.forall_mem_append.mpr ⟨lwi_X0, List.forall_mem_append.mpr ⟨lwi_X3, List.forall_mem_append.mpr ⟨lw_X2_inForce, List.forall_mem_append.mpr ⟨lw_X2_valueOf, List.forall_mem_append.mpr ⟨lw_X4_isRailroads, lw_X4_preferredOn⟩⟩⟩⟩⟩⟩⟩⟩
theorem ok_X4_workFile : ∀ w ∈ wsX4_workFile, goodWord w = true := List.forall_mem_cons.mpr ⟨rfl, List.forall_mem_append.mpr ⟨oko_X4_workFile, List.forall_mem_append.mpr ⟨ok_X4, List.forall_mem_append.mpr ⟨ok_X0, List.forall_mem_append.mpr ⟨ok_X3, List.forall_mem_append.mpr ⟨ok_X2_inForce, List.forall_mem_append.mpr ⟨ok_X2_valueOf, List.forall_mem_append.mpr ⟨ok_X4_isRailroads, ok_X4_preferredOn⟩⟩⟩⟩⟩⟩⟩⟩
theorem ptX4_workFile_woX4_workFile : ∀ w ∈ woX4_workFile, w ∈ wsX4_workFile := fun _ h => List.mem_cons_of_mem _ (List.mem_append_left _ h)
theorem ptX4_workFile_wsX40 : ∀ w ∈ wsX40, w ∈ wsX4_workFile := fun _ h => List.mem_cons_of_mem _ (List.mem_append_right _ (List.mem_append_left _ h))
theorem ptX4_workFile_wsX00 : ∀ w ∈ wsX00, w ∈ wsX4_workFile := fun _ h => List.mem_cons_of_mem _ (List.mem_append_right _ (List.mem_append_right _ (List.mem_append_left _ h)))
theorem ptX4_workFile_wsX30 : ∀ w ∈ wsX30, w ∈ wsX4_workFile := fun _ h => List.mem_cons_of_mem _ (List.mem_append_right _ (List.mem_append_right _ (List.mem_append_right _ (List.mem_append_left _ h))))
theorem ptX4_workFile_wsX2_inForce : ∀ w ∈ wsX2_inForce, w ∈ wsX4_workFile := fun _ h => List.mem_cons_of_mem _ (List.mem_append_right _ (List.mem_append_right _ (List.mem_append_right _ (List.mem_append_right _ (List.mem_append_left _ h)))))
theorem ptX4_workFile_wsX2_valueOf : ∀ w ∈ wsX2_valueOf, w ∈ wsX4_workFile := fun _ h => List.mem_cons_of_mem _ (List.mem_append_right _ (List.mem_append_right _ (List.mem_append_right _ (List.mem_append_right _ (List.mem_append_right _ (List.mem_append_left _ h))))))
theorem ptX4_workFile_wsX4_isRailroads : ∀ w ∈ wsX4_isRailroads, w ∈ wsX4_workFile := fun _ h => List.mem_cons_of_mem _ (List.mem_append_right _ (List.mem_append_right _ (List.mem_append_right _ (List.mem_append_right _ (List.mem_append_right _ (List.mem_append_right _ (List.mem_append_left _ h)))))))
theorem ptX4_workFile_wsX4_preferredOn : ∀ w ∈ wsX4_preferredOn, w ∈ wsX4_workFile := fun _ h => List.mem_cons_of_mem _ (List.mem_append_right _ (List.mem_append_right _ (List.mem_append_right _ (List.mem_append_right _ (List.mem_append_right _ (List.mem_append_right _ (List.mem_append_right _ h)))))))
theorem gX4_workFile_X2_inForce_n111 : GoodIn wsX4_workFile wsX2_inForce := goodIn_sub (fun w h => ptX4_workFile_wsX2_inForce w h) (List.all_eq_true.mpr ok_X2_inForce)
theorem gX4_workFile_X2_valueOf_n121 : GoodIn wsX4_workFile wsX2_valueOf := goodIn_sub (fun w h => ptX4_workFile_wsX2_valueOf w h) (List.all_eq_true.mpr ok_X2_valueOf)
theorem gX4_workFile_X4_isRailroads : GoodIn wsX4_workFile (wsV RX4 127 RX4 yX4_isRailroads wsX4_isRailroads) := goodIn_app (goodIn_sub (fun w h => ptX4_workFile_woX4_workFile w ((by decide +kernel : ∀ w ∈ ([Cond.methodLink RX4 127 yX4_isRailroads, Cond.instanceMethod yX4_isRailroads, Cond.selects RX4 yX4_isRailroads yX4_isRailroads, Cond.initialized RX4] : List Cond), w ∈ woX4_workFile) w h)) (by decide +kernel)) (goodIn_sub (fun w h => ptX4_workFile_wsX4_isRailroads w h) (List.all_eq_true.mpr ok_X4_isRailroads))
theorem gX4_workFile_X4_preferredOn : GoodIn wsX4_workFile (wsV RX4 131 RX4 yX4_preferredOn wsX4_preferredOn) := goodIn_app (goodIn_sub (fun w h => ptX4_workFile_woX4_workFile w ((by decide +kernel : ∀ w ∈ ([Cond.methodLink RX4 131 yX4_preferredOn, Cond.instanceMethod yX4_preferredOn, Cond.selects RX4 yX4_preferredOn yX4_preferredOn, Cond.initialized RX4] : List Cond), w ∈ woX4_workFile) w h)) (by decide +kernel)) (goodIn_sub (fun w h => ptX4_workFile_wsX4_preferredOn w h) (List.all_eq_true.mpr ok_X4_preferredOn))
def woX4_isHeldLive : List Cond := [Cond.fieldLink RX4 37 "FreeLand$Work" "held" "[I", Cond.fieldLink RX4 19 "FreeLand$Work" "state" "[I"]
def wsX4_isHeldLive : List Cond := .code yX4_isHeldLive cX4_isHeldLive 2 (some .boolean) :: (woX4_isHeldLive ++ (wsX40))
set_option maxRecDepth 100000 in
set_option maxHeartbeats 4000000 in
theorem lwo_X4_isHeldLive : ∀ w ∈ Cond.code yX4_isHeldLive cX4_isHeldLive 2 (some .boolean) :: woX4_isHeldLive, w ∈ lw_tbl := lwi_mem [348, 163, 157] (by decide +kernel)
theorem oko_X4_isHeldLive : ∀ w ∈ woX4_isHeldLive, goodWord w = true := by decide +kernel
theorem lw_X4_isHeldLive : ∀ w ∈ wsX4_isHeldLive, w ∈ lw_tbl := List.forall_mem_cons.mpr ⟨lwo_X4_isHeldLive _ List.mem_cons_self, List.forall_mem_append.mpr ⟨(fun w h => lwo_X4_isHeldLive w (List.mem_cons_of_mem _ h)), lwi_X4⟩⟩
theorem ok_X4_isHeldLive : ∀ w ∈ wsX4_isHeldLive, goodWord w = true := List.forall_mem_cons.mpr ⟨rfl, List.forall_mem_append.mpr ⟨oko_X4_isHeldLive, ok_X4⟩⟩
theorem ptX4_isHeldLive_woX4_isHeldLive : ∀ w ∈ woX4_isHeldLive, w ∈ wsX4_isHeldLive := fun _ h => List.mem_cons_of_mem _ (List.mem_append_left _ h)
theorem ptX4_isHeldLive_wsX40 : ∀ w ∈ wsX40, w ∈ wsX4_isHeldLive := fun _ h => List.mem_cons_of_mem _ (List.mem_append_right _ h)
def woX4_isHeldLiveBy : List Cond := [Cond.methodLink RX4 141 yX4_isHeldLive, Cond.instanceMethod yX4_isHeldLive, Cond.selects RX4 yX4_isHeldLive yX4_isHeldLive, Cond.initialized RX4, Cond.fieldLink RX4 22 "FreeLand$Work" "holder" "[I", Cond.fieldLink RX4 37 "FreeLand$Work" "held" "[I"]
def wsX4_isHeldLiveBy : List Cond := .code yX4_isHeldLiveBy cX4_isHeldLiveBy 3 (some .boolean) :: (woX4_isHeldLiveBy ++ (wsX40 ++ (wsX4_isHeldLive)))
set_option maxRecDepth 100000 in
set_option maxHeartbeats 4000000 in
theorem lwo_X4_isHeldLiveBy : ∀ w ∈ Cond.code yX4_isHeldLiveBy cX4_isHeldLiveBy 3 (some .boolean) :: woX4_isHeldLiveBy, w ∈ lw_tbl := lwi_mem [344, 345, 347, 16, 37, 158, 163] (by decide +kernel)
theorem oko_X4_isHeldLiveBy : ∀ w ∈ woX4_isHeldLiveBy, goodWord w = true := by decide +kernel
theorem lw_X4_isHeldLiveBy : ∀ w ∈ wsX4_isHeldLiveBy, w ∈ lw_tbl := List.forall_mem_cons.mpr ⟨lwo_X4_isHeldLiveBy _ List.mem_cons_self, List.forall_mem_append.mpr ⟨(fun w h => lwo_X4_isHeldLiveBy w (List.mem_cons_of_mem _ h)), List.forall_mem_append.mpr ⟨lwi_X4, lw_X4_isHeldLive⟩⟩⟩
theorem ok_X4_isHeldLiveBy : ∀ w ∈ wsX4_isHeldLiveBy, goodWord w = true := List.forall_mem_cons.mpr ⟨rfl, List.forall_mem_append.mpr ⟨oko_X4_isHeldLiveBy, List.forall_mem_append.mpr ⟨ok_X4, ok_X4_isHeldLive⟩⟩⟩
theorem ptX4_isHeldLiveBy_woX4_isHeldLiveBy : ∀ w ∈ woX4_isHeldLiveBy, w ∈ wsX4_isHeldLiveBy := fun _ h => List.mem_cons_of_mem _ (List.mem_append_left _ h)
theorem ptX4_isHeldLiveBy_wsX40 : ∀ w ∈ wsX40, w ∈ wsX4_isHeldLiveBy := fun _ h => List.mem_cons_of_mem _ (List.mem_append_right _ (List.mem_append_left _ h))
theorem ptX4_isHeldLiveBy_wsX4_isHeldLive : ∀ w ∈ wsX4_isHeldLive, w ∈ wsX4_isHeldLiveBy := fun _ h => List.mem_cons_of_mem _ (List.mem_append_right _ (List.mem_append_right _ h))
theorem gX4_isHeldLiveBy_X4_isHeldLive : GoodIn wsX4_isHeldLiveBy (wsV RX4 141 RX4 yX4_isHeldLive wsX4_isHeldLive) := goodIn_app (goodIn_sub (fun w h => ptX4_isHeldLiveBy_woX4_isHeldLiveBy w ((by decide +kernel : ∀ w ∈ ([Cond.methodLink RX4 141 yX4_isHeldLive, Cond.instanceMethod yX4_isHeldLive, Cond.selects RX4 yX4_isHeldLive yX4_isHeldLive, Cond.initialized RX4] : List Cond), w ∈ woX4_isHeldLiveBy) w h)) (by decide +kernel)) (goodIn_sub (fun w h => ptX4_isHeldLiveBy_wsX4_isHeldLive w h) (List.all_eq_true.mpr ok_X4_isHeldLive))
def woX4_end : List Cond := [Cond.fieldLink RX4 19 "FreeLand$Work" "state" "[I", Cond.fieldLink RX4 37 "FreeLand$Work" "held" "[I"]
def wsX4_end : List Cond := .code yX4_end cX4_end 2 none :: (woX4_end ++ (wsX40))
set_option maxRecDepth 100000 in
set_option maxHeartbeats 4000000 in
theorem lwo_X4_end : ∀ w ∈ Cond.code yX4_end cX4_end 2 none :: woX4_end, w ∈ lw_tbl := lwi_mem [352, 157, 163] (by decide +kernel)
theorem oko_X4_end : ∀ w ∈ woX4_end, goodWord w = true := by decide +kernel
theorem lw_X4_end : ∀ w ∈ wsX4_end, w ∈ lw_tbl := List.forall_mem_cons.mpr ⟨lwo_X4_end _ List.mem_cons_self, List.forall_mem_append.mpr ⟨(fun w h => lwo_X4_end w (List.mem_cons_of_mem _ h)), lwi_X4⟩⟩
theorem ok_X4_end : ∀ w ∈ wsX4_end, goodWord w = true := List.forall_mem_cons.mpr ⟨rfl, List.forall_mem_append.mpr ⟨oko_X4_end, ok_X4⟩⟩
theorem ptX4_end_woX4_end : ∀ w ∈ woX4_end, w ∈ wsX4_end := fun _ h => List.mem_cons_of_mem _ (List.mem_append_left _ h)
theorem ptX4_end_wsX40 : ∀ w ∈ wsX40, w ∈ wsX4_end := fun _ h => List.mem_cons_of_mem _ (List.mem_append_right _ h)
def woX4_workGiveUp : List Cond := [Cond.fieldLink RX4 61 "FreeLand$Work" "book" "LFreeLand$Book;", Cond.methodLink RX4 134 yX4_isHeldLiveBy, Cond.instanceMethod yX4_isHeldLiveBy, Cond.selects RX4 yX4_isHeldLiveBy yX4_isHeldLiveBy, Cond.initialized RX4, Cond.methodLink RX4 137 yX4_end, Cond.instanceMethod yX4_end, Cond.selects RX4 yX4_end yX4_end]
def wsX4_workGiveUp : List Cond := .code yX4_workGiveUp cX4_workGiveUp 3 (some .int) :: (woX4_workGiveUp ++ (wsX40 ++ (wsX00 ++ (wsX4_isHeldLiveBy ++ (wsX4_end)))))
set_option maxRecDepth 100000 in
set_option maxHeartbeats 4000000 in
theorem lwo_X4_workGiveUp : ∀ w ∈ Cond.code yX4_workGiveUp cX4_workGiveUp 3 (some .int) :: woX4_workGiveUp, w ∈ lw_tbl := lwi_mem [340, 153, 341, 343, 15, 37, 349, 351, 17] (by decide +kernel)
theorem oko_X4_workGiveUp : ∀ w ∈ woX4_workGiveUp, goodWord w = true := by decide +kernel
theorem lw_X4_workGiveUp : ∀ w ∈ wsX4_workGiveUp, w ∈ lw_tbl := List.forall_mem_cons.mpr ⟨lwo_X4_workGiveUp _ List.mem_cons_self, List.forall_mem_append.mpr ⟨(fun w h => lwo_X4_workGiveUp w (List.mem_cons_of_mem _ h)), List.forall_mem_append.mpr ⟨lwi_X4, List.forall_mem_append.mpr ⟨lwi_X0, List.forall_mem_append.mpr ⟨lw_X4_isHeldLiveBy, lw_X4_end⟩⟩⟩⟩⟩
theorem ok_X4_workGiveUp : ∀ w ∈ wsX4_workGiveUp, goodWord w = true := List.forall_mem_cons.mpr ⟨rfl, List.forall_mem_append.mpr ⟨oko_X4_workGiveUp, List.forall_mem_append.mpr ⟨ok_X4, List.forall_mem_append.mpr ⟨ok_X0, List.forall_mem_append.mpr ⟨ok_X4_isHeldLiveBy, ok_X4_end⟩⟩⟩⟩⟩
theorem ptX4_workGiveUp_woX4_workGiveUp : ∀ w ∈ woX4_workGiveUp, w ∈ wsX4_workGiveUp := fun _ h => List.mem_cons_of_mem _ (List.mem_append_left _ h)
theorem ptX4_workGiveUp_wsX40 : ∀ w ∈ wsX40, w ∈ wsX4_workGiveUp := fun _ h => List.mem_cons_of_mem _ (List.mem_append_right _ (List.mem_append_left _ h))
theorem ptX4_workGiveUp_wsX00 : ∀ w ∈ wsX00, w ∈ wsX4_workGiveUp := fun _ h => List.mem_cons_of_mem _ (List.mem_append_right _ (List.mem_append_right _ (List.mem_append_left _ h)))
theorem ptX4_workGiveUp_wsX4_isHeldLiveBy : ∀ w ∈ wsX4_isHeldLiveBy, w ∈ wsX4_workGiveUp := fun _ h => List.mem_cons_of_mem _ (List.mem_append_right _ (List.mem_append_right _ (List.mem_append_right _ (List.mem_append_left _ h))))
theorem ptX4_workGiveUp_wsX4_end : ∀ w ∈ wsX4_end, w ∈ wsX4_workGiveUp := fun _ h => List.mem_cons_of_mem _ (List.mem_append_right _ (List.mem_append_right _ (List.mem_append_right _ (List.mem_append_right _ h))))
theorem gX4_workGiveUp_X4_isHeldLiveBy : GoodIn wsX4_workGiveUp (wsV RX4 134 RX4 yX4_isHeldLiveBy wsX4_isHeldLiveBy) := goodIn_app (goodIn_sub (fun w h => ptX4_workGiveUp_woX4_workGiveUp w ((by decide +kernel : ∀ w ∈ ([Cond.methodLink RX4 134 yX4_isHeldLiveBy, Cond.instanceMethod yX4_isHeldLiveBy, Cond.selects RX4 yX4_isHeldLiveBy yX4_isHeldLiveBy, Cond.initialized RX4] : List Cond), w ∈ woX4_workGiveUp) w h)) (by decide +kernel)) (goodIn_sub (fun w h => ptX4_workGiveUp_wsX4_isHeldLiveBy w h) (List.all_eq_true.mpr ok_X4_isHeldLiveBy))
theorem gX4_workGiveUp_X4_end : GoodIn wsX4_workGiveUp (wsV RX4 137 RX4 yX4_end wsX4_end) := goodIn_app (goodIn_sub (fun w h => ptX4_workGiveUp_woX4_workGiveUp w ((by decide +kernel : ∀ w ∈ ([Cond.methodLink RX4 137 yX4_end, Cond.instanceMethod yX4_end, Cond.selects RX4 yX4_end yX4_end, Cond.initialized RX4] : List Cond), w ∈ woX4_workGiveUp) w h)) (by decide +kernel)) (goodIn_sub (fun w h => ptX4_workGiveUp_wsX4_end w h) (List.all_eq_true.mpr ok_X4_end))
def woX4_isDoneByHolder : List Cond := [Cond.fieldLink RX4 15 "FreeLand$Work" "result" "[I", Cond.fieldLink RX4 61 "FreeLand$Work" "book" "LFreeLand$Book;", Cond.fieldLink RX4 25 "FreeLand$Work" "holders" "[I"]
def wsX4_isDoneByHolder : List Cond := .code yX4_isDoneByHolder cX4_isDoneByHolder 4 (some .boolean) :: (woX4_isDoneByHolder ++ (wsX40 ++ (wsX00)))
set_option maxRecDepth 100000 in
set_option maxHeartbeats 4000000 in
theorem lwo_X4_isDoneByHolder : ∀ w ∈ Cond.code yX4_isDoneByHolder cX4_isDoneByHolder 4 (some .boolean) :: woX4_isDoneByHolder, w ∈ lw_tbl := lwi_mem [364, 155, 153, 159] (by decide +kernel)
theorem oko_X4_isDoneByHolder : ∀ w ∈ woX4_isDoneByHolder, goodWord w = true := by decide +kernel
theorem lw_X4_isDoneByHolder : ∀ w ∈ wsX4_isDoneByHolder, w ∈ lw_tbl := List.forall_mem_cons.mpr ⟨lwo_X4_isDoneByHolder _ List.mem_cons_self, List.forall_mem_append.mpr ⟨(fun w h => lwo_X4_isDoneByHolder w (List.mem_cons_of_mem _ h)), List.forall_mem_append.mpr ⟨lwi_X4, lwi_X0⟩⟩⟩
theorem ok_X4_isDoneByHolder : ∀ w ∈ wsX4_isDoneByHolder, goodWord w = true := List.forall_mem_cons.mpr ⟨rfl, List.forall_mem_append.mpr ⟨oko_X4_isDoneByHolder, List.forall_mem_append.mpr ⟨ok_X4, ok_X0⟩⟩⟩
theorem ptX4_isDoneByHolder_woX4_isDoneByHolder : ∀ w ∈ woX4_isDoneByHolder, w ∈ wsX4_isDoneByHolder := fun _ h => List.mem_cons_of_mem _ (List.mem_append_left _ h)
theorem ptX4_isDoneByHolder_wsX40 : ∀ w ∈ wsX40, w ∈ wsX4_isDoneByHolder := fun _ h => List.mem_cons_of_mem _ (List.mem_append_right _ (List.mem_append_left _ h))
theorem ptX4_isDoneByHolder_wsX00 : ∀ w ∈ wsX00, w ∈ wsX4_isDoneByHolder := fun _ h => List.mem_cons_of_mem _ (List.mem_append_right _ (List.mem_append_right _ h))
def woX4_lookAtLiving : List Cond := [Cond.fieldLink RX4 149 "FreeLand$Work" "livedDays" "I", Cond.fieldLink RX4 152 "FreeLand$Work" "longestGap" "I", Cond.fieldLink RX4 61 "FreeLand$Work" "book" "LFreeLand$Book;", Cond.methodLink RX4 164 yX4_isDoneByHolder, Cond.instanceMethod yX4_isDoneByHolder, Cond.selects RX4 yX4_isDoneByHolder yX4_isDoneByHolder, Cond.initialized RX4, Cond.methodLink RX4 168 Lib.Math.max.name, Cond.static Lib.Math.max.name, Cond.initialized "java/lang/Math", Cond.code Lib.Math.max.name Lib.Math.max.code 2 (some .int), Cond.methodLink RX4 173 Lib.Math.min.name, Cond.static Lib.Math.min.name, Cond.code Lib.Math.min.name Lib.Math.min.code 2 (some .int)]
def wsX4_lookAtLiving : List Cond := .code yX4_lookAtLiving cX4_lookAtLiving 9 none :: (woX4_lookAtLiving ++ (wsX40 ++ (wsX00 ++ (wsX4_isDoneByHolder))))
set_option maxRecDepth 100000 in
set_option maxHeartbeats 4000000 in
theorem lwo_X4_lookAtLiving : ∀ w ∈ Cond.code yX4_lookAtLiving cX4_lookAtLiving 9 none :: woX4_lookAtLiving, w ∈ lw_tbl := lwi_mem [360, 169, 170, 153, 361, 363, 20, 37, 365, 366, 39, 367, 368, 369, 370] (by decide +kernel)
theorem oko_X4_lookAtLiving : ∀ w ∈ woX4_lookAtLiving, goodWord w = true := by decide +kernel
theorem lw_X4_lookAtLiving : ∀ w ∈ wsX4_lookAtLiving, w ∈ lw_tbl := List.forall_mem_cons.mpr ⟨lwo_X4_lookAtLiving _ List.mem_cons_self, List.forall_mem_append.mpr ⟨(fun w h => lwo_X4_lookAtLiving w (List.mem_cons_of_mem _ h)), List.forall_mem_append.mpr ⟨lwi_X4, List.forall_mem_append.mpr ⟨lwi_X0, lw_X4_isDoneByHolder⟩⟩⟩⟩
theorem ok_X4_lookAtLiving : ∀ w ∈ wsX4_lookAtLiving, goodWord w = true := List.forall_mem_cons.mpr ⟨rfl, List.forall_mem_append.mpr ⟨oko_X4_lookAtLiving, List.forall_mem_append.mpr ⟨ok_X4, List.forall_mem_append.mpr ⟨ok_X0, ok_X4_isDoneByHolder⟩⟩⟩⟩
theorem ptX4_lookAtLiving_woX4_lookAtLiving : ∀ w ∈ woX4_lookAtLiving, w ∈ wsX4_lookAtLiving := fun _ h => List.mem_cons_of_mem _ (List.mem_append_left _ h)
theorem ptX4_lookAtLiving_wsX40 : ∀ w ∈ wsX40, w ∈ wsX4_lookAtLiving := fun _ h => List.mem_cons_of_mem _ (List.mem_append_right _ (List.mem_append_left _ h))
theorem ptX4_lookAtLiving_wsX00 : ∀ w ∈ wsX00, w ∈ wsX4_lookAtLiving := fun _ h => List.mem_cons_of_mem _ (List.mem_append_right _ (List.mem_append_right _ (List.mem_append_left _ h)))
theorem ptX4_lookAtLiving_wsX4_isDoneByHolder : ∀ w ∈ wsX4_isDoneByHolder, w ∈ wsX4_lookAtLiving := fun _ h => List.mem_cons_of_mem _ (List.mem_append_right _ (List.mem_append_right _ (List.mem_append_right _ h)))
theorem gX4_lookAtLiving_X4_isDoneByHolder : GoodIn wsX4_lookAtLiving (wsV RX4 164 RX4 yX4_isDoneByHolder wsX4_isDoneByHolder) := goodIn_app (goodIn_sub (fun w h => ptX4_lookAtLiving_woX4_lookAtLiving w ((by decide +kernel : ∀ w ∈ ([Cond.methodLink RX4 164 yX4_isDoneByHolder, Cond.instanceMethod yX4_isDoneByHolder, Cond.selects RX4 yX4_isDoneByHolder yX4_isDoneByHolder, Cond.initialized RX4] : List Cond), w ∈ woX4_lookAtLiving) w h)) (by decide +kernel)) (goodIn_sub (fun w h => ptX4_lookAtLiving_wsX4_isDoneByHolder w h) (List.all_eq_true.mpr ok_X4_isDoneByHolder))
def woX4_workContest : List Cond := [Cond.fieldLink RX4 61 "FreeLand$Work" "book" "LFreeLand$Book;", Cond.methodLink RX4 141 yX4_isHeldLive, Cond.instanceMethod yX4_isHeldLive, Cond.selects RX4 yX4_isHeldLive yX4_isHeldLive, Cond.initialized RX4, Cond.fieldLink RX4 37 "FreeLand$Work" "held" "[I", Cond.fieldLink RX4 22 "FreeLand$Work" "holder" "[I", Cond.fieldLink RX4 57 "FreeLand$Work" "laws" "LFreeLand$Laws;", Cond.fieldLink RX4 28 "FreeLand$Work" "ruling" "[I", Cond.instanceMethod yX2_valueOf, Cond.selects RX2 yX2_valueOf yX2_valueOf, Cond.initialized RX2, Cond.methodLink RX4 145 yX4_lookAtLiving, Cond.instanceMethod yX4_lookAtLiving, Cond.selects RX4 yX4_lookAtLiving yX4_lookAtLiving, Cond.fieldLink RX4 149 "FreeLand$Work" "livedDays" "I", Cond.methodLink RX4 137 yX4_end, Cond.instanceMethod yX4_end, Cond.selects RX4 yX4_end yX4_end, Cond.fieldLink RX4 40 "FreeLand$Work" "preferred" "[I", Cond.fieldLink RX4 43 "FreeLand$Work" "preferredTo" "[I"]
def wsX4_workContest : List Cond := .code yX4_workContest cX4_workContest 6 (some .int) :: (woX4_workContest ++ (wsX40 ++ (wsX00 ++ (wsX4_isHeldLive ++ (wsX2_valueOf ++ (wsX4_lookAtLiving ++ (wsX4_end)))))))
set_option maxRecDepth 100000 in
set_option maxHeartbeats 4000000 in
theorem lwo_X4_workContest : ∀ w ∈ Cond.code yX4_workContest cX4_workContest 6 (some .int) :: woX4_workContest, w ∈ lw_tbl := lwi_mem [356, 153, 345, 347, 16, 37, 163, 158, 152, 160, 325, 11, 35, 357, 359, 19, 169, 349, 351, 17, 165, 166] (by decide +kernel)
theorem oko_X4_workContest : ∀ w ∈ woX4_workContest, goodWord w = true := by decide +kernel
theorem lw_X4_workContest : ∀ w ∈ wsX4_workContest, w ∈ lw_tbl := List.forall_mem_cons.mpr ⟨lwo_X4_workContest _ List.mem_cons_self, List.forall_mem_append.mpr ⟨(fun w h => lwo_X4_workContest w (List.mem_cons_of_mem _ h)), List.forall_mem_append.mpr ⟨lwi_X4, List.forall_mem_append.mpr ⟨lwi_X0, List.forall_mem_append.mpr ⟨lw_X4_isHeldLive, List.forall_mem_append.mpr ⟨lw_X2_valueOf, List.forall_mem_append.mpr ⟨lw_X4_lookAtLiving, lw_X4_end⟩⟩⟩⟩⟩⟩⟩
theorem ok_X4_workContest : ∀ w ∈ wsX4_workContest, goodWord w = true := List.forall_mem_cons.mpr ⟨rfl, List.forall_mem_append.mpr ⟨oko_X4_workContest, List.forall_mem_append.mpr ⟨ok_X4, List.forall_mem_append.mpr ⟨ok_X0, List.forall_mem_append.mpr ⟨ok_X4_isHeldLive, List.forall_mem_append.mpr ⟨ok_X2_valueOf, List.forall_mem_append.mpr ⟨ok_X4_lookAtLiving, ok_X4_end⟩⟩⟩⟩⟩⟩⟩
theorem ptX4_workContest_woX4_workContest : ∀ w ∈ woX4_workContest, w ∈ wsX4_workContest := fun _ h => List.mem_cons_of_mem _ (List.mem_append_left _ h)
theorem ptX4_workContest_wsX40 : ∀ w ∈ wsX40, w ∈ wsX4_workContest := fun _ h => List.mem_cons_of_mem _ (List.mem_append_right _ (List.mem_append_left _ h))
theorem ptX4_workContest_wsX00 : ∀ w ∈ wsX00, w ∈ wsX4_workContest := fun _ h => List.mem_cons_of_mem _ (List.mem_append_right _ (List.mem_append_right _ (List.mem_append_left _ h)))
theorem ptX4_workContest_wsX4_isHeldLive : ∀ w ∈ wsX4_isHeldLive, w ∈ wsX4_workContest := fun _ h => List.mem_cons_of_mem _ (List.mem_append_right _ (List.mem_append_right _ (List.mem_append_right _ (List.mem_append_left _ h))))
theorem ptX4_workContest_wsX2_valueOf : ∀ w ∈ wsX2_valueOf, w ∈ wsX4_workContest := fun _ h => List.mem_cons_of_mem _ (List.mem_append_right _ (List.mem_append_right _ (List.mem_append_right _ (List.mem_append_right _ (List.mem_append_left _ h)))))
theorem ptX4_workContest_wsX4_lookAtLiving : ∀ w ∈ wsX4_lookAtLiving, w ∈ wsX4_workContest := fun _ h => List.mem_cons_of_mem _ (List.mem_append_right _ (List.mem_append_right _ (List.mem_append_right _ (List.mem_append_right _ (List.mem_append_right _ (List.mem_append_left _ h))))))
theorem ptX4_workContest_wsX4_end : ∀ w ∈ wsX4_end, w ∈ wsX4_workContest := fun _ h => List.mem_cons_of_mem _ (List.mem_append_right _ (List.mem_append_right _ (List.mem_append_right _ (List.mem_append_right _ (List.mem_append_right _ (List.mem_append_right _ h))))))
theorem gX4_workContest_X4_isHeldLive : GoodIn wsX4_workContest (wsV RX4 141 RX4 yX4_isHeldLive wsX4_isHeldLive) := goodIn_app (goodIn_sub (fun w h => ptX4_workContest_woX4_workContest w ((by decide +kernel : ∀ w ∈ ([Cond.methodLink RX4 141 yX4_isHeldLive, Cond.instanceMethod yX4_isHeldLive, Cond.selects RX4 yX4_isHeldLive yX4_isHeldLive, Cond.initialized RX4] : List Cond), w ∈ woX4_workContest) w h)) (by decide +kernel)) (goodIn_sub (fun w h => ptX4_workContest_wsX4_isHeldLive w h) (List.all_eq_true.mpr ok_X4_isHeldLive))
theorem gX4_workContest_X2_valueOf_n121 : GoodIn wsX4_workContest wsX2_valueOf := goodIn_sub (fun w h => ptX4_workContest_wsX2_valueOf w h) (List.all_eq_true.mpr ok_X2_valueOf)
theorem gX4_workContest_X4_lookAtLiving : GoodIn wsX4_workContest (wsV RX4 145 RX4 yX4_lookAtLiving wsX4_lookAtLiving) := goodIn_app (goodIn_sub (fun w h => ptX4_workContest_woX4_workContest w ((by decide +kernel : ∀ w ∈ ([Cond.methodLink RX4 145 yX4_lookAtLiving, Cond.instanceMethod yX4_lookAtLiving, Cond.selects RX4 yX4_lookAtLiving yX4_lookAtLiving, Cond.initialized RX4] : List Cond), w ∈ woX4_workContest) w h)) (by decide +kernel)) (goodIn_sub (fun w h => ptX4_workContest_wsX4_lookAtLiving w h) (List.all_eq_true.mpr ok_X4_lookAtLiving))
theorem gX4_workContest_X4_end : GoodIn wsX4_workContest (wsV RX4 137 RX4 yX4_end wsX4_end) := goodIn_app (goodIn_sub (fun w h => ptX4_workContest_woX4_workContest w ((by decide +kernel : ∀ w ∈ ([Cond.methodLink RX4 137 yX4_end, Cond.instanceMethod yX4_end, Cond.selects RX4 yX4_end yX4_end, Cond.initialized RX4] : List Cond), w ∈ woX4_workContest) w h)) (by decide +kernel)) (goodIn_sub (fun w h => ptX4_workContest_wsX4_end w h) (List.all_eq_true.mpr ok_X4_end))
def woX4_acres : List Cond := [Cond.fieldLink RX4 37 "FreeLand$Work" "held" "[I", Cond.fieldLink RX4 34 "FreeLand$Work" "spot" "[I", Cond.fieldLink RX4 61 "FreeLand$Work" "book" "LFreeLand$Book;", Cond.methodLink RX4 164 yX4_isDoneByHolder, Cond.instanceMethod yX4_isDoneByHolder, Cond.selects RX4 yX4_isDoneByHolder yX4_isDoneByHolder, Cond.initialized RX4]
def wsX4_acres : List Cond := .code yX4_acres cX4_acres 6 (some .int) :: (woX4_acres ++ (wsX40 ++ (wsX00 ++ (wsX4_isDoneByHolder))))
set_option maxRecDepth 100000 in
set_option maxHeartbeats 4000000 in
theorem lwo_X4_acres : ∀ w ∈ Cond.code yX4_acres cX4_acres 6 (some .int) :: woX4_acres, w ∈ lw_tbl := lwi_mem [378, 163, 162, 153, 361, 363, 20, 37] (by decide +kernel)
theorem oko_X4_acres : ∀ w ∈ woX4_acres, goodWord w = true := by decide +kernel
theorem lw_X4_acres : ∀ w ∈ wsX4_acres, w ∈ lw_tbl := List.forall_mem_cons.mpr ⟨lwo_X4_acres _ List.mem_cons_self, List.forall_mem_append.mpr ⟨(fun w h => lwo_X4_acres w (List.mem_cons_of_mem _ h)), List.forall_mem_append.mpr ⟨lwi_X4, List.forall_mem_append.mpr ⟨lwi_X0, lw_X4_isDoneByHolder⟩⟩⟩⟩
theorem ok_X4_acres : ∀ w ∈ wsX4_acres, goodWord w = true := List.forall_mem_cons.mpr ⟨rfl, List.forall_mem_append.mpr ⟨oko_X4_acres, List.forall_mem_append.mpr ⟨ok_X4, List.forall_mem_append.mpr ⟨ok_X0, ok_X4_isDoneByHolder⟩⟩⟩⟩
theorem ptX4_acres_woX4_acres : ∀ w ∈ woX4_acres, w ∈ wsX4_acres := fun _ h => List.mem_cons_of_mem _ (List.mem_append_left _ h)
theorem ptX4_acres_wsX40 : ∀ w ∈ wsX40, w ∈ wsX4_acres := fun _ h => List.mem_cons_of_mem _ (List.mem_append_right _ (List.mem_append_left _ h))
theorem ptX4_acres_wsX00 : ∀ w ∈ wsX00, w ∈ wsX4_acres := fun _ h => List.mem_cons_of_mem _ (List.mem_append_right _ (List.mem_append_right _ (List.mem_append_left _ h)))
theorem ptX4_acres_wsX4_isDoneByHolder : ∀ w ∈ wsX4_isDoneByHolder, w ∈ wsX4_acres := fun _ h => List.mem_cons_of_mem _ (List.mem_append_right _ (List.mem_append_right _ (List.mem_append_right _ h)))
theorem gX4_acres_X4_isDoneByHolder : GoodIn wsX4_acres (wsV RX4 164 RX4 yX4_isDoneByHolder wsX4_isDoneByHolder) := goodIn_app (goodIn_sub (fun w h => ptX4_acres_woX4_acres w ((by decide +kernel : ∀ w ∈ ([Cond.methodLink RX4 164 yX4_isDoneByHolder, Cond.instanceMethod yX4_isDoneByHolder, Cond.selects RX4 yX4_isDoneByHolder yX4_isDoneByHolder, Cond.initialized RX4] : List Cond), w ∈ woX4_acres) w h)) (by decide +kernel)) (goodIn_sub (fun w h => ptX4_acres_wsX4_isDoneByHolder w h) (List.all_eq_true.mpr ok_X4_isDoneByHolder))
def woX4_workProve : List Cond := [Cond.fieldLink RX4 61 "FreeLand$Work" "book" "LFreeLand$Book;", Cond.methodLink RX4 134 yX4_isHeldLiveBy, Cond.instanceMethod yX4_isHeldLiveBy, Cond.selects RX4 yX4_isHeldLiveBy yX4_isHeldLiveBy, Cond.initialized RX4, Cond.fieldLink RX4 37 "FreeLand$Work" "held" "[I", Cond.fieldLink RX4 28 "FreeLand$Work" "ruling" "[I", Cond.fieldLink RX4 57 "FreeLand$Work" "laws" "LFreeLand$Laws;", Cond.instanceMethod yX2_valueOf, Cond.selects RX2 yX2_valueOf yX2_valueOf, Cond.initialized RX2, Cond.methodLink RX4 145 yX4_lookAtLiving, Cond.instanceMethod yX4_lookAtLiving, Cond.selects RX4 yX4_lookAtLiving yX4_lookAtLiving, Cond.fieldLink RX4 149 "FreeLand$Work" "livedDays" "I", Cond.fieldLink RX4 152 "FreeLand$Work" "longestGap" "I", Cond.methodLink RX4 155 yX4_acres, Cond.instanceMethod yX4_acres, Cond.selects RX4 yX4_acres yX4_acres, Cond.fieldLink RX4 19 "FreeLand$Work" "state" "[I", Cond.fieldLink RX4 31 "FreeLand$Work" "bindsFrom" "[I"]
def wsX4_workProve : List Cond := .code yX4_workProve cX4_workProve 6 (some .int) :: (woX4_workProve ++ (wsX40 ++ (wsX00 ++ (wsX4_isHeldLiveBy ++ (wsX2_valueOf ++ (wsX4_lookAtLiving ++ (wsX4_acres)))))))
set_option maxRecDepth 100000 in
set_option maxHeartbeats 4000000 in
theorem lwo_X4_workProve : ∀ w ∈ Cond.code yX4_workProve cX4_workProve 6 (some .int) :: woX4_workProve, w ∈ lw_tbl := lwi_mem [374, 153, 341, 343, 15, 37, 163, 160, 152, 325, 11, 35, 357, 359, 19, 169, 170, 375, 377, 22, 157, 161] (by decide +kernel)
theorem oko_X4_workProve : ∀ w ∈ woX4_workProve, goodWord w = true := by decide +kernel
theorem lw_X4_workProve : ∀ w ∈ wsX4_workProve, w ∈ lw_tbl := List.forall_mem_cons.mpr ⟨lwo_X4_workProve _ List.mem_cons_self, List.forall_mem_append.mpr ⟨(fun w h => lwo_X4_workProve w (List.mem_cons_of_mem _ h)), List.forall_mem_append.mpr ⟨lwi_X4, List.forall_mem_append.mpr ⟨lwi_X0, List.forall_mem_append.mpr ⟨lw_X4_isHeldLiveBy, List.forall_mem_append.mpr ⟨lw_X2_valueOf, List.forall_mem_append.mpr ⟨lw_X4_lookAtLiving, lw_X4_acres⟩⟩⟩⟩⟩⟩⟩
theorem ok_X4_workProve : ∀ w ∈ wsX4_workProve, goodWord w = true := List.forall_mem_cons.mpr ⟨rfl, List.forall_mem_append.mpr ⟨oko_X4_workProve, List.forall_mem_append.mpr ⟨ok_X4, List.forall_mem_append.mpr ⟨ok_X0, List.forall_mem_append.mpr ⟨ok_X4_isHeldLiveBy, List.forall_mem_append.mpr ⟨ok_X2_valueOf, List.forall_mem_append.mpr ⟨ok_X4_lookAtLiving, ok_X4_acres⟩⟩⟩⟩⟩⟩⟩
theorem ptX4_workProve_woX4_workProve : ∀ w ∈ woX4_workProve, w ∈ wsX4_workProve := fun _ h => List.mem_cons_of_mem _ (List.mem_append_left _ h)
theorem ptX4_workProve_wsX40 : ∀ w ∈ wsX40, w ∈ wsX4_workProve := fun _ h => List.mem_cons_of_mem _ (List.mem_append_right _ (List.mem_append_left _ h))
theorem ptX4_workProve_wsX00 : ∀ w ∈ wsX00, w ∈ wsX4_workProve := fun _ h => List.mem_cons_of_mem _ (List.mem_append_right _ (List.mem_append_right _ (List.mem_append_left _ h)))
theorem ptX4_workProve_wsX4_isHeldLiveBy : ∀ w ∈ wsX4_isHeldLiveBy, w ∈ wsX4_workProve := fun _ h => List.mem_cons_of_mem _ (List.mem_append_right _ (List.mem_append_right _ (List.mem_append_right _ (List.mem_append_left _ h))))
theorem ptX4_workProve_wsX2_valueOf : ∀ w ∈ wsX2_valueOf, w ∈ wsX4_workProve := fun _ h => List.mem_cons_of_mem _ (List.mem_append_right _ (List.mem_append_right _ (List.mem_append_right _ (List.mem_append_right _ (List.mem_append_left _ h)))))
theorem ptX4_workProve_wsX4_lookAtLiving : ∀ w ∈ wsX4_lookAtLiving, w ∈ wsX4_workProve := fun _ h => List.mem_cons_of_mem _ (List.mem_append_right _ (List.mem_append_right _ (List.mem_append_right _ (List.mem_append_right _ (List.mem_append_right _ (List.mem_append_left _ h))))))
theorem ptX4_workProve_wsX4_acres : ∀ w ∈ wsX4_acres, w ∈ wsX4_workProve := fun _ h => List.mem_cons_of_mem _ (List.mem_append_right _ (List.mem_append_right _ (List.mem_append_right _ (List.mem_append_right _ (List.mem_append_right _ (List.mem_append_right _ h))))))
theorem gX4_workProve_X4_isHeldLiveBy : GoodIn wsX4_workProve (wsV RX4 134 RX4 yX4_isHeldLiveBy wsX4_isHeldLiveBy) := goodIn_app (goodIn_sub (fun w h => ptX4_workProve_woX4_workProve w ((by decide +kernel : ∀ w ∈ ([Cond.methodLink RX4 134 yX4_isHeldLiveBy, Cond.instanceMethod yX4_isHeldLiveBy, Cond.selects RX4 yX4_isHeldLiveBy yX4_isHeldLiveBy, Cond.initialized RX4] : List Cond), w ∈ woX4_workProve) w h)) (by decide +kernel)) (goodIn_sub (fun w h => ptX4_workProve_wsX4_isHeldLiveBy w h) (List.all_eq_true.mpr ok_X4_isHeldLiveBy))
theorem gX4_workProve_X2_valueOf_n121 : GoodIn wsX4_workProve wsX2_valueOf := goodIn_sub (fun w h => ptX4_workProve_wsX2_valueOf w h) (List.all_eq_true.mpr ok_X2_valueOf)
theorem gX4_workProve_X4_lookAtLiving : GoodIn wsX4_workProve (wsV RX4 145 RX4 yX4_lookAtLiving wsX4_lookAtLiving) := goodIn_app (goodIn_sub (fun w h => ptX4_workProve_woX4_workProve w ((by decide +kernel : ∀ w ∈ ([Cond.methodLink RX4 145 yX4_lookAtLiving, Cond.instanceMethod yX4_lookAtLiving, Cond.selects RX4 yX4_lookAtLiving yX4_lookAtLiving, Cond.initialized RX4] : List Cond), w ∈ woX4_workProve) w h)) (by decide +kernel)) (goodIn_sub (fun w h => ptX4_workProve_wsX4_lookAtLiving w h) (List.all_eq_true.mpr ok_X4_lookAtLiving))
theorem gX4_workProve_X4_acres : GoodIn wsX4_workProve (wsV RX4 155 RX4 yX4_acres wsX4_acres) := goodIn_app (goodIn_sub (fun w h => ptX4_workProve_woX4_workProve w ((by decide +kernel : ∀ w ∈ ([Cond.methodLink RX4 155 yX4_acres, Cond.instanceMethod yX4_acres, Cond.selects RX4 yX4_acres yX4_acres, Cond.initialized RX4] : List Cond), w ∈ woX4_workProve) w h)) (by decide +kernel)) (goodIn_sub (fun w h => ptX4_workProve_wsX4_acres w h) (List.all_eq_true.mpr ok_X4_acres))
def woX4_holderOf : List Cond := [Cond.fieldLink RX4 37 "FreeLand$Work" "held" "[I", Cond.fieldLink RX4 22 "FreeLand$Work" "holder" "[I"]
def wsX4_holderOf : List Cond := .code yX4_holderOf cX4_holderOf 2 (some .int) :: (woX4_holderOf ++ (wsX40))
set_option maxRecDepth 100000 in
set_option maxHeartbeats 4000000 in
theorem lwo_X4_holderOf : ∀ w ∈ Cond.code yX4_holderOf cX4_holderOf 2 (some .int) :: woX4_holderOf, w ∈ lw_tbl := lwi_mem [386, 163, 158] (by decide +kernel)
theorem oko_X4_holderOf : ∀ w ∈ woX4_holderOf, goodWord w = true := by decide +kernel
theorem lw_X4_holderOf : ∀ w ∈ wsX4_holderOf, w ∈ lw_tbl := List.forall_mem_cons.mpr ⟨lwo_X4_holderOf _ List.mem_cons_self, List.forall_mem_append.mpr ⟨(fun w h => lwo_X4_holderOf w (List.mem_cons_of_mem _ h)), lwi_X4⟩⟩
theorem ok_X4_holderOf : ∀ w ∈ wsX4_holderOf, goodWord w = true := List.forall_mem_cons.mpr ⟨rfl, List.forall_mem_append.mpr ⟨oko_X4_holderOf, ok_X4⟩⟩
theorem ptX4_holderOf_woX4_holderOf : ∀ w ∈ woX4_holderOf, w ∈ wsX4_holderOf := fun _ h => List.mem_cons_of_mem _ (List.mem_append_left _ h)
theorem ptX4_holderOf_wsX40 : ∀ w ∈ wsX40, w ∈ wsX4_holderOf := fun _ h => List.mem_cons_of_mem _ (List.mem_append_right _ h)
def woX4_workDeath : List Cond := [Cond.fieldLink RX4 61 "FreeLand$Work" "book" "LFreeLand$Book;", Cond.fieldLink RX4 46 "FreeLand$Work" "dead" "[Z", Cond.methodLink RX4 161 yX4_holderOf, Cond.instanceMethod yX4_holderOf, Cond.selects RX4 yX4_holderOf yX4_holderOf, Cond.initialized RX4, Cond.fieldLink RX4 22 "FreeLand$Work" "holder" "[I", Cond.fieldLink RX4 37 "FreeLand$Work" "held" "[I", Cond.fieldLink RX4 25 "FreeLand$Work" "holders" "[I"]
def wsX4_workDeath : List Cond := .code yX4_workDeath cX4_workDeath 5 (some .int) :: (woX4_workDeath ++ (wsX40 ++ (wsX00 ++ (wsX4_holderOf))))
set_option maxRecDepth 100000 in
set_option maxHeartbeats 4000000 in
theorem lwo_X4_workDeath : ∀ w ∈ Cond.code yX4_workDeath cX4_workDeath 5 (some .int) :: woX4_workDeath, w ∈ lw_tbl := lwi_mem [382, 153, 167, 383, 385, 24, 37, 158, 163, 159] (by decide +kernel)
theorem oko_X4_workDeath : ∀ w ∈ woX4_workDeath, goodWord w = true := by decide +kernel
theorem lw_X4_workDeath : ∀ w ∈ wsX4_workDeath, w ∈ lw_tbl := List.forall_mem_cons.mpr ⟨lwo_X4_workDeath _ List.mem_cons_self, List.forall_mem_append.mpr ⟨(fun w h => lwo_X4_workDeath w (List.mem_cons_of_mem _ h)), List.forall_mem_append.mpr ⟨lwi_X4, List.forall_mem_append.mpr ⟨lwi_X0, lw_X4_holderOf⟩⟩⟩⟩
theorem ok_X4_workDeath : ∀ w ∈ wsX4_workDeath, goodWord w = true := List.forall_mem_cons.mpr ⟨rfl, List.forall_mem_append.mpr ⟨oko_X4_workDeath, List.forall_mem_append.mpr ⟨ok_X4, List.forall_mem_append.mpr ⟨ok_X0, ok_X4_holderOf⟩⟩⟩⟩
theorem ptX4_workDeath_woX4_workDeath : ∀ w ∈ woX4_workDeath, w ∈ wsX4_workDeath := fun _ h => List.mem_cons_of_mem _ (List.mem_append_left _ h)
theorem ptX4_workDeath_wsX40 : ∀ w ∈ wsX40, w ∈ wsX4_workDeath := fun _ h => List.mem_cons_of_mem _ (List.mem_append_right _ (List.mem_append_left _ h))
theorem ptX4_workDeath_wsX00 : ∀ w ∈ wsX00, w ∈ wsX4_workDeath := fun _ h => List.mem_cons_of_mem _ (List.mem_append_right _ (List.mem_append_right _ (List.mem_append_left _ h)))
theorem ptX4_workDeath_wsX4_holderOf : ∀ w ∈ wsX4_holderOf, w ∈ wsX4_workDeath := fun _ h => List.mem_cons_of_mem _ (List.mem_append_right _ (List.mem_append_right _ (List.mem_append_right _ h)))
theorem gX4_workDeath_X4_holderOf : GoodIn wsX4_workDeath (wsV RX4 161 RX4 yX4_holderOf wsX4_holderOf) := goodIn_app (goodIn_sub (fun w h => ptX4_workDeath_woX4_workDeath w ((by decide +kernel : ∀ w ∈ ([Cond.methodLink RX4 161 yX4_holderOf, Cond.instanceMethod yX4_holderOf, Cond.selects RX4 yX4_holderOf yX4_holderOf, Cond.initialized RX4] : List Cond), w ∈ woX4_workDeath) w h)) (by decide +kernel)) (goodIn_sub (fun w h => ptX4_workDeath_wsX4_holderOf w h) (List.all_eq_true.mpr ok_X4_holderOf))
def woX4_workLine : List Cond := [Cond.fieldLink RX4 46 "FreeLand$Work" "dead" "[Z", Cond.fieldLink RX4 61 "FreeLand$Work" "book" "LFreeLand$Book;", Cond.methodLink RX4 92 yX4_workFile, Cond.instanceMethod yX4_workFile, Cond.selects RX4 yX4_workFile yX4_workFile, Cond.initialized RX4, Cond.methodLink RX4 95 yX4_workGiveUp, Cond.instanceMethod yX4_workGiveUp, Cond.selects RX4 yX4_workGiveUp yX4_workGiveUp, Cond.methodLink RX4 99 yX4_workContest, Cond.instanceMethod yX4_workContest, Cond.selects RX4 yX4_workContest yX4_workContest, Cond.methodLink RX4 102 yX4_workProve, Cond.instanceMethod yX4_workProve, Cond.selects RX4 yX4_workProve yX4_workProve, Cond.methodLink RX4 105 yX4_workDeath, Cond.instanceMethod yX4_workDeath, Cond.selects RX4 yX4_workDeath yX4_workDeath]
def wsX4_workLine : List Cond := .code yX4_workLine cX4_workLine 3 (some .int) :: (woX4_workLine ++ (wsX40 ++ (wsX00 ++ (wsX4_workFile ++ (wsX4_workGiveUp ++ (wsX4_workContest ++ (wsX4_workProve ++ (wsX4_workDeath))))))))
set_option maxRecDepth 100000 in
set_option maxHeartbeats 4000000 in
theorem lwo_X4_workLine : ∀ w ∈ Cond.code yX4_workLine cX4_workLine 3 (some .int) :: woX4_workLine, w ∈ lw_tbl := lwi_mem [314, 167, 153, 315, 317, 9, 37, 337, 339, 14, 353, 355, 18, 371, 373, 21, 379, 381, 23] (by decide +kernel)
theorem oko_X4_workLine : ∀ w ∈ woX4_workLine, goodWord w = true := by decide +kernel
theorem lw_X4_workLine : ∀ w ∈ wsX4_workLine, w ∈ lw_tbl := List.forall_mem_cons.mpr ⟨lwo_X4_workLine _ List.mem_cons_self, List.forall_mem_append.mpr ⟨(fun w h => lwo_X4_workLine w (List.mem_cons_of_mem _ h)), List.forall_mem_append.mpr ⟨lwi_X4, List.forall_mem_append.mpr ⟨lwi_X0, List.forall_mem_append.mpr ⟨lw_X4_workFile, List.forall_mem_append.mpr ⟨lw_X4_workGiveUp, List.forall_mem_append.mpr ⟨lw_X4_workContest, List.forall_mem_append.mpr ⟨lw_X4_workProve, lw_X4_workDeath⟩⟩⟩⟩⟩⟩⟩⟩
theorem ok_X4_workLine : ∀ w ∈ wsX4_workLine, goodWord w = true := List.forall_mem_cons.mpr ⟨rfl, List.forall_mem_append.mpr ⟨oko_X4_workLine, List.forall_mem_append.mpr ⟨ok_X4, List.forall_mem_append.mpr ⟨ok_X0, List.forall_mem_append.mpr ⟨ok_X4_workFile, List.forall_mem_append.mpr ⟨ok_X4_workGiveUp, List.forall_mem_append.mpr ⟨ok_X4_workContest, List.forall_mem_append.mpr ⟨ok_X4_workProve, ok_X4_workDeath⟩⟩⟩⟩⟩⟩⟩⟩
theorem ptX4_workLine_woX4_workLine : ∀ w ∈ woX4_workLine, w ∈ wsX4_workLine := fun _ h => List.mem_cons_of_mem _ (List.mem_append_left _ h)
theorem ptX4_workLine_wsX40 : ∀ w ∈ wsX40, w ∈ wsX4_workLine := fun _ h => List.mem_cons_of_mem _ (List.mem_append_right _ (List.mem_append_left _ h))
theorem ptX4_workLine_wsX00 : ∀ w ∈ wsX00, w ∈ wsX4_workLine := fun _ h => List.mem_cons_of_mem _ (List.mem_append_right _ (List.mem_append_right _ (List.mem_append_left _ h)))
theorem ptX4_workLine_wsX4_workFile : ∀ w ∈ wsX4_workFile, w ∈ wsX4_workLine := fun _ h => List.mem_cons_of_mem _ (List.mem_append_right _ (List.mem_append_right _ (List.mem_append_right _ (List.mem_append_left _ h))))
theorem ptX4_workLine_wsX4_workGiveUp : ∀ w ∈ wsX4_workGiveUp, w ∈ wsX4_workLine := fun _ h => List.mem_cons_of_mem _ (List.mem_append_right _ (List.mem_append_right _ (List.mem_append_right _ (List.mem_append_right _ (List.mem_append_left _ h)))))
theorem ptX4_workLine_wsX4_workContest : ∀ w ∈ wsX4_workContest, w ∈ wsX4_workLine := fun _ h => List.mem_cons_of_mem _ (List.mem_append_right _ (List.mem_append_right _ (List.mem_append_right _ (List.mem_append_right _ (List.mem_append_right _ (List.mem_append_left _ h))))))
theorem ptX4_workLine_wsX4_workProve : ∀ w ∈ wsX4_workProve, w ∈ wsX4_workLine := fun _ h => List.mem_cons_of_mem _ (List.mem_append_right _ (List.mem_append_right _ (List.mem_append_right _ (List.mem_append_right _ (List.mem_append_right _ (List.mem_append_right _ (List.mem_append_left _ h)))))))
theorem ptX4_workLine_wsX4_workDeath : ∀ w ∈ wsX4_workDeath, w ∈ wsX4_workLine := fun _ h => List.mem_cons_of_mem _ (List.mem_append_right _ (List.mem_append_right _ (List.mem_append_right _ (List.mem_append_right _ (List.mem_append_right _ (List.mem_append_right _ (List.mem_append_right _ h)))))))
theorem gX4_workLine_X4_workFile : GoodIn wsX4_workLine (wsV RX4 92 RX4 yX4_workFile wsX4_workFile) := goodIn_app (goodIn_sub (fun w h => ptX4_workLine_woX4_workLine w ((by decide +kernel : ∀ w ∈ ([Cond.methodLink RX4 92 yX4_workFile, Cond.instanceMethod yX4_workFile, Cond.selects RX4 yX4_workFile yX4_workFile, Cond.initialized RX4] : List Cond), w ∈ woX4_workLine) w h)) (by decide +kernel)) (goodIn_sub (fun w h => ptX4_workLine_wsX4_workFile w h) (List.all_eq_true.mpr ok_X4_workFile))
theorem gX4_workLine_X4_workGiveUp : GoodIn wsX4_workLine (wsV RX4 95 RX4 yX4_workGiveUp wsX4_workGiveUp) := goodIn_app (goodIn_sub (fun w h => ptX4_workLine_woX4_workLine w ((by decide +kernel : ∀ w ∈ ([Cond.methodLink RX4 95 yX4_workGiveUp, Cond.instanceMethod yX4_workGiveUp, Cond.selects RX4 yX4_workGiveUp yX4_workGiveUp, Cond.initialized RX4] : List Cond), w ∈ woX4_workLine) w h)) (by decide +kernel)) (goodIn_sub (fun w h => ptX4_workLine_wsX4_workGiveUp w h) (List.all_eq_true.mpr ok_X4_workGiveUp))
theorem gX4_workLine_X4_workContest : GoodIn wsX4_workLine (wsV RX4 99 RX4 yX4_workContest wsX4_workContest) := goodIn_app (goodIn_sub (fun w h => ptX4_workLine_woX4_workLine w ((by decide +kernel : ∀ w ∈ ([Cond.methodLink RX4 99 yX4_workContest, Cond.instanceMethod yX4_workContest, Cond.selects RX4 yX4_workContest yX4_workContest, Cond.initialized RX4] : List Cond), w ∈ woX4_workLine) w h)) (by decide +kernel)) (goodIn_sub (fun w h => ptX4_workLine_wsX4_workContest w h) (List.all_eq_true.mpr ok_X4_workContest))
theorem gX4_workLine_X4_workProve : GoodIn wsX4_workLine (wsV RX4 102 RX4 yX4_workProve wsX4_workProve) := goodIn_app (goodIn_sub (fun w h => ptX4_workLine_woX4_workLine w ((by decide +kernel : ∀ w ∈ ([Cond.methodLink RX4 102 yX4_workProve, Cond.instanceMethod yX4_workProve, Cond.selects RX4 yX4_workProve yX4_workProve, Cond.initialized RX4] : List Cond), w ∈ woX4_workLine) w h)) (by decide +kernel)) (goodIn_sub (fun w h => ptX4_workLine_wsX4_workProve w h) (List.all_eq_true.mpr ok_X4_workProve))
theorem gX4_workLine_X4_workDeath : GoodIn wsX4_workLine (wsV RX4 105 RX4 yX4_workDeath wsX4_workDeath) := goodIn_app (goodIn_sub (fun w h => ptX4_workLine_woX4_workLine w ((by decide +kernel : ∀ w ∈ ([Cond.methodLink RX4 105 yX4_workDeath, Cond.instanceMethod yX4_workDeath, Cond.selects RX4 yX4_workDeath yX4_workDeath, Cond.initialized RX4] : List Cond), w ∈ woX4_workLine) w h)) (by decide +kernel)) (goodIn_sub (fun w h => ptX4_workLine_wsX4_workDeath w h) (List.all_eq_true.mpr ok_X4_workDeath))
def woX4_through : List Cond := [Cond.methodLink RX4 65 yX4_clear, Cond.instanceMethod yX4_clear, Cond.selects RX4 yX4_clear yX4_clear, Cond.initialized RX4, Cond.fieldLink RX4 61 "FreeLand$Work" "book" "LFreeLand$Book;", Cond.fieldLink RX4 15 "FreeLand$Work" "result" "[I", Cond.methodLink RX4 82 yX4_workLine, Cond.instanceMethod yX4_workLine, Cond.selects RX4 yX4_workLine yX4_workLine]
def wsX4_through : List Cond := .code yX4_through cX4_through 5 none :: (woX4_through ++ (wsX40 ++ (wsX00 ++ (wsX4_clear ++ (wsX4_workLine)))))
set_option maxRecDepth 100000 in
set_option maxHeartbeats 4000000 in
theorem lwo_X4_through : ∀ w ∈ Cond.code yX4_through cX4_through 5 none :: woX4_through, w ∈ lw_tbl := lwi_mem [306, 307, 309, 7, 37, 153, 155, 311, 313, 8] (by decide +kernel)
theorem oko_X4_through : ∀ w ∈ woX4_through, goodWord w = true := by decide +kernel
theorem lw_X4_through : ∀ w ∈ wsX4_through, w ∈ lw_tbl := List.forall_mem_cons.mpr ⟨lwo_X4_through _ List.mem_cons_self, List.forall_mem_append.mpr ⟨(fun w h => lwo_X4_through w (List.mem_cons_of_mem _ h)), List.forall_mem_append.mpr ⟨lwi_X4, List.forall_mem_append.mpr ⟨lwi_X0, List.forall_mem_append.mpr ⟨lw_X4_clear, lw_X4_workLine⟩⟩⟩⟩⟩
theorem ok_X4_through : ∀ w ∈ wsX4_through, goodWord w = true := List.forall_mem_cons.mpr ⟨rfl, List.forall_mem_append.mpr ⟨oko_X4_through, List.forall_mem_append.mpr ⟨ok_X4, List.forall_mem_append.mpr ⟨ok_X0, List.forall_mem_append.mpr ⟨ok_X4_clear, ok_X4_workLine⟩⟩⟩⟩⟩
theorem ptX4_through_woX4_through : ∀ w ∈ woX4_through, w ∈ wsX4_through := fun _ h => List.mem_cons_of_mem _ (List.mem_append_left _ h)
theorem ptX4_through_wsX40 : ∀ w ∈ wsX40, w ∈ wsX4_through := fun _ h => List.mem_cons_of_mem _ (List.mem_append_right _ (List.mem_append_left _ h))
theorem ptX4_through_wsX00 : ∀ w ∈ wsX00, w ∈ wsX4_through := fun _ h => List.mem_cons_of_mem _ (List.mem_append_right _ (List.mem_append_right _ (List.mem_append_left _ h)))
theorem ptX4_through_wsX4_clear : ∀ w ∈ wsX4_clear, w ∈ wsX4_through := fun _ h => List.mem_cons_of_mem _ (List.mem_append_right _ (List.mem_append_right _ (List.mem_append_right _ (List.mem_append_left _ h))))
theorem ptX4_through_wsX4_workLine : ∀ w ∈ wsX4_workLine, w ∈ wsX4_through := fun _ h => List.mem_cons_of_mem _ (List.mem_append_right _ (List.mem_append_right _ (List.mem_append_right _ (List.mem_append_right _ h))))
theorem gX4_through_X4_clear : GoodIn wsX4_through (wsV RX4 65 RX4 yX4_clear wsX4_clear) := goodIn_app (goodIn_sub (fun w h => ptX4_through_woX4_through w ((by decide +kernel : ∀ w ∈ ([Cond.methodLink RX4 65 yX4_clear, Cond.instanceMethod yX4_clear, Cond.selects RX4 yX4_clear yX4_clear, Cond.initialized RX4] : List Cond), w ∈ woX4_through) w h)) (by decide +kernel)) (goodIn_sub (fun w h => ptX4_through_wsX4_clear w h) (List.all_eq_true.mpr ok_X4_clear))
theorem gX4_through_X4_workLine : GoodIn wsX4_through (wsV RX4 82 RX4 yX4_workLine wsX4_workLine) := goodIn_app (goodIn_sub (fun w h => ptX4_through_woX4_through w ((by decide +kernel : ∀ w ∈ ([Cond.methodLink RX4 82 yX4_workLine, Cond.instanceMethod yX4_workLine, Cond.selects RX4 yX4_workLine yX4_workLine, Cond.initialized RX4] : List Cond), w ∈ woX4_through) w h)) (by decide +kernel)) (goodIn_sub (fun w h => ptX4_through_wsX4_workLine w h) (List.all_eq_true.mpr ok_X4_workLine))
def woX4_standing : List Cond := [Cond.fieldLink RX4 37 "FreeLand$Work" "held" "[I", Cond.methodLink RX4 127 yX4_isRailroads, Cond.instanceMethod yX4_isRailroads, Cond.selects RX4 yX4_isRailroads yX4_isRailroads, Cond.initialized RX4, Cond.fieldLink RX4 19 "FreeLand$Work" "state" "[I", Cond.fieldLink RX4 31 "FreeLand$Work" "bindsFrom" "[I"]
def wsX4_standing : List Cond := .code yX4_standing cX4_standing 4 (some .int) :: (woX4_standing ++ (wsX40 ++ (wsX4_isRailroads)))
set_option maxRecDepth 100000 in
set_option maxHeartbeats 4000000 in
theorem lwo_X4_standing : ∀ w ∈ Cond.code yX4_standing cX4_standing 4 (some .int) :: woX4_standing, w ∈ lw_tbl := lwi_mem [419, 163, 329, 331, 12, 37, 157, 161] (by decide +kernel)
theorem oko_X4_standing : ∀ w ∈ woX4_standing, goodWord w = true := by decide +kernel
theorem lw_X4_standing : ∀ w ∈ wsX4_standing, w ∈ lw_tbl := List.forall_mem_cons.mpr ⟨lwo_X4_standing _ List.mem_cons_self, List.forall_mem_append.mpr ⟨(fun w h => lwo_X4_standing w (List.mem_cons_of_mem _ h)), List.forall_mem_append.mpr ⟨lwi_X4, lw_X4_isRailroads⟩⟩⟩
theorem ok_X4_standing : ∀ w ∈ wsX4_standing, goodWord w = true := List.forall_mem_cons.mpr ⟨rfl, List.forall_mem_append.mpr ⟨oko_X4_standing, List.forall_mem_append.mpr ⟨ok_X4, ok_X4_isRailroads⟩⟩⟩
theorem ptX4_standing_woX4_standing : ∀ w ∈ woX4_standing, w ∈ wsX4_standing := fun _ h => List.mem_cons_of_mem _ (List.mem_append_left _ h)
theorem ptX4_standing_wsX40 : ∀ w ∈ wsX40, w ∈ wsX4_standing := fun _ h => List.mem_cons_of_mem _ (List.mem_append_right _ (List.mem_append_left _ h))
theorem ptX4_standing_wsX4_isRailroads : ∀ w ∈ wsX4_isRailroads, w ∈ wsX4_standing := fun _ h => List.mem_cons_of_mem _ (List.mem_append_right _ (List.mem_append_right _ h))
theorem gX4_standing_X4_isRailroads : GoodIn wsX4_standing (wsV RX4 127 RX4 yX4_isRailroads wsX4_isRailroads) := goodIn_app (goodIn_sub (fun w h => ptX4_standing_woX4_standing w ((by decide +kernel : ∀ w ∈ ([Cond.methodLink RX4 127 yX4_isRailroads, Cond.instanceMethod yX4_isRailroads, Cond.selects RX4 yX4_isRailroads yX4_isRailroads, Cond.initialized RX4] : List Cond), w ∈ woX4_standing) w h)) (by decide +kernel)) (goodIn_sub (fun w h => ptX4_standing_wsX4_isRailroads w h) (List.all_eq_true.mpr ok_X4_isRailroads))
def woX4_daysLived : List Cond := [Cond.fieldLink RX4 37 "FreeLand$Work" "held" "[I", Cond.fieldLink RX4 61 "FreeLand$Work" "book" "LFreeLand$Book;", Cond.methodLink RX4 145 yX4_lookAtLiving, Cond.instanceMethod yX4_lookAtLiving, Cond.selects RX4 yX4_lookAtLiving yX4_lookAtLiving, Cond.initialized RX4, Cond.fieldLink RX4 149 "FreeLand$Work" "livedDays" "I"]
def wsX4_daysLived : List Cond := .code yX4_daysLived cX4_daysLived 4 (some .int) :: (woX4_daysLived ++ (wsX40 ++ (wsX00 ++ (wsX4_lookAtLiving))))
set_option maxRecDepth 100000 in
set_option maxHeartbeats 4000000 in
theorem lwo_X4_daysLived : ∀ w ∈ Cond.code yX4_daysLived cX4_daysLived 4 (some .int) :: woX4_daysLived, w ∈ lw_tbl := lwi_mem [424, 163, 153, 357, 359, 19, 37, 169] (by decide +kernel)
theorem oko_X4_daysLived : ∀ w ∈ woX4_daysLived, goodWord w = true := by decide +kernel
theorem lw_X4_daysLived : ∀ w ∈ wsX4_daysLived, w ∈ lw_tbl := List.forall_mem_cons.mpr ⟨lwo_X4_daysLived _ List.mem_cons_self, List.forall_mem_append.mpr ⟨(fun w h => lwo_X4_daysLived w (List.mem_cons_of_mem _ h)), List.forall_mem_append.mpr ⟨lwi_X4, List.forall_mem_append.mpr ⟨lwi_X0, lw_X4_lookAtLiving⟩⟩⟩⟩
theorem ok_X4_daysLived : ∀ w ∈ wsX4_daysLived, goodWord w = true := List.forall_mem_cons.mpr ⟨rfl, List.forall_mem_append.mpr ⟨oko_X4_daysLived, List.forall_mem_append.mpr ⟨ok_X4, List.forall_mem_append.mpr ⟨ok_X0, ok_X4_lookAtLiving⟩⟩⟩⟩
theorem ptX4_daysLived_woX4_daysLived : ∀ w ∈ woX4_daysLived, w ∈ wsX4_daysLived := fun _ h => List.mem_cons_of_mem _ (List.mem_append_left _ h)
theorem ptX4_daysLived_wsX40 : ∀ w ∈ wsX40, w ∈ wsX4_daysLived := fun _ h => List.mem_cons_of_mem _ (List.mem_append_right _ (List.mem_append_left _ h))
theorem ptX4_daysLived_wsX00 : ∀ w ∈ wsX00, w ∈ wsX4_daysLived := fun _ h => List.mem_cons_of_mem _ (List.mem_append_right _ (List.mem_append_right _ (List.mem_append_left _ h)))
theorem ptX4_daysLived_wsX4_lookAtLiving : ∀ w ∈ wsX4_lookAtLiving, w ∈ wsX4_daysLived := fun _ h => List.mem_cons_of_mem _ (List.mem_append_right _ (List.mem_append_right _ (List.mem_append_right _ h)))
theorem gX4_daysLived_X4_lookAtLiving : GoodIn wsX4_daysLived (wsV RX4 145 RX4 yX4_lookAtLiving wsX4_lookAtLiving) := goodIn_app (goodIn_sub (fun w h => ptX4_daysLived_woX4_daysLived w ((by decide +kernel : ∀ w ∈ ([Cond.methodLink RX4 145 yX4_lookAtLiving, Cond.instanceMethod yX4_lookAtLiving, Cond.selects RX4 yX4_lookAtLiving yX4_lookAtLiving, Cond.initialized RX4] : List Cond), w ∈ woX4_daysLived) w h)) (by decide +kernel)) (goodIn_sub (fun w h => ptX4_daysLived_wsX4_lookAtLiving w h) (List.all_eq_true.mpr ok_X4_lookAtLiving))
def woX4_countEntries : List Cond := [Cond.fieldLink RX4 61 "FreeLand$Work" "book" "LFreeLand$Book;", Cond.fieldLink RX4 19 "FreeLand$Work" "state" "[I"]
def wsX4_countEntries : List Cond := .code yX4_countEntries cX4_countEntries 4 (some .int) :: (woX4_countEntries ++ (wsX40 ++ (wsX00)))
set_option maxRecDepth 100000 in
set_option maxHeartbeats 4000000 in
theorem lwo_X4_countEntries : ∀ w ∈ Cond.code yX4_countEntries cX4_countEntries 4 (some .int) :: woX4_countEntries, w ∈ lw_tbl := lwi_mem [402, 153, 157] (by decide +kernel)
theorem oko_X4_countEntries : ∀ w ∈ woX4_countEntries, goodWord w = true := by decide +kernel
theorem lw_X4_countEntries : ∀ w ∈ wsX4_countEntries, w ∈ lw_tbl := List.forall_mem_cons.mpr ⟨lwo_X4_countEntries _ List.mem_cons_self, List.forall_mem_append.mpr ⟨(fun w h => lwo_X4_countEntries w (List.mem_cons_of_mem _ h)), List.forall_mem_append.mpr ⟨lwi_X4, lwi_X0⟩⟩⟩
theorem ok_X4_countEntries : ∀ w ∈ wsX4_countEntries, goodWord w = true := List.forall_mem_cons.mpr ⟨rfl, List.forall_mem_append.mpr ⟨oko_X4_countEntries, List.forall_mem_append.mpr ⟨ok_X4, ok_X0⟩⟩⟩
theorem ptX4_countEntries_woX4_countEntries : ∀ w ∈ woX4_countEntries, w ∈ wsX4_countEntries := fun _ h => List.mem_cons_of_mem _ (List.mem_append_left _ h)
theorem ptX4_countEntries_wsX40 : ∀ w ∈ wsX40, w ∈ wsX4_countEntries := fun _ h => List.mem_cons_of_mem _ (List.mem_append_right _ (List.mem_append_left _ h))
theorem ptX4_countEntries_wsX00 : ∀ w ∈ wsX00, w ∈ wsX4_countEntries := fun _ h => List.mem_cons_of_mem _ (List.mem_append_right _ (List.mem_append_right _ h))
def woX4_countDead : List Cond := [Cond.fieldLink RX4 46 "FreeLand$Work" "dead" "[Z"]
def wsX4_countDead : List Cond := .code yX4_countDead cX4_countDead 3 (some .int) :: (woX4_countDead ++ (wsX40))
set_option maxRecDepth 100000 in
set_option maxHeartbeats 4000000 in
theorem lwo_X4_countDead : ∀ w ∈ Cond.code yX4_countDead cX4_countDead 3 (some .int) :: woX4_countDead, w ∈ lw_tbl := lwi_mem [406, 167] (by decide +kernel)
theorem oko_X4_countDead : ∀ w ∈ woX4_countDead, goodWord w = true := by decide +kernel
theorem lw_X4_countDead : ∀ w ∈ wsX4_countDead, w ∈ lw_tbl := List.forall_mem_cons.mpr ⟨lwo_X4_countDead _ List.mem_cons_self, List.forall_mem_append.mpr ⟨(fun w h => lwo_X4_countDead w (List.mem_cons_of_mem _ h)), lwi_X4⟩⟩
theorem ok_X4_countDead : ∀ w ∈ wsX4_countDead, goodWord w = true := List.forall_mem_cons.mpr ⟨rfl, List.forall_mem_append.mpr ⟨oko_X4_countDead, ok_X4⟩⟩
theorem ptX4_countDead_woX4_countDead : ∀ w ∈ woX4_countDead, w ∈ wsX4_countDead := fun _ h => List.mem_cons_of_mem _ (List.mem_append_left _ h)
theorem ptX4_countDead_wsX40 : ∀ w ∈ wsX40, w ∈ wsX4_countDead := fun _ h => List.mem_cons_of_mem _ (List.mem_append_right _ h)
def woX4_countNotDone : List Cond := [Cond.fieldLink RX4 61 "FreeLand$Work" "book" "LFreeLand$Book;", Cond.fieldLink RX4 15 "FreeLand$Work" "result" "[I"]
def wsX4_countNotDone : List Cond := .code yX4_countNotDone cX4_countNotDone 3 (some .int) :: (woX4_countNotDone ++ (wsX40 ++ (wsX00)))
set_option maxRecDepth 100000 in
set_option maxHeartbeats 4000000 in
theorem lwo_X4_countNotDone : ∀ w ∈ Cond.code yX4_countNotDone cX4_countNotDone 3 (some .int) :: woX4_countNotDone, w ∈ lw_tbl := lwi_mem [410, 153, 155] (by decide +kernel)
theorem oko_X4_countNotDone : ∀ w ∈ woX4_countNotDone, goodWord w = true := by decide +kernel
theorem lw_X4_countNotDone : ∀ w ∈ wsX4_countNotDone, w ∈ lw_tbl := List.forall_mem_cons.mpr ⟨lwo_X4_countNotDone _ List.mem_cons_self, List.forall_mem_append.mpr ⟨(fun w h => lwo_X4_countNotDone w (List.mem_cons_of_mem _ h)), List.forall_mem_append.mpr ⟨lwi_X4, lwi_X0⟩⟩⟩
theorem ok_X4_countNotDone : ∀ w ∈ wsX4_countNotDone, goodWord w = true := List.forall_mem_cons.mpr ⟨rfl, List.forall_mem_append.mpr ⟨oko_X4_countNotDone, List.forall_mem_append.mpr ⟨ok_X4, ok_X0⟩⟩⟩
theorem ptX4_countNotDone_woX4_countNotDone : ∀ w ∈ woX4_countNotDone, w ∈ wsX4_countNotDone := fun _ h => List.mem_cons_of_mem _ (List.mem_append_left _ h)
theorem ptX4_countNotDone_wsX40 : ∀ w ∈ wsX40, w ∈ wsX4_countNotDone := fun _ h => List.mem_cons_of_mem _ (List.mem_append_right _ (List.mem_append_left _ h))
theorem ptX4_countNotDone_wsX00 : ∀ w ∈ wsX00, w ∈ wsX4_countNotDone := fun _ h => List.mem_cons_of_mem _ (List.mem_append_right _ (List.mem_append_right _ h))
def woX5_init : List Cond := [Cond.methodLink RX5 3 objectInit, Cond.instanceMethod objectInit, Cond.code objectInit ⟨#[0xb1]⟩ 1 none, Cond.classLink RX5 9 RX3, Cond.instantiable RX3 3, Cond.initialized RX3, Cond.instanceMethod yX3_init, Cond.fieldLink RX5 12 "FreeLand" "persons" "LFreeLand$Persons;", Cond.classLink RX5 16 RX2, Cond.instantiable RX2 7, Cond.initialized RX2, Cond.instanceMethod yX2_init, Cond.fieldLink RX5 19 "FreeLand" "laws" "LFreeLand$Laws;", Cond.classLink RX5 23 RX0, Cond.instantiable RX0 8, Cond.initialized RX0, Cond.instanceMethod yX0_init, Cond.fieldLink RX5 26 "FreeLand" "book" "LFreeLand$Book;", Cond.classLink RX5 30 RX4, Cond.instantiable RX4 18, Cond.initialized RX4, Cond.instanceMethod yX4_init, Cond.fieldLink RX5 35 "FreeLand" "work" "LFreeLand$Work;", Cond.classLink RX5 39 RX1, Cond.instantiable RX1 7, Cond.initialized RX1, Cond.instanceMethod yX1_init, Cond.fieldLink RX5 42 "FreeLand" "corners" "LFreeLand$Corners;"]
def wsX5_init : List Cond := .code yX5_init cX5_init 1 none :: (woX5_init ++ (wsX30 ++ (wsX50 ++ (wsX20 ++ (wsX00 ++ (wsX40 ++ (wsX10 ++ (wsX3_init ++ (wsX2_init ++ (wsX0_init ++ (wsX4_init ++ (wsX1_init))))))))))))
set_option maxRecDepth 100000 in
set_option maxHeartbeats 4000000 in
theorem lwo_X5_init : ∀ w ∈ Cond.code yX5_init cX5_init 1 none :: woX5_init, w ∈ lw_tbl := lwi_mem [44, 45, 46, 47, 48, 49, 34, 51, 235, 68, 69, 35, 71, 236, 100, 101, 36, 103, 237, 145, 146, 37, 148, 238, 208, 209, 38, 211, 239] (by decide +kernel)
theorem oko_X5_init : ∀ w ∈ woX5_init, goodWord w = true := by decide +kernel
theorem lw_X5_init : ∀ w ∈ wsX5_init, w ∈ lw_tbl := List.forall_mem_cons.mpr ⟨lwo_X5_init _ List.mem_cons_self, List.forall_mem_append.mpr ⟨(fun w h => lwo_X5_init w (List.mem_cons_of_mem _ h)), List.forall_mem_append.mpr ⟨lwi_X3, List.forall_mem_append.mpr ⟨lwi_X5, List.forall_mem_append.mpr ⟨lwi_X2, List.forall_mem_append.mpr ⟨lwi_X0, List.forall_mem_append.mpr ⟨lwi_X4, List.forall_mem_append.mpr ⟨lwi_X1, List.forall_mem_append.mpr ⟨lw_X3_init, List.forall_mem_append.mpr ⟨lw_X2_init, List.forall_mem_append.mpr ⟨lw_X0_init, List.forall_mem_append.mpr ⟨lw_X4_init, lw_X1_init⟩⟩⟩⟩⟩⟩⟩⟩⟩⟩⟩⟩
theorem ok_X5_init : ∀ w ∈ wsX5_init, goodWord w = true := List.forall_mem_cons.mpr ⟨rfl, List.forall_mem_append.mpr ⟨oko_X5_init, List.forall_mem_append.mpr ⟨ok_X3, List.forall_mem_append.mpr ⟨ok_X5, List.forall_mem_append.mpr ⟨ok_X2, List.forall_mem_append.mpr ⟨ok_X0, List.forall_mem_append.mpr ⟨ok_X4, List.forall_mem_append.mpr ⟨ok_X1, List.forall_mem_append.mpr ⟨ok_X3_init, List.forall_mem_append.mpr ⟨ok_X2_init, List.forall_mem_append.mpr ⟨ok_X0_init, List.forall_mem_append.mpr ⟨ok_X4_init, ok_X1_init⟩⟩⟩⟩⟩⟩⟩⟩⟩⟩⟩⟩
theorem ptX5_init_woX5_init : ∀ w ∈ woX5_init, w ∈ wsX5_init := fun _ h => List.mem_cons_of_mem _ (List.mem_append_left _ h)
theorem ptX5_init_wsX30 : ∀ w ∈ wsX30, w ∈ wsX5_init := fun _ h => List.mem_cons_of_mem _ (List.mem_append_right _ (List.mem_append_left _ h))
theorem ptX5_init_wsX50 : ∀ w ∈ wsX50, w ∈ wsX5_init := fun _ h => List.mem_cons_of_mem _ (List.mem_append_right _ (List.mem_append_right _ (List.mem_append_left _ h)))
theorem ptX5_init_wsX20 : ∀ w ∈ wsX20, w ∈ wsX5_init := fun _ h => List.mem_cons_of_mem _ (List.mem_append_right _ (List.mem_append_right _ (List.mem_append_right _ (List.mem_append_left _ h))))
theorem ptX5_init_wsX00 : ∀ w ∈ wsX00, w ∈ wsX5_init := fun _ h => List.mem_cons_of_mem _ (List.mem_append_right _ (List.mem_append_right _ (List.mem_append_right _ (List.mem_append_right _ (List.mem_append_left _ h)))))
theorem ptX5_init_wsX40 : ∀ w ∈ wsX40, w ∈ wsX5_init := fun _ h => List.mem_cons_of_mem _ (List.mem_append_right _ (List.mem_append_right _ (List.mem_append_right _ (List.mem_append_right _ (List.mem_append_right _ (List.mem_append_left _ h))))))
theorem ptX5_init_wsX10 : ∀ w ∈ wsX10, w ∈ wsX5_init := fun _ h => List.mem_cons_of_mem _ (List.mem_append_right _ (List.mem_append_right _ (List.mem_append_right _ (List.mem_append_right _ (List.mem_append_right _ (List.mem_append_right _ (List.mem_append_left _ h)))))))
theorem ptX5_init_wsX3_init : ∀ w ∈ wsX3_init, w ∈ wsX5_init := fun _ h => List.mem_cons_of_mem _ (List.mem_append_right _ (List.mem_append_right _ (List.mem_append_right _ (List.mem_append_right _ (List.mem_append_right _ (List.mem_append_right _ (List.mem_append_right _ (List.mem_append_left _ h))))))))
theorem ptX5_init_wsX2_init : ∀ w ∈ wsX2_init, w ∈ wsX5_init := fun _ h => List.mem_cons_of_mem _ (List.mem_append_right _ (List.mem_append_right _ (List.mem_append_right _ (List.mem_append_right _ (List.mem_append_right _ (List.mem_append_right _ (List.mem_append_right _ (List.mem_append_right _ (List.mem_append_left _ h)))))))))
theorem ptX5_init_wsX0_init : ∀ w ∈ wsX0_init, w ∈ wsX5_init := fun _ h => List.mem_cons_of_mem _ (List.mem_append_right _ (List.mem_append_right _ (List.mem_append_right _ (List.mem_append_right _ (List.mem_append_right _ (List.mem_append_right _ (List.mem_append_right _ (List.mem_append_right _ (List.mem_append_right _ (List.mem_append_left _ h))))))))))
theorem ptX5_init_wsX4_init : ∀ w ∈ wsX4_init, w ∈ wsX5_init := fun _ h => List.mem_cons_of_mem _ (List.mem_append_right _ (List.mem_append_right _ (List.mem_append_right _ (List.mem_append_right _ (List.mem_append_right _ (List.mem_append_right _ (List.mem_append_right _ (List.mem_append_right _ (List.mem_append_right _ (List.mem_append_right _ (List.mem_append_left _ h)))))))))))
theorem ptX5_init_wsX1_init : ∀ w ∈ wsX1_init, w ∈ wsX5_init := fun _ h => List.mem_cons_of_mem _ (List.mem_append_right _ (List.mem_append_right _ (List.mem_append_right _ (List.mem_append_right _ (List.mem_append_right _ (List.mem_append_right _ (List.mem_append_right _ (List.mem_append_right _ (List.mem_append_right _ (List.mem_append_right _ (List.mem_append_right _ h)))))))))))
theorem gX5_init_X3_init_n11 : GoodIn wsX5_init wsX3_init := goodIn_sub (fun w h => ptX5_init_wsX3_init w h) (List.all_eq_true.mpr ok_X3_init)
theorem gX5_init_X2_init_n18 : GoodIn wsX5_init wsX2_init := goodIn_sub (fun w h => ptX5_init_wsX2_init w h) (List.all_eq_true.mpr ok_X2_init)
theorem gX5_init_X0_init_n25 : GoodIn wsX5_init wsX0_init := goodIn_sub (fun w h => ptX5_init_wsX0_init w h) (List.all_eq_true.mpr ok_X0_init)
theorem gX5_init_X4_init_n32 : GoodIn wsX5_init wsX4_init := goodIn_sub (fun w h => ptX5_init_wsX4_init w h) (List.all_eq_true.mpr ok_X4_init)
theorem gX5_init_X1_init_n41 : GoodIn wsX5_init wsX1_init := goodIn_sub (fun w h => ptX5_init_wsX1_init w h) (List.all_eq_true.mpr ok_X1_init)
def woX5_within : List Cond := []
def wsX5_within : List Cond := .code yX5_within cX5_within 3 (some .boolean) :: (woX5_within)
set_option maxRecDepth 100000 in
set_option maxHeartbeats 4000000 in
theorem lwo_X5_within : ∀ w ∈ Cond.code yX5_within cX5_within 3 (some .boolean) :: woX5_within, w ∈ lw_tbl := lwi_mem [257] (by decide +kernel)
theorem oko_X5_within : ∀ w ∈ woX5_within, goodWord w = true := by decide +kernel
theorem lw_X5_within : ∀ w ∈ wsX5_within, w ∈ lw_tbl := List.forall_mem_cons.mpr ⟨lwo_X5_within _ List.mem_cons_self, (fun w h => lwo_X5_within w (List.mem_cons_of_mem _ h))⟩
theorem ok_X5_within : ∀ w ∈ wsX5_within, goodWord w = true := List.forall_mem_cons.mpr ⟨rfl, oko_X5_within⟩
theorem ptX5_within_woX5_within : ∀ w ∈ woX5_within, w ∈ wsX5_within := fun _ h => List.mem_cons_of_mem _ (h)
def woX5_person : List Cond := [Cond.methodLink RX5 46 yX5_within, Cond.static yX5_within, Cond.initialized RX5, Cond.fieldLink RX5 12 "FreeLand" "persons" "LFreeLand$Persons;", Cond.instanceMethod yX3_add, Cond.selects RX3 yX3_add yX3_add, Cond.initialized RX3]
def wsX5_person : List Cond := .code yX5_person cX5_person 3 (some .int) :: (woX5_person ++ (wsX50 ++ (wsX30 ++ (wsX5_within ++ (wsX3_add)))))
set_option maxRecDepth 100000 in
set_option maxHeartbeats 4000000 in
theorem lwo_X5_person : ∀ w ∈ Cond.code yX5_person cX5_person 3 (some .int) :: woX5_person, w ∈ lw_tbl := lwi_mem [254, 255, 256, 33, 235, 260, 0, 34] (by decide +kernel)
theorem oko_X5_person : ∀ w ∈ woX5_person, goodWord w = true := by decide +kernel
theorem lw_X5_person : ∀ w ∈ wsX5_person, w ∈ lw_tbl := List.forall_mem_cons.mpr ⟨lwo_X5_person _ List.mem_cons_self, List.forall_mem_append.mpr ⟨(fun w h => lwo_X5_person w (List.mem_cons_of_mem _ h)), List.forall_mem_append.mpr ⟨lwi_X5, List.forall_mem_append.mpr ⟨lwi_X3, List.forall_mem_append.mpr ⟨lw_X5_within, lw_X3_add⟩⟩⟩⟩⟩
theorem ok_X5_person : ∀ w ∈ wsX5_person, goodWord w = true := List.forall_mem_cons.mpr ⟨rfl, List.forall_mem_append.mpr ⟨oko_X5_person, List.forall_mem_append.mpr ⟨ok_X5, List.forall_mem_append.mpr ⟨ok_X3, List.forall_mem_append.mpr ⟨ok_X5_within, ok_X3_add⟩⟩⟩⟩⟩
theorem ptX5_person_woX5_person : ∀ w ∈ woX5_person, w ∈ wsX5_person := fun _ h => List.mem_cons_of_mem _ (List.mem_append_left _ h)
theorem ptX5_person_wsX50 : ∀ w ∈ wsX50, w ∈ wsX5_person := fun _ h => List.mem_cons_of_mem _ (List.mem_append_right _ (List.mem_append_left _ h))
theorem ptX5_person_wsX30 : ∀ w ∈ wsX30, w ∈ wsX5_person := fun _ h => List.mem_cons_of_mem _ (List.mem_append_right _ (List.mem_append_right _ (List.mem_append_left _ h)))
theorem ptX5_person_wsX5_within : ∀ w ∈ wsX5_within, w ∈ wsX5_person := fun _ h => List.mem_cons_of_mem _ (List.mem_append_right _ (List.mem_append_right _ (List.mem_append_right _ (List.mem_append_left _ h))))
theorem ptX5_person_wsX3_add : ∀ w ∈ wsX3_add, w ∈ wsX5_person := fun _ h => List.mem_cons_of_mem _ (List.mem_append_right _ (List.mem_append_right _ (List.mem_append_right _ (List.mem_append_right _ h))))
theorem gX5_person_X5_within : GoodIn wsX5_person (va_wsS RX5 46 yX5_within wsX5_within) := goodIn_app (goodIn_sub (fun w h => ptX5_person_woX5_person w ((by decide +kernel : ∀ w ∈ ([Cond.methodLink RX5 46 yX5_within, Cond.static yX5_within, Cond.initialized yX5_within.cls] : List Cond), w ∈ woX5_person) w h)) (by decide +kernel)) (goodIn_sub (fun w h => ptX5_person_wsX5_within w h) (List.all_eq_true.mpr ok_X5_within))
theorem gX5_person_X3_add_n54 : GoodIn wsX5_person wsX3_add := goodIn_sub (fun w h => ptX5_person_wsX3_add w h) (List.all_eq_true.mpr ok_X3_add)
def woX5_isPerson : List Cond := [Cond.fieldLink RX5 12 "FreeLand" "persons" "LFreeLand$Persons;", Cond.methodLink RX5 46 yX5_within, Cond.static yX5_within, Cond.initialized RX5]
def wsX5_isPerson : List Cond := .code yX5_isPerson cX5_isPerson 2 (some .boolean) :: (woX5_isPerson ++ (wsX50 ++ (wsX30 ++ (wsX5_within))))
set_option maxRecDepth 100000 in
set_option maxHeartbeats 4000000 in
theorem lwo_X5_isPerson : ∀ w ∈ Cond.code yX5_isPerson cX5_isPerson 2 (some .boolean) :: woX5_isPerson, w ∈ lw_tbl := lwi_mem [269, 235, 255, 256, 33] (by decide +kernel)
theorem oko_X5_isPerson : ∀ w ∈ woX5_isPerson, goodWord w = true := by decide +kernel
theorem lw_X5_isPerson : ∀ w ∈ wsX5_isPerson, w ∈ lw_tbl := List.forall_mem_cons.mpr ⟨lwo_X5_isPerson _ List.mem_cons_self, List.forall_mem_append.mpr ⟨(fun w h => lwo_X5_isPerson w (List.mem_cons_of_mem _ h)), List.forall_mem_append.mpr ⟨lwi_X5, List.forall_mem_append.mpr ⟨lwi_X3, lw_X5_within⟩⟩⟩⟩
theorem ok_X5_isPerson : ∀ w ∈ wsX5_isPerson, goodWord w = true := List.forall_mem_cons.mpr ⟨rfl, List.forall_mem_append.mpr ⟨oko_X5_isPerson, List.forall_mem_append.mpr ⟨ok_X5, List.forall_mem_append.mpr ⟨ok_X3, ok_X5_within⟩⟩⟩⟩
theorem ptX5_isPerson_woX5_isPerson : ∀ w ∈ woX5_isPerson, w ∈ wsX5_isPerson := fun _ h => List.mem_cons_of_mem _ (List.mem_append_left _ h)
theorem ptX5_isPerson_wsX50 : ∀ w ∈ wsX50, w ∈ wsX5_isPerson := fun _ h => List.mem_cons_of_mem _ (List.mem_append_right _ (List.mem_append_left _ h))
theorem ptX5_isPerson_wsX30 : ∀ w ∈ wsX30, w ∈ wsX5_isPerson := fun _ h => List.mem_cons_of_mem _ (List.mem_append_right _ (List.mem_append_right _ (List.mem_append_left _ h)))
theorem ptX5_isPerson_wsX5_within : ∀ w ∈ wsX5_within, w ∈ wsX5_isPerson := fun _ h => List.mem_cons_of_mem _ (List.mem_append_right _ (List.mem_append_right _ (List.mem_append_right _ h)))
theorem gX5_isPerson_X5_within : GoodIn wsX5_isPerson (va_wsS RX5 46 yX5_within wsX5_within) := goodIn_app (goodIn_sub (fun w h => ptX5_isPerson_woX5_isPerson w ((by decide +kernel : ∀ w ∈ ([Cond.methodLink RX5 46 yX5_within, Cond.static yX5_within, Cond.initialized yX5_within.cls] : List Cond), w ∈ woX5_isPerson) w h)) (by decide +kernel)) (goodIn_sub (fun w h => ptX5_isPerson_wsX5_within w h) (List.all_eq_true.mpr ok_X5_within))
def woX5_isQuarter : List Cond := [Cond.methodLink RX5 46 yX5_within, Cond.static yX5_within, Cond.initialized RX5]
def wsX5_isQuarter : List Cond := .code yX5_isQuarter cX5_isQuarter 1 (some .boolean) :: (woX5_isQuarter ++ (wsX5_within))
set_option maxRecDepth 100000 in
set_option maxHeartbeats 4000000 in
theorem lwo_X5_isQuarter : ∀ w ∈ Cond.code yX5_isQuarter cX5_isQuarter 1 (some .boolean) :: woX5_isQuarter, w ∈ lw_tbl := lwi_mem [272, 255, 256, 33] (by decide +kernel)
theorem oko_X5_isQuarter : ∀ w ∈ woX5_isQuarter, goodWord w = true := by decide +kernel
theorem lw_X5_isQuarter : ∀ w ∈ wsX5_isQuarter, w ∈ lw_tbl := List.forall_mem_cons.mpr ⟨lwo_X5_isQuarter _ List.mem_cons_self, List.forall_mem_append.mpr ⟨(fun w h => lwo_X5_isQuarter w (List.mem_cons_of_mem _ h)), lw_X5_within⟩⟩
theorem ok_X5_isQuarter : ∀ w ∈ wsX5_isQuarter, goodWord w = true := List.forall_mem_cons.mpr ⟨rfl, List.forall_mem_append.mpr ⟨oko_X5_isQuarter, ok_X5_within⟩⟩
theorem ptX5_isQuarter_woX5_isQuarter : ∀ w ∈ woX5_isQuarter, w ∈ wsX5_isQuarter := fun _ h => List.mem_cons_of_mem _ (List.mem_append_left _ h)
theorem ptX5_isQuarter_wsX5_within : ∀ w ∈ wsX5_within, w ∈ wsX5_isQuarter := fun _ h => List.mem_cons_of_mem _ (List.mem_append_right _ h)
theorem gX5_isQuarter_X5_within : GoodIn wsX5_isQuarter (va_wsS RX5 46 yX5_within wsX5_within) := goodIn_app (goodIn_sub (fun w h => ptX5_isQuarter_woX5_isQuarter w ((by decide +kernel : ∀ w ∈ ([Cond.methodLink RX5 46 yX5_within, Cond.static yX5_within, Cond.initialized yX5_within.cls] : List Cond), w ∈ woX5_isQuarter) w h)) (by decide +kernel)) (goodIn_sub (fun w h => ptX5_isQuarter_wsX5_within w h) (List.all_eq_true.mpr ok_X5_within))
def woX5_isDay : List Cond := [Cond.methodLink RX5 46 yX5_within, Cond.static yX5_within, Cond.initialized RX5]
def wsX5_isDay : List Cond := .code yX5_isDay cX5_isDay 1 (some .boolean) :: (woX5_isDay ++ (wsX5_within))
set_option maxRecDepth 100000 in
set_option maxHeartbeats 4000000 in
theorem lwo_X5_isDay : ∀ w ∈ Cond.code yX5_isDay cX5_isDay 1 (some .boolean) :: woX5_isDay, w ∈ lw_tbl := lwi_mem [275, 255, 256, 33] (by decide +kernel)
theorem oko_X5_isDay : ∀ w ∈ woX5_isDay, goodWord w = true := by decide +kernel
theorem lw_X5_isDay : ∀ w ∈ wsX5_isDay, w ∈ lw_tbl := List.forall_mem_cons.mpr ⟨lwo_X5_isDay _ List.mem_cons_self, List.forall_mem_append.mpr ⟨(fun w h => lwo_X5_isDay w (List.mem_cons_of_mem _ h)), lw_X5_within⟩⟩
theorem ok_X5_isDay : ∀ w ∈ wsX5_isDay, goodWord w = true := List.forall_mem_cons.mpr ⟨rfl, List.forall_mem_append.mpr ⟨oko_X5_isDay, ok_X5_within⟩⟩
theorem ptX5_isDay_woX5_isDay : ∀ w ∈ woX5_isDay, w ∈ wsX5_isDay := fun _ h => List.mem_cons_of_mem _ (List.mem_append_left _ h)
theorem ptX5_isDay_wsX5_within : ∀ w ∈ wsX5_within, w ∈ wsX5_isDay := fun _ h => List.mem_cons_of_mem _ (List.mem_append_right _ h)
theorem gX5_isDay_X5_within : GoodIn wsX5_isDay (va_wsS RX5 46 yX5_within wsX5_within) := goodIn_app (goodIn_sub (fun w h => ptX5_isDay_woX5_isDay w ((by decide +kernel : ∀ w ∈ ([Cond.methodLink RX5 46 yX5_within, Cond.static yX5_within, Cond.initialized yX5_within.cls] : List Cond), w ∈ woX5_isDay) w h)) (by decide +kernel)) (goodIn_sub (fun w h => ptX5_isDay_wsX5_within w h) (List.all_eq_true.mpr ok_X5_within))
def woX5_fitsSort : List Cond := [Cond.methodLink RX5 46 yX5_within, Cond.static yX5_within, Cond.initialized RX5]
def wsX5_fitsSort : List Cond := .code yX5_fitsSort cX5_fitsSort 2 (some .boolean) :: (woX5_fitsSort ++ (wsX5_within))
set_option maxRecDepth 100000 in
set_option maxHeartbeats 4000000 in
theorem lwo_X5_fitsSort : ∀ w ∈ Cond.code yX5_fitsSort cX5_fitsSort 2 (some .boolean) :: woX5_fitsSort, w ∈ lw_tbl := lwi_mem [278, 255, 256, 33] (by decide +kernel)
theorem oko_X5_fitsSort : ∀ w ∈ woX5_fitsSort, goodWord w = true := by decide +kernel
theorem lw_X5_fitsSort : ∀ w ∈ wsX5_fitsSort, w ∈ lw_tbl := List.forall_mem_cons.mpr ⟨lwo_X5_fitsSort _ List.mem_cons_self, List.forall_mem_append.mpr ⟨(fun w h => lwo_X5_fitsSort w (List.mem_cons_of_mem _ h)), lw_X5_within⟩⟩
theorem ok_X5_fitsSort : ∀ w ∈ wsX5_fitsSort, goodWord w = true := List.forall_mem_cons.mpr ⟨rfl, List.forall_mem_append.mpr ⟨oko_X5_fitsSort, ok_X5_within⟩⟩
theorem ptX5_fitsSort_woX5_fitsSort : ∀ w ∈ woX5_fitsSort, w ∈ wsX5_fitsSort := fun _ h => List.mem_cons_of_mem _ (List.mem_append_left _ h)
theorem ptX5_fitsSort_wsX5_within : ∀ w ∈ wsX5_within, w ∈ wsX5_fitsSort := fun _ h => List.mem_cons_of_mem _ (List.mem_append_right _ h)
theorem gX5_fitsSort_X5_within : GoodIn wsX5_fitsSort (va_wsS RX5 46 yX5_within wsX5_within) := goodIn_app (goodIn_sub (fun w h => ptX5_fitsSort_woX5_fitsSort w ((by decide +kernel : ∀ w ∈ ([Cond.methodLink RX5 46 yX5_within, Cond.static yX5_within, Cond.initialized yX5_within.cls] : List Cond), w ∈ woX5_fitsSort) w h)) (by decide +kernel)) (goodIn_sub (fun w h => ptX5_fitsSort_wsX5_within w h) (List.all_eq_true.mpr ok_X5_within))
def woX5_line : List Cond := [Cond.methodLink RX5 46 yX5_within, Cond.static yX5_within, Cond.initialized RX5, Cond.methodLink RX5 90 yX5_isPerson, Cond.instanceMethod yX5_isPerson, Cond.selects RX5 yX5_isPerson yX5_isPerson, Cond.methodLink RX5 93 yX5_isQuarter, Cond.static yX5_isQuarter, Cond.methodLink RX5 68 yX5_isDay, Cond.static yX5_isDay, Cond.methodLink RX5 96 yX5_fitsSort, Cond.static yX5_fitsSort, Cond.fieldLink RX5 26 "FreeLand" "book" "LFreeLand$Book;", Cond.instanceMethod yX0_add, Cond.selects RX0 yX0_add yX0_add, Cond.initialized RX0]
def wsX5_line : List Cond := .code yX5_line cX5_line 7 (some .int) :: (woX5_line ++ (wsX50 ++ (wsX00 ++ (wsX5_within ++ (wsX5_isPerson ++ (wsX5_isQuarter ++ (wsX5_isDay ++ (wsX5_fitsSort ++ (wsX0_add)))))))))
set_option maxRecDepth 100000 in
set_option maxHeartbeats 4000000 in
theorem lwo_X5_line : ∀ w ∈ Cond.code yX5_line cX5_line 7 (some .int) :: woX5_line, w ∈ lw_tbl := lwi_mem [265, 255, 256, 33, 266, 268, 1, 270, 271, 273, 274, 276, 277, 237, 281, 2, 36] (by decide +kernel)
theorem oko_X5_line : ∀ w ∈ woX5_line, goodWord w = true := by decide +kernel
theorem lw_X5_line : ∀ w ∈ wsX5_line, w ∈ lw_tbl := List.forall_mem_cons.mpr ⟨lwo_X5_line _ List.mem_cons_self, List.forall_mem_append.mpr ⟨(fun w h => lwo_X5_line w (List.mem_cons_of_mem _ h)), List.forall_mem_append.mpr ⟨lwi_X5, List.forall_mem_append.mpr ⟨lwi_X0, List.forall_mem_append.mpr ⟨lw_X5_within, List.forall_mem_append.mpr ⟨lw_X5_isPerson, List.forall_mem_append.mpr ⟨lw_X5_isQuarter, List.forall_mem_append.mpr ⟨lw_X5_isDay, List.forall_mem_append.mpr ⟨lw_X5_fitsSort, lw_X0_add⟩⟩⟩⟩⟩⟩⟩⟩⟩
theorem ok_X5_line : ∀ w ∈ wsX5_line, goodWord w = true := List.forall_mem_cons.mpr ⟨rfl, List.forall_mem_append.mpr ⟨oko_X5_line, List.forall_mem_append.mpr ⟨ok_X5, List.forall_mem_append.mpr ⟨ok_X0, List.forall_mem_append.mpr ⟨ok_X5_within, List.forall_mem_append.mpr ⟨ok_X5_isPerson, List.forall_mem_append.mpr ⟨ok_X5_isQuarter, List.forall_mem_append.mpr ⟨ok_X5_isDay, List.forall_mem_append.mpr ⟨ok_X5_fitsSort, ok_X0_add⟩⟩⟩⟩⟩⟩⟩⟩⟩
theorem ptX5_line_woX5_line : ∀ w ∈ woX5_line, w ∈ wsX5_line := fun _ h => List.mem_cons_of_mem _ (List.mem_append_left _ h)
theorem ptX5_line_wsX50 : ∀ w ∈ wsX50, w ∈ wsX5_line := fun _ h => List.mem_cons_of_mem _ (List.mem_append_right _ (List.mem_append_left _ h))
theorem ptX5_line_wsX00 : ∀ w ∈ wsX00, w ∈ wsX5_line := fun _ h => List.mem_cons_of_mem _ (List.mem_append_right _ (List.mem_append_right _ (List.mem_append_left _ h)))
theorem ptX5_line_wsX5_within : ∀ w ∈ wsX5_within, w ∈ wsX5_line := fun _ h => List.mem_cons_of_mem _ (List.mem_append_right _ (List.mem_append_right _ (List.mem_append_right _ (List.mem_append_left _ h))))
theorem ptX5_line_wsX5_isPerson : ∀ w ∈ wsX5_isPerson, w ∈ wsX5_line := fun _ h => List.mem_cons_of_mem _ (List.mem_append_right _ (List.mem_append_right _ (List.mem_append_right _ (List.mem_append_right _ (List.mem_append_left _ h)))))
theorem ptX5_line_wsX5_isQuarter : ∀ w ∈ wsX5_isQuarter, w ∈ wsX5_line := fun _ h => List.mem_cons_of_mem _ (List.mem_append_right _ (List.mem_append_right _ (List.mem_append_right _ (List.mem_append_right _ (List.mem_append_right _ (List.mem_append_left _ h))))))
theorem ptX5_line_wsX5_isDay : ∀ w ∈ wsX5_isDay, w ∈ wsX5_line := fun _ h => List.mem_cons_of_mem _ (List.mem_append_right _ (List.mem_append_right _ (List.mem_append_right _ (List.mem_append_right _ (List.mem_append_right _ (List.mem_append_right _ (List.mem_append_left _ h)))))))
theorem ptX5_line_wsX5_fitsSort : ∀ w ∈ wsX5_fitsSort, w ∈ wsX5_line := fun _ h => List.mem_cons_of_mem _ (List.mem_append_right _ (List.mem_append_right _ (List.mem_append_right _ (List.mem_append_right _ (List.mem_append_right _ (List.mem_append_right _ (List.mem_append_right _ (List.mem_append_left _ h))))))))
theorem ptX5_line_wsX0_add : ∀ w ∈ wsX0_add, w ∈ wsX5_line := fun _ h => List.mem_cons_of_mem _ (List.mem_append_right _ (List.mem_append_right _ (List.mem_append_right _ (List.mem_append_right _ (List.mem_append_right _ (List.mem_append_right _ (List.mem_append_right _ (List.mem_append_right _ h))))))))
theorem gX5_line_X5_within : GoodIn wsX5_line (va_wsS RX5 46 yX5_within wsX5_within) := goodIn_app (goodIn_sub (fun w h => ptX5_line_woX5_line w ((by decide +kernel : ∀ w ∈ ([Cond.methodLink RX5 46 yX5_within, Cond.static yX5_within, Cond.initialized yX5_within.cls] : List Cond), w ∈ woX5_line) w h)) (by decide +kernel)) (goodIn_sub (fun w h => ptX5_line_wsX5_within w h) (List.all_eq_true.mpr ok_X5_within))
theorem gX5_line_X5_isPerson : GoodIn wsX5_line (wsV RX5 90 RX5 yX5_isPerson wsX5_isPerson) := goodIn_app (goodIn_sub (fun w h => ptX5_line_woX5_line w ((by decide +kernel : ∀ w ∈ ([Cond.methodLink RX5 90 yX5_isPerson, Cond.instanceMethod yX5_isPerson, Cond.selects RX5 yX5_isPerson yX5_isPerson, Cond.initialized RX5] : List Cond), w ∈ woX5_line) w h)) (by decide +kernel)) (goodIn_sub (fun w h => ptX5_line_wsX5_isPerson w h) (List.all_eq_true.mpr ok_X5_isPerson))
theorem gX5_line_X5_isQuarter : GoodIn wsX5_line (va_wsS RX5 93 yX5_isQuarter wsX5_isQuarter) := goodIn_app (goodIn_sub (fun w h => ptX5_line_woX5_line w ((by decide +kernel : ∀ w ∈ ([Cond.methodLink RX5 93 yX5_isQuarter, Cond.static yX5_isQuarter, Cond.initialized yX5_isQuarter.cls] : List Cond), w ∈ woX5_line) w h)) (by decide +kernel)) (goodIn_sub (fun w h => ptX5_line_wsX5_isQuarter w h) (List.all_eq_true.mpr ok_X5_isQuarter))
theorem gX5_line_X5_isDay : GoodIn wsX5_line (va_wsS RX5 68 yX5_isDay wsX5_isDay) := goodIn_app (goodIn_sub (fun w h => ptX5_line_woX5_line w ((by decide +kernel : ∀ w ∈ ([Cond.methodLink RX5 68 yX5_isDay, Cond.static yX5_isDay, Cond.initialized yX5_isDay.cls] : List Cond), w ∈ woX5_line) w h)) (by decide +kernel)) (goodIn_sub (fun w h => ptX5_line_wsX5_isDay w h) (List.all_eq_true.mpr ok_X5_isDay))
theorem gX5_line_X5_fitsSort : GoodIn wsX5_line (va_wsS RX5 96 yX5_fitsSort wsX5_fitsSort) := goodIn_app (goodIn_sub (fun w h => ptX5_line_woX5_line w ((by decide +kernel : ∀ w ∈ ([Cond.methodLink RX5 96 yX5_fitsSort, Cond.static yX5_fitsSort, Cond.initialized yX5_fitsSort.cls] : List Cond), w ∈ woX5_line) w h)) (by decide +kernel)) (goodIn_sub (fun w h => ptX5_line_wsX5_fitsSort w h) (List.all_eq_true.mpr ok_X5_fitsSort))
theorem gX5_line_X0_add_n101 : GoodIn wsX5_line wsX0_add := goodIn_sub (fun w h => ptX5_line_wsX0_add w h) (List.all_eq_true.mpr ok_X0_add)
def woX5_isLine : List Cond := [Cond.fieldLink RX5 26 "FreeLand" "book" "LFreeLand$Book;", Cond.methodLink RX5 46 yX5_within, Cond.static yX5_within, Cond.initialized RX5]
def wsX5_isLine : List Cond := .code yX5_isLine cX5_isLine 2 (some .boolean) :: (woX5_isLine ++ (wsX50 ++ (wsX00 ++ (wsX5_within))))
set_option maxRecDepth 100000 in
set_option maxHeartbeats 4000000 in
theorem lwo_X5_isLine : ∀ w ∈ Cond.code yX5_isLine cX5_isLine 2 (some .boolean) :: woX5_isLine, w ∈ lw_tbl := lwi_mem [290, 237, 255, 256, 33] (by decide +kernel)
theorem oko_X5_isLine : ∀ w ∈ woX5_isLine, goodWord w = true := by decide +kernel
theorem lw_X5_isLine : ∀ w ∈ wsX5_isLine, w ∈ lw_tbl := List.forall_mem_cons.mpr ⟨lwo_X5_isLine _ List.mem_cons_self, List.forall_mem_append.mpr ⟨(fun w h => lwo_X5_isLine w (List.mem_cons_of_mem _ h)), List.forall_mem_append.mpr ⟨lwi_X5, List.forall_mem_append.mpr ⟨lwi_X0, lw_X5_within⟩⟩⟩⟩
theorem ok_X5_isLine : ∀ w ∈ wsX5_isLine, goodWord w = true := List.forall_mem_cons.mpr ⟨rfl, List.forall_mem_append.mpr ⟨oko_X5_isLine, List.forall_mem_append.mpr ⟨ok_X5, List.forall_mem_append.mpr ⟨ok_X0, ok_X5_within⟩⟩⟩⟩
theorem ptX5_isLine_woX5_isLine : ∀ w ∈ woX5_isLine, w ∈ wsX5_isLine := fun _ h => List.mem_cons_of_mem _ (List.mem_append_left _ h)
theorem ptX5_isLine_wsX50 : ∀ w ∈ wsX50, w ∈ wsX5_isLine := fun _ h => List.mem_cons_of_mem _ (List.mem_append_right _ (List.mem_append_left _ h))
theorem ptX5_isLine_wsX00 : ∀ w ∈ wsX00, w ∈ wsX5_isLine := fun _ h => List.mem_cons_of_mem _ (List.mem_append_right _ (List.mem_append_right _ (List.mem_append_left _ h)))
theorem ptX5_isLine_wsX5_within : ∀ w ∈ wsX5_within, w ∈ wsX5_isLine := fun _ h => List.mem_cons_of_mem _ (List.mem_append_right _ (List.mem_append_right _ (List.mem_append_right _ h)))
theorem gX5_isLine_X5_within : GoodIn wsX5_isLine (va_wsS RX5 46 yX5_within wsX5_within) := goodIn_app (goodIn_sub (fun w h => ptX5_isLine_woX5_isLine w ((by decide +kernel : ∀ w ∈ ([Cond.methodLink RX5 46 yX5_within, Cond.static yX5_within, Cond.initialized yX5_within.cls] : List Cond), w ∈ woX5_isLine) w h)) (by decide +kernel)) (goodIn_sub (fun w h => ptX5_isLine_wsX5_within w h) (List.all_eq_true.mpr ok_X5_within))
def woX5_strike : List Cond := [Cond.methodLink RX5 111 yX5_isLine, Cond.instanceMethod yX5_isLine, Cond.selects RX5 yX5_isLine yX5_isLine, Cond.initialized RX5, Cond.fieldLink RX5 26 "FreeLand" "book" "LFreeLand$Book;"]
def wsX5_strike : List Cond := .code yX5_strike cX5_strike 4 (some .int) :: (woX5_strike ++ (wsX50 ++ (wsX00 ++ (wsX5_isLine))))
set_option maxRecDepth 100000 in
set_option maxHeartbeats 4000000 in
theorem lwo_X5_strike : ∀ w ∈ Cond.code yX5_strike cX5_strike 4 (some .int) :: woX5_strike, w ∈ lw_tbl := lwi_mem [286, 287, 289, 3, 33, 237] (by decide +kernel)
theorem oko_X5_strike : ∀ w ∈ woX5_strike, goodWord w = true := by decide +kernel
theorem lw_X5_strike : ∀ w ∈ wsX5_strike, w ∈ lw_tbl := List.forall_mem_cons.mpr ⟨lwo_X5_strike _ List.mem_cons_self, List.forall_mem_append.mpr ⟨(fun w h => lwo_X5_strike w (List.mem_cons_of_mem _ h)), List.forall_mem_append.mpr ⟨lwi_X5, List.forall_mem_append.mpr ⟨lwi_X0, lw_X5_isLine⟩⟩⟩⟩
theorem ok_X5_strike : ∀ w ∈ wsX5_strike, goodWord w = true := List.forall_mem_cons.mpr ⟨rfl, List.forall_mem_append.mpr ⟨oko_X5_strike, List.forall_mem_append.mpr ⟨ok_X5, List.forall_mem_append.mpr ⟨ok_X0, ok_X5_isLine⟩⟩⟩⟩
theorem ptX5_strike_woX5_strike : ∀ w ∈ woX5_strike, w ∈ wsX5_strike := fun _ h => List.mem_cons_of_mem _ (List.mem_append_left _ h)
theorem ptX5_strike_wsX50 : ∀ w ∈ wsX50, w ∈ wsX5_strike := fun _ h => List.mem_cons_of_mem _ (List.mem_append_right _ (List.mem_append_left _ h))
theorem ptX5_strike_wsX00 : ∀ w ∈ wsX00, w ∈ wsX5_strike := fun _ h => List.mem_cons_of_mem _ (List.mem_append_right _ (List.mem_append_right _ (List.mem_append_left _ h)))
theorem ptX5_strike_wsX5_isLine : ∀ w ∈ wsX5_isLine, w ∈ wsX5_strike := fun _ h => List.mem_cons_of_mem _ (List.mem_append_right _ (List.mem_append_right _ (List.mem_append_right _ h)))
theorem gX5_strike_X5_isLine : GoodIn wsX5_strike (wsV RX5 111 RX5 yX5_isLine wsX5_isLine) := goodIn_app (goodIn_sub (fun w h => ptX5_strike_woX5_strike w ((by decide +kernel : ∀ w ∈ ([Cond.methodLink RX5 111 yX5_isLine, Cond.instanceMethod yX5_isLine, Cond.selects RX5 yX5_isLine yX5_isLine, Cond.initialized RX5] : List Cond), w ∈ woX5_strike) w h)) (by decide +kernel)) (goodIn_sub (fun w h => ptX5_strike_wsX5_isLine w h) (List.all_eq_true.mpr ok_X5_isLine))
def woX5_isKnownBy : List Cond := [Cond.fieldLink RX5 26 "FreeLand" "book" "LFreeLand$Book;", Cond.methodLink RX5 46 yX5_within, Cond.static yX5_within, Cond.initialized RX5]
def wsX5_isKnownBy : List Cond := .code yX5_isKnownBy cX5_isKnownBy 2 (some .boolean) :: (woX5_isKnownBy ++ (wsX50 ++ (wsX00 ++ (wsX5_within))))
set_option maxRecDepth 100000 in
set_option maxHeartbeats 4000000 in
theorem lwo_X5_isKnownBy : ∀ w ∈ Cond.code yX5_isKnownBy cX5_isKnownBy 2 (some .boolean) :: woX5_isKnownBy, w ∈ lw_tbl := lwi_mem [298, 237, 255, 256, 33] (by decide +kernel)
theorem oko_X5_isKnownBy : ∀ w ∈ woX5_isKnownBy, goodWord w = true := by decide +kernel
theorem lw_X5_isKnownBy : ∀ w ∈ wsX5_isKnownBy, w ∈ lw_tbl := List.forall_mem_cons.mpr ⟨lwo_X5_isKnownBy _ List.mem_cons_self, List.forall_mem_append.mpr ⟨(fun w h => lwo_X5_isKnownBy w (List.mem_cons_of_mem _ h)), List.forall_mem_append.mpr ⟨lwi_X5, List.forall_mem_append.mpr ⟨lwi_X0, lw_X5_within⟩⟩⟩⟩
theorem ok_X5_isKnownBy : ∀ w ∈ wsX5_isKnownBy, goodWord w = true := List.forall_mem_cons.mpr ⟨rfl, List.forall_mem_append.mpr ⟨oko_X5_isKnownBy, List.forall_mem_append.mpr ⟨ok_X5, List.forall_mem_append.mpr ⟨ok_X0, ok_X5_within⟩⟩⟩⟩
theorem ptX5_isKnownBy_woX5_isKnownBy : ∀ w ∈ woX5_isKnownBy, w ∈ wsX5_isKnownBy := fun _ h => List.mem_cons_of_mem _ (List.mem_append_left _ h)
theorem ptX5_isKnownBy_wsX50 : ∀ w ∈ wsX50, w ∈ wsX5_isKnownBy := fun _ h => List.mem_cons_of_mem _ (List.mem_append_right _ (List.mem_append_left _ h))
theorem ptX5_isKnownBy_wsX00 : ∀ w ∈ wsX00, w ∈ wsX5_isKnownBy := fun _ h => List.mem_cons_of_mem _ (List.mem_append_right _ (List.mem_append_right _ (List.mem_append_left _ h)))
theorem ptX5_isKnownBy_wsX5_within : ∀ w ∈ wsX5_within, w ∈ wsX5_isKnownBy := fun _ h => List.mem_cons_of_mem _ (List.mem_append_right _ (List.mem_append_right _ (List.mem_append_right _ h)))
theorem gX5_isKnownBy_X5_within : GoodIn wsX5_isKnownBy (va_wsS RX5 46 yX5_within wsX5_within) := goodIn_app (goodIn_sub (fun w h => ptX5_isKnownBy_woX5_isKnownBy w ((by decide +kernel : ∀ w ∈ ([Cond.methodLink RX5 46 yX5_within, Cond.static yX5_within, Cond.initialized yX5_within.cls] : List Cond), w ∈ woX5_isKnownBy) w h)) (by decide +kernel)) (goodIn_sub (fun w h => ptX5_isKnownBy_wsX5_within w h) (List.all_eq_true.mpr ok_X5_within))
def woX5_linesOf : List Cond := [Cond.fieldLink RX5 26 "FreeLand" "book" "LFreeLand$Book;"]
def wsX5_linesOf : List Cond := .code yX5_linesOf cX5_linesOf 2 (some .int) :: (woX5_linesOf ++ (wsX50 ++ (wsX00)))
set_option maxRecDepth 100000 in
set_option maxHeartbeats 4000000 in
theorem lwo_X5_linesOf : ∀ w ∈ Cond.code yX5_linesOf cX5_linesOf 2 (some .int) :: woX5_linesOf, w ∈ lw_tbl := lwi_mem [302, 237] (by decide +kernel)
theorem oko_X5_linesOf : ∀ w ∈ woX5_linesOf, goodWord w = true := by decide +kernel
theorem lw_X5_linesOf : ∀ w ∈ wsX5_linesOf, w ∈ lw_tbl := List.forall_mem_cons.mpr ⟨lwo_X5_linesOf _ List.mem_cons_self, List.forall_mem_append.mpr ⟨(fun w h => lwo_X5_linesOf w (List.mem_cons_of_mem _ h)), List.forall_mem_append.mpr ⟨lwi_X5, lwi_X0⟩⟩⟩
theorem ok_X5_linesOf : ∀ w ∈ wsX5_linesOf, goodWord w = true := List.forall_mem_cons.mpr ⟨rfl, List.forall_mem_append.mpr ⟨oko_X5_linesOf, List.forall_mem_append.mpr ⟨ok_X5, ok_X0⟩⟩⟩
theorem ptX5_linesOf_woX5_linesOf : ∀ w ∈ woX5_linesOf, w ∈ wsX5_linesOf := fun _ h => List.mem_cons_of_mem _ (List.mem_append_left _ h)
theorem ptX5_linesOf_wsX50 : ∀ w ∈ wsX50, w ∈ wsX5_linesOf := fun _ h => List.mem_cons_of_mem _ (List.mem_append_right _ (List.mem_append_left _ h))
theorem ptX5_linesOf_wsX00 : ∀ w ∈ wsX00, w ∈ wsX5_linesOf := fun _ h => List.mem_cons_of_mem _ (List.mem_append_right _ (List.mem_append_right _ h))
def woX5_outcome : List Cond := [Cond.methodLink RX5 111 yX5_isLine, Cond.instanceMethod yX5_isLine, Cond.selects RX5 yX5_isLine yX5_isLine, Cond.initialized RX5, Cond.methodLink RX5 124 yX5_isKnownBy, Cond.instanceMethod yX5_isKnownBy, Cond.selects RX5 yX5_isKnownBy yX5_isKnownBy, Cond.fieldLink RX5 35 "FreeLand" "work" "LFreeLand$Work;", Cond.methodLink RX5 127 yX5_linesOf, Cond.instanceMethod yX5_linesOf, Cond.selects RX5 yX5_linesOf yX5_linesOf, Cond.instanceMethod yX4_through, Cond.selects RX4 yX4_through yX4_through, Cond.initialized RX4]
def wsX5_outcome : List Cond := .code yX5_outcome cX5_outcome 3 (some .int) :: (woX5_outcome ++ (wsX50 ++ (wsX40 ++ (wsX5_isLine ++ (wsX5_isKnownBy ++ (wsX5_linesOf ++ (wsX4_through)))))))
set_option maxRecDepth 100000 in
set_option maxHeartbeats 4000000 in
theorem lwo_X5_outcome : ∀ w ∈ Cond.code yX5_outcome cX5_outcome 3 (some .int) :: woX5_outcome, w ∈ lw_tbl := lwi_mem [294, 287, 289, 3, 33, 295, 297, 4, 238, 299, 301, 5, 305, 6, 37] (by decide +kernel)
theorem oko_X5_outcome : ∀ w ∈ woX5_outcome, goodWord w = true := by decide +kernel
theorem lw_X5_outcome : ∀ w ∈ wsX5_outcome, w ∈ lw_tbl := List.forall_mem_cons.mpr ⟨lwo_X5_outcome _ List.mem_cons_self, List.forall_mem_append.mpr ⟨(fun w h => lwo_X5_outcome w (List.mem_cons_of_mem _ h)), List.forall_mem_append.mpr ⟨lwi_X5, List.forall_mem_append.mpr ⟨lwi_X4, List.forall_mem_append.mpr ⟨lw_X5_isLine, List.forall_mem_append.mpr ⟨lw_X5_isKnownBy, List.forall_mem_append.mpr ⟨lw_X5_linesOf, lw_X4_through⟩⟩⟩⟩⟩⟩⟩
theorem ok_X5_outcome : ∀ w ∈ wsX5_outcome, goodWord w = true := List.forall_mem_cons.mpr ⟨rfl, List.forall_mem_append.mpr ⟨oko_X5_outcome, List.forall_mem_append.mpr ⟨ok_X5, List.forall_mem_append.mpr ⟨ok_X4, List.forall_mem_append.mpr ⟨ok_X5_isLine, List.forall_mem_append.mpr ⟨ok_X5_isKnownBy, List.forall_mem_append.mpr ⟨ok_X5_linesOf, ok_X4_through⟩⟩⟩⟩⟩⟩⟩
theorem ptX5_outcome_woX5_outcome : ∀ w ∈ woX5_outcome, w ∈ wsX5_outcome := fun _ h => List.mem_cons_of_mem _ (List.mem_append_left _ h)
theorem ptX5_outcome_wsX50 : ∀ w ∈ wsX50, w ∈ wsX5_outcome := fun _ h => List.mem_cons_of_mem _ (List.mem_append_right _ (List.mem_append_left _ h))
theorem ptX5_outcome_wsX40 : ∀ w ∈ wsX40, w ∈ wsX5_outcome := fun _ h => List.mem_cons_of_mem _ (List.mem_append_right _ (List.mem_append_right _ (List.mem_append_left _ h)))
theorem ptX5_outcome_wsX5_isLine : ∀ w ∈ wsX5_isLine, w ∈ wsX5_outcome := fun _ h => List.mem_cons_of_mem _ (List.mem_append_right _ (List.mem_append_right _ (List.mem_append_right _ (List.mem_append_left _ h))))
theorem ptX5_outcome_wsX5_isKnownBy : ∀ w ∈ wsX5_isKnownBy, w ∈ wsX5_outcome := fun _ h => List.mem_cons_of_mem _ (List.mem_append_right _ (List.mem_append_right _ (List.mem_append_right _ (List.mem_append_right _ (List.mem_append_left _ h)))))
theorem ptX5_outcome_wsX5_linesOf : ∀ w ∈ wsX5_linesOf, w ∈ wsX5_outcome := fun _ h => List.mem_cons_of_mem _ (List.mem_append_right _ (List.mem_append_right _ (List.mem_append_right _ (List.mem_append_right _ (List.mem_append_right _ (List.mem_append_left _ h))))))
theorem ptX5_outcome_wsX4_through : ∀ w ∈ wsX4_through, w ∈ wsX5_outcome := fun _ h => List.mem_cons_of_mem _ (List.mem_append_right _ (List.mem_append_right _ (List.mem_append_right _ (List.mem_append_right _ (List.mem_append_right _ (List.mem_append_right _ h))))))
theorem gX5_outcome_X5_isLine : GoodIn wsX5_outcome (wsV RX5 111 RX5 yX5_isLine wsX5_isLine) := goodIn_app (goodIn_sub (fun w h => ptX5_outcome_woX5_outcome w ((by decide +kernel : ∀ w ∈ ([Cond.methodLink RX5 111 yX5_isLine, Cond.instanceMethod yX5_isLine, Cond.selects RX5 yX5_isLine yX5_isLine, Cond.initialized RX5] : List Cond), w ∈ woX5_outcome) w h)) (by decide +kernel)) (goodIn_sub (fun w h => ptX5_outcome_wsX5_isLine w h) (List.all_eq_true.mpr ok_X5_isLine))
theorem gX5_outcome_X5_isKnownBy : GoodIn wsX5_outcome (wsV RX5 124 RX5 yX5_isKnownBy wsX5_isKnownBy) := goodIn_app (goodIn_sub (fun w h => ptX5_outcome_woX5_outcome w ((by decide +kernel : ∀ w ∈ ([Cond.methodLink RX5 124 yX5_isKnownBy, Cond.instanceMethod yX5_isKnownBy, Cond.selects RX5 yX5_isKnownBy yX5_isKnownBy, Cond.initialized RX5] : List Cond), w ∈ woX5_outcome) w h)) (by decide +kernel)) (goodIn_sub (fun w h => ptX5_outcome_wsX5_isKnownBy w h) (List.all_eq_true.mpr ok_X5_isKnownBy))
theorem gX5_outcome_X5_linesOf : GoodIn wsX5_outcome (wsV RX5 127 RX5 yX5_linesOf wsX5_linesOf) := goodIn_app (goodIn_sub (fun w h => ptX5_outcome_woX5_outcome w ((by decide +kernel : ∀ w ∈ ([Cond.methodLink RX5 127 yX5_linesOf, Cond.instanceMethod yX5_linesOf, Cond.selects RX5 yX5_linesOf yX5_linesOf, Cond.initialized RX5] : List Cond), w ∈ woX5_outcome) w h)) (by decide +kernel)) (goodIn_sub (fun w h => ptX5_outcome_wsX5_linesOf w h) (List.all_eq_true.mpr ok_X5_linesOf))
theorem gX5_outcome_X4_through_n130 : GoodIn wsX5_outcome wsX4_through := goodIn_sub (fun w h => ptX5_outcome_wsX4_through w h) (List.all_eq_true.mpr ok_X4_through)
def woX5_countOfWork : List Cond := [Cond.methodLink RX5 46 yX5_within, Cond.static yX5_within, Cond.initialized RX5, Cond.fieldLink RX5 35 "FreeLand" "work" "LFreeLand$Work;", Cond.fieldLink RX5 26 "FreeLand" "book" "LFreeLand$Book;", Cond.instanceMethod yX4_through, Cond.selects RX4 yX4_through yX4_through, Cond.initialized RX4, Cond.instanceMethod yX4_countEntries, Cond.selects RX4 yX4_countEntries yX4_countEntries, Cond.instanceMethod yX4_countDead, Cond.selects RX4 yX4_countDead yX4_countDead, Cond.instanceMethod yX4_countNotDone, Cond.selects RX4 yX4_countNotDone yX4_countNotDone]
def wsX5_countOfWork : List Cond := .code yX5_countOfWork cX5_countOfWork 2 (some .int) :: (woX5_countOfWork ++ (wsX50 ++ (wsX00 ++ (wsX5_within ++ (wsX4_through ++ (wsX4_countEntries ++ (wsX4_countDead ++ (wsX4_countNotDone))))))))
set_option maxRecDepth 100000 in
set_option maxHeartbeats 4000000 in
theorem lwo_X5_countOfWork : ∀ w ∈ Cond.code yX5_countOfWork cX5_countOfWork 2 (some .int) :: woX5_countOfWork, w ∈ lw_tbl := lwi_mem [398, 255, 256, 33, 238, 237, 305, 6, 37, 401, 27, 405, 28, 409, 29] (by decide +kernel)
theorem oko_X5_countOfWork : ∀ w ∈ woX5_countOfWork, goodWord w = true := by decide +kernel
theorem lw_X5_countOfWork : ∀ w ∈ wsX5_countOfWork, w ∈ lw_tbl := List.forall_mem_cons.mpr ⟨lwo_X5_countOfWork _ List.mem_cons_self, List.forall_mem_append.mpr ⟨(fun w h => lwo_X5_countOfWork w (List.mem_cons_of_mem _ h)), List.forall_mem_append.mpr ⟨lwi_X5, List.forall_mem_append.mpr ⟨lwi_X0, List.forall_mem_append.mpr ⟨lw_X5_within, List.forall_mem_append.mpr ⟨lw_X4_through, List.forall_mem_append.mpr ⟨lw_X4_countEntries, List.forall_mem_append.mpr ⟨lw_X4_countDead, lw_X4_countNotDone⟩⟩⟩⟩⟩⟩⟩⟩
theorem ok_X5_countOfWork : ∀ w ∈ wsX5_countOfWork, goodWord w = true := List.forall_mem_cons.mpr ⟨rfl, List.forall_mem_append.mpr ⟨oko_X5_countOfWork, List.forall_mem_append.mpr ⟨ok_X5, List.forall_mem_append.mpr ⟨ok_X0, List.forall_mem_append.mpr ⟨ok_X5_within, List.forall_mem_append.mpr ⟨ok_X4_through, List.forall_mem_append.mpr ⟨ok_X4_countEntries, List.forall_mem_append.mpr ⟨ok_X4_countDead, ok_X4_countNotDone⟩⟩⟩⟩⟩⟩⟩⟩
theorem ptX5_countOfWork_woX5_countOfWork : ∀ w ∈ woX5_countOfWork, w ∈ wsX5_countOfWork := fun _ h => List.mem_cons_of_mem _ (List.mem_append_left _ h)
theorem ptX5_countOfWork_wsX50 : ∀ w ∈ wsX50, w ∈ wsX5_countOfWork := fun _ h => List.mem_cons_of_mem _ (List.mem_append_right _ (List.mem_append_left _ h))
theorem ptX5_countOfWork_wsX00 : ∀ w ∈ wsX00, w ∈ wsX5_countOfWork := fun _ h => List.mem_cons_of_mem _ (List.mem_append_right _ (List.mem_append_right _ (List.mem_append_left _ h)))
theorem ptX5_countOfWork_wsX5_within : ∀ w ∈ wsX5_within, w ∈ wsX5_countOfWork := fun _ h => List.mem_cons_of_mem _ (List.mem_append_right _ (List.mem_append_right _ (List.mem_append_right _ (List.mem_append_left _ h))))
theorem ptX5_countOfWork_wsX4_through : ∀ w ∈ wsX4_through, w ∈ wsX5_countOfWork := fun _ h => List.mem_cons_of_mem _ (List.mem_append_right _ (List.mem_append_right _ (List.mem_append_right _ (List.mem_append_right _ (List.mem_append_left _ h)))))
theorem ptX5_countOfWork_wsX4_countEntries : ∀ w ∈ wsX4_countEntries, w ∈ wsX5_countOfWork := fun _ h => List.mem_cons_of_mem _ (List.mem_append_right _ (List.mem_append_right _ (List.mem_append_right _ (List.mem_append_right _ (List.mem_append_right _ (List.mem_append_left _ h))))))
theorem ptX5_countOfWork_wsX4_countDead : ∀ w ∈ wsX4_countDead, w ∈ wsX5_countOfWork := fun _ h => List.mem_cons_of_mem _ (List.mem_append_right _ (List.mem_append_right _ (List.mem_append_right _ (List.mem_append_right _ (List.mem_append_right _ (List.mem_append_right _ (List.mem_append_left _ h)))))))
theorem ptX5_countOfWork_wsX4_countNotDone : ∀ w ∈ wsX4_countNotDone, w ∈ wsX5_countOfWork := fun _ h => List.mem_cons_of_mem _ (List.mem_append_right _ (List.mem_append_right _ (List.mem_append_right _ (List.mem_append_right _ (List.mem_append_right _ (List.mem_append_right _ (List.mem_append_right _ h)))))))
theorem gX5_countOfWork_X5_within : GoodIn wsX5_countOfWork (va_wsS RX5 46 yX5_within wsX5_within) := goodIn_app (goodIn_sub (fun w h => ptX5_countOfWork_woX5_countOfWork w ((by decide +kernel : ∀ w ∈ ([Cond.methodLink RX5 46 yX5_within, Cond.static yX5_within, Cond.initialized yX5_within.cls] : List Cond), w ∈ woX5_countOfWork) w h)) (by decide +kernel)) (goodIn_sub (fun w h => ptX5_countOfWork_wsX5_within w h) (List.all_eq_true.mpr ok_X5_within))
theorem gX5_countOfWork_X4_through_n130 : GoodIn wsX5_countOfWork wsX4_through := goodIn_sub (fun w h => ptX5_countOfWork_wsX4_through w h) (List.all_eq_true.mpr ok_X4_through)
theorem gX5_countOfWork_X4_countEntries_n144 : GoodIn wsX5_countOfWork wsX4_countEntries := goodIn_sub (fun w h => ptX5_countOfWork_wsX4_countEntries w h) (List.all_eq_true.mpr ok_X4_countEntries)
theorem gX5_countOfWork_X4_countDead_n147 : GoodIn wsX5_countOfWork wsX4_countDead := goodIn_sub (fun w h => ptX5_countOfWork_wsX4_countDead w h) (List.all_eq_true.mpr ok_X4_countDead)
theorem gX5_countOfWork_X4_countNotDone_n150 : GoodIn wsX5_countOfWork wsX4_countNotDone := goodIn_sub (fun w h => ptX5_countOfWork_wsX4_countNotDone w h) (List.all_eq_true.mpr ok_X4_countNotDone)
def woX5_count : List Cond := [Cond.fieldLink RX5 12 "FreeLand" "persons" "LFreeLand$Persons;", Cond.fieldLink RX5 19 "FreeLand" "laws" "LFreeLand$Laws;", Cond.fieldLink RX5 26 "FreeLand" "book" "LFreeLand$Book;", Cond.instanceMethod yX0_countStruck, Cond.selects RX0 yX0_countStruck yX0_countStruck, Cond.initialized RX0, Cond.methodLink RX5 141 yX5_countOfWork, Cond.instanceMethod yX5_countOfWork, Cond.selects RX5 yX5_countOfWork yX5_countOfWork, Cond.initialized RX5]
def wsX5_count : List Cond := .code yX5_count cX5_count 2 (some .int) :: (woX5_count ++ (wsX50 ++ (wsX30 ++ (wsX20 ++ (wsX00 ++ (wsX0_countStruck ++ (wsX5_countOfWork)))))))
set_option maxRecDepth 100000 in
set_option maxHeartbeats 4000000 in
theorem lwo_X5_count : ∀ w ∈ Cond.code yX5_count cX5_count 2 (some .int) :: woX5_count, w ∈ lw_tbl := lwi_mem [390, 235, 236, 237, 393, 25, 36, 395, 397, 26, 33] (by decide +kernel)
theorem oko_X5_count : ∀ w ∈ woX5_count, goodWord w = true := by decide +kernel
theorem lw_X5_count : ∀ w ∈ wsX5_count, w ∈ lw_tbl := List.forall_mem_cons.mpr ⟨lwo_X5_count _ List.mem_cons_self, List.forall_mem_append.mpr ⟨(fun w h => lwo_X5_count w (List.mem_cons_of_mem _ h)), List.forall_mem_append.mpr ⟨lwi_X5, List.forall_mem_append.mpr ⟨lwi_X3, List.forall_mem_append.mpr ⟨lwi_X2, List.forall_mem_append.mpr ⟨lwi_X0, List.forall_mem_append.mpr ⟨lw_X0_countStruck, lw_X5_countOfWork⟩⟩⟩⟩⟩⟩⟩
theorem ok_X5_count : ∀ w ∈ wsX5_count, goodWord w = true := List.forall_mem_cons.mpr ⟨rfl, List.forall_mem_append.mpr ⟨oko_X5_count, List.forall_mem_append.mpr ⟨ok_X5, List.forall_mem_append.mpr ⟨ok_X3, List.forall_mem_append.mpr ⟨ok_X2, List.forall_mem_append.mpr ⟨ok_X0, List.forall_mem_append.mpr ⟨ok_X0_countStruck, ok_X5_countOfWork⟩⟩⟩⟩⟩⟩⟩
theorem ptX5_count_woX5_count : ∀ w ∈ woX5_count, w ∈ wsX5_count := fun _ h => List.mem_cons_of_mem _ (List.mem_append_left _ h)
theorem ptX5_count_wsX50 : ∀ w ∈ wsX50, w ∈ wsX5_count := fun _ h => List.mem_cons_of_mem _ (List.mem_append_right _ (List.mem_append_left _ h))
theorem ptX5_count_wsX30 : ∀ w ∈ wsX30, w ∈ wsX5_count := fun _ h => List.mem_cons_of_mem _ (List.mem_append_right _ (List.mem_append_right _ (List.mem_append_left _ h)))
theorem ptX5_count_wsX20 : ∀ w ∈ wsX20, w ∈ wsX5_count := fun _ h => List.mem_cons_of_mem _ (List.mem_append_right _ (List.mem_append_right _ (List.mem_append_right _ (List.mem_append_left _ h))))
theorem ptX5_count_wsX00 : ∀ w ∈ wsX00, w ∈ wsX5_count := fun _ h => List.mem_cons_of_mem _ (List.mem_append_right _ (List.mem_append_right _ (List.mem_append_right _ (List.mem_append_right _ (List.mem_append_left _ h)))))
theorem ptX5_count_wsX0_countStruck : ∀ w ∈ wsX0_countStruck, w ∈ wsX5_count := fun _ h => List.mem_cons_of_mem _ (List.mem_append_right _ (List.mem_append_right _ (List.mem_append_right _ (List.mem_append_right _ (List.mem_append_right _ (List.mem_append_left _ h))))))
theorem ptX5_count_wsX5_countOfWork : ∀ w ∈ wsX5_countOfWork, w ∈ wsX5_count := fun _ h => List.mem_cons_of_mem _ (List.mem_append_right _ (List.mem_append_right _ (List.mem_append_right _ (List.mem_append_right _ (List.mem_append_right _ (List.mem_append_right _ h))))))
theorem gX5_count_X0_countStruck_n137 : GoodIn wsX5_count wsX0_countStruck := goodIn_sub (fun w h => ptX5_count_wsX0_countStruck w h) (List.all_eq_true.mpr ok_X0_countStruck)
theorem gX5_count_X5_countOfWork : GoodIn wsX5_count (wsV RX5 141 RX5 yX5_countOfWork wsX5_countOfWork) := goodIn_app (goodIn_sub (fun w h => ptX5_count_woX5_count w ((by decide +kernel : ∀ w ∈ ([Cond.methodLink RX5 141 yX5_countOfWork, Cond.instanceMethod yX5_countOfWork, Cond.selects RX5 yX5_countOfWork yX5_countOfWork, Cond.initialized RX5] : List Cond), w ∈ woX5_count) w h)) (by decide +kernel)) (goodIn_sub (fun w h => ptX5_count_wsX5_countOfWork w h) (List.all_eq_true.mpr ok_X5_countOfWork))
def woX5_holds : List Cond := [Cond.methodLink RX5 93 yX5_isQuarter, Cond.static yX5_isQuarter, Cond.initialized RX5, Cond.methodLink RX5 68 yX5_isDay, Cond.static yX5_isDay, Cond.methodLink RX5 124 yX5_isKnownBy, Cond.instanceMethod yX5_isKnownBy, Cond.selects RX5 yX5_isKnownBy yX5_isKnownBy, Cond.methodLink RX5 46 yX5_within, Cond.static yX5_within, Cond.fieldLink RX5 35 "FreeLand" "work" "LFreeLand$Work;", Cond.methodLink RX5 127 yX5_linesOf, Cond.instanceMethod yX5_linesOf, Cond.selects RX5 yX5_linesOf yX5_linesOf, Cond.instanceMethod yX4_through, Cond.selects RX4 yX4_through yX4_through, Cond.initialized RX4, Cond.instanceMethod yX4_holderOf, Cond.selects RX4 yX4_holderOf yX4_holderOf, Cond.instanceMethod yX4_standing, Cond.selects RX4 yX4_standing yX4_standing, Cond.instanceMethod yX4_preferredOn, Cond.selects RX4 yX4_preferredOn yX4_preferredOn, Cond.instanceMethod yX4_daysLived, Cond.selects RX4 yX4_daysLived yX4_daysLived, Cond.instanceMethod yX4_acres, Cond.selects RX4 yX4_acres yX4_acres]
def wsX5_holds : List Cond := .code yX5_holds cX5_holds 5 (some .int) :: (woX5_holds ++ (wsX50 ++ (wsX40 ++ (wsX5_isQuarter ++ (wsX5_isDay ++ (wsX5_isKnownBy ++ (wsX5_within ++ (wsX5_linesOf ++ (wsX4_through ++ (wsX4_holderOf ++ (wsX4_standing ++ (wsX4_preferredOn ++ (wsX4_daysLived ++ (wsX4_acres))))))))))))))
set_option maxRecDepth 100000 in
set_option maxHeartbeats 4000000 in
theorem lwo_X5_holds : ∀ w ∈ Cond.code yX5_holds cX5_holds 5 (some .int) :: woX5_holds, w ∈ lw_tbl := lwi_mem [414, 270, 271, 33, 273, 274, 295, 297, 4, 255, 256, 238, 299, 301, 5, 305, 6, 37, 385, 24, 418, 30, 335, 13, 423, 31, 377, 22] (by decide +kernel)
theorem oko_X5_holds : ∀ w ∈ woX5_holds, goodWord w = true := by decide +kernel
theorem lw_X5_holds : ∀ w ∈ wsX5_holds, w ∈ lw_tbl := List.forall_mem_cons.mpr ⟨lwo_X5_holds _ List.mem_cons_self, List.forall_mem_append.mpr ⟨(fun w h => lwo_X5_holds w (List.mem_cons_of_mem _ h)), List.forall_mem_append.mpr ⟨lwi_X5, List.forall_mem_append.mpr ⟨lwi_X4, List.forall_mem_append.mpr ⟨lw_X5_isQuarter, List.forall_mem_append.mpr ⟨lw_X5_isDay, List.forall_mem_append.mpr ⟨lw_X5_isKnownBy, List.forall_mem_append.mpr ⟨lw_X5_within, List.forall_mem_append.mpr ⟨lw_X5_linesOf, List.forall_mem_append.mpr ⟨lw_X4_through, List.forall_mem_append.mpr ⟨lw_X4_holderOf, List.forall_mem_append.mpr ⟨lw_X4_standing, List.forall_mem_append.mpr ⟨lw_X4_preferredOn, List.forall_mem_append.mpr ⟨lw_X4_daysLived, lw_X4_acres⟩⟩⟩⟩⟩⟩⟩⟩⟩⟩⟩⟩⟩⟩
theorem ok_X5_holds : ∀ w ∈ wsX5_holds, goodWord w = true := List.forall_mem_cons.mpr ⟨rfl, List.forall_mem_append.mpr ⟨oko_X5_holds, List.forall_mem_append.mpr ⟨ok_X5, List.forall_mem_append.mpr ⟨ok_X4, List.forall_mem_append.mpr ⟨ok_X5_isQuarter, List.forall_mem_append.mpr ⟨ok_X5_isDay, List.forall_mem_append.mpr ⟨ok_X5_isKnownBy, List.forall_mem_append.mpr ⟨ok_X5_within, List.forall_mem_append.mpr ⟨ok_X5_linesOf, List.forall_mem_append.mpr ⟨ok_X4_through, List.forall_mem_append.mpr ⟨ok_X4_holderOf, List.forall_mem_append.mpr ⟨ok_X4_standing, List.forall_mem_append.mpr ⟨ok_X4_preferredOn, List.forall_mem_append.mpr ⟨ok_X4_daysLived, ok_X4_acres⟩⟩⟩⟩⟩⟩⟩⟩⟩⟩⟩⟩⟩⟩
theorem ptX5_holds_woX5_holds : ∀ w ∈ woX5_holds, w ∈ wsX5_holds := fun _ h => List.mem_cons_of_mem _ (List.mem_append_left _ h)
theorem ptX5_holds_wsX50 : ∀ w ∈ wsX50, w ∈ wsX5_holds := fun _ h => List.mem_cons_of_mem _ (List.mem_append_right _ (List.mem_append_left _ h))
theorem ptX5_holds_wsX40 : ∀ w ∈ wsX40, w ∈ wsX5_holds := fun _ h => List.mem_cons_of_mem _ (List.mem_append_right _ (List.mem_append_right _ (List.mem_append_left _ h)))
theorem ptX5_holds_wsX5_isQuarter : ∀ w ∈ wsX5_isQuarter, w ∈ wsX5_holds := fun _ h => List.mem_cons_of_mem _ (List.mem_append_right _ (List.mem_append_right _ (List.mem_append_right _ (List.mem_append_left _ h))))
theorem ptX5_holds_wsX5_isDay : ∀ w ∈ wsX5_isDay, w ∈ wsX5_holds := fun _ h => List.mem_cons_of_mem _ (List.mem_append_right _ (List.mem_append_right _ (List.mem_append_right _ (List.mem_append_right _ (List.mem_append_left _ h)))))
theorem ptX5_holds_wsX5_isKnownBy : ∀ w ∈ wsX5_isKnownBy, w ∈ wsX5_holds := fun _ h => List.mem_cons_of_mem _ (List.mem_append_right _ (List.mem_append_right _ (List.mem_append_right _ (List.mem_append_right _ (List.mem_append_right _ (List.mem_append_left _ h))))))
theorem ptX5_holds_wsX5_within : ∀ w ∈ wsX5_within, w ∈ wsX5_holds := fun _ h => List.mem_cons_of_mem _ (List.mem_append_right _ (List.mem_append_right _ (List.mem_append_right _ (List.mem_append_right _ (List.mem_append_right _ (List.mem_append_right _ (List.mem_append_left _ h)))))))
theorem ptX5_holds_wsX5_linesOf : ∀ w ∈ wsX5_linesOf, w ∈ wsX5_holds := fun _ h => List.mem_cons_of_mem _ (List.mem_append_right _ (List.mem_append_right _ (List.mem_append_right _ (List.mem_append_right _ (List.mem_append_right _ (List.mem_append_right _ (List.mem_append_right _ (List.mem_append_left _ h))))))))
theorem ptX5_holds_wsX4_through : ∀ w ∈ wsX4_through, w ∈ wsX5_holds := fun _ h => List.mem_cons_of_mem _ (List.mem_append_right _ (List.mem_append_right _ (List.mem_append_right _ (List.mem_append_right _ (List.mem_append_right _ (List.mem_append_right _ (List.mem_append_right _ (List.mem_append_right _ (List.mem_append_left _ h)))))))))
theorem ptX5_holds_wsX4_holderOf : ∀ w ∈ wsX4_holderOf, w ∈ wsX5_holds := fun _ h => List.mem_cons_of_mem _ (List.mem_append_right _ (List.mem_append_right _ (List.mem_append_right _ (List.mem_append_right _ (List.mem_append_right _ (List.mem_append_right _ (List.mem_append_right _ (List.mem_append_right _ (List.mem_append_right _ (List.mem_append_left _ h))))))))))
theorem ptX5_holds_wsX4_standing : ∀ w ∈ wsX4_standing, w ∈ wsX5_holds := fun _ h => List.mem_cons_of_mem _ (List.mem_append_right _ (List.mem_append_right _ (List.mem_append_right _ (List.mem_append_right _ (List.mem_append_right _ (List.mem_append_right _ (List.mem_append_right _ (List.mem_append_right _ (List.mem_append_right _ (List.mem_append_right _ (List.mem_append_left _ h)))))))))))
theorem ptX5_holds_wsX4_preferredOn : ∀ w ∈ wsX4_preferredOn, w ∈ wsX5_holds := fun _ h => List.mem_cons_of_mem _ (List.mem_append_right _ (List.mem_append_right _ (List.mem_append_right _ (List.mem_append_right _ (List.mem_append_right _ (List.mem_append_right _ (List.mem_append_right _ (List.mem_append_right _ (List.mem_append_right _ (List.mem_append_right _ (List.mem_append_right _ (List.mem_append_left _ h))))))))))))
theorem ptX5_holds_wsX4_daysLived : ∀ w ∈ wsX4_daysLived, w ∈ wsX5_holds := fun _ h => List.mem_cons_of_mem _ (List.mem_append_right _ (List.mem_append_right _ (List.mem_append_right _ (List.mem_append_right _ (List.mem_append_right _ (List.mem_append_right _ (List.mem_append_right _ (List.mem_append_right _ (List.mem_append_right _ (List.mem_append_right _ (List.mem_append_right _ (List.mem_append_right _ (List.mem_append_left _ h)))))))))))))
theorem ptX5_holds_wsX4_acres : ∀ w ∈ wsX4_acres, w ∈ wsX5_holds := fun _ h => List.mem_cons_of_mem _ (List.mem_append_right _ (List.mem_append_right _ (List.mem_append_right _ (List.mem_append_right _ (List.mem_append_right _ (List.mem_append_right _ (List.mem_append_right _ (List.mem_append_right _ (List.mem_append_right _ (List.mem_append_right _ (List.mem_append_right _ (List.mem_append_right _ (List.mem_append_right _ h)))))))))))))
theorem gX5_holds_X5_isQuarter : GoodIn wsX5_holds (va_wsS RX5 93 yX5_isQuarter wsX5_isQuarter) := goodIn_app (goodIn_sub (fun w h => ptX5_holds_woX5_holds w ((by decide +kernel : ∀ w ∈ ([Cond.methodLink RX5 93 yX5_isQuarter, Cond.static yX5_isQuarter, Cond.initialized yX5_isQuarter.cls] : List Cond), w ∈ woX5_holds) w h)) (by decide +kernel)) (goodIn_sub (fun w h => ptX5_holds_wsX5_isQuarter w h) (List.all_eq_true.mpr ok_X5_isQuarter))
theorem gX5_holds_X5_isDay : GoodIn wsX5_holds (va_wsS RX5 68 yX5_isDay wsX5_isDay) := goodIn_app (goodIn_sub (fun w h => ptX5_holds_woX5_holds w ((by decide +kernel : ∀ w ∈ ([Cond.methodLink RX5 68 yX5_isDay, Cond.static yX5_isDay, Cond.initialized yX5_isDay.cls] : List Cond), w ∈ woX5_holds) w h)) (by decide +kernel)) (goodIn_sub (fun w h => ptX5_holds_wsX5_isDay w h) (List.all_eq_true.mpr ok_X5_isDay))
theorem gX5_holds_X5_isKnownBy : GoodIn wsX5_holds (wsV RX5 124 RX5 yX5_isKnownBy wsX5_isKnownBy) := goodIn_app (goodIn_sub (fun w h => ptX5_holds_woX5_holds w ((by decide +kernel : ∀ w ∈ ([Cond.methodLink RX5 124 yX5_isKnownBy, Cond.instanceMethod yX5_isKnownBy, Cond.selects RX5 yX5_isKnownBy yX5_isKnownBy, Cond.initialized RX5] : List Cond), w ∈ woX5_holds) w h)) (by decide +kernel)) (goodIn_sub (fun w h => ptX5_holds_wsX5_isKnownBy w h) (List.all_eq_true.mpr ok_X5_isKnownBy))
theorem gX5_holds_X5_within : GoodIn wsX5_holds (va_wsS RX5 46 yX5_within wsX5_within) := goodIn_app (goodIn_sub (fun w h => ptX5_holds_woX5_holds w ((by decide +kernel : ∀ w ∈ ([Cond.methodLink RX5 46 yX5_within, Cond.static yX5_within, Cond.initialized yX5_within.cls] : List Cond), w ∈ woX5_holds) w h)) (by decide +kernel)) (goodIn_sub (fun w h => ptX5_holds_wsX5_within w h) (List.all_eq_true.mpr ok_X5_within))
theorem gX5_holds_X5_linesOf : GoodIn wsX5_holds (wsV RX5 127 RX5 yX5_linesOf wsX5_linesOf) := goodIn_app (goodIn_sub (fun w h => ptX5_holds_woX5_holds w ((by decide +kernel : ∀ w ∈ ([Cond.methodLink RX5 127 yX5_linesOf, Cond.instanceMethod yX5_linesOf, Cond.selects RX5 yX5_linesOf yX5_linesOf, Cond.initialized RX5] : List Cond), w ∈ woX5_holds) w h)) (by decide +kernel)) (goodIn_sub (fun w h => ptX5_holds_wsX5_linesOf w h) (List.all_eq_true.mpr ok_X5_linesOf))
theorem gX5_holds_X4_through_n130 : GoodIn wsX5_holds wsX4_through := goodIn_sub (fun w h => ptX5_holds_wsX4_through w h) (List.all_eq_true.mpr ok_X4_through)
theorem gX5_holds_X4_holderOf_n153 : GoodIn wsX5_holds wsX4_holderOf := goodIn_sub (fun w h => ptX5_holds_wsX4_holderOf w h) (List.all_eq_true.mpr ok_X4_holderOf)
theorem gX5_holds_X4_standing_n156 : GoodIn wsX5_holds wsX4_standing := goodIn_sub (fun w h => ptX5_holds_wsX4_standing w h) (List.all_eq_true.mpr ok_X4_standing)
theorem gX5_holds_X4_preferredOn_n162 : GoodIn wsX5_holds wsX4_preferredOn := goodIn_sub (fun w h => ptX5_holds_wsX4_preferredOn w h) (List.all_eq_true.mpr ok_X4_preferredOn)
theorem gX5_holds_X4_daysLived_n165 : GoodIn wsX5_holds wsX4_daysLived := goodIn_sub (fun w h => ptX5_holds_wsX4_daysLived w h) (List.all_eq_true.mpr ok_X4_daysLived)
theorem gX5_holds_X4_acres_n168 : GoodIn wsX5_holds wsX4_acres := goodIn_sub (fun w h => ptX5_holds_wsX4_acres w h) (List.all_eq_true.mpr ok_X4_acres)
def woX5_holdings : List Cond := [Cond.methodLink RX5 90 yX5_isPerson, Cond.instanceMethod yX5_isPerson, Cond.selects RX5 yX5_isPerson yX5_isPerson, Cond.initialized RX5, Cond.methodLink RX5 124 yX5_isKnownBy, Cond.instanceMethod yX5_isKnownBy, Cond.selects RX5 yX5_isKnownBy yX5_isKnownBy, Cond.fieldLink RX5 35 "FreeLand" "work" "LFreeLand$Work;", Cond.methodLink RX5 127 yX5_linesOf, Cond.instanceMethod yX5_linesOf, Cond.selects RX5 yX5_linesOf yX5_linesOf, Cond.instanceMethod yX4_through, Cond.selects RX4 yX4_through yX4_through, Cond.initialized RX4, Cond.instanceMethod yX4_holderOf, Cond.selects RX4 yX4_holderOf yX4_holderOf]
def wsX5_holdings : List Cond := .code yX5_holdings cX5_holdings 5 (some .int) :: (woX5_holdings ++ (wsX50 ++ (wsX5_isPerson ++ (wsX5_isKnownBy ++ (wsX5_linesOf ++ (wsX4_through ++ (wsX4_holderOf)))))))
set_option maxRecDepth 100000 in
set_option maxHeartbeats 4000000 in
theorem lwo_X5_holdings : ∀ w ∈ Cond.code yX5_holdings cX5_holdings 5 (some .int) :: woX5_holdings, w ∈ lw_tbl := lwi_mem [429, 266, 268, 1, 33, 295, 297, 4, 238, 299, 301, 5, 305, 6, 37, 385, 24] (by decide +kernel)
theorem oko_X5_holdings : ∀ w ∈ woX5_holdings, goodWord w = true := by decide +kernel
theorem lw_X5_holdings : ∀ w ∈ wsX5_holdings, w ∈ lw_tbl := List.forall_mem_cons.mpr ⟨lwo_X5_holdings _ List.mem_cons_self, List.forall_mem_append.mpr ⟨(fun w h => lwo_X5_holdings w (List.mem_cons_of_mem _ h)), List.forall_mem_append.mpr ⟨lwi_X5, List.forall_mem_append.mpr ⟨lw_X5_isPerson, List.forall_mem_append.mpr ⟨lw_X5_isKnownBy, List.forall_mem_append.mpr ⟨lw_X5_linesOf, List.forall_mem_append.mpr ⟨lw_X4_through, lw_X4_holderOf⟩⟩⟩⟩⟩⟩⟩
theorem ok_X5_holdings : ∀ w ∈ wsX5_holdings, goodWord w = true := List.forall_mem_cons.mpr ⟨rfl, List.forall_mem_append.mpr ⟨oko_X5_holdings, List.forall_mem_append.mpr ⟨ok_X5, List.forall_mem_append.mpr ⟨ok_X5_isPerson, List.forall_mem_append.mpr ⟨ok_X5_isKnownBy, List.forall_mem_append.mpr ⟨ok_X5_linesOf, List.forall_mem_append.mpr ⟨ok_X4_through, ok_X4_holderOf⟩⟩⟩⟩⟩⟩⟩
theorem ptX5_holdings_woX5_holdings : ∀ w ∈ woX5_holdings, w ∈ wsX5_holdings := fun _ h => List.mem_cons_of_mem _ (List.mem_append_left _ h)
theorem ptX5_holdings_wsX50 : ∀ w ∈ wsX50, w ∈ wsX5_holdings := fun _ h => List.mem_cons_of_mem _ (List.mem_append_right _ (List.mem_append_left _ h))
theorem ptX5_holdings_wsX5_isPerson : ∀ w ∈ wsX5_isPerson, w ∈ wsX5_holdings := fun _ h => List.mem_cons_of_mem _ (List.mem_append_right _ (List.mem_append_right _ (List.mem_append_left _ h)))
theorem ptX5_holdings_wsX5_isKnownBy : ∀ w ∈ wsX5_isKnownBy, w ∈ wsX5_holdings := fun _ h => List.mem_cons_of_mem _ (List.mem_append_right _ (List.mem_append_right _ (List.mem_append_right _ (List.mem_append_left _ h))))
theorem ptX5_holdings_wsX5_linesOf : ∀ w ∈ wsX5_linesOf, w ∈ wsX5_holdings := fun _ h => List.mem_cons_of_mem _ (List.mem_append_right _ (List.mem_append_right _ (List.mem_append_right _ (List.mem_append_right _ (List.mem_append_left _ h)))))
theorem ptX5_holdings_wsX4_through : ∀ w ∈ wsX4_through, w ∈ wsX5_holdings := fun _ h => List.mem_cons_of_mem _ (List.mem_append_right _ (List.mem_append_right _ (List.mem_append_right _ (List.mem_append_right _ (List.mem_append_right _ (List.mem_append_left _ h))))))
theorem ptX5_holdings_wsX4_holderOf : ∀ w ∈ wsX4_holderOf, w ∈ wsX5_holdings := fun _ h => List.mem_cons_of_mem _ (List.mem_append_right _ (List.mem_append_right _ (List.mem_append_right _ (List.mem_append_right _ (List.mem_append_right _ (List.mem_append_right _ h))))))
theorem gX5_holdings_X5_isPerson : GoodIn wsX5_holdings (wsV RX5 90 RX5 yX5_isPerson wsX5_isPerson) := goodIn_app (goodIn_sub (fun w h => ptX5_holdings_woX5_holdings w ((by decide +kernel : ∀ w ∈ ([Cond.methodLink RX5 90 yX5_isPerson, Cond.instanceMethod yX5_isPerson, Cond.selects RX5 yX5_isPerson yX5_isPerson, Cond.initialized RX5] : List Cond), w ∈ woX5_holdings) w h)) (by decide +kernel)) (goodIn_sub (fun w h => ptX5_holdings_wsX5_isPerson w h) (List.all_eq_true.mpr ok_X5_isPerson))
theorem gX5_holdings_X5_isKnownBy : GoodIn wsX5_holdings (wsV RX5 124 RX5 yX5_isKnownBy wsX5_isKnownBy) := goodIn_app (goodIn_sub (fun w h => ptX5_holdings_woX5_holdings w ((by decide +kernel : ∀ w ∈ ([Cond.methodLink RX5 124 yX5_isKnownBy, Cond.instanceMethod yX5_isKnownBy, Cond.selects RX5 yX5_isKnownBy yX5_isKnownBy, Cond.initialized RX5] : List Cond), w ∈ woX5_holdings) w h)) (by decide +kernel)) (goodIn_sub (fun w h => ptX5_holdings_wsX5_isKnownBy w h) (List.all_eq_true.mpr ok_X5_isKnownBy))
theorem gX5_holdings_X5_linesOf : GoodIn wsX5_holdings (wsV RX5 127 RX5 yX5_linesOf wsX5_linesOf) := goodIn_app (goodIn_sub (fun w h => ptX5_holdings_woX5_holdings w ((by decide +kernel : ∀ w ∈ ([Cond.methodLink RX5 127 yX5_linesOf, Cond.instanceMethod yX5_linesOf, Cond.selects RX5 yX5_linesOf yX5_linesOf, Cond.initialized RX5] : List Cond), w ∈ woX5_holdings) w h)) (by decide +kernel)) (goodIn_sub (fun w h => ptX5_holdings_wsX5_linesOf w h) (List.all_eq_true.mpr ok_X5_linesOf))
theorem gX5_holdings_X4_through_n130 : GoodIn wsX5_holdings wsX4_through := goodIn_sub (fun w h => ptX5_holdings_wsX4_through w h) (List.all_eq_true.mpr ok_X4_through)
theorem gX5_holdings_X4_holderOf_n153 : GoodIn wsX5_holdings wsX4_holderOf := goodIn_sub (fun w h => ptX5_holdings_wsX4_holderOf w h) (List.all_eq_true.mpr ok_X4_holderOf)
def woL_most : List Cond := []
def wsL_most : List Cond := .code yL_most cL_most 2 (some .int) :: (woL_most)
set_option maxRecDepth 100000 in
set_option maxHeartbeats 4000000 in
theorem lwo_L_most : ∀ w ∈ Cond.code yL_most cL_most 2 (some .int) :: woL_most, w ∈ lw_tbl := lwi_mem [432] (by decide +kernel)
theorem oko_L_most : ∀ w ∈ woL_most, goodWord w = true := by decide +kernel
theorem lw_L_most : ∀ w ∈ wsL_most, w ∈ lw_tbl := List.forall_mem_cons.mpr ⟨lwo_L_most _ List.mem_cons_self, (fun w h => lwo_L_most w (List.mem_cons_of_mem _ h))⟩
theorem ok_L_most : ∀ w ∈ wsL_most, goodWord w = true := List.forall_mem_cons.mpr ⟨rfl, oko_L_most⟩
theorem ptL_most_woL_most : ∀ w ∈ woL_most, w ∈ wsL_most := fun _ h => List.mem_cons_of_mem _ (h)
def woL_cell : List Cond := []
def wsL_cell : List Cond := .code yL_cell cL_cell 2 (some .int) :: (woL_cell)
set_option maxRecDepth 100000 in
set_option maxHeartbeats 4000000 in
theorem lwo_L_cell : ∀ w ∈ Cond.code yL_cell cL_cell 2 (some .int) :: woL_cell, w ∈ lw_tbl := lwi_mem [438] (by decide +kernel)
theorem oko_L_cell : ∀ w ∈ woL_cell, goodWord w = true := by decide +kernel
theorem lw_L_cell : ∀ w ∈ wsL_cell, w ∈ lw_tbl := List.forall_mem_cons.mpr ⟨lwo_L_cell _ List.mem_cons_self, (fun w h => lwo_L_cell w (List.mem_cons_of_mem _ h))⟩
theorem ok_L_cell : ∀ w ∈ wsL_cell, goodWord w = true := List.forall_mem_cons.mpr ⟨rfl, oko_L_cell⟩
theorem ptL_cell_woL_cell : ∀ w ∈ woL_cell, w ∈ wsL_cell := fun _ h => List.mem_cons_of_mem _ (h)
def woL_some : List Cond := [Cond.methodLink RL 7 yL_cell, Cond.static yL_cell, Cond.initialized RL, Cond.constant RL 13 (2147483647)]
def wsL_some : List Cond := .code yL_some cL_some 3 (some .int) :: (woL_some ++ (wsL_cell))
set_option maxRecDepth 100000 in
set_option maxHeartbeats 4000000 in
theorem lwo_L_some : ∀ w ∈ Cond.code yL_some cL_some 3 (some .int) :: woL_some, w ∈ lw_tbl := lwi_mem [435, 436, 437, 32, 439] (by decide +kernel)
theorem oko_L_some : ∀ w ∈ woL_some, goodWord w = true := by decide +kernel
theorem lw_L_some : ∀ w ∈ wsL_some, w ∈ lw_tbl := List.forall_mem_cons.mpr ⟨lwo_L_some _ List.mem_cons_self, List.forall_mem_append.mpr ⟨(fun w h => lwo_L_some w (List.mem_cons_of_mem _ h)), lw_L_cell⟩⟩
theorem ok_L_some : ∀ w ∈ wsL_some, goodWord w = true := List.forall_mem_cons.mpr ⟨rfl, List.forall_mem_append.mpr ⟨oko_L_some, ok_L_cell⟩⟩
theorem ptL_some_woL_some : ∀ w ∈ woL_some, w ∈ wsL_some := fun _ h => List.mem_cons_of_mem _ (List.mem_append_left _ h)
theorem ptL_some_wsL_cell : ∀ w ∈ wsL_cell, w ∈ wsL_some := fun _ h => List.mem_cons_of_mem _ (List.mem_append_right _ h)
theorem gL_some_L_cell : GoodIn wsL_some (va_wsS RL 7 yL_cell wsL_cell) := goodIn_app (goodIn_sub (fun w h => ptL_some_woL_some w ((by decide +kernel : ∀ w ∈ ([Cond.methodLink RL 7 yL_cell, Cond.static yL_cell, Cond.initialized yL_cell.cls] : List Cond), w ∈ woL_some) w h)) (by decide +kernel)) (goodIn_sub (fun w h => ptL_some_wsL_cell w h) (List.all_eq_true.mpr ok_L_cell))
