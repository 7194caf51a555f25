def RDo : String := "DockBook$Door"
def TDo : u_T := fun k => match k with
  | 0 => ("DockBook$Door", "kinds", "I", false)
  | 1 => ("DockBook$Door", "from", "I", false)
  | 2 => ("DockBook$Door", "to", "I", false)
  | 3 => ("DockBook$Door", "isOut", "Z", false)
  | 4 => ("DockBook$Door", "truckAtIt", "I", false)
  | 5 => ("DockBook$Door", "freeAt", "I", false)
  | 6 => ("DockBook$Door", "departed", "I", false)
  | _ => ("DockBook$Door", "nextReady", "I", false)
-- Do: 0 kinds, 1 from, 2 to, 3 isOut, 4 truckAtIt, 5 freeAt, 6 departed, 7 nextReady
def RCh : String := "DockBook$DoorChoice"
def TCh : u_T := fun k => match k with
  | 0 => ("DockBook$DoorChoice", "orders", "[LDockBook$DoorOrders;", true)
  | 1 => ("DockBook$DoorChoice", "setAtDoor", "[I", true)
  | 2 => ("DockBook$DoorChoice", "chosen", "[I", true)
  | 3 => ("DockBook$DoorChoice", "best", "[I", true)
  | _ => ("DockBook$DoorChoice", "bestCost", "I", false)
-- Ch: 0 orders, 1 setAtDoor, 2 chosen, 3 best, 4 bestCost
def ROr : String := "DockBook$DoorOrders"
def TOr : u_T := fun k => match k with
  | 0 => ("DockBook$DoorOrders", "costs", "[I", true)
  | 1 => ("DockBook$DoorOrders", "bestStarts", "[I", true)
  | _ => ("DockBook$DoorOrders", "starts", "[I", true)
-- Or: 0 costs, 1 bestStarts, 2 starts
def RTr : String := "DockBook$Truck"
def TTr : u_T := fun k => match k with
  | 0 => ("DockBook$Truck", "number", "I", true)
  | 1 => ("DockBook$Truck", "kind", "I", false)
  | 2 => ("DockBook$Truck", "arrival", "I", false)
  | 3 => ("DockBook$Truck", "need", "I", false)
  | 4 => ("DockBook$Truck", "rank", "I", false)
  | 5 => ("DockBook$Truck", "state", "I", false)
  | 6 => ("DockBook$Truck", "door", "I", false)
  | 7 => ("DockBook$Truck", "start", "I", false)
  | 8 => ("DockBook$Truck", "doorBefore", "I", false)
  | 9 => ("DockBook$Truck", "startBefore", "I", false)
  | 10 => ("DockBook$Truck", "sealTold", "I", false)
  | 11 => ("DockBook$Truck", "sealIsSure", "Z", false)
  | 12 => ("DockBook$Truck", "loadIsRight", "Z", false)
  | _ => ("DockBook$Truck", "departure", "I", false)
-- Tr: 0 number, 1 kind, 2 arrival, 3 need, 4 rank, 5 state, 6 door, 7 start, 8 doorBefore, 9 startBefore, 10 sealTold, 11 sealIsSure, 12 loadIsRight, 13 departure
def RBk : String := "DockBook"
def TBk : u_T := fun k => match k with
  | 0 => ("DockBook", "doors", "[LDockBook$Door;", true)
  | 1 => ("DockBook", "trucks", "[LDockBook$Truck;", true)
  | 2 => ("DockBook", "waiting", "[LDockBook$Truck;", true)
  | 3 => ("DockBook", "doorChoice", "LDockBook$DoorChoice;", true)
  | 4 => ("DockBook", "doorCount", "I", false)
  | 5 => ("DockBook", "truckCount", "I", false)
  | 6 => ("DockBook", "now", "I", false)
  | 7 => ("DockBook", "lastWasExact", "Z", false)
  | _ => ("DockBook", "lastMoved", "I", false)
-- Bk: 0 doors, 1 trucks, 2 waiting, 3 doorChoice, 4 doorCount, 5 truckCount, 6 now, 7 lastWasExact, 8 lastMoved
def RMo : String := "DockBookModel"
def TMo : u_T := fun k => match k with
  | 0 => ("DockBookModel", "thrownCode", "I", false)
  | 1 => ("DockBookModel", "now", "I", false)
  | 2 => ("DockBookModel", "doors", "I", false)
  | 3 => ("DockBookModel", "kinds", "[I", true)
  | 4 => ("DockBookModel", "opens", "[I", true)
  | 5 => ("DockBookModel", "closes", "[I", true)
  | 6 => ("DockBookModel", "isOut", "[Z", true)
  | 7 => ("DockBookModel", "left", "[I", true)
  | 8 => ("DockBookModel", "trucks", "I", false)
  | 9 => ("DockBookModel", "state", "[I", true)
  | 10 => ("DockBookModel", "kind", "[I", true)
  | 11 => ("DockBookModel", "arrival", "[I", true)
  | 12 => ("DockBookModel", "need", "[I", true)
  | 13 => ("DockBookModel", "ranks", "[I", true)
  | 14 => ("DockBookModel", "doorOf", "[I", true)
  | 15 => ("DockBookModel", "start", "[I", true)
  | 16 => ("DockBookModel", "gone", "[I", true)
  | 17 => ("DockBookModel", "seals", "[I", true)
  | 18 => ("DockBookModel", "twice", "[Z", true)
  | 19 => ("DockBookModel", "same", "[Z", true)
  | 20 => ("DockBookModel", "wasExact", "Z", false)
  | 21 => ("DockBookModel", "movedNow", "I", false)
  | 22 => ("DockBookModel", "waits", "I", false)
  | 23 => ("DockBookModel", "waiting", "[I", true)
  | 24 => ("DockBookModel", "newDoor", "[I", true)
  | 25 => ("DockBookModel", "newStart", "[I", true)
  | 26 => ("DockBookModel", "setCost", "[I", true)
  | 27 => ("DockBookModel", "setStart", "[I", true)
  | 28 => ("DockBookModel", "trial", "[I", true)
  | _ => ("DockBookModel", "counts", "[I", true)
-- Mo: 0 thrownCode, 1 now, 2 doors, 3 kinds, 4 opens, 5 closes, 6 isOut, 7 left, 8 trucks, 9 state, 10 kind, 11 arrival, 12 need, 13 ranks, 14 doorOf, 15 start, 16 gone, 17 seals, 18 twice, 19 same, 20 wasExact, 21 movedNow, 22 waits, 23 waiting, 24 newDoor, 25 newStart, 26 setCost, 27 setStart, 28 trial, 29 counts
abbrev maCl : List vw_C := [(RDo, TDo, 8), (RCh, TCh, 5), (ROr, TOr, 3), (RTr, TTr, 14), (RBk, TBk, 9), (RMo, TMo, 30)]
def ma_nf : Nat → Nat := fun k => match k with
  | 0 => 8
  | 1 => 5
  | 2 => 3
  | 3 => 14
  | 4 => 9
  | 5 => 30
  | _ => 0
def ma_fk : Nat → Nat → Bool := fun k f => match k with
  | 0 => false
  | 1 => f == 0 || f == 1 || f == 2 || f == 3
  | 2 => f == 0 || f == 1 || f == 2
  | 3 => false
  | 4 => f == 0 || f == 1 || f == 2 || f == 3
  | 5 => f == 3 || f == 4 || f == 5 || f == 6 || f == 7 || f == 9 || f == 10 || f == 11 || f == 12 || f == 13 || f == 14 || f == 15 || f == 16 || f == 17 || f == 18 || f == 19 || f == 23 || f == 24 || f == 25 || f == 26 || f == 27 || f == 28 || f == 29
  | _ => false
def ma_ft : Nat → Nat → FieldType := fun k f => match k with
  | 0 => ([.int, .int, .int, .boolean, .int, .int, .int, .int] : List FieldType).getD f .int
  | 1 => ([.array (.object "DockBook$DoorOrders"), .array (.int), .array (.int), .array (.int), .int] : List FieldType).getD f .int
  | 2 => ([.array (.int), .array (.int), .array (.int)] : List FieldType).getD f .int
  | 3 => ([.int, .int, .int, .int, .int, .int, .int, .int, .int, .int, .int, .boolean, .boolean, .int] : List FieldType).getD f .int
  | 4 => ([.array (.object "DockBook$Door"), .array (.object "DockBook$Truck"), .array (.object "DockBook$Truck"), .object "DockBook$DoorChoice", .int, .int, .int, .boolean, .int] : List FieldType).getD f .int
  | 5 => ([.int, .int, .int, .array (.int), .array (.int), .array (.int), .array (.boolean), .array (.int), .int, .array (.int), .array (.int), .array (.int), .array (.int), .array (.int), .array (.int), .array (.int), .array (.int), .array (.int), .array (.boolean), .array (.boolean), .boolean, .int, .int, .array (.int), .array (.int), .array (.int), .array (.int), .array (.int), .array (.int), .array (.int)] : List FieldType).getD f .int
  | _ => .int
def ma_ty : Nat → Option FieldType := fun a => match a with
  | 100 => some .int
  | 101 => some .long
  | 102 => some .boolean
  | 110 => some (.object "DockBook$Door")
  | 112 => some (.object "DockBook$DoorOrders")
  | 113 => some (.object "DockBook$Truck")
  | _ => none
def ma_en : Nat → String := fun k => match k with
  | 1 => "java/lang/IllegalArgumentException"
  | 2 => "java/lang/UnsupportedOperationException"
  | 3 => "java/util/NoSuchElementException"
  | _ => "java/lang/IllegalStateException"
theorem inDo : ∀ w ∈ u_ws RDo TDo 8, w ∈ lw_tbl := by decide +kernel
theorem ftDo : ∀ j, j < 8 → parseFieldDescriptor (TDo j).2.2.1 = some (ma_ft 0 j) := by decide +kernel
theorem nmDo : ∀ a, a < 8 → ∀ b, b < 8 → a ≠ b → (TDo a).2.1 ≠ (TDo b).2.1 := by decide +kernel
theorem dfDo : ∀ j, j < 8 → defaultValue (ma_ft 0 j) = if ma_fk 0 j = true then .null else .int 0 := by decide +kernel
theorem inCh : ∀ w ∈ u_ws RCh TCh 5, w ∈ lw_tbl := by decide +kernel
theorem ftCh : ∀ j, j < 5 → parseFieldDescriptor (TCh j).2.2.1 = some (ma_ft 1 j) := by decide +kernel
theorem nmCh : ∀ a, a < 5 → ∀ b, b < 5 → a ≠ b → (TCh a).2.1 ≠ (TCh b).2.1 := by decide +kernel
theorem dfCh : ∀ j, j < 5 → defaultValue (ma_ft 1 j) = if ma_fk 1 j = true then .null else .int 0 := by decide +kernel
theorem inOr : ∀ w ∈ u_ws ROr TOr 3, w ∈ lw_tbl := by decide +kernel
theorem ftOr : ∀ j, j < 3 → parseFieldDescriptor (TOr j).2.2.1 = some (ma_ft 2 j) := by decide +kernel
theorem nmOr : ∀ a, a < 3 → ∀ b, b < 3 → a ≠ b → (TOr a).2.1 ≠ (TOr b).2.1 := by decide +kernel
theorem dfOr : ∀ j, j < 3 → defaultValue (ma_ft 2 j) = if ma_fk 2 j = true then .null else .int 0 := by decide +kernel
theorem inTr : ∀ w ∈ u_ws RTr TTr 14, w ∈ lw_tbl := by decide +kernel
theorem ftTr : ∀ j, j < 14 → parseFieldDescriptor (TTr j).2.2.1 = some (ma_ft 3 j) := by decide +kernel
theorem nmTr : ∀ a, a < 14 → ∀ b, b < 14 → a ≠ b → (TTr a).2.1 ≠ (TTr b).2.1 := by decide +kernel
theorem dfTr : ∀ j, j < 14 → defaultValue (ma_ft 3 j) = if ma_fk 3 j = true then .null else .int 0 := by decide +kernel
theorem inBk : ∀ w ∈ u_ws RBk TBk 9, w ∈ lw_tbl := by decide +kernel
theorem ftBk : ∀ j, j < 9 → parseFieldDescriptor (TBk j).2.2.1 = some (ma_ft 4 j) := by decide +kernel
theorem nmBk : ∀ a, a < 9 → ∀ b, b < 9 → a ≠ b → (TBk a).2.1 ≠ (TBk b).2.1 := by decide +kernel
theorem dfBk : ∀ j, j < 9 → defaultValue (ma_ft 4 j) = if ma_fk 4 j = true then .null else .int 0 := by decide +kernel
theorem inMo : ∀ w ∈ u_ws RMo TMo 30, w ∈ lw_tbl := by decide +kernel
theorem ftMo : ∀ j, j < 30 → parseFieldDescriptor (TMo j).2.2.1 = some (ma_ft 5 j) := by decide +kernel
theorem nmMo : ∀ a, a < 30 → ∀ b, b < 30 → a ≠ b → (TMo a).2.1 ≠ (TMo b).2.1 := by decide +kernel
theorem dfMo : ∀ j, j < 30 → defaultValue (ma_ft 5 j) = if ma_fk 5 j = true then .null else .int 0 := by decide +kernel
/-- the words that stay true as the tables warm -/
def ma_w : Cond → Bool
  | .methodLinkNest .. => true
  | .arrayOver (.object _) => true
  | .declares _ => true
  | .castable .. => true
  | .stringRef .. => true
  | c => goodWord c
def maT : List Cond := lw_tbl.filter ma_w
theorem ma_in {c : Cond} (h : c ∈ lw_tbl) (hw : ma_w c = true) : c ∈ maT := List.mem_filter.mpr ⟨h, hw⟩
/-- the words of Throwable's two statics, which stand in the heap -/
def maH : List Cond := [.laysStatic "java/lang/Throwable" "UNASSIGNED_STACK" "[Ljava/lang/StackTraceElement;", .laysStatic "java/lang/Throwable" "SUPPRESSED_SENTINEL" "Ljava/util/List;", .isRef (.static "java/lang/Throwable" "UNASSIGNED_STACK" "[Ljava/lang/StackTraceElement;"), .isRef (.static "java/lang/Throwable" "SUPPRESSED_SENTINEL" "Ljava/util/List;")]
theorem ma_good : ∀ c ∈ maT, ma_w c = true := fun _ h => (List.mem_filter.mp h).2
theorem ma_keep {args a' : Array Value} {s U : State} (hW : s.WarmedH U.vm) {c : Cond} (hw : ma_w c = true) (h : c.before args s = true) : c.before a' U = true := by
  have tab : ∀ {c : Cond}, c.onTables = true → c.before args (s.setVm U.vm) = true → c.before a' U = true := fun hc hb => va_tabs (u := s.setVm U.vm) (U := U) hc rfl hb
  cases c with
  | methodLinkNest a i x b => exact va_Nw.use rfl (va_Nw.warmM hW (va_Nw.of rfl h))
  | declares x => exact va_Nw.use rfl (va_Nw.warmD hW (va_Nw.of rfl h))
  | castable a b => exact tab rfl (by rw [Cond.castable_setVm hW.alike]; exact h)
  | stringRef a i b =>
    have h1 := Cond.stringRef_warmed hW h
    simp only [Cond.before, Cond.holds, Cond.value] at h1 ⊢
    exact h1
  | arrayOver ty =>
    cases ty with
    | object C => exact va_AO.use (va_AO.moved hW.alike (va_AO.of h))
    | _ => exact word_at hW (good_of_word hw) h
  | _ => exact word_at hW (good_of_word hw) h
theorem ma_keepL {args a' : Array Value} {s U : State} {C n d : String} (hW : s.WarmedH U.vm) (hH : ∀ (q : Nat) (cell : Cell), s.heap[q]? = some cell → cell.vm.isStatics = true → U.heap[q]? = some cell) (h : (Cond.laysStatic C n d).before args s = true) : (Cond.laysStatic C n d).before a' U = true := by
  obtain ⟨c, k, i, f, a, cell, hc, hi, hst, ha, hcell, hs, hcls, hlt, hty⟩ := Cond.laysStatic_spec h
  obtain ⟨k', hi', he⟩ := State.fieldFound?_setVm hW.alike hi
  have hi2 : U.fieldFound? C n d = some (c, k', i, f) := hi'
  have hc2 : U.vm.findClass C = some c := by rw [hW.alike.findClass]; exact hc
  have ha2 : k'.statics = some a := by rw [he]; exact ha
  have hty2 : k'.staticTypes[f.slot]? = some f.type := by rw [he]; exact hty
  have hcell2 := hH a cell hcell hs
  simp [Cond.before, Cond.holds, Cond.value, hc2, hi2, ha2, hcell2, hst, hs, hcls, hlt, hty2]
theorem ma_keepR {args a' : Array Value} {s U : State} {C n d : String} (hW : s.WarmedH U.vm) (hH : ∀ (q : Nat) (cell : Cell), s.heap[q]? = some cell → cell.vm.isStatics = true → U.heap[q]? = some cell) (hl : (Cond.laysStatic C n d).before args s = true) (h : (Cond.isRef (.static C n d)).before args s = true) : (Cond.isRef (.static C n d)).before a' U = true := by
  obtain ⟨c, k, i, f, a, cell, hc, hi, hst, ha, hcell, hs, hcls, hlt, hty⟩ := Cond.laysStatic_spec hl
  obtain ⟨k', hi', he⟩ := State.fieldFound?_setVm hW.alike hi
  have hi2 : U.fieldFound? C n d = some (c, k', i, f) := hi'
  have ha2 : k'.statics = some a := by rw [he]; exact ha
  have hcell2 := hH a cell hcell hs
  cases hv : (Term.static C n d).eval args s none [] s with
  | none => simp [Cond.before, Cond.holds, Cond.value, hv] at h
  | some x =>
    obtain ⟨-, a2, cell2, e1, e2, -, hslot⟩ := Term.static_spec hi hv
    cases ha.symm.trans e1
    cases hcell.symm.trans e2
    have hv2 : (Term.static C n d).eval a' U none [] U = some x := by simp [Term.eval, State.fieldNamed?, hi2, ha2, hcell2, hst, hs, hslot]
    simp only [Cond.before, Cond.holds, Cond.value, hv] at h
    simp only [Cond.before, Cond.holds, Cond.value, hv2]
    exact h
theorem ma_keepH {args a' : Array Value} {s U : State} (hW : s.WarmedH U.vm) (hH : ∀ (q : Nat) (cell : Cell), s.heap[q]? = some cell → cell.vm.isStatics = true → U.heap[q]? = some cell) (h : ∀ w ∈ maH, w.before args s = true) : ∀ w ∈ maH, w.before a' U = true := by
  have h1 := h _ (by simp [maH] : Cond.laysStatic "java/lang/Throwable" "UNASSIGNED_STACK" "[Ljava/lang/StackTraceElement;" ∈ maH)
  have h2 := h _ (by simp [maH] : Cond.laysStatic "java/lang/Throwable" "SUPPRESSED_SENTINEL" "Ljava/util/List;" ∈ maH)
  intro w hw
  simp only [maH, List.mem_cons, List.not_mem_nil, or_false] at hw
  rcases hw with rfl | rfl | rfl | rfl
  · exact ma_keepL hW hH h1
  · exact ma_keepL hW hH h2
  · exact ma_keepR hW hH h1 (h _ (by simp [maH]))
  · exact ma_keepR hW hH h2 (h _ (by simp [maH]))
theorem iTDo : ∀ w ∈ u_ws RDo TDo 8, w ∈ maT := fun w h => ma_in (inDo w h) ((by decide +kernel : ∀ w ∈ u_ws RDo TDo 8, ma_w w = true) w h)
theorem iTCh : ∀ w ∈ u_ws RCh TCh 5, w ∈ maT := fun w h => ma_in (inCh w h) ((by decide +kernel : ∀ w ∈ u_ws RCh TCh 5, ma_w w = true) w h)
theorem iTOr : ∀ w ∈ u_ws ROr TOr 3, w ∈ maT := fun w h => ma_in (inOr w h) ((by decide +kernel : ∀ w ∈ u_ws ROr TOr 3, ma_w w = true) w h)
theorem iTTr : ∀ w ∈ u_ws RTr TTr 14, w ∈ maT := fun w h => ma_in (inTr w h) ((by decide +kernel : ∀ w ∈ u_ws RTr TTr 14, ma_w w = true) w h)
theorem iTBk : ∀ w ∈ u_ws RBk TBk 9, w ∈ maT := fun w h => ma_in (inBk w h) ((by decide +kernel : ∀ w ∈ u_ws RBk TBk 9, ma_w w = true) w h)
theorem iTMo : ∀ w ∈ u_ws RMo TMo 30, w ∈ maT := fun w h => ma_in (inMo w h) ((by decide +kernel : ∀ w ∈ u_ws RMo TMo 30, ma_w w = true) w h)
